section
variable {p : Program} {l : Launch} {e : Env} {s : State} {m : MethodId} {below : List Frame} {meth : Method} {c : Code} {N0 : Nat} {T : Nat → ClassId} {D : va_G} {gr : List (Nat × Nat)} {ad : Nat → Nat → Nat → Nat}
set_option maxRecDepth 100000 in
set_option maxHeartbeats 4000000 in
theorem w_X12_isCooked {Y : Mem} {a1 : Int32} (C : Cx p s m [.ref (ad 10 0 0), .int a1].toArray meth c cX12_isCooked 2 wsX12_isCooked RX12 N0 T D gr ad) (hrt : meth.sig.returnType = (some .boolean)) (hG : ∀ q ∈ [(10, 0)], q ∈ gr) {res : Int32} (h : X12_isCooked Y a1 = some res) : FW p l e (Rm 1) s m [.ref (ad 10 0 0), .int a1].toArray below meth c 2 N0 T D gr ad 0 0 (MQ below (va_Qi (fun r Y1 => r = res ∧ Y1 = Y) (WB T D gr ad) (fun q => N0 ≤ q)) [.ref (ad 10 0 0), .int a1].toArray s 0 0 (fun q => N0 ≤ q)) Y 0 [(0, .ref (ad 10 0 0)), (1, .int a1)] [] := by
  unfold X12_isCooked at h
  refine fw_aload_n C dX12_isCooked_0 rfl 0 rfl ?_
  refine fw_iload_n C dX12_isCooked_1 rfl 1 rfl ?_
  refine fw_bipush C dX12_isCooked_2 (v := 17) rfl ?_
  obtain ⟨r1, q2, h⟩ := bd1_some h
  refine fw_callVi C (ci := 10) (Cn := RX12) (Tc := TX12) (N := 19) (As := [.int a1, .int 17]) (c_X12_of (gac (hG _ (List.mem_of_getElem? (i := 0) rfl)) ga0) q2) (cwV 2 (cx_ts C) gX12_isCooked_X12_of rfl rfl rfl (by decide +kernel) ⟨Nat.le_of_ble_eq_true rfl, Nat.le_of_ble_eq_true rfl⟩) rfl (hG _ (List.mem_of_getElem? (i := 0) rfl)) (of10_0 _) (ce10 T ad _ _) rfl (st := []) rfl (Nat.le_of_ble_eq_true rfl) ⟨Nat.le_refl 0, Nat.le_refl 0⟩ dX12_isCooked_4 (pp2 ?_)
  refine fw_iconst C dX12_isCooked_7 (v := 1) rfl ?_
  refine fw_icmp_ne C dX12_isCooked_8 (tgt := 25) rfl (fun c3 => ?_) (fun c3 => ?_)
  · have h := ite_f c3 h
    refine fw_iconst C dX12_isCooked_25 (v := 0) rfl ?_
    exact fw_zret C hrt (by decide) Y ⟨Option.some.inj h, rfl⟩ (fun t ht => ht) dX12_isCooked_26
  · have h := ite_t c3 h
    refine fw_aload_n C dX12_isCooked_11 rfl 0 rfl ?_
    refine fw_iload_n C dX12_isCooked_12 rfl 1 rfl ?_
    refine fw_bipush C dX12_isCooked_13 (v := 11) rfl ?_
    obtain ⟨r4, q5, h⟩ := bd1_some h
    refine fw_callVi C (ci := 10) (Cn := RX12) (Tc := TX12) (N := 19) (As := [.int a1, .int 11]) (c_X12_of (gac (hG _ (List.mem_of_getElem? (i := 0) rfl)) ga0) q5) (cwV 2 (cx_ts C) gX12_isCooked_X12_of rfl rfl rfl (by decide +kernel) ⟨Nat.le_of_ble_eq_true rfl, Nat.le_of_ble_eq_true rfl⟩) rfl (hG _ (List.mem_of_getElem? (i := 0) rfl)) (of10_0 _) (ce10 T ad _ _) rfl (st := []) rfl (Nat.le_of_ble_eq_true rfl) ⟨Nat.le_refl 0, Nat.le_refl 0⟩ dX12_isCooked_15 (pp2 ?_)
    refine fw_if_ne C dX12_isCooked_18 (tgt := 25) rfl (fun c6 => ?_) (fun c6 => ?_)
    · have h := ite_f c6 h
      refine fw_iconst C dX12_isCooked_25 (v := 0) rfl ?_
      exact fw_zret C hrt (by decide) Y ⟨Option.some.inj h, rfl⟩ (fun t ht => ht) dX12_isCooked_26
    · have h := ite_t c6 h
      refine fw_iconst C dX12_isCooked_21 (v := 1) rfl ?_
      refine fw_goto C dX12_isCooked_22 (tgt := 26) rfl ?_
      exact fw_zret C hrt (by decide) Y ⟨Option.some.inj h, rfl⟩ (fun t ht => ht) dX12_isCooked_26
end
set_option maxRecDepth 100000 in
set_option maxHeartbeats 4000000 in
theorem c_X12_isCooked {l : Launch} {N0 : Nat} {T : Nat → ClassId} {D : va_G} {gr : List (Nat × Nat)} {ad : Nat → Nat → Nat → Nat} {Y : Mem} {a1 : Int32} {res : Int32} (hG : ∀ q ∈ [(10, 0)], q ∈ gr) (h : X12_isCooked Y a1 = some res) : CI l yX12_isCooked wsX12_isCooked (Rm 1) N0 T D gr ad Y [.ref (ad 10 0 0), .int a1] (fun r Y1 => r = res ∧ Y1 = Y) :=
  fw_body (by decide +kernel) rfl (Nat.le_of_ble_eq_true rfl) (fun p e s m below meth c C hrt => w_X12_isCooked C hrt hG  h)
theorem ly_X12_hasCook_12 : ∀ w ∈ u_ws RX12 TX12 19, w ∈ wsX12_hasCook := by decide +kernel
theorem fl_X12_hasCook_13 : Cond.fieldLink RX12 13 "RecipeSchedulerModel" "m" "[I" ∈ wsX12_hasCook := by decide +kernel
section
variable {p : Program} {l : Launch} {e : Env} {s : State} {m : MethodId} {below : List Frame} {meth : Method} {c : Code} {N0 : Nat} {T : Nat → ClassId} {D : va_G} {gr : List (Nat × Nat)} {ad : Nat → Nat → Nat → Nat}
set_option maxRecDepth 100000 in
set_option maxHeartbeats 4000000 in
theorem w_X12_hasCook_b58 {Y : Mem} {a1 : Int32} (C : Cx p s m [.ref (ad 10 0 0), .int a1].toArray meth c cX12_hasCook 4 wsX12_hasCook RX12 N0 T D gr ad) (hrt : meth.sig.returnType = (some .boolean)) (hG : ∀ q ∈ [(10, 0)], q ∈ gr) {res : Int32}  (h : X12_hasCook_b58 Y a1   = some res) : FW p l e (Rm 2) s m [.ref (ad 10 0 0), .int a1].toArray below meth c 4 N0 T D gr ad 0 0 (MQ below (va_Qi (fun r Y1 => r = res ∧ Y1 = Y) (WB T D gr ad) (fun q => N0 ≤ q)) [.ref (ad 10 0 0), .int a1].toArray s 0 0 (fun q => N0 ≤ q)) Y 58 [] [] := by
  unfold X12_hasCook_b58 at h
  refine fw_iconst C dX12_hasCook_58 (v := 1) rfl ?_
  refine fw_goto C dX12_hasCook_59 (tgt := 63) rfl ?_
  exact fw_zret C hrt (by decide) Y ⟨Option.some.inj h, rfl⟩ (fun t ht => ht) dX12_hasCook_63
set_option maxRecDepth 100000 in
set_option maxHeartbeats 4000000 in
theorem w_X12_hasCook_b29 {Y : Mem} {a1 : Int32} (C : Cx p s m [.ref (ad 10 0 0), .int a1].toArray meth c cX12_hasCook 4 wsX12_hasCook RX12 N0 T D gr ad) (hrt : meth.sig.returnType = (some .boolean)) (hG : ∀ q ∈ [(10, 0)], q ∈ gr) {res : Int32} {k4 : Int32 → Int32 → Option (Int32)} (hk4 : ∀ (l3 : Int32) (l2 : Int32), k4 l3 l2 = some res → FW p l e (Rm 2) s m [.ref (ad 10 0 0), .int a1].toArray below meth c 4 N0 T D gr ad 0 0 (MQ below (va_Qi (fun r Y1 => r = res ∧ Y1 = Y) (WB T D gr ad) (fun q => N0 ≤ q)) [.ref (ad 10 0 0), .int a1].toArray s 0 0 (fun q => N0 ≤ q)) Y 4 [(3, .int l3), (2, .int l2), (0, .ref (ad 10 0 0)), (1, .int a1)] []) (l3 : Int32) (s0 : Int32) (s1 : Int32) (h : X12_hasCook_b29 Y a1 k4 l3 s0 s1 = some res) : FW p l e (Rm 2) s m [.ref (ad 10 0 0), .int a1].toArray below meth c 4 N0 T D gr ad 0 0 (MQ below (va_Qi (fun r Y1 => r = res ∧ Y1 = Y) (WB T D gr ad) (fun q => N0 ≤ q)) [.ref (ad 10 0 0), .int a1].toArray s 0 0 (fun q => N0 ≤ q)) Y 29 [(3, .int l3), (0, .ref (ad 10 0 0)), (1, .int a1)] [.int s0, .int s1] := by
  unfold X12_hasCook_b29 at h
  refine fw_iadd C dX12_hasCook_29 ?_
  obtain ⟨v11, e12, h⟩ := lt_some h
  refine fw_top (v' := .int v11) (by rw [e12]) ?_
  refine fw_istore_n C dX12_hasCook_30 rfl (by decide) (L' := [(2, .int v11), (3, .int l3), (0, .ref (ad 10 0 0)), (1, .int a1)]) rfl ?_
  refine fw_iinc C dX12_hasCook_31 (kk := 1) (v := l3 + 1) rfl rfl (by decide) (L' := [(3, .int (l3 + 1)), (2, .int v11), (0, .ref (ad 10 0 0)), (1, .int a1)]) rfl ?_
  refine fw_goto C dX12_hasCook_34 (tgt := 4) rfl ?_
  exact hk4 _ _ h
set_option maxRecDepth 100000 in
set_option maxHeartbeats 4000000 in
theorem w_X12_hasCook_b4 {Y : Mem} {a1 : Int32} (C : Cx p s m [.ref (ad 10 0 0), .int a1].toArray meth c cX12_hasCook 4 wsX12_hasCook RX12 N0 T D gr ad) (hrt : meth.sig.returnType = (some .boolean)) (hG : ∀ q ∈ [(10, 0)], q ∈ gr) {res : Int32} : ∀ (n : Nat) (l3 : Int32) (l2 : Int32), X12_hasCook_b4 Y a1  n l3 l2 = some res → FW p l e (Rm 2) s m [.ref (ad 10 0 0), .int a1].toArray below meth c 4 N0 T D gr ad 0 0 (MQ below (va_Qi (fun r Y1 => r = res ∧ Y1 = Y) (WB T D gr ad) (fun q => N0 ≤ q)) [.ref (ad 10 0 0), .int a1].toArray s 0 0 (fun q => N0 ≤ q)) Y 4 [(3, .int l3), (2, .int l2), (0, .ref (ad 10 0 0)), (1, .int a1)] [] := by
  intro n
  induction n with
  | zero =>
    intro l3 l2 h
    unfold X12_hasCook_b4 at h
    cases h
  | succ n ih =>
    intro l3 l2 h
    unfold X12_hasCook_b4 at h
    refine fw_iload_n C dX12_hasCook_4 rfl 0 rfl ?_
    refine fw_aload_n C dX12_hasCook_5 rfl 2 rfl ?_
    refine fw_get C (ci := 10) (Cn := RX12) (Tc := TX12) (N := 19) (j := 0) ly_X12_hasCook_12 rfl (hG _ (List.mem_of_getElem? (i := 0) rfl)) (of10_0 _) (ce10 T ad _ _) (by decide) (cx_ts C _ fl_X12_hasCook_13) (fun _ h => h) (v := .ref (ad 10 0 1)) rfl dX12_hasCook_6 ?_
    refine fw_bipush C dX12_hasCook_9 (v := 13) rfl ?_
    obtain ⟨b1, h⟩ := gd_some h
    refine fw_iald2 C (hG _ (List.mem_of_getElem? (i := 0) rfl)) (of10_1 _) (ca10_1 T ad _ _) b1 (Nat.le_of_ble_eq_true rfl) dX12_hasCook_11 ?_
    refine fw_icmp_ge C dX12_hasCook_12 (tgt := 37) rfl (fun c2 => ?_) (fun c2 => ?_)
    · have h := ite_t c2 h
      refine fw_aload_n C dX12_hasCook_37 rfl 2 rfl ?_
      refine fw_iload_n C dX12_hasCook_38 rfl 3 rfl ?_
      refine fw_bipush C dX12_hasCook_39 (v := 11) rfl ?_
      obtain ⟨r3, q4, h⟩ := bd1_some h
      refine fw_callVi C (ci := 10) (Cn := RX12) (Tc := TX12) (N := 19) (As := [.int a1, .int 11]) (c_X12_of (gac (hG _ (List.mem_of_getElem? (i := 0) rfl)) ga0) q4) (cwV 2 (cx_ts C) gX12_hasCook_X12_of rfl rfl rfl (by decide +kernel) ⟨Nat.le_of_ble_eq_true rfl, Nat.le_of_ble_eq_true rfl⟩) rfl (hG _ (List.mem_of_getElem? (i := 0) rfl)) (of10_0 _) (ce10 T ad _ _) rfl (st := []) rfl (Nat.le_of_ble_eq_true rfl) ⟨Nat.le_refl 0, Nat.le_refl 0⟩ dX12_hasCook_41 (pp2 ?_)
      refine fw_iconst C dX12_hasCook_44 (v := 1) rfl ?_
      refine fw_icmp_eq C dX12_hasCook_45 (tgt := 58) rfl (fun c5 => ?_) (fun c5 => ?_)
      · have h := ite_t c5 h
        refine fw_sub [] (L' := []) rfl ?_
        exact w_X12_hasCook_b58 C hrt hG    h
      · have h := ite_f c5 h
        refine fw_iload_n C dX12_hasCook_48 rfl 1 rfl ?_
        refine fw_aload_n C dX12_hasCook_49 rfl 2 rfl ?_
        refine fw_get C (ci := 10) (Cn := RX12) (Tc := TX12) (N := 19) (j := 0) ly_X12_hasCook_12 rfl (hG _ (List.mem_of_getElem? (i := 0) rfl)) (of10_0 _) (ce10 T ad _ _) (by decide) (cx_ts C _ fl_X12_hasCook_13) (fun _ h => h) (v := .ref (ad 10 0 1)) rfl dX12_hasCook_50 ?_
        refine fw_iconst C dX12_hasCook_53 (v := 0) rfl ?_
        obtain ⟨b6, h⟩ := gd_some h
        refine fw_iald2 C (hG _ (List.mem_of_getElem? (i := 0) rfl)) (of10_1 _) (ca10_1 T ad _ _) b6 (Nat.le_of_ble_eq_true rfl) dX12_hasCook_54 ?_
        refine fw_icmp_ge C dX12_hasCook_55 (tgt := 62) rfl (fun c7 => ?_) (fun c7 => ?_)
        · have h := ite_t c7 h
          refine fw_iconst C dX12_hasCook_62 (v := 0) rfl ?_
          exact fw_zret C hrt (by decide) Y ⟨Option.some.inj h, rfl⟩ (fun t ht => ht) dX12_hasCook_63
        · have h := ite_f c7 h
          refine fw_sub [] (L' := []) rfl ?_
          exact w_X12_hasCook_b58 C hrt hG    h
    · have h := ite_f c2 h
      refine fw_iload_n C dX12_hasCook_15 rfl 1 rfl ?_
      refine fw_aload_n C dX12_hasCook_16 rfl 2 rfl ?_
      refine fw_iload_n C dX12_hasCook_17 rfl 0 rfl ?_
      obtain ⟨r8, q9, h⟩ := bd1_some h
      refine fw_callVi C (ci := 10) (Cn := RX12) (Tc := TX12) (N := 19) (As := [.int l3]) (c_X12_isCooked (gac (hG _ (List.mem_of_getElem? (i := 0) rfl)) ga0) q9) (cwV 1 (cx_ts C) gX12_hasCook_X12_isCooked rfl rfl rfl (by decide +kernel) ⟨Nat.le_of_ble_eq_true rfl, Nat.le_of_ble_eq_true rfl⟩) rfl (hG _ (List.mem_of_getElem? (i := 0) rfl)) (of10_0 _) (ce10 T ad _ _) rfl (st := [.int l2]) rfl (Nat.le_of_ble_eq_true rfl) ⟨Nat.le_refl 0, Nat.le_refl 0⟩ dX12_hasCook_18 (pp2 ?_)
      refine fw_if_eq C dX12_hasCook_21 (tgt := 28) rfl (fun c10 => ?_) (fun c10 => ?_)
      · have h := ite_t c10 h
        refine fw_iconst C dX12_hasCook_28 (v := 0) rfl ?_
        refine fw_sub [0, 2, 3] (L' := [(3, .int l3), (0, .ref (ad 10 0 0)), (1, .int a1)]) rfl ?_
        exact w_X12_hasCook_b29 C hrt hG  ih _ _ _ h
      · have h := ite_f c10 h
        refine fw_iconst C dX12_hasCook_24 (v := 1) rfl ?_
        refine fw_goto C dX12_hasCook_25 (tgt := 29) rfl ?_
        refine fw_sub [0, 2, 3] (L' := [(3, .int l3), (0, .ref (ad 10 0 0)), (1, .int a1)]) rfl ?_
        exact w_X12_hasCook_b29 C hrt hG  ih _ _ _ h
set_option maxRecDepth 100000 in
set_option maxHeartbeats 4000000 in
theorem w_X12_hasCook {Y : Mem} {a1 : Int32} (C : Cx p s m [.ref (ad 10 0 0), .int a1].toArray meth c cX12_hasCook 4 wsX12_hasCook RX12 N0 T D gr ad) (hrt : meth.sig.returnType = (some .boolean)) (hG : ∀ q ∈ [(10, 0)], q ∈ gr) {res : Int32} (h : X12_hasCook Y a1 = some res) : FW p l e (Rm 2) s m [.ref (ad 10 0 0), .int a1].toArray below meth c 4 N0 T D gr ad 0 0 (MQ below (va_Qi (fun r Y1 => r = res ∧ Y1 = Y) (WB T D gr ad) (fun q => N0 ≤ q)) [.ref (ad 10 0 0), .int a1].toArray s 0 0 (fun q => N0 ≤ q)) Y 0 [(0, .ref (ad 10 0 0)), (1, .int a1)] [] := by
  unfold X12_hasCook at h
  refine fw_iconst C dX12_hasCook_0 (v := 0) rfl ?_
  refine fw_istore_n C dX12_hasCook_1 rfl (by decide) (L' := [(2, .int 0), (0, .ref (ad 10 0 0)), (1, .int a1)]) rfl ?_
  refine fw_iconst C dX12_hasCook_2 (v := 0) rfl ?_
  refine fw_istore_n C dX12_hasCook_3 rfl (by decide) (L' := [(3, .int 0), (2, .int 0), (0, .ref (ad 10 0 0)), (1, .int a1)]) rfl ?_
  exact w_X12_hasCook_b4 C hrt hG   _ _ _ h
end
set_option maxRecDepth 100000 in
set_option maxHeartbeats 4000000 in
theorem c_X12_hasCook {l : Launch} {N0 : Nat} {T : Nat → ClassId} {D : va_G} {gr : List (Nat × Nat)} {ad : Nat → Nat → Nat → Nat} {Y : Mem} {a1 : Int32} {res : Int32} (hG : ∀ q ∈ [(10, 0)], q ∈ gr) (h : X12_hasCook Y a1 = some res) : CI l yX12_hasCook wsX12_hasCook (Rm 2) N0 T D gr ad Y [.ref (ad 10 0 0), .int a1] (fun r Y1 => r = res ∧ Y1 = Y) :=
  fw_body (by decide +kernel) rfl (Nat.le_of_ble_eq_true rfl) (fun p e s m below meth c C hrt => w_X12_hasCook C hrt hG  h)
section
variable {p : Program} {l : Launch} {e : Env} {s : State} {m : MethodId} {below : List Frame} {meth : Method} {c : Code} {N0 : Nat} {T : Nat → ClassId} {D : va_G} {gr : List (Nat × Nat)} {ad : Nat → Nat → Nat → Nat}
set_option maxRecDepth 100000 in
set_option maxHeartbeats 4000000 in
theorem w_X12_reasonFor {Y : Mem} {a1 : Int32} (C : Cx p s m [.ref (ad 10 0 0), .int a1].toArray meth c cX12_reasonFor 2 wsX12_reasonFor RX12 N0 T D gr ad) (hrt : meth.sig.returnType = (some .int)) (hG : ∀ q ∈ [(10, 0)], q ∈ gr) {res : Int32} (h : X12_reasonFor Y a1 = some res) : FW p l e (Rm 6) s m [.ref (ad 10 0 0), .int a1].toArray below meth c 2 N0 T D gr ad 0 0 (MQ below (va_Qi (fun r Y1 => r = res ∧ Y1 = Y) (WB T D gr ad) (fun q => N0 ≤ q)) [.ref (ad 10 0 0), .int a1].toArray s 0 0 (fun q => N0 ≤ q)) Y 0 [(0, .ref (ad 10 0 0)), (1, .int a1)] [] := by
  unfold X12_reasonFor at h
  refine fw_aload_n C dX12_reasonFor_0 rfl 0 rfl ?_
  refine fw_iload_n C dX12_reasonFor_1 rfl 1 rfl ?_
  refine fw_bipush C dX12_reasonFor_2 (v := 17) rfl ?_
  obtain ⟨r1, q2, h⟩ := bd1_some h
  refine fw_callVi C (ci := 10) (Cn := RX12) (Tc := TX12) (N := 19) (As := [.int a1, .int 17]) (c_X12_of (gac (hG _ (List.mem_of_getElem? (i := 0) rfl)) ga0) q2) (cwV 2 (cx_ts C) gX12_reasonFor_X12_of rfl rfl rfl (by decide +kernel) ⟨Nat.le_of_ble_eq_true rfl, Nat.le_of_ble_eq_true rfl⟩) rfl (hG _ (List.mem_of_getElem? (i := 0) rfl)) (of10_0 _) (ce10 T ad _ _) rfl (st := []) rfl (Nat.le_of_ble_eq_true rfl) ⟨Nat.le_refl 0, Nat.le_refl 0⟩ dX12_reasonFor_4 (pp2 ?_)
  refine fw_iconst C dX12_reasonFor_7 (v := 1) rfl ?_
  refine fw_icmp_ne C dX12_reasonFor_8 (tgt := 13) rfl (fun c3 => ?_) (fun c3 => ?_)
  · have h := ite_f c3 h
    refine fw_aload_n C dX12_reasonFor_13 rfl 0 rfl ?_
    refine fw_iload_n C dX12_reasonFor_14 rfl 1 rfl ?_
    refine fw_bipush C dX12_reasonFor_15 (v := 17) rfl ?_
    obtain ⟨r4, q5, h⟩ := bd1_some h
    refine fw_callVi C (ci := 10) (Cn := RX12) (Tc := TX12) (N := 19) (As := [.int a1, .int 17]) (c_X12_of (gac (hG _ (List.mem_of_getElem? (i := 0) rfl)) ga0) q5) (cwV 2 (cx_ts C) gX12_reasonFor_X12_of rfl rfl rfl (by decide +kernel) ⟨Nat.le_of_ble_eq_true rfl, Nat.le_of_ble_eq_true rfl⟩) rfl (hG _ (List.mem_of_getElem? (i := 0) rfl)) (of10_0 _) (ce10 T ad _ _) rfl (st := []) rfl (Nat.le_of_ble_eq_true rfl) ⟨Nat.le_refl 0, Nat.le_refl 0⟩ dX12_reasonFor_17 (pp2 ?_)
    refine fw_iconst C dX12_reasonFor_20 (v := 2) rfl ?_
    refine fw_icmp_ne C dX12_reasonFor_21 (tgt := 26) rfl (fun c6 => ?_) (fun c6 => ?_)
    · have h := ite_f c6 h
      refine fw_aload_n C dX12_reasonFor_26 rfl 0 rfl ?_
      refine fw_iload_n C dX12_reasonFor_27 rfl 1 rfl ?_
      obtain ⟨r7, q8, h⟩ := bd1_some h
      refine fw_callVi C (ci := 10) (Cn := RX12) (Tc := TX12) (N := 19) (As := [.int a1]) (c_X12_firstOpen (gac (hG _ (List.mem_of_getElem? (i := 0) rfl)) ga0) q8) (cwV 1 (cx_ts C) gX12_reasonFor_X12_firstOpen rfl rfl rfl (by decide +kernel) ⟨Nat.le_of_ble_eq_true rfl, Nat.le_of_ble_eq_true rfl⟩) rfl (hG _ (List.mem_of_getElem? (i := 0) rfl)) (of10_0 _) (ce10 T ad _ _) rfl (st := []) rfl (Nat.le_of_ble_eq_true rfl) ⟨Nat.le_refl 0, Nat.le_refl 0⟩ dX12_reasonFor_28 (pp2 ?_)
      refine fw_iconst C dX12_reasonFor_31 (v := (-1)) rfl ?_
      refine fw_icmp_eq C dX12_reasonFor_32 (tgt := 37) rfl (fun c9 => ?_) (fun c9 => ?_)
      · have h := ite_t c9 h
        refine fw_aload_n C dX12_reasonFor_37 rfl 0 rfl ?_
        refine fw_iload_n C dX12_reasonFor_38 rfl 1 rfl ?_
        obtain ⟨r10, q11, h⟩ := bd1_some h
        refine fw_callVi C (ci := 10) (Cn := RX12) (Tc := TX12) (N := 19) (As := [.int a1]) (c_X12_hasPan (gac (hG _ (List.mem_of_getElem? (i := 0) rfl)) ga0) q11) (cwV 1 (cx_ts C) gX12_reasonFor_X12_hasPan rfl rfl rfl (by decide +kernel) ⟨Nat.le_of_ble_eq_true rfl, Nat.le_of_ble_eq_true rfl⟩) rfl (hG _ (List.mem_of_getElem? (i := 0) rfl)) (of10_0 _) (ce10 T ad _ _) rfl (st := []) rfl (Nat.le_of_ble_eq_true rfl) ⟨Nat.le_refl 0, Nat.le_refl 0⟩ dX12_reasonFor_39 (pp2 ?_)
        refine fw_if_ne C dX12_reasonFor_42 (tgt := 47) rfl (fun c12 => ?_) (fun c12 => ?_)
        · have h := ite_f c12 h
          refine fw_aload_n C dX12_reasonFor_47 rfl 0 rfl ?_
          refine fw_iload_n C dX12_reasonFor_48 rfl 1 rfl ?_
          obtain ⟨r13, q14, h⟩ := bd1_some h
          refine fw_callVi C (ci := 10) (Cn := RX12) (Tc := TX12) (N := 19) (As := [.int a1]) (c_X12_hasCook (gac (hG _ (List.mem_of_getElem? (i := 0) rfl)) ga0) q14) (cwV 1 (cx_ts C) gX12_reasonFor_X12_hasCook rfl rfl rfl (by decide +kernel) ⟨Nat.le_of_ble_eq_true rfl, Nat.le_of_ble_eq_true rfl⟩) rfl (hG _ (List.mem_of_getElem? (i := 0) rfl)) (of10_0 _) (ce10 T ad _ _) rfl (st := []) rfl (Nat.le_of_ble_eq_true rfl) ⟨Nat.le_refl 0, Nat.le_refl 0⟩ dX12_reasonFor_49 (pp2 ?_)
          refine fw_if_eq C dX12_reasonFor_52 (tgt := 59) rfl (fun c15 => ?_) (fun c15 => ?_)
          · have h := ite_t c15 h
            refine fw_iconst C dX12_reasonFor_59 (v := 4) rfl ?_
            exact fw_iret C hrt Y ⟨Option.some.inj h, rfl⟩ (fun t ht => ht) dX12_reasonFor_60
          · have h := ite_f c15 h
            refine fw_iconst C dX12_reasonFor_55 (v := 5) rfl ?_
            refine fw_goto C dX12_reasonFor_56 (tgt := 60) rfl ?_
            exact fw_iret C hrt Y ⟨Option.some.inj h, rfl⟩ (fun t ht => ht) dX12_reasonFor_60
        · have h := ite_t c12 h
          refine fw_iconst C dX12_reasonFor_45 (v := 3) rfl ?_
          exact fw_iret C hrt Y ⟨Option.some.inj h, rfl⟩ (fun t ht => ht) dX12_reasonFor_46
      · have h := ite_f c9 h
        refine fw_iconst C dX12_reasonFor_35 (v := 2) rfl ?_
        exact fw_iret C hrt Y ⟨Option.some.inj h, rfl⟩ (fun t ht => ht) dX12_reasonFor_36
    · have h := ite_t c6 h
      refine fw_iconst C dX12_reasonFor_24 (v := 1) rfl ?_
      exact fw_iret C hrt Y ⟨Option.some.inj h, rfl⟩ (fun t ht => ht) dX12_reasonFor_25
  · have h := ite_t c3 h
    refine fw_iconst C dX12_reasonFor_11 (v := 0) rfl ?_
    exact fw_iret C hrt Y ⟨Option.some.inj h, rfl⟩ (fun t ht => ht) dX12_reasonFor_12
end
set_option maxRecDepth 100000 in
set_option maxHeartbeats 4000000 in
theorem c_X12_reasonFor {l : Launch} {N0 : Nat} {T : Nat → ClassId} {D : va_G} {gr : List (Nat × Nat)} {ad : Nat → Nat → Nat → Nat} {Y : Mem} {a1 : Int32} {res : Int32} (hG : ∀ q ∈ [(10, 0)], q ∈ gr) (h : X12_reasonFor Y a1 = some res) : CI l yX12_reasonFor wsX12_reasonFor (Rm 6) N0 T D gr ad Y [.ref (ad 10 0 0), .int a1] (fun r Y1 => r = res ∧ Y1 = Y) :=
  fw_body (by decide +kernel) rfl (Nat.le_of_ble_eq_true rfl) (fun p e s m below meth c C hrt => w_X12_reasonFor C hrt hG  h)
theorem ly_X12_blocker_12 : ∀ w ∈ u_ws RX12 TX12 19, w ∈ wsX12_blocker := by decide +kernel
theorem fl_X12_blocker_13 : Cond.fieldLink RX12 13 "RecipeSchedulerModel" "m" "[I" ∈ wsX12_blocker := by decide +kernel
section
variable {p : Program} {l : Launch} {e : Env} {s : State} {m : MethodId} {below : List Frame} {meth : Method} {c : Code} {N0 : Nat} {T : Nat → ClassId} {D : va_G} {gr : List (Nat × Nat)} {ad : Nat → Nat → Nat → Nat}
set_option maxRecDepth 100000 in
set_option maxHeartbeats 4000000 in
theorem w_X12_blocker_b65 {Y : Mem} {a1 : Int32} (C : Cx p s m [.ref (ad 10 0 0), .int a1].toArray meth c cX12_blocker 4 wsX12_blocker RX12 N0 T D gr ad) (hrt : meth.sig.returnType = (some .int)) (hG : ∀ q ∈ [(10, 0)], q ∈ gr) {res : Int32} {k19 : Int32 → Int32 → Option (Int32)} (hk19 : ∀ (l3 : Int32) (l2 : Int32), k19 l3 l2 = some res → FW p l e (Rm 7) s m [.ref (ad 10 0 0), .int a1].toArray below meth c 4 N0 T D gr ad 0 0 (MQ below (va_Qi (fun r Y1 => r = res ∧ Y1 = Y) (WB T D gr ad) (fun q => N0 ≤ q)) [.ref (ad 10 0 0), .int a1].toArray s 0 0 (fun q => N0 ≤ q)) Y 19 [(3, .int l3), (2, .int l2), (0, .ref (ad 10 0 0)), (1, .int a1)] []) (l3 : Int32) (l2 : Int32) (h : X12_blocker_b65 Y a1 k19 l3 l2 = some res) : FW p l e (Rm 7) s m [.ref (ad 10 0 0), .int a1].toArray below meth c 4 N0 T D gr ad 0 0 (MQ below (va_Qi (fun r Y1 => r = res ∧ Y1 = Y) (WB T D gr ad) (fun q => N0 ≤ q)) [.ref (ad 10 0 0), .int a1].toArray s 0 0 (fun q => N0 ≤ q)) Y 65 [(3, .int l3), (2, .int l2), (0, .ref (ad 10 0 0)), (1, .int a1)] [] := by
  unfold X12_blocker_b65 at h
  refine fw_iinc C dX12_blocker_65 (kk := 0) (v := l3 + 1) rfl rfl (by decide) (L' := [(3, .int (l3 + 1)), (2, .int l2), (0, .ref (ad 10 0 0)), (1, .int a1)]) rfl ?_
  refine fw_goto C dX12_blocker_68 (tgt := 19) rfl ?_
  exact hk19 _ _ h
set_option maxRecDepth 100000 in
set_option maxHeartbeats 4000000 in
theorem w_X12_blocker_b50 {Y : Mem} {a1 : Int32} (C : Cx p s m [.ref (ad 10 0 0), .int a1].toArray meth c cX12_blocker 4 wsX12_blocker RX12 N0 T D gr ad) (hrt : meth.sig.returnType = (some .int)) (hG : ∀ q ∈ [(10, 0)], q ∈ gr) {res : Int32} {k19 : Int32 → Int32 → Option (Int32)} (hk19 : ∀ (l3 : Int32) (l2 : Int32), k19 l3 l2 = some res → FW p l e (Rm 7) s m [.ref (ad 10 0 0), .int a1].toArray below meth c 4 N0 T D gr ad 0 0 (MQ below (va_Qi (fun r Y1 => r = res ∧ Y1 = Y) (WB T D gr ad) (fun q => N0 ≤ q)) [.ref (ad 10 0 0), .int a1].toArray s 0 0 (fun q => N0 ≤ q)) Y 19 [(3, .int l3), (2, .int l2), (0, .ref (ad 10 0 0)), (1, .int a1)] []) (l3 : Int32) (l2 : Int32) (h : X12_blocker_b50 Y a1 k19 l3 l2 = some res) : FW p l e (Rm 7) s m [.ref (ad 10 0 0), .int a1].toArray below meth c 4 N0 T D gr ad 0 0 (MQ below (va_Qi (fun r Y1 => r = res ∧ Y1 = Y) (WB T D gr ad) (fun q => N0 ≤ q)) [.ref (ad 10 0 0), .int a1].toArray s 0 0 (fun q => N0 ≤ q)) Y 50 [(3, .int l3), (2, .int l2), (0, .ref (ad 10 0 0)), (1, .int a1)] [] := by
  unfold X12_blocker_b50 at h
  refine fw_iload_n C dX12_blocker_50 rfl 1 rfl ?_
  refine fw_iconst C dX12_blocker_51 (v := 4) rfl ?_
  refine fw_icmp_ne C dX12_blocker_52 (tgt := 65) rfl (fun c7 => ?_) (fun c7 => ?_)
  · have h := ite_f c7 h
    exact w_X12_blocker_b65 C hrt hG  hk19 _ _ h
  · have h := ite_t c7 h
    refine fw_aload_n C dX12_blocker_55 rfl 2 rfl ?_
    refine fw_iload_n C dX12_blocker_56 rfl 0 rfl ?_
    obtain ⟨r8, q9, h⟩ := bd1_some h
    refine fw_callVi C (ci := 10) (Cn := RX12) (Tc := TX12) (N := 19) (As := [.int l3]) (c_X12_isCooked (gac (hG _ (List.mem_of_getElem? (i := 0) rfl)) ga0) q9) (cwV 1 (cx_ts C) gX12_blocker_X12_isCooked rfl rfl rfl (by decide +kernel) ⟨Nat.le_of_ble_eq_true rfl, Nat.le_of_ble_eq_true rfl⟩) rfl (hG _ (List.mem_of_getElem? (i := 0) rfl)) (of10_0 _) (ce10 T ad _ _) rfl (st := []) rfl (Nat.le_of_ble_eq_true rfl) ⟨Nat.le_refl 0, Nat.le_refl 0⟩ dX12_blocker_57 (pp2 ?_)
    refine fw_if_eq C dX12_blocker_60 (tgt := 65) rfl (fun c10 => ?_) (fun c10 => ?_)
    · have h := ite_t c10 h
      exact w_X12_blocker_b65 C hrt hG  hk19 _ _ h
    · have h := ite_f c10 h
      refine fw_iload_n C dX12_blocker_63 rfl 0 rfl ?_
      exact fw_iret C hrt Y ⟨Option.some.inj h, rfl⟩ (fun t ht => ht) dX12_blocker_64
set_option maxRecDepth 100000 in
set_option maxHeartbeats 4000000 in
theorem w_X12_blocker_b19 {Y : Mem} {a1 : Int32} (C : Cx p s m [.ref (ad 10 0 0), .int a1].toArray meth c cX12_blocker 4 wsX12_blocker RX12 N0 T D gr ad) (hrt : meth.sig.returnType = (some .int)) (hG : ∀ q ∈ [(10, 0)], q ∈ gr) {res : Int32} : ∀ (n : Nat) (l3 : Int32) (l2 : Int32), X12_blocker_b19 Y a1  n l3 l2 = some res → FW p l e (Rm 7) s m [.ref (ad 10 0 0), .int a1].toArray below meth c 4 N0 T D gr ad 0 0 (MQ below (va_Qi (fun r Y1 => r = res ∧ Y1 = Y) (WB T D gr ad) (fun q => N0 ≤ q)) [.ref (ad 10 0 0), .int a1].toArray s 0 0 (fun q => N0 ≤ q)) Y 19 [(3, .int l3), (2, .int l2), (0, .ref (ad 10 0 0)), (1, .int a1)] [] := by
  intro n
  induction n with
  | zero =>
    intro l3 l2 h
    unfold X12_blocker_b19 at h
    cases h
  | succ n ih =>
    intro l3 l2 h
    unfold X12_blocker_b19 at h
    refine fw_iload_n C dX12_blocker_19 rfl 0 rfl ?_
    refine fw_aload_n C dX12_blocker_20 rfl 2 rfl ?_
    refine fw_get C (ci := 10) (Cn := RX12) (Tc := TX12) (N := 19) (j := 0) ly_X12_blocker_12 rfl (hG _ (List.mem_of_getElem? (i := 0) rfl)) (of10_0 _) (ce10 T ad _ _) (by decide) (cx_ts C _ fl_X12_blocker_13) (fun _ h => h) (v := .ref (ad 10 0 1)) rfl dX12_blocker_21 ?_
    refine fw_bipush C dX12_blocker_24 (v := 13) rfl ?_
    obtain ⟨b4, h⟩ := gd_some h
    refine fw_iald2 C (hG _ (List.mem_of_getElem? (i := 0) rfl)) (of10_1 _) (ca10_1 T ad _ _) b4 (Nat.le_of_ble_eq_true rfl) dX12_blocker_26 ?_
    refine fw_icmp_ge C dX12_blocker_27 (tgt := 71) rfl (fun c5 => ?_) (fun c5 => ?_)
    · have h := ite_t c5 h
      refine fw_iconst C dX12_blocker_71 (v := (-1)) rfl ?_
      exact fw_iret C hrt Y ⟨Option.some.inj h, rfl⟩ (fun t ht => ht) dX12_blocker_72
    · have h := ite_f c5 h
      refine fw_iload_n C dX12_blocker_30 rfl 1 rfl ?_
      refine fw_iconst C dX12_blocker_31 (v := 3) rfl ?_
      refine fw_icmp_ne C dX12_blocker_32 (tgt := 50) rfl (fun c6 => ?_) (fun c6 => ?_)
      · have h := ite_f c6 h
        exact w_X12_blocker_b50 C hrt hG  ih _ _ h
      · have h := ite_t c6 h
        refine fw_aload_n C dX12_blocker_35 rfl 2 rfl ?_
        refine fw_iload_n C dX12_blocker_36 rfl 0 rfl ?_
        refine fw_aload_n C dX12_blocker_37 rfl 2 rfl ?_
        refine fw_iload_n C dX12_blocker_38 rfl 3 rfl ?_
        refine fw_bipush C dX12_blocker_39 (v := 9) rfl ?_
        obtain ⟨r11, q12, h⟩ := bd1_some h
        refine fw_callVi C (ci := 10) (Cn := RX12) (Tc := TX12) (N := 19) (As := [.int a1, .int 9]) (c_X12_of (gac (hG _ (List.mem_of_getElem? (i := 0) rfl)) ga0) q12) (cwV 2 (cx_ts C) gX12_blocker_X12_of rfl rfl rfl (by decide +kernel) ⟨Nat.le_of_ble_eq_true rfl, Nat.le_of_ble_eq_true rfl⟩) rfl (hG _ (List.mem_of_getElem? (i := 0) rfl)) (of10_0 _) (ce10 T ad _ _) rfl (st := [.int l3, .ref (ad 10 0 0)]) rfl (Nat.le_of_ble_eq_true rfl) ⟨Nat.le_refl 0, Nat.le_refl 0⟩ dX12_blocker_41 (pp2 ?_)
        obtain ⟨r13, q14, h⟩ := bd1_some h
        refine fw_callVi C (ci := 10) (Cn := RX12) (Tc := TX12) (N := 19) (As := [.int l3, .int r11]) (c_X12_occupies (gac (hG _ (List.mem_of_getElem? (i := 0) rfl)) ga0) q14) (cwV 2 (cx_ts C) gX12_blocker_X12_occupies rfl rfl rfl (by decide +kernel) ⟨Nat.le_of_ble_eq_true rfl, Nat.le_of_ble_eq_true rfl⟩) rfl (hG _ (List.mem_of_getElem? (i := 0) rfl)) (of10_0 _) (ce10 T ad _ _) rfl (st := []) rfl (Nat.le_of_ble_eq_true rfl) ⟨Nat.le_refl 0, Nat.le_refl 0⟩ dX12_blocker_44 (pp2 ?_)
        refine fw_if_ne C dX12_blocker_47 (tgt := 63) rfl (fun c15 => ?_) (fun c15 => ?_)
        · have h := ite_f c15 h
          refine fw_iload_n C dX12_blocker_63 rfl 0 rfl ?_
          exact fw_iret C hrt Y ⟨Option.some.inj h, rfl⟩ (fun t ht => ht) dX12_blocker_64
        · have h := ite_t c15 h
          exact w_X12_blocker_b50 C hrt hG  ih _ _ h
set_option maxRecDepth 100000 in
set_option maxHeartbeats 4000000 in
theorem w_X12_blocker {Y : Mem} {a1 : Int32} (C : Cx p s m [.ref (ad 10 0 0), .int a1].toArray meth c cX12_blocker 4 wsX12_blocker RX12 N0 T D gr ad) (hrt : meth.sig.returnType = (some .int)) (hG : ∀ q ∈ [(10, 0)], q ∈ gr) {res : Int32} (h : X12_blocker Y a1 = some res) : FW p l e (Rm 7) s m [.ref (ad 10 0 0), .int a1].toArray below meth c 4 N0 T D gr ad 0 0 (MQ below (va_Qi (fun r Y1 => r = res ∧ Y1 = Y) (WB T D gr ad) (fun q => N0 ≤ q)) [.ref (ad 10 0 0), .int a1].toArray s 0 0 (fun q => N0 ≤ q)) Y 0 [(0, .ref (ad 10 0 0)), (1, .int a1)] [] := by
  unfold X12_blocker at h
  refine fw_aload_n C dX12_blocker_0 rfl 0 rfl ?_
  refine fw_iload_n C dX12_blocker_1 rfl 1 rfl ?_
  obtain ⟨r1, q2, h⟩ := bd1_some h
  refine fw_callVi C (ci := 10) (Cn := RX12) (Tc := TX12) (N := 19) (As := [.int a1]) (c_X12_reasonFor (gac (hG _ (List.mem_of_getElem? (i := 0) rfl)) ga0) q2) (cwV 1 (cx_ts C) gX12_blocker_X12_reasonFor rfl rfl rfl (by decide +kernel) ⟨Nat.le_of_ble_eq_true rfl, Nat.le_of_ble_eq_true rfl⟩) rfl (hG _ (List.mem_of_getElem? (i := 0) rfl)) (of10_0 _) (ce10 T ad _ _) rfl (st := []) rfl (Nat.le_of_ble_eq_true rfl) ⟨Nat.le_refl 0, Nat.le_refl 0⟩ dX12_blocker_2 (pp2 ?_)
  refine fw_istore_n C dX12_blocker_5 rfl (by decide) (L' := [(2, .int r1), (0, .ref (ad 10 0 0)), (1, .int a1)]) rfl ?_
  refine fw_iload_n C dX12_blocker_6 rfl 0 rfl ?_
  refine fw_iconst C dX12_blocker_7 (v := 2) rfl ?_
  refine fw_icmp_ne C dX12_blocker_8 (tgt := 17) rfl (fun c3 => ?_) (fun c3 => ?_)
  · have h := ite_f c3 h
    refine fw_iconst C dX12_blocker_17 (v := 0) rfl ?_
    refine fw_istore_n C dX12_blocker_18 rfl (by decide) (L' := [(3, .int 0), (2, .int r1), (0, .ref (ad 10 0 0)), (1, .int a1)]) rfl ?_
    exact w_X12_blocker_b19 C hrt hG   _ _ _ h
  · have h := ite_t c3 h
    refine fw_aload_n C dX12_blocker_11 rfl 1 rfl ?_
    refine fw_iload_n C dX12_blocker_12 rfl 2 rfl ?_
    obtain ⟨r16, q17, h⟩ := bd1_some h
    refine fw_callVi C (ci := 10) (Cn := RX12) (Tc := TX12) (N := 19) (As := [.int a1]) (c_X12_firstOpen (gac (hG _ (List.mem_of_getElem? (i := 0) rfl)) ga0) q17) (cwV 1 (cx_ts C) gX12_blocker_X12_firstOpen rfl rfl rfl (by decide +kernel) ⟨Nat.le_of_ble_eq_true rfl, Nat.le_of_ble_eq_true rfl⟩) rfl (hG _ (List.mem_of_getElem? (i := 0) rfl)) (of10_0 _) (ce10 T ad _ _) rfl (st := []) rfl (Nat.le_of_ble_eq_true rfl) ⟨Nat.le_refl 0, Nat.le_refl 0⟩ dX12_blocker_13 (pp2 ?_)
    exact fw_iret C hrt Y ⟨Option.some.inj h, rfl⟩ (fun t ht => ht) dX12_blocker_16
end
set_option maxRecDepth 100000 in
set_option maxHeartbeats 4000000 in
theorem c_X12_blocker {l : Launch} {N0 : Nat} {T : Nat → ClassId} {D : va_G} {gr : List (Nat × Nat)} {ad : Nat → Nat → Nat → Nat} {Y : Mem} {a1 : Int32} {res : Int32} (hG : ∀ q ∈ [(10, 0)], q ∈ gr) (h : X12_blocker Y a1 = some res) : CI l yX12_blocker wsX12_blocker (Rm 7) N0 T D gr ad Y [.ref (ad 10 0 0), .int a1] (fun r Y1 => r = res ∧ Y1 = Y) :=
  fw_body (by decide +kernel) rfl (Nat.le_of_ble_eq_true rfl) (fun p e s m below meth c C hrt => w_X12_blocker C hrt hG  h)
section
variable {p : Program} {l : Launch} {e : Env} {s : State} {m : MethodId} {below : List Frame} {meth : Method} {c : Code} {N0 : Nat} {T : Nat → ClassId} {D : va_G} {gr : List (Nat × Nat)} {ad : Nat → Nat → Nat → Nat}
set_option maxRecDepth 100000 in
set_option maxHeartbeats 4000000 in
theorem w_X12_blockingStep_b14 {a1 : Int32} (C : Cx p s m [.ref (ad 10 0 0), .int a1].toArray meth c cX12_blockingStep 2 wsX12_blockingStep RX12 N0 T D gr ad) (hrt : meth.sig.returnType = (some .int)) (hG : ∀ q ∈ [(10, 0)], q ∈ gr) {res : Int32 × Mem} (Y : Mem) (s0 : Int32) (h : X12_blockingStep_b14 a1  Y s0 = some res) : FW p l e (Rm 8) s m [.ref (ad 10 0 0), .int a1].toArray below meth c 2 N0 T D gr ad 0 0 (MQ below (va_Qi (fun r Y1 => (r, Y1) = res) (WB T D gr ad) (fun q => N0 ≤ q)) [.ref (ad 10 0 0), .int a1].toArray s 0 0 (fun q => N0 ≤ q)) Y 14 [(0, .ref (ad 10 0 0)), (1, .int a1)] [.int s0, .ref (ad 10 0 0)] := by
  unfold X12_blockingStep_b14 at h
  refine fw_iconst C dX12_blockingStep_14 (v := 0) rfl ?_
  refine fw_iconst C dX12_blockingStep_15 (v := 0) rfl ?_
  obtain ⟨r4, Y6, q5, h⟩ := bd2_some h
  refine fw_callVi C (ci := 10) (Cn := RX12) (Tc := TX12) (N := 19) (As := [.int s0, .int 0, .int 0]) (c_X12_fails (gac (hG _ (List.mem_of_getElem? (i := 0) rfl)) ga0) q5) (cwV 3 (cx_ts C) gX12_blockingStep_X12_fails rfl rfl rfl (by decide +kernel) ⟨Nat.le_of_ble_eq_true rfl, Nat.le_of_ble_eq_true rfl⟩) rfl (hG _ (List.mem_of_getElem? (i := 0) rfl)) (of10_0 _) (ce10 T ad _ _) rfl (st := []) rfl (Nat.le_of_ble_eq_true rfl) ⟨Nat.le_refl 0, Nat.le_refl 0⟩ dX12_blockingStep_16 (ppw ?_)
  refine fw_if_eq C dX12_blockingStep_19 (tgt := 24) rfl (fun c7 => ?_) (fun c7 => ?_)
  · have h := ite_t c7 h
    refine fw_aload_n C dX12_blockingStep_24 rfl 0 rfl ?_
    refine fw_iload_n C dX12_blockingStep_25 rfl 1 rfl ?_
    obtain ⟨r8, q9, h⟩ := bd1_some h
    refine fw_callVi C (ci := 10) (Cn := RX12) (Tc := TX12) (N := 19) (As := [.int a1]) (c_X12_blocker (gac (hG _ (List.mem_of_getElem? (i := 0) rfl)) ga0) q9) (cwV 1 (cx_ts C) gX12_blockingStep_X12_blocker rfl rfl rfl (by decide +kernel) ⟨Nat.le_of_ble_eq_true rfl, Nat.le_of_ble_eq_true rfl⟩) rfl (hG _ (List.mem_of_getElem? (i := 0) rfl)) (of10_0 _) (ce10 T ad _ _) rfl (st := []) rfl (Nat.le_of_ble_eq_true rfl) ⟨Nat.le_refl 0, Nat.le_refl 0⟩ dX12_blockingStep_26 (pp2 ?_)
    exact fw_iret C hrt Y6 (Option.some.inj h) (fun t ht => ht) dX12_blockingStep_29
  · have h := ite_f c7 h
    refine fw_iconst C dX12_blockingStep_22 (v := 0) rfl ?_
    exact fw_iret C hrt Y6 (Option.some.inj h) (fun t ht => ht) dX12_blockingStep_23
set_option maxRecDepth 100000 in
set_option maxHeartbeats 4000000 in
theorem w_X12_blockingStep {Y : Mem} {a1 : Int32} (C : Cx p s m [.ref (ad 10 0 0), .int a1].toArray meth c cX12_blockingStep 2 wsX12_blockingStep RX12 N0 T D gr ad) (hrt : meth.sig.returnType = (some .int)) (hG : ∀ q ∈ [(10, 0)], q ∈ gr) {res : Int32 × Mem} (h : X12_blockingStep Y a1 = some res) : FW p l e (Rm 8) s m [.ref (ad 10 0 0), .int a1].toArray below meth c 2 N0 T D gr ad 0 0 (MQ below (va_Qi (fun r Y1 => (r, Y1) = res) (WB T D gr ad) (fun q => N0 ≤ q)) [.ref (ad 10 0 0), .int a1].toArray s 0 0 (fun q => N0 ≤ q)) Y 0 [(0, .ref (ad 10 0 0)), (1, .int a1)] [] := by
  unfold X12_blockingStep at h
  refine fw_aload_n C dX12_blockingStep_0 rfl 0 rfl ?_
  refine fw_aload_n C dX12_blockingStep_1 rfl 0 rfl ?_
  refine fw_iload_n C dX12_blockingStep_2 rfl 1 rfl ?_
  obtain ⟨r1, q2, h⟩ := bd1_some h
  refine fw_callVi C (ci := 10) (Cn := RX12) (Tc := TX12) (N := 19) (As := [.int a1]) (c_X12_isStep (gac (hG _ (List.mem_of_getElem? (i := 0) rfl)) ga0) q2) (cwV 1 (cx_ts C) gX12_blockingStep_X12_isStep rfl rfl rfl (by decide +kernel) ⟨Nat.le_of_ble_eq_true rfl, Nat.le_of_ble_eq_true rfl⟩) rfl (hG _ (List.mem_of_getElem? (i := 0) rfl)) (of10_0 _) (ce10 T ad _ _) rfl (st := [.ref (ad 10 0 0)]) rfl (Nat.le_of_ble_eq_true rfl) ⟨Nat.le_refl 0, Nat.le_refl 0⟩ dX12_blockingStep_3 (pp2 ?_)
  refine fw_if_ne C dX12_blockingStep_6 (tgt := 13) rfl (fun c3 => ?_) (fun c3 => ?_)
  · have h := ite_f c3 h
    refine fw_iconst C dX12_blockingStep_13 (v := 0) rfl ?_
    exact w_X12_blockingStep_b14 C hrt hG   _ _ h
  · have h := ite_t c3 h
    refine fw_iconst C dX12_blockingStep_9 (v := 1) rfl ?_
    refine fw_goto C dX12_blockingStep_10 (tgt := 14) rfl ?_
    exact w_X12_blockingStep_b14 C hrt hG   _ _ h
end
set_option maxRecDepth 100000 in
set_option maxHeartbeats 4000000 in
theorem c_X12_blockingStep {l : Launch} {N0 : Nat} {T : Nat → ClassId} {D : va_G} {gr : List (Nat × Nat)} {ad : Nat → Nat → Nat → Nat} {Y : Mem} {a1 : Int32} {res : Int32 × Mem} (hG : ∀ q ∈ [(10, 0)], q ∈ gr) (h : X12_blockingStep Y a1 = some res) : CI l yX12_blockingStep wsX12_blockingStep (Rm 8) N0 T D gr ad Y [.ref (ad 10 0 0), .int a1] (fun r Y1 => (r, Y1) = res) :=
  fw_body (by decide +kernel) rfl (Nat.le_of_ble_eq_true rfl) (fun p e s m below meth c C hrt => w_X12_blockingStep C hrt hG  h)
theorem ly_X12_withStatus_12 : ∀ w ∈ u_ws RX12 TX12 19, w ∈ wsX12_withStatus := by decide +kernel
theorem fl_X12_withStatus_13 : Cond.fieldLink RX12 13 "RecipeSchedulerModel" "m" "[I" ∈ wsX12_withStatus := by decide +kernel
section
variable {p : Program} {l : Launch} {e : Env} {s : State} {m : MethodId} {below : List Frame} {meth : Method} {c : Code} {N0 : Nat} {T : Nat → ClassId} {D : va_G} {gr : List (Nat × Nat)} {ad : Nat → Nat → Nat → Nat}
set_option maxRecDepth 100000 in
set_option maxHeartbeats 4000000 in
theorem w_X12_withStatus_b32 {Y : Mem} {a1 : Int32} (C : Cx p s m [.ref (ad 10 0 0), .int a1].toArray meth c cX12_withStatus 4 wsX12_withStatus RX12 N0 T D gr ad) (hrt : meth.sig.returnType = (some .int)) (hG : ∀ q ∈ [(10, 0)], q ∈ gr) {res : Int32} {k4 : Int32 → Int32 → Option (Int32)} (hk4 : ∀ (l3 : Int32) (l2 : Int32), k4 l3 l2 = some res → FW p l e (Rm 1) s m [.ref (ad 10 0 0), .int a1].toArray below meth c 4 N0 T D gr ad 0 0 (MQ below (va_Qi (fun r Y1 => r = res ∧ Y1 = Y) (WB T D gr ad) (fun q => N0 ≤ q)) [.ref (ad 10 0 0), .int a1].toArray s 0 0 (fun q => N0 ≤ q)) Y 4 [(3, .int l3), (2, .int l2), (0, .ref (ad 10 0 0)), (1, .int a1)] []) (l3 : Int32) (s0 : Int32) (s1 : Int32) (h : X12_withStatus_b32 Y a1 k4 l3 s0 s1 = some res) : FW p l e (Rm 1) s m [.ref (ad 10 0 0), .int a1].toArray below meth c 4 N0 T D gr ad 0 0 (MQ below (va_Qi (fun r Y1 => r = res ∧ Y1 = Y) (WB T D gr ad) (fun q => N0 ≤ q)) [.ref (ad 10 0 0), .int a1].toArray s 0 0 (fun q => N0 ≤ q)) Y 32 [(3, .int l3), (0, .ref (ad 10 0 0)), (1, .int a1)] [.int s0, .int s1] := by
  unfold X12_withStatus_b32 at h
  refine fw_iadd C dX12_withStatus_32 ?_
  obtain ⟨v6, e7, h⟩ := lt_some h
  refine fw_top (v' := .int v6) (by rw [e7]) ?_
  refine fw_istore_n C dX12_withStatus_33 rfl (by decide) (L' := [(2, .int v6), (3, .int l3), (0, .ref (ad 10 0 0)), (1, .int a1)]) rfl ?_
  refine fw_iinc C dX12_withStatus_34 (kk := 1) (v := l3 + 1) rfl rfl (by decide) (L' := [(3, .int (l3 + 1)), (2, .int v6), (0, .ref (ad 10 0 0)), (1, .int a1)]) rfl ?_
  refine fw_goto C dX12_withStatus_37 (tgt := 4) rfl ?_
  exact hk4 _ _ h
set_option maxRecDepth 100000 in
set_option maxHeartbeats 4000000 in
theorem w_X12_withStatus_b4 {Y : Mem} {a1 : Int32} (C : Cx p s m [.ref (ad 10 0 0), .int a1].toArray meth c cX12_withStatus 4 wsX12_withStatus RX12 N0 T D gr ad) (hrt : meth.sig.returnType = (some .int)) (hG : ∀ q ∈ [(10, 0)], q ∈ gr) {res : Int32} : ∀ (n : Nat) (l3 : Int32) (l2 : Int32), X12_withStatus_b4 Y a1  n l3 l2 = some res → FW p l e (Rm 1) s m [.ref (ad 10 0 0), .int a1].toArray below meth c 4 N0 T D gr ad 0 0 (MQ below (va_Qi (fun r Y1 => r = res ∧ Y1 = Y) (WB T D gr ad) (fun q => N0 ≤ q)) [.ref (ad 10 0 0), .int a1].toArray s 0 0 (fun q => N0 ≤ q)) Y 4 [(3, .int l3), (2, .int l2), (0, .ref (ad 10 0 0)), (1, .int a1)] [] := by
  intro n
  induction n with
  | zero =>
    intro l3 l2 h
    unfold X12_withStatus_b4 at h
    cases h
  | succ n ih =>
    intro l3 l2 h
    unfold X12_withStatus_b4 at h
    refine fw_iload_n C dX12_withStatus_4 rfl 0 rfl ?_
    refine fw_aload_n C dX12_withStatus_5 rfl 2 rfl ?_
    refine fw_get C (ci := 10) (Cn := RX12) (Tc := TX12) (N := 19) (j := 0) ly_X12_withStatus_12 rfl (hG _ (List.mem_of_getElem? (i := 0) rfl)) (of10_0 _) (ce10 T ad _ _) (by decide) (cx_ts C _ fl_X12_withStatus_13) (fun _ h => h) (v := .ref (ad 10 0 1)) rfl dX12_withStatus_6 ?_
    refine fw_bipush C dX12_withStatus_9 (v := 13) rfl ?_
    obtain ⟨b1, h⟩ := gd_some h
    refine fw_iald2 C (hG _ (List.mem_of_getElem? (i := 0) rfl)) (of10_1 _) (ca10_1 T ad _ _) b1 (Nat.le_of_ble_eq_true rfl) dX12_withStatus_11 ?_
    refine fw_icmp_ge C dX12_withStatus_12 (tgt := 40) rfl (fun c2 => ?_) (fun c2 => ?_)
    · have h := ite_t c2 h
      refine fw_iload_n C dX12_withStatus_40 rfl 1 rfl ?_
      exact fw_iret C hrt Y ⟨Option.some.inj h, rfl⟩ (fun t ht => ht) dX12_withStatus_41
    · have h := ite_f c2 h
      refine fw_iload_n C dX12_withStatus_15 rfl 1 rfl ?_
      refine fw_aload_n C dX12_withStatus_16 rfl 2 rfl ?_
      refine fw_iload_n C dX12_withStatus_17 rfl 0 rfl ?_
      refine fw_bipush C dX12_withStatus_18 (v := 17) rfl ?_
      obtain ⟨r3, q4, h⟩ := bd1_some h
      refine fw_callVi C (ci := 10) (Cn := RX12) (Tc := TX12) (N := 19) (As := [.int l3, .int 17]) (c_X12_of (gac (hG _ (List.mem_of_getElem? (i := 0) rfl)) ga0) q4) (cwV 2 (cx_ts C) gX12_withStatus_X12_of rfl rfl rfl (by decide +kernel) ⟨Nat.le_of_ble_eq_true rfl, Nat.le_of_ble_eq_true rfl⟩) rfl (hG _ (List.mem_of_getElem? (i := 0) rfl)) (of10_0 _) (ce10 T ad _ _) rfl (st := [.int l2]) rfl (Nat.le_of_ble_eq_true rfl) ⟨Nat.le_refl 0, Nat.le_refl 0⟩ dX12_withStatus_20 (pp2 ?_)
      refine fw_iload_n C dX12_withStatus_23 rfl 3 rfl ?_
      refine fw_icmp_ne C dX12_withStatus_24 (tgt := 31) rfl (fun c5 => ?_) (fun c5 => ?_)
      · have h := ite_f c5 h
        refine fw_iconst C dX12_withStatus_31 (v := 0) rfl ?_
        refine fw_sub [0, 2, 3] (L' := [(3, .int l3), (0, .ref (ad 10 0 0)), (1, .int a1)]) rfl ?_
        exact w_X12_withStatus_b32 C hrt hG  ih _ _ _ h
      · have h := ite_t c5 h
        refine fw_iconst C dX12_withStatus_27 (v := 1) rfl ?_
        refine fw_goto C dX12_withStatus_28 (tgt := 32) rfl ?_
        refine fw_sub [0, 2, 3] (L' := [(3, .int l3), (0, .ref (ad 10 0 0)), (1, .int a1)]) rfl ?_
        exact w_X12_withStatus_b32 C hrt hG  ih _ _ _ h
set_option maxRecDepth 100000 in
set_option maxHeartbeats 4000000 in
theorem w_X12_withStatus {Y : Mem} {a1 : Int32} (C : Cx p s m [.ref (ad 10 0 0), .int a1].toArray meth c cX12_withStatus 4 wsX12_withStatus RX12 N0 T D gr ad) (hrt : meth.sig.returnType = (some .int)) (hG : ∀ q ∈ [(10, 0)], q ∈ gr) {res : Int32} (h : X12_withStatus Y a1 = some res) : FW p l e (Rm 1) s m [.ref (ad 10 0 0), .int a1].toArray below meth c 4 N0 T D gr ad 0 0 (MQ below (va_Qi (fun r Y1 => r = res ∧ Y1 = Y) (WB T D gr ad) (fun q => N0 ≤ q)) [.ref (ad 10 0 0), .int a1].toArray s 0 0 (fun q => N0 ≤ q)) Y 0 [(0, .ref (ad 10 0 0)), (1, .int a1)] [] := by
  unfold X12_withStatus at h
  refine fw_iconst C dX12_withStatus_0 (v := 0) rfl ?_
  refine fw_istore_n C dX12_withStatus_1 rfl (by decide) (L' := [(2, .int 0), (0, .ref (ad 10 0 0)), (1, .int a1)]) rfl ?_
  refine fw_iconst C dX12_withStatus_2 (v := 0) rfl ?_
  refine fw_istore_n C dX12_withStatus_3 rfl (by decide) (L' := [(3, .int 0), (2, .int 0), (0, .ref (ad 10 0 0)), (1, .int a1)]) rfl ?_
  exact w_X12_withStatus_b4 C hrt hG   _ _ _ h
end
set_option maxRecDepth 100000 in
set_option maxHeartbeats 4000000 in
theorem c_X12_withStatus {l : Launch} {N0 : Nat} {T : Nat → ClassId} {D : va_G} {gr : List (Nat × Nat)} {ad : Nat → Nat → Nat → Nat} {Y : Mem} {a1 : Int32} {res : Int32} (hG : ∀ q ∈ [(10, 0)], q ∈ gr) (h : X12_withStatus Y a1 = some res) : CI l yX12_withStatus wsX12_withStatus (Rm 1) N0 T D gr ad Y [.ref (ad 10 0 0), .int a1] (fun r Y1 => r = res ∧ Y1 = Y) :=
  fw_body (by decide +kernel) rfl (Nat.le_of_ble_eq_true rfl) (fun p e s m below meth c C hrt => w_X12_withStatus C hrt hG  h)
