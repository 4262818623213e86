theorem ly_X12_hasSuccessor_12 : ∀ w ∈ u_ws RX12 TX12 19, w ∈ wsX12_hasSuccessor := by decide +kernel
theorem fl_X12_hasSuccessor_13 : Cond.fieldLink RX12 13 "RecipeSchedulerModel" "m" "[I" ∈ wsX12_hasSuccessor := by decide +kernel
section
variable {p : Program} {l : Launch} {e : Env} {s : State} {m : MethodId} {below : List Frame} {meth : Method} {c : Code} {N0 : Nat} {T : Nat → ClassId} {D : va_G} {gr : List (Nat × Nat)} {ad : Nat → Nat → Nat → Nat}
set_option maxRecDepth 100000 in
set_option maxHeartbeats 4000000 in
theorem w_X12_hasSuccessor_b53 {Y : Mem} {a1 : Int32} {a2 : Int32} {a3 : Int32} (C : Cx p s m [.ref (ad 10 0 0), .int a1, .int a2, .int a3].toArray meth c cX12_hasSuccessor 5 wsX12_hasSuccessor RX12 N0 T D gr ad) (hrt : meth.sig.returnType = (some .boolean)) (hG : ∀ q ∈ [(10, 0)], q ∈ gr) {res : Int32} {k5 : Int32 → Option (Int32)} (hk5 : ∀ (l4 : Int32), k5 l4 = some res → FW p l e (Rm 2) s m [.ref (ad 10 0 0), .int a1, .int a2, .int a3].toArray below meth c 5 N0 T D gr ad 0 0 (MQ below (va_Qi (fun r Y1 => r = res ∧ Y1 = Y) (WB T D gr ad) (fun q => N0 ≤ q)) [.ref (ad 10 0 0), .int a1, .int a2, .int a3].toArray s 0 0 (fun q => N0 ≤ q)) Y 5 [(4, .int l4), (0, .ref (ad 10 0 0)), (1, .int a1), (2, .int a2), (3, .int a3)] []) (l4 : Int32) (h : X12_hasSuccessor_b53 Y a1 a2 a3 k5 l4 = some res) : FW p l e (Rm 2) s m [.ref (ad 10 0 0), .int a1, .int a2, .int a3].toArray below meth c 5 N0 T D gr ad 0 0 (MQ below (va_Qi (fun r Y1 => r = res ∧ Y1 = Y) (WB T D gr ad) (fun q => N0 ≤ q)) [.ref (ad 10 0 0), .int a1, .int a2, .int a3].toArray s 0 0 (fun q => N0 ≤ q)) Y 53 [(4, .int l4), (0, .ref (ad 10 0 0)), (1, .int a1), (2, .int a2), (3, .int a3)] [] := by
  unfold X12_hasSuccessor_b53 at h
  refine fw_iinc C dX12_hasSuccessor_53 (kk := 0) (v := l4 + 1) rfl rfl (by decide) (L' := [(4, .int (l4 + 1)), (0, .ref (ad 10 0 0)), (1, .int a1), (2, .int a2), (3, .int a3)]) rfl ?_
  refine fw_goto C dX12_hasSuccessor_56 (tgt := 5) rfl ?_
  exact hk5 _ h
set_option maxRecDepth 100000 in
set_option maxHeartbeats 4000000 in
theorem w_X12_hasSuccessor_b5 {Y : Mem} {a1 : Int32} {a2 : Int32} {a3 : Int32} (C : Cx p s m [.ref (ad 10 0 0), .int a1, .int a2, .int a3].toArray meth c cX12_hasSuccessor 5 wsX12_hasSuccessor RX12 N0 T D gr ad) (hrt : meth.sig.returnType = (some .boolean)) (hG : ∀ q ∈ [(10, 0)], q ∈ gr) {res : Int32} : ∀ (n : Nat) (l4 : Int32), X12_hasSuccessor_b5 Y a1 a2 a3  n l4 = some res → FW p l e (Rm 2) s m [.ref (ad 10 0 0), .int a1, .int a2, .int a3].toArray below meth c 5 N0 T D gr ad 0 0 (MQ below (va_Qi (fun r Y1 => r = res ∧ Y1 = Y) (WB T D gr ad) (fun q => N0 ≤ q)) [.ref (ad 10 0 0), .int a1, .int a2, .int a3].toArray s 0 0 (fun q => N0 ≤ q)) Y 5 [(4, .int l4), (0, .ref (ad 10 0 0)), (1, .int a1), (2, .int a2), (3, .int a3)] [] := by
  intro n
  induction n with
  | zero =>
    intro l4 h
    unfold X12_hasSuccessor_b5 at h
    cases h
  | succ n ih =>
    intro l4 h
    unfold X12_hasSuccessor_b5 at h
    refine fw_iload C dX12_hasSuccessor_5 0 rfl ?_
    refine fw_aload_n C dX12_hasSuccessor_7 rfl 1 rfl ?_
    refine fw_get C (ci := 10) (Cn := RX12) (Tc := TX12) (N := 19) (j := 0) ly_X12_hasSuccessor_12 rfl (hG _ (List.mem_of_getElem? (i := 0) rfl)) (of10_0 _) (ce10 T ad _ _) (by decide) (cx_ts C _ fl_X12_hasSuccessor_13) (fun _ h => h) (v := .ref (ad 10 0 1)) rfl dX12_hasSuccessor_8 ?_
    refine fw_bipush C dX12_hasSuccessor_11 (v := 13) rfl ?_
    obtain ⟨b3, h⟩ := gd_some h
    refine fw_iald2 C (hG _ (List.mem_of_getElem? (i := 0) rfl)) (of10_1 _) (ca10_1 T ad _ _) b3 (Nat.le_of_ble_eq_true rfl) dX12_hasSuccessor_13 ?_
    refine fw_icmp_ge C dX12_hasSuccessor_14 (tgt := 59) rfl (fun c4 => ?_) (fun c4 => ?_)
    · have h := ite_t c4 h
      refine fw_iconst C dX12_hasSuccessor_59 (v := 0) rfl ?_
      exact fw_zret C hrt (by decide) Y ⟨Option.some.inj h, rfl⟩ (fun t ht => ht) dX12_hasSuccessor_60
    · have h := ite_f c4 h
      refine fw_aload_n C dX12_hasSuccessor_17 rfl 1 rfl ?_
      refine fw_iload_n C dX12_hasSuccessor_18 rfl 2 rfl ?_
      refine fw_iload C dX12_hasSuccessor_19 0 rfl ?_
      obtain ⟨r5, q6, h⟩ := bd1_some h
      refine fw_callVi C (ci := 10) (Cn := RX12) (Tc := TX12) (N := 19) (As := [.int a1, .int l4]) (c_X12_isPredecessor (gac (hG _ (List.mem_of_getElem? (i := 0) rfl)) ga0) q6) (cwV 2 (cx_ts C) gX12_hasSuccessor_X12_isPredecessor rfl rfl rfl (by decide +kernel) ⟨Nat.le_of_ble_eq_true rfl, Nat.le_of_ble_eq_true rfl⟩) rfl (hG _ (List.mem_of_getElem? (i := 0) rfl)) (of10_0 _) (ce10 T ad _ _) rfl (st := []) rfl (Nat.le_of_ble_eq_true rfl) ⟨Nat.le_refl 0, Nat.le_refl 0⟩ dX12_hasSuccessor_21 (pp2 ?_)
      refine fw_if_eq C dX12_hasSuccessor_24 (tgt := 53) rfl (fun c7 => ?_) (fun c7 => ?_)
      · have h := ite_t c7 h
        exact w_X12_hasSuccessor_b53 C hrt hG  ih _ h
      · have h := ite_f c7 h
        refine fw_aload_n C dX12_hasSuccessor_27 rfl 1 rfl ?_
        refine fw_iload C dX12_hasSuccessor_28 0 rfl ?_
        refine fw_bipush C dX12_hasSuccessor_30 (v := 17) rfl ?_
        obtain ⟨r8, q9, h⟩ := bd1_some h
        refine fw_callVi C (ci := 10) (Cn := RX12) (Tc := TX12) (N := 19) (As := [.int l4, .int 17]) (c_X12_of (gac (hG _ (List.mem_of_getElem? (i := 0) rfl)) ga0) q9) (cwV 2 (cx_ts C) gX12_hasSuccessor_X12_of rfl rfl rfl (by decide +kernel) ⟨Nat.le_of_ble_eq_true rfl, Nat.le_of_ble_eq_true rfl⟩) rfl (hG _ (List.mem_of_getElem? (i := 0) rfl)) (of10_0 _) (ce10 T ad _ _) rfl (st := []) rfl (Nat.le_of_ble_eq_true rfl) ⟨Nat.le_refl 0, Nat.le_refl 0⟩ dX12_hasSuccessor_32 (pp2 ?_)
        refine fw_iload_n C dX12_hasSuccessor_35 rfl 3 rfl ?_
        refine fw_icmp_eq C dX12_hasSuccessor_36 (tgt := 51) rfl (fun c10 => ?_) (fun c10 => ?_)
        · have h := ite_t c10 h
          refine fw_iconst C dX12_hasSuccessor_51 (v := 1) rfl ?_
          exact fw_zret C hrt (by decide) Y ⟨Option.some.inj h, rfl⟩ (fun t ht => ht) dX12_hasSuccessor_52
        · have h := ite_f c10 h
          refine fw_aload_n C dX12_hasSuccessor_39 rfl 1 rfl ?_
          refine fw_iload C dX12_hasSuccessor_40 0 rfl ?_
          refine fw_bipush C dX12_hasSuccessor_42 (v := 17) rfl ?_
          obtain ⟨r11, q12, h⟩ := bd1_some h
          refine fw_callVi C (ci := 10) (Cn := RX12) (Tc := TX12) (N := 19) (As := [.int l4, .int 17]) (c_X12_of (gac (hG _ (List.mem_of_getElem? (i := 0) rfl)) ga0) q12) (cwV 2 (cx_ts C) gX12_hasSuccessor_X12_of rfl rfl rfl (by decide +kernel) ⟨Nat.le_of_ble_eq_true rfl, Nat.le_of_ble_eq_true rfl⟩) rfl (hG _ (List.mem_of_getElem? (i := 0) rfl)) (of10_0 _) (ce10 T ad _ _) rfl (st := []) rfl (Nat.le_of_ble_eq_true rfl) ⟨Nat.le_refl 0, Nat.le_refl 0⟩ dX12_hasSuccessor_44 (pp2 ?_)
          refine fw_iload_n C dX12_hasSuccessor_47 rfl 4 rfl ?_
          refine fw_icmp_ne C dX12_hasSuccessor_48 (tgt := 53) rfl (fun c13 => ?_) (fun c13 => ?_)
          · have h := ite_f c13 h
            exact w_X12_hasSuccessor_b53 C hrt hG  ih _ h
          · have h := ite_t c13 h
            refine fw_iconst C dX12_hasSuccessor_51 (v := 1) rfl ?_
            exact fw_zret C hrt (by decide) Y ⟨Option.some.inj h, rfl⟩ (fun t ht => ht) dX12_hasSuccessor_52
set_option maxRecDepth 100000 in
set_option maxHeartbeats 4000000 in
theorem w_X12_hasSuccessor {Y : Mem} {a1 : Int32} {a2 : Int32} {a3 : Int32} (C : Cx p s m [.ref (ad 10 0 0), .int a1, .int a2, .int a3].toArray meth c cX12_hasSuccessor 5 wsX12_hasSuccessor RX12 N0 T D gr ad) (hrt : meth.sig.returnType = (some .boolean)) (hG : ∀ q ∈ [(10, 0)], q ∈ gr) {res : Int32} (h : X12_hasSuccessor Y a1 a2 a3 = some res) : FW p l e (Rm 2) s m [.ref (ad 10 0 0), .int a1, .int a2, .int a3].toArray below meth c 5 N0 T D gr ad 0 0 (MQ below (va_Qi (fun r Y1 => r = res ∧ Y1 = Y) (WB T D gr ad) (fun q => N0 ≤ q)) [.ref (ad 10 0 0), .int a1, .int a2, .int a3].toArray s 0 0 (fun q => N0 ≤ q)) Y 0 [(0, .ref (ad 10 0 0)), (1, .int a1), (2, .int a2), (3, .int a3)] [] := by
  unfold X12_hasSuccessor at h
  refine fw_iload_n C dX12_hasSuccessor_0 rfl 1 rfl ?_
  refine fw_iconst C dX12_hasSuccessor_1 (v := 1) rfl ?_
  refine fw_iadd C dX12_hasSuccessor_2 ?_
  obtain ⟨v1, e2, h⟩ := lt_some h
  refine fw_top (v' := .int v1) (by rw [e2]) ?_
  refine fw_istore C dX12_hasSuccessor_3 (by decide) (L' := [(4, .int v1), (0, .ref (ad 10 0 0)), (1, .int a1), (2, .int a2), (3, .int a3)]) rfl ?_
  exact w_X12_hasSuccessor_b5 C hrt hG   _ _ h
end
set_option maxRecDepth 100000 in
set_option maxHeartbeats 4000000 in
theorem c_X12_hasSuccessor {l : Launch} {N0 : Nat} {T : Nat → ClassId} {D : va_G} {gr : List (Nat × Nat)} {ad : Nat → Nat → Nat → Nat} {Y : Mem} {a1 : Int32} {a2 : Int32} {a3 : Int32} {res : Int32} (hG : ∀ q ∈ [(10, 0)], q ∈ gr) (h : X12_hasSuccessor Y a1 a2 a3 = some res) : CI l yX12_hasSuccessor wsX12_hasSuccessor (Rm 2) N0 T D gr ad Y [.ref (ad 10 0 0), .int a1, .int a2, .int a3] (fun r Y1 => r = res ∧ Y1 = Y) :=
  fw_body (by decide +kernel) rfl (Nat.le_of_ble_eq_true rfl) (fun p e s m below meth c C hrt => w_X12_hasSuccessor C hrt hG  h)
section
variable {p : Program} {l : Launch} {e : Env} {s : State} {m : MethodId} {below : List Frame} {meth : Method} {c : Code} {N0 : Nat} {T : Nat → ClassId} {D : va_G} {gr : List (Nat × Nat)} {ad : Nat → Nat → Nat → Nat}
set_option maxRecDepth 100000 in
set_option maxHeartbeats 4000000 in
theorem w_X12_occupies_b45 {Y : Mem} {a1 : Int32} {a2 : Int32} (C : Cx p s m [.ref (ad 10 0 0), .int a1, .int a2].toArray meth c cX12_occupies 3 wsX12_occupies RX12 N0 T D gr ad) (hrt : meth.sig.returnType = (some .boolean)) (hG : ∀ q ∈ [(10, 0)], q ∈ gr) {res : Int32}  (h : X12_occupies_b45 Y a1 a2   = some res) : FW p l e (Rm 3) s m [.ref (ad 10 0 0), .int a1, .int a2].toArray below meth c 3 N0 T D gr ad 0 0 (MQ below (va_Qi (fun r Y1 => r = res ∧ Y1 = Y) (WB T D gr ad) (fun q => N0 ≤ q)) [.ref (ad 10 0 0), .int a1, .int a2].toArray s 0 0 (fun q => N0 ≤ q)) Y 45 [] [] := by
  unfold X12_occupies_b45 at h
  refine fw_iconst C dX12_occupies_45 (v := 1) rfl ?_
  refine fw_goto C dX12_occupies_46 (tgt := 50) rfl ?_
  exact fw_zret C hrt (by decide) Y ⟨Option.some.inj h, rfl⟩ (fun t ht => ht) dX12_occupies_50
set_option maxRecDepth 100000 in
set_option maxHeartbeats 4000000 in
theorem w_X12_occupies {Y : Mem} {a1 : Int32} {a2 : Int32} (C : Cx p s m [.ref (ad 10 0 0), .int a1, .int a2].toArray meth c cX12_occupies 3 wsX12_occupies RX12 N0 T D gr ad) (hrt : meth.sig.returnType = (some .boolean)) (hG : ∀ q ∈ [(10, 0)], q ∈ gr) {res : Int32} (h : X12_occupies Y a1 a2 = some res) : FW p l e (Rm 3) s m [.ref (ad 10 0 0), .int a1, .int a2].toArray below meth c 3 N0 T D gr ad 0 0 (MQ below (va_Qi (fun r Y1 => r = res ∧ Y1 = Y) (WB T D gr ad) (fun q => N0 ≤ q)) [.ref (ad 10 0 0), .int a1, .int a2].toArray s 0 0 (fun q => N0 ≤ q)) Y 0 [(0, .ref (ad 10 0 0)), (1, .int a1), (2, .int a2)] [] := by
  unfold X12_occupies at h
  refine fw_aload_n C dX12_occupies_0 rfl 0 rfl ?_
  refine fw_iload_n C dX12_occupies_1 rfl 1 rfl ?_
  refine fw_bipush C dX12_occupies_2 (v := 9) rfl ?_
  obtain ⟨r1, q2, h⟩ := bd1_some h
  refine fw_callVi C (ci := 10) (Cn := RX12) (Tc := TX12) (N := 19) (As := [.int a1, .int 9]) (c_X12_of (gac (hG _ (List.mem_of_getElem? (i := 0) rfl)) ga0) q2) (cwV 2 (cx_ts C) gX12_occupies_X12_of rfl rfl rfl (by decide +kernel) ⟨Nat.le_of_ble_eq_true rfl, Nat.le_of_ble_eq_true rfl⟩) rfl (hG _ (List.mem_of_getElem? (i := 0) rfl)) (of10_0 _) (ce10 T ad _ _) rfl (st := []) rfl (Nat.le_of_ble_eq_true rfl) ⟨Nat.le_refl 0, Nat.le_refl 0⟩ dX12_occupies_4 (pp2 ?_)
  refine fw_iload_n C dX12_occupies_7 rfl 2 rfl ?_
  refine fw_icmp_eq C dX12_occupies_8 (tgt := 13) rfl (fun c3 => ?_) (fun c3 => ?_)
  · have h := ite_t c3 h
    refine fw_aload_n C dX12_occupies_13 rfl 0 rfl ?_
    refine fw_iload_n C dX12_occupies_14 rfl 1 rfl ?_
    refine fw_bipush C dX12_occupies_15 (v := 17) rfl ?_
    obtain ⟨r4, q5, h⟩ := bd1_some h
    refine fw_callVi C (ci := 10) (Cn := RX12) (Tc := TX12) (N := 19) (As := [.int a1, .int 17]) (c_X12_of (gac (hG _ (List.mem_of_getElem? (i := 0) rfl)) ga0) q5) (cwV 2 (cx_ts C) gX12_occupies_X12_of rfl rfl rfl (by decide +kernel) ⟨Nat.le_of_ble_eq_true rfl, Nat.le_of_ble_eq_true rfl⟩) rfl (hG _ (List.mem_of_getElem? (i := 0) rfl)) (of10_0 _) (ce10 T ad _ _) rfl (st := []) rfl (Nat.le_of_ble_eq_true rfl) ⟨Nat.le_refl 0, Nat.le_refl 0⟩ dX12_occupies_17 (pp2 ?_)
    refine fw_iconst C dX12_occupies_20 (v := 1) rfl ?_
    refine fw_icmp_eq C dX12_occupies_21 (tgt := 45) rfl (fun c6 => ?_) (fun c6 => ?_)
    · have h := ite_t c6 h
      refine fw_sub [] (L' := []) rfl ?_
      exact w_X12_occupies_b45 C hrt hG    h
    · have h := ite_f c6 h
      refine fw_aload_n C dX12_occupies_24 rfl 0 rfl ?_
      refine fw_iload_n C dX12_occupies_25 rfl 1 rfl ?_
      refine fw_bipush C dX12_occupies_26 (v := 17) rfl ?_
      obtain ⟨r7, q8, h⟩ := bd1_some h
      refine fw_callVi C (ci := 10) (Cn := RX12) (Tc := TX12) (N := 19) (As := [.int a1, .int 17]) (c_X12_of (gac (hG _ (List.mem_of_getElem? (i := 0) rfl)) ga0) q8) (cwV 2 (cx_ts C) gX12_occupies_X12_of rfl rfl rfl (by decide +kernel) ⟨Nat.le_of_ble_eq_true rfl, Nat.le_of_ble_eq_true rfl⟩) rfl (hG _ (List.mem_of_getElem? (i := 0) rfl)) (of10_0 _) (ce10 T ad _ _) rfl (st := []) rfl (Nat.le_of_ble_eq_true rfl) ⟨Nat.le_refl 0, Nat.le_refl 0⟩ dX12_occupies_28 (pp2 ?_)
      refine fw_iconst C dX12_occupies_31 (v := 2) rfl ?_
      refine fw_icmp_ne C dX12_occupies_32 (tgt := 49) rfl (fun c9 => ?_) (fun c9 => ?_)
      · have h := ite_f c9 h
        refine fw_iconst C dX12_occupies_49 (v := 0) rfl ?_
        exact fw_zret C hrt (by decide) Y ⟨Option.some.inj h, rfl⟩ (fun t ht => ht) dX12_occupies_50
      · have h := ite_t c9 h
        refine fw_aload_n C dX12_occupies_35 rfl 0 rfl ?_
        refine fw_iload_n C dX12_occupies_36 rfl 1 rfl ?_
        refine fw_iconst C dX12_occupies_37 (v := 0) rfl ?_
        refine fw_iconst C dX12_occupies_38 (v := 3) rfl ?_
        obtain ⟨r10, q11, h⟩ := bd1_some h
        refine fw_callVi C (ci := 10) (Cn := RX12) (Tc := TX12) (N := 19) (As := [.int a1, .int 0, .int 3]) (c_X12_hasSuccessor (gac (hG _ (List.mem_of_getElem? (i := 0) rfl)) ga0) q11) (cwV 3 (cx_ts C) gX12_occupies_X12_hasSuccessor rfl rfl rfl (by decide +kernel) ⟨Nat.le_of_ble_eq_true rfl, Nat.le_of_ble_eq_true rfl⟩) rfl (hG _ (List.mem_of_getElem? (i := 0) rfl)) (of10_0 _) (ce10 T ad _ _) rfl (st := []) rfl (Nat.le_of_ble_eq_true rfl) ⟨Nat.le_refl 0, Nat.le_refl 0⟩ dX12_occupies_39 (pp2 ?_)
        refine fw_if_eq C dX12_occupies_42 (tgt := 49) rfl (fun c12 => ?_) (fun c12 => ?_)
        · have h := ite_t c12 h
          refine fw_iconst C dX12_occupies_49 (v := 0) rfl ?_
          exact fw_zret C hrt (by decide) Y ⟨Option.some.inj h, rfl⟩ (fun t ht => ht) dX12_occupies_50
        · have h := ite_f c12 h
          refine fw_sub [] (L' := []) rfl ?_
          exact w_X12_occupies_b45 C hrt hG    h
  · have h := ite_f c3 h
    refine fw_iconst C dX12_occupies_11 (v := 0) rfl ?_
    exact fw_zret C hrt (by decide) Y ⟨Option.some.inj h, rfl⟩ (fun t ht => ht) dX12_occupies_12
end
set_option maxRecDepth 100000 in
set_option maxHeartbeats 4000000 in
theorem c_X12_occupies {l : Launch} {N0 : Nat} {T : Nat → ClassId} {D : va_G} {gr : List (Nat × Nat)} {ad : Nat → Nat → Nat → Nat} {Y : Mem} {a1 : Int32} {a2 : Int32} {res : Int32} (hG : ∀ q ∈ [(10, 0)], q ∈ gr) (h : X12_occupies Y a1 a2 = some res) : CI l yX12_occupies wsX12_occupies (Rm 3) N0 T D gr ad Y [.ref (ad 10 0 0), .int a1, .int a2] (fun r Y1 => r = res ∧ Y1 = Y) :=
  fw_body (by decide +kernel) rfl (Nat.le_of_ble_eq_true rfl) (fun p e s m below meth c C hrt => w_X12_occupies C hrt hG  h)
theorem ly_X12_usedPans_12 : ∀ w ∈ u_ws RX12 TX12 19, w ∈ wsX12_usedPans := by decide +kernel
theorem fl_X12_usedPans_13 : Cond.fieldLink RX12 13 "RecipeSchedulerModel" "m" "[I" ∈ wsX12_usedPans := by decide +kernel
section
variable {p : Program} {l : Launch} {e : Env} {s : State} {m : MethodId} {below : List Frame} {meth : Method} {c : Code} {N0 : Nat} {T : Nat → ClassId} {D : va_G} {gr : List (Nat × Nat)} {ad : Nat → Nat → Nat → Nat}
set_option maxRecDepth 100000 in
set_option maxHeartbeats 4000000 in
theorem w_X12_usedPans_b30 {Y : Mem} {a1 : Int32} (C : Cx p s m [.ref (ad 10 0 0), .int a1].toArray meth c cX12_usedPans 4 wsX12_usedPans RX12 N0 T D gr ad) (hrt : meth.sig.returnType = (some .int)) (hG : ∀ q ∈ [(10, 0)], q ∈ gr) {res : Int32} {k4 : Int32 → Int32 → Option (Int32)} (hk4 : ∀ (l3 : Int32) (l2 : Int32), k4 l3 l2 = some res → FW p l e (Rm 4) s m [.ref (ad 10 0 0), .int a1].toArray below meth c 4 N0 T D gr ad 0 0 (MQ below (va_Qi (fun r Y1 => r = res ∧ Y1 = Y) (WB T D gr ad) (fun q => N0 ≤ q)) [.ref (ad 10 0 0), .int a1].toArray s 0 0 (fun q => N0 ≤ q)) Y 4 [(3, .int l3), (2, .int l2), (0, .ref (ad 10 0 0)), (1, .int a1)] []) (l3 : Int32) (s0 : Int32) (s1 : Int32) (h : X12_usedPans_b30 Y a1 k4 l3 s0 s1 = some res) : FW p l e (Rm 4) s m [.ref (ad 10 0 0), .int a1].toArray below meth c 4 N0 T D gr ad 0 0 (MQ below (va_Qi (fun r Y1 => r = res ∧ Y1 = Y) (WB T D gr ad) (fun q => N0 ≤ q)) [.ref (ad 10 0 0), .int a1].toArray s 0 0 (fun q => N0 ≤ q)) Y 30 [(3, .int l3), (0, .ref (ad 10 0 0)), (1, .int a1)] [.int s0, .int s1] := by
  unfold X12_usedPans_b30 at h
  refine fw_iadd C dX12_usedPans_30 ?_
  obtain ⟨v6, e7, h⟩ := lt_some h
  refine fw_top (v' := .int v6) (by rw [e7]) ?_
  refine fw_istore_n C dX12_usedPans_31 rfl (by decide) (L' := [(2, .int v6), (3, .int l3), (0, .ref (ad 10 0 0)), (1, .int a1)]) rfl ?_
  refine fw_iinc C dX12_usedPans_32 (kk := 1) (v := l3 + 1) rfl rfl (by decide) (L' := [(3, .int (l3 + 1)), (2, .int v6), (0, .ref (ad 10 0 0)), (1, .int a1)]) rfl ?_
  refine fw_goto C dX12_usedPans_35 (tgt := 4) rfl ?_
  exact hk4 _ _ h
set_option maxRecDepth 100000 in
set_option maxHeartbeats 4000000 in
theorem w_X12_usedPans_b4 {Y : Mem} {a1 : Int32} (C : Cx p s m [.ref (ad 10 0 0), .int a1].toArray meth c cX12_usedPans 4 wsX12_usedPans RX12 N0 T D gr ad) (hrt : meth.sig.returnType = (some .int)) (hG : ∀ q ∈ [(10, 0)], q ∈ gr) {res : Int32} : ∀ (n : Nat) (l3 : Int32) (l2 : Int32), X12_usedPans_b4 Y a1  n l3 l2 = some res → FW p l e (Rm 4) s m [.ref (ad 10 0 0), .int a1].toArray below meth c 4 N0 T D gr ad 0 0 (MQ below (va_Qi (fun r Y1 => r = res ∧ Y1 = Y) (WB T D gr ad) (fun q => N0 ≤ q)) [.ref (ad 10 0 0), .int a1].toArray s 0 0 (fun q => N0 ≤ q)) Y 4 [(3, .int l3), (2, .int l2), (0, .ref (ad 10 0 0)), (1, .int a1)] [] := by
  intro n
  induction n with
  | zero =>
    intro l3 l2 h
    unfold X12_usedPans_b4 at h
    cases h
  | succ n ih =>
    intro l3 l2 h
    unfold X12_usedPans_b4 at h
    refine fw_iload_n C dX12_usedPans_4 rfl 0 rfl ?_
    refine fw_aload_n C dX12_usedPans_5 rfl 2 rfl ?_
    refine fw_get C (ci := 10) (Cn := RX12) (Tc := TX12) (N := 19) (j := 0) ly_X12_usedPans_12 rfl (hG _ (List.mem_of_getElem? (i := 0) rfl)) (of10_0 _) (ce10 T ad _ _) (by decide) (cx_ts C _ fl_X12_usedPans_13) (fun _ h => h) (v := .ref (ad 10 0 1)) rfl dX12_usedPans_6 ?_
    refine fw_bipush C dX12_usedPans_9 (v := 13) rfl ?_
    obtain ⟨b1, h⟩ := gd_some h
    refine fw_iald2 C (hG _ (List.mem_of_getElem? (i := 0) rfl)) (of10_1 _) (ca10_1 T ad _ _) b1 (Nat.le_of_ble_eq_true rfl) dX12_usedPans_11 ?_
    refine fw_icmp_ge C dX12_usedPans_12 (tgt := 38) rfl (fun c2 => ?_) (fun c2 => ?_)
    · have h := ite_t c2 h
      refine fw_iload_n C dX12_usedPans_38 rfl 1 rfl ?_
      exact fw_iret C hrt Y ⟨Option.some.inj h, rfl⟩ (fun t ht => ht) dX12_usedPans_39
    · have h := ite_f c2 h
      refine fw_iload_n C dX12_usedPans_15 rfl 1 rfl ?_
      refine fw_aload_n C dX12_usedPans_16 rfl 2 rfl ?_
      refine fw_iload_n C dX12_usedPans_17 rfl 0 rfl ?_
      refine fw_iload_n C dX12_usedPans_18 rfl 3 rfl ?_
      obtain ⟨r3, q4, h⟩ := bd1_some h
      refine fw_callVi C (ci := 10) (Cn := RX12) (Tc := TX12) (N := 19) (As := [.int l3, .int a1]) (c_X12_occupies (gac (hG _ (List.mem_of_getElem? (i := 0) rfl)) ga0) q4) (cwV 2 (cx_ts C) gX12_usedPans_X12_occupies rfl rfl rfl (by decide +kernel) ⟨Nat.le_of_ble_eq_true rfl, Nat.le_of_ble_eq_true rfl⟩) rfl (hG _ (List.mem_of_getElem? (i := 0) rfl)) (of10_0 _) (ce10 T ad _ _) rfl (st := [.int l2]) rfl (Nat.le_of_ble_eq_true rfl) ⟨Nat.le_refl 0, Nat.le_refl 0⟩ dX12_usedPans_19 (pp2 ?_)
      refine fw_if_eq C dX12_usedPans_22 (tgt := 29) rfl (fun c5 => ?_) (fun c5 => ?_)
      · have h := ite_t c5 h
        refine fw_iconst C dX12_usedPans_29 (v := 0) rfl ?_
        refine fw_sub [0, 2, 3] (L' := [(3, .int l3), (0, .ref (ad 10 0 0)), (1, .int a1)]) rfl ?_
        exact w_X12_usedPans_b30 C hrt hG  ih _ _ _ h
      · have h := ite_f c5 h
        refine fw_iconst C dX12_usedPans_25 (v := 1) rfl ?_
        refine fw_goto C dX12_usedPans_26 (tgt := 30) rfl ?_
        refine fw_sub [0, 2, 3] (L' := [(3, .int l3), (0, .ref (ad 10 0 0)), (1, .int a1)]) rfl ?_
        exact w_X12_usedPans_b30 C hrt hG  ih _ _ _ h
set_option maxRecDepth 100000 in
set_option maxHeartbeats 4000000 in
theorem w_X12_usedPans {Y : Mem} {a1 : Int32} (C : Cx p s m [.ref (ad 10 0 0), .int a1].toArray meth c cX12_usedPans 4 wsX12_usedPans RX12 N0 T D gr ad) (hrt : meth.sig.returnType = (some .int)) (hG : ∀ q ∈ [(10, 0)], q ∈ gr) {res : Int32} (h : X12_usedPans Y a1 = some res) : FW p l e (Rm 4) s m [.ref (ad 10 0 0), .int a1].toArray below meth c 4 N0 T D gr ad 0 0 (MQ below (va_Qi (fun r Y1 => r = res ∧ Y1 = Y) (WB T D gr ad) (fun q => N0 ≤ q)) [.ref (ad 10 0 0), .int a1].toArray s 0 0 (fun q => N0 ≤ q)) Y 0 [(0, .ref (ad 10 0 0)), (1, .int a1)] [] := by
  unfold X12_usedPans at h
  refine fw_iconst C dX12_usedPans_0 (v := 0) rfl ?_
  refine fw_istore_n C dX12_usedPans_1 rfl (by decide) (L' := [(2, .int 0), (0, .ref (ad 10 0 0)), (1, .int a1)]) rfl ?_
  refine fw_iconst C dX12_usedPans_2 (v := 0) rfl ?_
  refine fw_istore_n C dX12_usedPans_3 rfl (by decide) (L' := [(3, .int 0), (2, .int 0), (0, .ref (ad 10 0 0)), (1, .int a1)]) rfl ?_
  exact w_X12_usedPans_b4 C hrt hG   _ _ _ h
end
set_option maxRecDepth 100000 in
set_option maxHeartbeats 4000000 in
theorem c_X12_usedPans {l : Launch} {N0 : Nat} {T : Nat → ClassId} {D : va_G} {gr : List (Nat × Nat)} {ad : Nat → Nat → Nat → Nat} {Y : Mem} {a1 : Int32} {res : Int32} (hG : ∀ q ∈ [(10, 0)], q ∈ gr) (h : X12_usedPans Y a1 = some res) : CI l yX12_usedPans wsX12_usedPans (Rm 4) N0 T D gr ad Y [.ref (ad 10 0 0), .int a1] (fun r Y1 => r = res ∧ Y1 = Y) :=
  fw_body (by decide +kernel) rfl (Nat.le_of_ble_eq_true rfl) (fun p e s m below meth c C hrt => w_X12_usedPans C hrt hG  h)
theorem ly_X12_capacity_12 : ∀ w ∈ u_ws RX12 TX12 19, w ∈ wsX12_capacity := by decide +kernel
theorem fl_X12_capacity_13 : Cond.fieldLink RX12 13 "RecipeSchedulerModel" "m" "[I" ∈ wsX12_capacity := by decide +kernel
section
variable {p : Program} {l : Launch} {e : Env} {s : State} {m : MethodId} {below : List Frame} {meth : Method} {c : Code} {N0 : Nat} {T : Nat → ClassId} {D : va_G} {gr : List (Nat × Nat)} {ad : Nat → Nat → Nat → Nat}
set_option maxRecDepth 100000 in
set_option maxHeartbeats 4000000 in
theorem w_X12_capacity {Y : Mem} {a1 : Int32} (C : Cx p s m [.ref (ad 10 0 0), .int a1].toArray meth c cX12_capacity 2 wsX12_capacity RX12 N0 T D gr ad) (hrt : meth.sig.returnType = (some .int)) (hG : ∀ q ∈ [(10, 0)], q ∈ gr) {res : Int32} (h : X12_capacity Y a1 = some res) : FW p l e (Rm 0) s m [.ref (ad 10 0 0), .int a1].toArray below meth c 2 N0 T D gr ad 0 0 (MQ below (va_Qi (fun r Y1 => r = res ∧ Y1 = Y) (WB T D gr ad) (fun q => N0 ≤ q)) [.ref (ad 10 0 0), .int a1].toArray s 0 0 (fun q => N0 ≤ q)) Y 0 [(0, .ref (ad 10 0 0)), (1, .int a1)] [] := by
  unfold X12_capacity at h
  refine fw_aload_n C dX12_capacity_0 rfl 0 rfl ?_
  refine fw_get C (ci := 10) (Cn := RX12) (Tc := TX12) (N := 19) (j := 0) ly_X12_capacity_12 rfl (hG _ (List.mem_of_getElem? (i := 0) rfl)) (of10_0 _) (ce10 T ad _ _) (by decide) (cx_ts C _ fl_X12_capacity_13) (fun _ h => h) (v := .ref (ad 10 0 1)) rfl dX12_capacity_1 ?_
  refine fw_bipush C dX12_capacity_4 (v := 14) rfl ?_
  refine fw_iload_n C dX12_capacity_6 rfl 1 rfl ?_
  refine fw_bipush C dX12_capacity_7 (v := 8) rfl ?_
  refine fw_imul C dX12_capacity_9 ?_
  refine fw_iadd C dX12_capacity_10 ?_
  refine fw_bipush C dX12_capacity_11 (v := 7) rfl ?_
  refine fw_iadd C dX12_capacity_13 ?_
  obtain ⟨b1, h⟩ := gd_some h
  refine fw_iald2 C (hG _ (List.mem_of_getElem? (i := 0) rfl)) (of10_1 _) (ca10_1 T ad _ _) b1 (Nat.le_of_ble_eq_true rfl) dX12_capacity_14 ?_
  exact fw_iret C hrt Y ⟨Option.some.inj h, rfl⟩ (fun t ht => ht) dX12_capacity_15
end
set_option maxRecDepth 100000 in
set_option maxHeartbeats 4000000 in
theorem c_X12_capacity {l : Launch} {N0 : Nat} {T : Nat → ClassId} {D : va_G} {gr : List (Nat × Nat)} {ad : Nat → Nat → Nat → Nat} {Y : Mem} {a1 : Int32} {res : Int32} (hG : ∀ q ∈ [(10, 0)], q ∈ gr) (h : X12_capacity Y a1 = some res) : CI l yX12_capacity wsX12_capacity (Rm 0) N0 T D gr ad Y [.ref (ad 10 0 0), .int a1] (fun r Y1 => r = res ∧ Y1 = Y) :=
  fw_body (by decide +kernel) rfl (Nat.le_of_ble_eq_true rfl) (fun p e s m below meth c C hrt => w_X12_capacity C hrt hG  h)
section
variable {p : Program} {l : Launch} {e : Env} {s : State} {m : MethodId} {below : List Frame} {meth : Method} {c : Code} {N0 : Nat} {T : Nat → ClassId} {D : va_G} {gr : List (Nat × Nat)} {ad : Nat → Nat → Nat → Nat}
set_option maxRecDepth 100000 in
set_option maxHeartbeats 4000000 in
theorem w_X12_hasPan_b26 {Y : Mem} {a1 : Int32} (C : Cx p s m [.ref (ad 10 0 0), .int a1].toArray meth c cX12_hasPan 3 wsX12_hasPan RX12 N0 T D gr ad) (hrt : meth.sig.returnType = (some .boolean)) (hG : ∀ q ∈ [(10, 0)], q ∈ gr) {res : Int32}  (h : X12_hasPan_b26 Y a1   = some res) : FW p l e (Rm 5) s m [.ref (ad 10 0 0), .int a1].toArray below meth c 3 N0 T D gr ad 0 0 (MQ below (va_Qi (fun r Y1 => r = res ∧ Y1 = Y) (WB T D gr ad) (fun q => N0 ≤ q)) [.ref (ad 10 0 0), .int a1].toArray s 0 0 (fun q => N0 ≤ q)) Y 26 [] [] := by
  unfold X12_hasPan_b26 at h
  refine fw_iconst C dX12_hasPan_26 (v := 1) rfl ?_
  refine fw_goto C dX12_hasPan_27 (tgt := 31) rfl ?_
  exact fw_zret C hrt (by decide) Y ⟨Option.some.inj h, rfl⟩ (fun t ht => ht) dX12_hasPan_31
set_option maxRecDepth 100000 in
set_option maxHeartbeats 4000000 in
theorem w_X12_hasPan {Y : Mem} {a1 : Int32} (C : Cx p s m [.ref (ad 10 0 0), .int a1].toArray meth c cX12_hasPan 3 wsX12_hasPan RX12 N0 T D gr ad) (hrt : meth.sig.returnType = (some .boolean)) (hG : ∀ q ∈ [(10, 0)], q ∈ gr) {res : Int32} (h : X12_hasPan Y a1 = some res) : FW p l e (Rm 5) s m [.ref (ad 10 0 0), .int a1].toArray below meth c 3 N0 T D gr ad 0 0 (MQ below (va_Qi (fun r Y1 => r = res ∧ Y1 = Y) (WB T D gr ad) (fun q => N0 ≤ q)) [.ref (ad 10 0 0), .int a1].toArray s 0 0 (fun q => N0 ≤ q)) Y 0 [(0, .ref (ad 10 0 0)), (1, .int a1)] [] := by
  unfold X12_hasPan at h
  refine fw_aload_n C dX12_hasPan_0 rfl 0 rfl ?_
  refine fw_iload_n C dX12_hasPan_1 rfl 1 rfl ?_
  refine fw_bipush C dX12_hasPan_2 (v := 9) rfl ?_
  obtain ⟨r1, q2, h⟩ := bd1_some h
  refine fw_callVi C (ci := 10) (Cn := RX12) (Tc := TX12) (N := 19) (As := [.int a1, .int 9]) (c_X12_of (gac (hG _ (List.mem_of_getElem? (i := 0) rfl)) ga0) q2) (cwV 2 (cx_ts C) gX12_hasPan_X12_of rfl rfl rfl (by decide +kernel) ⟨Nat.le_of_ble_eq_true rfl, Nat.le_of_ble_eq_true rfl⟩) rfl (hG _ (List.mem_of_getElem? (i := 0) rfl)) (of10_0 _) (ce10 T ad _ _) rfl (st := []) rfl (Nat.le_of_ble_eq_true rfl) ⟨Nat.le_refl 0, Nat.le_refl 0⟩ dX12_hasPan_4 (pp2 ?_)
  refine fw_istore_n C dX12_hasPan_7 rfl (by decide) (L' := [(2, .int r1), (0, .ref (ad 10 0 0)), (1, .int a1)]) rfl ?_
  refine fw_iload_n C dX12_hasPan_8 rfl 0 rfl ?_
  refine fw_iconst C dX12_hasPan_9 (v := (-1)) rfl ?_
  refine fw_icmp_eq C dX12_hasPan_10 (tgt := 26) rfl (fun c3 => ?_) (fun c3 => ?_)
  · have h := ite_t c3 h
    refine fw_sub [] (L' := []) rfl ?_
    exact w_X12_hasPan_b26 C hrt hG    h
  · have h := ite_f c3 h
    refine fw_aload_n C dX12_hasPan_13 rfl 1 rfl ?_
    refine fw_iload_n C dX12_hasPan_14 rfl 0 rfl ?_
    obtain ⟨r4, q5, h⟩ := bd1_some h
    refine fw_callVi C (ci := 10) (Cn := RX12) (Tc := TX12) (N := 19) (As := [.int r1]) (c_X12_usedPans (gac (hG _ (List.mem_of_getElem? (i := 0) rfl)) ga0) q5) (cwV 1 (cx_ts C) gX12_hasPan_X12_usedPans rfl rfl rfl (by decide +kernel) ⟨Nat.le_of_ble_eq_true rfl, Nat.le_of_ble_eq_true rfl⟩) rfl (hG _ (List.mem_of_getElem? (i := 0) rfl)) (of10_0 _) (ce10 T ad _ _) rfl (st := []) rfl (Nat.le_of_ble_eq_true rfl) ⟨Nat.le_refl 0, Nat.le_refl 0⟩ dX12_hasPan_15 (pp2 ?_)
    refine fw_aload_n C dX12_hasPan_18 rfl 1 rfl ?_
    refine fw_iload_n C dX12_hasPan_19 rfl 0 rfl ?_
    obtain ⟨r6, q7, h⟩ := bd1_some h
    refine fw_callVi C (ci := 10) (Cn := RX12) (Tc := TX12) (N := 19) (As := [.int r1]) (c_X12_capacity (gac (hG _ (List.mem_of_getElem? (i := 0) rfl)) ga0) q7) (cwV 1 (cx_ts C) gX12_hasPan_X12_capacity rfl rfl rfl (by decide +kernel) ⟨Nat.le_of_ble_eq_true rfl, Nat.le_of_ble_eq_true rfl⟩) rfl (hG _ (List.mem_of_getElem? (i := 0) rfl)) (of10_0 _) (ce10 T ad _ _) rfl (st := [.int r4]) rfl (Nat.le_of_ble_eq_true rfl) ⟨Nat.le_refl 0, Nat.le_refl 0⟩ dX12_hasPan_20 (pp2 ?_)
    refine fw_icmp_ge C dX12_hasPan_23 (tgt := 30) rfl (fun c8 => ?_) (fun c8 => ?_)
    · have h := ite_t c8 h
      refine fw_iconst C dX12_hasPan_30 (v := 0) rfl ?_
      exact fw_zret C hrt (by decide) Y ⟨Option.some.inj h, rfl⟩ (fun t ht => ht) dX12_hasPan_31
    · have h := ite_f c8 h
      refine fw_sub [] (L' := []) rfl ?_
      exact w_X12_hasPan_b26 C hrt hG    h
end
set_option maxRecDepth 100000 in
set_option maxHeartbeats 4000000 in
theorem c_X12_hasPan {l : Launch} {N0 : Nat} {T : Nat → ClassId} {D : va_G} {gr : List (Nat × Nat)} {ad : Nat → Nat → Nat → Nat} {Y : Mem} {a1 : Int32} {res : Int32} (hG : ∀ q ∈ [(10, 0)], q ∈ gr) (h : X12_hasPan Y a1 = some res) : CI l yX12_hasPan wsX12_hasPan (Rm 5) N0 T D gr ad Y [.ref (ad 10 0 0), .int a1] (fun r Y1 => r = res ∧ Y1 = Y) :=
  fw_body (by decide +kernel) rfl (Nat.le_of_ble_eq_true rfl) (fun p e s m below meth c C hrt => w_X12_hasPan C hrt hG  h)
section
variable {p : Program} {l : Launch} {e : Env} {s : State} {m : MethodId} {below : List Frame} {meth : Method} {c : Code} {N0 : Nat} {T : Nat → ClassId} {D : va_G} {gr : List (Nat × Nat)} {ad : Nat → Nat → Nat → Nat}
set_option maxRecDepth 100000 in
set_option maxHeartbeats 4000000 in
theorem w_X12_isCooked {Y : Mem} {a1 : Int32} (C : Cx p s m [.ref (ad 10 0 0), .int a1].toArray meth c cX12_isCooked 2 wsX12_isCooked RX12 N0 T D gr ad) (hrt : meth.sig.returnType = (some .boolean)) (hG : ∀ q ∈ [(10, 0)], q ∈ gr) {res : Int32} (h : X12_isCooked Y a1 = some res) : FW p l e (Rm 1) s m [.ref (ad 10 0 0), .int a1].toArray below meth c 2 N0 T D gr ad 0 0 (MQ below (va_Qi (fun r Y1 => r = res ∧ Y1 = Y) (WB T D gr ad) (fun q => N0 ≤ q)) [.ref (ad 10 0 0), .int a1].toArray s 0 0 (fun q => N0 ≤ q)) Y 0 [(0, .ref (ad 10 0 0)), (1, .int a1)] [] := by
  unfold X12_isCooked at h
  refine fw_aload_n C dX12_isCooked_0 rfl 0 rfl ?_
  refine fw_iload_n C dX12_isCooked_1 rfl 1 rfl ?_
  refine fw_bipush C dX12_isCooked_2 (v := 17) rfl ?_
  obtain ⟨r1, q2, h⟩ := bd1_some h
  refine fw_callVi C (ci := 10) (Cn := RX12) (Tc := TX12) (N := 19) (As := [.int a1, .int 17]) (c_X12_of (gac (hG _ (List.mem_of_getElem? (i := 0) rfl)) ga0) q2) (cwV 2 (cx_ts C) gX12_isCooked_X12_of rfl rfl rfl (by decide +kernel) ⟨Nat.le_of_ble_eq_true rfl, Nat.le_of_ble_eq_true rfl⟩) rfl (hG _ (List.mem_of_getElem? (i := 0) rfl)) (of10_0 _) (ce10 T ad _ _) rfl (st := []) rfl (Nat.le_of_ble_eq_true rfl) ⟨Nat.le_refl 0, Nat.le_refl 0⟩ dX12_isCooked_4 (pp2 ?_)
  refine fw_iconst C dX12_isCooked_7 (v := 1) rfl ?_
  refine fw_icmp_ne C dX12_isCooked_8 (tgt := 25) rfl (fun c3 => ?_) (fun c3 => ?_)
  · have h := ite_f c3 h
    refine fw_iconst C dX12_isCooked_25 (v := 0) rfl ?_
    exact fw_zret C hrt (by decide) Y ⟨Option.some.inj h, rfl⟩ (fun t ht => ht) dX12_isCooked_26
  · have h := ite_t c3 h
    refine fw_aload_n C dX12_isCooked_11 rfl 0 rfl ?_
    refine fw_iload_n C dX12_isCooked_12 rfl 1 rfl ?_
    refine fw_bipush C dX12_isCooked_13 (v := 11) rfl ?_
    obtain ⟨r4, q5, h⟩ := bd1_some h
    refine fw_callVi C (ci := 10) (Cn := RX12) (Tc := TX12) (N := 19) (As := [.int a1, .int 11]) (c_X12_of (gac (hG _ (List.mem_of_getElem? (i := 0) rfl)) ga0) q5) (cwV 2 (cx_ts C) gX12_isCooked_X12_of rfl rfl rfl (by decide +kernel) ⟨Nat.le_of_ble_eq_true rfl, Nat.le_of_ble_eq_true rfl⟩) rfl (hG _ (List.mem_of_getElem? (i := 0) rfl)) (of10_0 _) (ce10 T ad _ _) rfl (st := []) rfl (Nat.le_of_ble_eq_true rfl) ⟨Nat.le_refl 0, Nat.le_refl 0⟩ dX12_isCooked_15 (pp2 ?_)
    refine fw_if_ne C dX12_isCooked_18 (tgt := 25) rfl (fun c6 => ?_) (fun c6 => ?_)
    · have h := ite_f c6 h
      refine fw_iconst C dX12_isCooked_25 (v := 0) rfl ?_
      exact fw_zret C hrt (by decide) Y ⟨Option.some.inj h, rfl⟩ (fun t ht => ht) dX12_isCooked_26
    · have h := ite_t c6 h
      refine fw_iconst C dX12_isCooked_21 (v := 1) rfl ?_
      refine fw_goto C dX12_isCooked_22 (tgt := 26) rfl ?_
      exact fw_zret C hrt (by decide) Y ⟨Option.some.inj h, rfl⟩ (fun t ht => ht) dX12_isCooked_26
end
set_option maxRecDepth 100000 in
set_option maxHeartbeats 4000000 in
theorem c_X12_isCooked {l : Launch} {N0 : Nat} {T : Nat → ClassId} {D : va_G} {gr : List (Nat × Nat)} {ad : Nat → Nat → Nat → Nat} {Y : Mem} {a1 : Int32} {res : Int32} (hG : ∀ q ∈ [(10, 0)], q ∈ gr) (h : X12_isCooked Y a1 = some res) : CI l yX12_isCooked wsX12_isCooked (Rm 1) N0 T D gr ad Y [.ref (ad 10 0 0), .int a1] (fun r Y1 => r = res ∧ Y1 = Y) :=
  fw_body (by decide +kernel) rfl (Nat.le_of_ble_eq_true rfl) (fun p e s m below meth c C hrt => w_X12_isCooked C hrt hG  h)
theorem ly_X12_hasCook_12 : ∀ w ∈ u_ws RX12 TX12 19, w ∈ wsX12_hasCook := by decide +kernel
theorem fl_X12_hasCook_13 : Cond.fieldLink RX12 13 "RecipeSchedulerModel" "m" "[I" ∈ wsX12_hasCook := by decide +kernel
section
variable {p : Program} {l : Launch} {e : Env} {s : State} {m : MethodId} {below : List Frame} {meth : Method} {c : Code} {N0 : Nat} {T : Nat → ClassId} {D : va_G} {gr : List (Nat × Nat)} {ad : Nat → Nat → Nat → Nat}
set_option maxRecDepth 100000 in
set_option maxHeartbeats 4000000 in
theorem w_X12_hasCook_b58 {Y : Mem} {a1 : Int32} (C : Cx p s m [.ref (ad 10 0 0), .int a1].toArray meth c cX12_hasCook 4 wsX12_hasCook RX12 N0 T D gr ad) (hrt : meth.sig.returnType = (some .boolean)) (hG : ∀ q ∈ [(10, 0)], q ∈ gr) {res : Int32}  (h : X12_hasCook_b58 Y a1   = some res) : FW p l e (Rm 2) s m [.ref (ad 10 0 0), .int a1].toArray below meth c 4 N0 T D gr ad 0 0 (MQ below (va_Qi (fun r Y1 => r = res ∧ Y1 = Y) (WB T D gr ad) (fun q => N0 ≤ q)) [.ref (ad 10 0 0), .int a1].toArray s 0 0 (fun q => N0 ≤ q)) Y 58 [] [] := by
  unfold X12_hasCook_b58 at h
  refine fw_iconst C dX12_hasCook_58 (v := 1) rfl ?_
  refine fw_goto C dX12_hasCook_59 (tgt := 63) rfl ?_
  exact fw_zret C hrt (by decide) Y ⟨Option.some.inj h, rfl⟩ (fun t ht => ht) dX12_hasCook_63
set_option maxRecDepth 100000 in
set_option maxHeartbeats 4000000 in
theorem w_X12_hasCook_b29 {Y : Mem} {a1 : Int32} (C : Cx p s m [.ref (ad 10 0 0), .int a1].toArray meth c cX12_hasCook 4 wsX12_hasCook RX12 N0 T D gr ad) (hrt : meth.sig.returnType = (some .boolean)) (hG : ∀ q ∈ [(10, 0)], q ∈ gr) {res : Int32} {k4 : Int32 → Int32 → Option (Int32)} (hk4 : ∀ (l3 : Int32) (l2 : Int32), k4 l3 l2 = some res → FW p l e (Rm 2) s m [.ref (ad 10 0 0), .int a1].toArray below meth c 4 N0 T D gr ad 0 0 (MQ below (va_Qi (fun r Y1 => r = res ∧ Y1 = Y) (WB T D gr ad) (fun q => N0 ≤ q)) [.ref (ad 10 0 0), .int a1].toArray s 0 0 (fun q => N0 ≤ q)) Y 4 [(3, .int l3), (2, .int l2), (0, .ref (ad 10 0 0)), (1, .int a1)] []) (l3 : Int32) (s0 : Int32) (s1 : Int32) (h : X12_hasCook_b29 Y a1 k4 l3 s0 s1 = some res) : FW p l e (Rm 2) s m [.ref (ad 10 0 0), .int a1].toArray below meth c 4 N0 T D gr ad 0 0 (MQ below (va_Qi (fun r Y1 => r = res ∧ Y1 = Y) (WB T D gr ad) (fun q => N0 ≤ q)) [.ref (ad 10 0 0), .int a1].toArray s 0 0 (fun q => N0 ≤ q)) Y 29 [(3, .int l3), (0, .ref (ad 10 0 0)), (1, .int a1)] [.int s0, .int s1] := by
  unfold X12_hasCook_b29 at h
  refine fw_iadd C dX12_hasCook_29 ?_
  obtain ⟨v11, e12, h⟩ := lt_some h
  refine fw_top (v' := .int v11) (by rw [e12]) ?_
  refine fw_istore_n C dX12_hasCook_30 rfl (by decide) (L' := [(2, .int v11), (3, .int l3), (0, .ref (ad 10 0 0)), (1, .int a1)]) rfl ?_
  refine fw_iinc C dX12_hasCook_31 (kk := 1) (v := l3 + 1) rfl rfl (by decide) (L' := [(3, .int (l3 + 1)), (2, .int v11), (0, .ref (ad 10 0 0)), (1, .int a1)]) rfl ?_
  refine fw_goto C dX12_hasCook_34 (tgt := 4) rfl ?_
  exact hk4 _ _ h
set_option maxRecDepth 100000 in
set_option maxHeartbeats 4000000 in
theorem w_X12_hasCook_b4 {Y : Mem} {a1 : Int32} (C : Cx p s m [.ref (ad 10 0 0), .int a1].toArray meth c cX12_hasCook 4 wsX12_hasCook RX12 N0 T D gr ad) (hrt : meth.sig.returnType = (some .boolean)) (hG : ∀ q ∈ [(10, 0)], q ∈ gr) {res : Int32} : ∀ (n : Nat) (l3 : Int32) (l2 : Int32), X12_hasCook_b4 Y a1  n l3 l2 = some res → FW p l e (Rm 2) s m [.ref (ad 10 0 0), .int a1].toArray below meth c 4 N0 T D gr ad 0 0 (MQ below (va_Qi (fun r Y1 => r = res ∧ Y1 = Y) (WB T D gr ad) (fun q => N0 ≤ q)) [.ref (ad 10 0 0), .int a1].toArray s 0 0 (fun q => N0 ≤ q)) Y 4 [(3, .int l3), (2, .int l2), (0, .ref (ad 10 0 0)), (1, .int a1)] [] := by
  intro n
  induction n with
  | zero =>
    intro l3 l2 h
    unfold X12_hasCook_b4 at h
    cases h
  | succ n ih =>
    intro l3 l2 h
    unfold X12_hasCook_b4 at h
    refine fw_iload_n C dX12_hasCook_4 rfl 0 rfl ?_
    refine fw_aload_n C dX12_hasCook_5 rfl 2 rfl ?_
    refine fw_get C (ci := 10) (Cn := RX12) (Tc := TX12) (N := 19) (j := 0) ly_X12_hasCook_12 rfl (hG _ (List.mem_of_getElem? (i := 0) rfl)) (of10_0 _) (ce10 T ad _ _) (by decide) (cx_ts C _ fl_X12_hasCook_13) (fun _ h => h) (v := .ref (ad 10 0 1)) rfl dX12_hasCook_6 ?_
    refine fw_bipush C dX12_hasCook_9 (v := 13) rfl ?_
    obtain ⟨b1, h⟩ := gd_some h
    refine fw_iald2 C (hG _ (List.mem_of_getElem? (i := 0) rfl)) (of10_1 _) (ca10_1 T ad _ _) b1 (Nat.le_of_ble_eq_true rfl) dX12_hasCook_11 ?_
    refine fw_icmp_ge C dX12_hasCook_12 (tgt := 37) rfl (fun c2 => ?_) (fun c2 => ?_)
    · have h := ite_t c2 h
      refine fw_aload_n C dX12_hasCook_37 rfl 2 rfl ?_
      refine fw_iload_n C dX12_hasCook_38 rfl 3 rfl ?_
      refine fw_bipush C dX12_hasCook_39 (v := 11) rfl ?_
      obtain ⟨r3, q4, h⟩ := bd1_some h
      refine fw_callVi C (ci := 10) (Cn := RX12) (Tc := TX12) (N := 19) (As := [.int a1, .int 11]) (c_X12_of (gac (hG _ (List.mem_of_getElem? (i := 0) rfl)) ga0) q4) (cwV 2 (cx_ts C) gX12_hasCook_X12_of rfl rfl rfl (by decide +kernel) ⟨Nat.le_of_ble_eq_true rfl, Nat.le_of_ble_eq_true rfl⟩) rfl (hG _ (List.mem_of_getElem? (i := 0) rfl)) (of10_0 _) (ce10 T ad _ _) rfl (st := []) rfl (Nat.le_of_ble_eq_true rfl) ⟨Nat.le_refl 0, Nat.le_refl 0⟩ dX12_hasCook_41 (pp2 ?_)
      refine fw_iconst C dX12_hasCook_44 (v := 1) rfl ?_
      refine fw_icmp_eq C dX12_hasCook_45 (tgt := 58) rfl (fun c5 => ?_) (fun c5 => ?_)
      · have h := ite_t c5 h
        refine fw_sub [] (L' := []) rfl ?_
        exact w_X12_hasCook_b58 C hrt hG    h
      · have h := ite_f c5 h
        refine fw_iload_n C dX12_hasCook_48 rfl 1 rfl ?_
        refine fw_aload_n C dX12_hasCook_49 rfl 2 rfl ?_
        refine fw_get C (ci := 10) (Cn := RX12) (Tc := TX12) (N := 19) (j := 0) ly_X12_hasCook_12 rfl (hG _ (List.mem_of_getElem? (i := 0) rfl)) (of10_0 _) (ce10 T ad _ _) (by decide) (cx_ts C _ fl_X12_hasCook_13) (fun _ h => h) (v := .ref (ad 10 0 1)) rfl dX12_hasCook_50 ?_
        refine fw_iconst C dX12_hasCook_53 (v := 0) rfl ?_
        obtain ⟨b6, h⟩ := gd_some h
        refine fw_iald2 C (hG _ (List.mem_of_getElem? (i := 0) rfl)) (of10_1 _) (ca10_1 T ad _ _) b6 (Nat.le_of_ble_eq_true rfl) dX12_hasCook_54 ?_
        refine fw_icmp_ge C dX12_hasCook_55 (tgt := 62) rfl (fun c7 => ?_) (fun c7 => ?_)
        · have h := ite_t c7 h
          refine fw_iconst C dX12_hasCook_62 (v := 0) rfl ?_
          exact fw_zret C hrt (by decide) Y ⟨Option.some.inj h, rfl⟩ (fun t ht => ht) dX12_hasCook_63
        · have h := ite_f c7 h
          refine fw_sub [] (L' := []) rfl ?_
          exact w_X12_hasCook_b58 C hrt hG    h
    · have h := ite_f c2 h
      refine fw_iload_n C dX12_hasCook_15 rfl 1 rfl ?_
      refine fw_aload_n C dX12_hasCook_16 rfl 2 rfl ?_
      refine fw_iload_n C dX12_hasCook_17 rfl 0 rfl ?_
      obtain ⟨r8, q9, h⟩ := bd1_some h
      refine fw_callVi C (ci := 10) (Cn := RX12) (Tc := TX12) (N := 19) (As := [.int l3]) (c_X12_isCooked (gac (hG _ (List.mem_of_getElem? (i := 0) rfl)) ga0) q9) (cwV 1 (cx_ts C) gX12_hasCook_X12_isCooked rfl rfl rfl (by decide +kernel) ⟨Nat.le_of_ble_eq_true rfl, Nat.le_of_ble_eq_true rfl⟩) rfl (hG _ (List.mem_of_getElem? (i := 0) rfl)) (of10_0 _) (ce10 T ad _ _) rfl (st := [.int l2]) rfl (Nat.le_of_ble_eq_true rfl) ⟨Nat.le_refl 0, Nat.le_refl 0⟩ dX12_hasCook_18 (pp2 ?_)
      refine fw_if_eq C dX12_hasCook_21 (tgt := 28) rfl (fun c10 => ?_) (fun c10 => ?_)
      · have h := ite_t c10 h
        refine fw_iconst C dX12_hasCook_28 (v := 0) rfl ?_
        refine fw_sub [0, 2, 3] (L' := [(3, .int l3), (0, .ref (ad 10 0 0)), (1, .int a1)]) rfl ?_
        exact w_X12_hasCook_b29 C hrt hG  ih _ _ _ h
      · have h := ite_f c10 h
        refine fw_iconst C dX12_hasCook_24 (v := 1) rfl ?_
        refine fw_goto C dX12_hasCook_25 (tgt := 29) rfl ?_
        refine fw_sub [0, 2, 3] (L' := [(3, .int l3), (0, .ref (ad 10 0 0)), (1, .int a1)]) rfl ?_
        exact w_X12_hasCook_b29 C hrt hG  ih _ _ _ h
set_option maxRecDepth 100000 in
set_option maxHeartbeats 4000000 in
theorem w_X12_hasCook {Y : Mem} {a1 : Int32} (C : Cx p s m [.ref (ad 10 0 0), .int a1].toArray meth c cX12_hasCook 4 wsX12_hasCook RX12 N0 T D gr ad) (hrt : meth.sig.returnType = (some .boolean)) (hG : ∀ q ∈ [(10, 0)], q ∈ gr) {res : Int32} (h : X12_hasCook Y a1 = some res) : FW p l e (Rm 2) s m [.ref (ad 10 0 0), .int a1].toArray below meth c 4 N0 T D gr ad 0 0 (MQ below (va_Qi (fun r Y1 => r = res ∧ Y1 = Y) (WB T D gr ad) (fun q => N0 ≤ q)) [.ref (ad 10 0 0), .int a1].toArray s 0 0 (fun q => N0 ≤ q)) Y 0 [(0, .ref (ad 10 0 0)), (1, .int a1)] [] := by
  unfold X12_hasCook at h
  refine fw_iconst C dX12_hasCook_0 (v := 0) rfl ?_
  refine fw_istore_n C dX12_hasCook_1 rfl (by decide) (L' := [(2, .int 0), (0, .ref (ad 10 0 0)), (1, .int a1)]) rfl ?_
  refine fw_iconst C dX12_hasCook_2 (v := 0) rfl ?_
  refine fw_istore_n C dX12_hasCook_3 rfl (by decide) (L' := [(3, .int 0), (2, .int 0), (0, .ref (ad 10 0 0)), (1, .int a1)]) rfl ?_
  exact w_X12_hasCook_b4 C hrt hG   _ _ _ h
end
set_option maxRecDepth 100000 in
set_option maxHeartbeats 4000000 in
theorem c_X12_hasCook {l : Launch} {N0 : Nat} {T : Nat → ClassId} {D : va_G} {gr : List (Nat × Nat)} {ad : Nat → Nat → Nat → Nat} {Y : Mem} {a1 : Int32} {res : Int32} (hG : ∀ q ∈ [(10, 0)], q ∈ gr) (h : X12_hasCook Y a1 = some res) : CI l yX12_hasCook wsX12_hasCook (Rm 2) N0 T D gr ad Y [.ref (ad 10 0 0), .int a1] (fun r Y1 => r = res ∧ Y1 = Y) :=
  fw_body (by decide +kernel) rfl (Nat.le_of_ble_eq_true rfl) (fun p e s m below meth c C hrt => w_X12_hasCook C hrt hG  h)
section
variable {p : Program} {l : Launch} {e : Env} {s : State} {m : MethodId} {below : List Frame} {meth : Method} {c : Code} {N0 : Nat} {T : Nat → ClassId} {D : va_G} {gr : List (Nat × Nat)} {ad : Nat → Nat → Nat → Nat}
set_option maxRecDepth 100000 in
set_option maxHeartbeats 4000000 in
theorem w_X12_reasonFor {Y : Mem} {a1 : Int32} (C : Cx p s m [.ref (ad 10 0 0), .int a1].toArray meth c cX12_reasonFor 2 wsX12_reasonFor RX12 N0 T D gr ad) (hrt : meth.sig.returnType = (some .int)) (hG : ∀ q ∈ [(10, 0)], q ∈ gr) {res : Int32} (h : X12_reasonFor Y a1 = some res) : FW p l e (Rm 6) s m [.ref (ad 10 0 0), .int a1].toArray below meth c 2 N0 T D gr ad 0 0 (MQ below (va_Qi (fun r Y1 => r = res ∧ Y1 = Y) (WB T D gr ad) (fun q => N0 ≤ q)) [.ref (ad 10 0 0), .int a1].toArray s 0 0 (fun q => N0 ≤ q)) Y 0 [(0, .ref (ad 10 0 0)), (1, .int a1)] [] := by
  unfold X12_reasonFor at h
  refine fw_aload_n C dX12_reasonFor_0 rfl 0 rfl ?_
  refine fw_iload_n C dX12_reasonFor_1 rfl 1 rfl ?_
  refine fw_bipush C dX12_reasonFor_2 (v := 17) rfl ?_
  obtain ⟨r1, q2, h⟩ := bd1_some h
  refine fw_callVi C (ci := 10) (Cn := RX12) (Tc := TX12) (N := 19) (As := [.int a1, .int 17]) (c_X12_of (gac (hG _ (List.mem_of_getElem? (i := 0) rfl)) ga0) q2) (cwV 2 (cx_ts C) gX12_reasonFor_X12_of rfl rfl rfl (by decide +kernel) ⟨Nat.le_of_ble_eq_true rfl, Nat.le_of_ble_eq_true rfl⟩) rfl (hG _ (List.mem_of_getElem? (i := 0) rfl)) (of10_0 _) (ce10 T ad _ _) rfl (st := []) rfl (Nat.le_of_ble_eq_true rfl) ⟨Nat.le_refl 0, Nat.le_refl 0⟩ dX12_reasonFor_4 (pp2 ?_)
  refine fw_iconst C dX12_reasonFor_7 (v := 1) rfl ?_
  refine fw_icmp_ne C dX12_reasonFor_8 (tgt := 13) rfl (fun c3 => ?_) (fun c3 => ?_)
  · have h := ite_f c3 h
    refine fw_aload_n C dX12_reasonFor_13 rfl 0 rfl ?_
    refine fw_iload_n C dX12_reasonFor_14 rfl 1 rfl ?_
    refine fw_bipush C dX12_reasonFor_15 (v := 17) rfl ?_
    obtain ⟨r4, q5, h⟩ := bd1_some h
    refine fw_callVi C (ci := 10) (Cn := RX12) (Tc := TX12) (N := 19) (As := [.int a1, .int 17]) (c_X12_of (gac (hG _ (List.mem_of_getElem? (i := 0) rfl)) ga0) q5) (cwV 2 (cx_ts C) gX12_reasonFor_X12_of rfl rfl rfl (by decide +kernel) ⟨Nat.le_of_ble_eq_true rfl, Nat.le_of_ble_eq_true rfl⟩) rfl (hG _ (List.mem_of_getElem? (i := 0) rfl)) (of10_0 _) (ce10 T ad _ _) rfl (st := []) rfl (Nat.le_of_ble_eq_true rfl) ⟨Nat.le_refl 0, Nat.le_refl 0⟩ dX12_reasonFor_17 (pp2 ?_)
    refine fw_iconst C dX12_reasonFor_20 (v := 2) rfl ?_
    refine fw_icmp_ne C dX12_reasonFor_21 (tgt := 26) rfl (fun c6 => ?_) (fun c6 => ?_)
    · have h := ite_f c6 h
      refine fw_aload_n C dX12_reasonFor_26 rfl 0 rfl ?_
      refine fw_iload_n C dX12_reasonFor_27 rfl 1 rfl ?_
      obtain ⟨r7, q8, h⟩ := bd1_some h
      refine fw_callVi C (ci := 10) (Cn := RX12) (Tc := TX12) (N := 19) (As := [.int a1]) (c_X12_firstOpen (gac (hG _ (List.mem_of_getElem? (i := 0) rfl)) ga0) q8) (cwV 1 (cx_ts C) gX12_reasonFor_X12_firstOpen rfl rfl rfl (by decide +kernel) ⟨Nat.le_of_ble_eq_true rfl, Nat.le_of_ble_eq_true rfl⟩) rfl (hG _ (List.mem_of_getElem? (i := 0) rfl)) (of10_0 _) (ce10 T ad _ _) rfl (st := []) rfl (Nat.le_of_ble_eq_true rfl) ⟨Nat.le_refl 0, Nat.le_refl 0⟩ dX12_reasonFor_28 (pp2 ?_)
      refine fw_iconst C dX12_reasonFor_31 (v := (-1)) rfl ?_
      refine fw_icmp_eq C dX12_reasonFor_32 (tgt := 37) rfl (fun c9 => ?_) (fun c9 => ?_)
      · have h := ite_t c9 h
        refine fw_aload_n C dX12_reasonFor_37 rfl 0 rfl ?_
        refine fw_iload_n C dX12_reasonFor_38 rfl 1 rfl ?_
        obtain ⟨r10, q11, h⟩ := bd1_some h
        refine fw_callVi C (ci := 10) (Cn := RX12) (Tc := TX12) (N := 19) (As := [.int a1]) (c_X12_hasPan (gac (hG _ (List.mem_of_getElem? (i := 0) rfl)) ga0) q11) (cwV 1 (cx_ts C) gX12_reasonFor_X12_hasPan rfl rfl rfl (by decide +kernel) ⟨Nat.le_of_ble_eq_true rfl, Nat.le_of_ble_eq_true rfl⟩) rfl (hG _ (List.mem_of_getElem? (i := 0) rfl)) (of10_0 _) (ce10 T ad _ _) rfl (st := []) rfl (Nat.le_of_ble_eq_true rfl) ⟨Nat.le_refl 0, Nat.le_refl 0⟩ dX12_reasonFor_39 (pp2 ?_)
        refine fw_if_ne C dX12_reasonFor_42 (tgt := 47) rfl (fun c12 => ?_) (fun c12 => ?_)
        · have h := ite_f c12 h
          refine fw_aload_n C dX12_reasonFor_47 rfl 0 rfl ?_
          refine fw_iload_n C dX12_reasonFor_48 rfl 1 rfl ?_
          obtain ⟨r13, q14, h⟩ := bd1_some h
          refine fw_callVi C (ci := 10) (Cn := RX12) (Tc := TX12) (N := 19) (As := [.int a1]) (c_X12_hasCook (gac (hG _ (List.mem_of_getElem? (i := 0) rfl)) ga0) q14) (cwV 1 (cx_ts C) gX12_reasonFor_X12_hasCook rfl rfl rfl (by decide +kernel) ⟨Nat.le_of_ble_eq_true rfl, Nat.le_of_ble_eq_true rfl⟩) rfl (hG _ (List.mem_of_getElem? (i := 0) rfl)) (of10_0 _) (ce10 T ad _ _) rfl (st := []) rfl (Nat.le_of_ble_eq_true rfl) ⟨Nat.le_refl 0, Nat.le_refl 0⟩ dX12_reasonFor_49 (pp2 ?_)
          refine fw_if_eq C dX12_reasonFor_52 (tgt := 59) rfl (fun c15 => ?_) (fun c15 => ?_)
          · have h := ite_t c15 h
            refine fw_iconst C dX12_reasonFor_59 (v := 4) rfl ?_
            exact fw_iret C hrt Y ⟨Option.some.inj h, rfl⟩ (fun t ht => ht) dX12_reasonFor_60
          · have h := ite_f c15 h
            refine fw_iconst C dX12_reasonFor_55 (v := 5) rfl ?_
            refine fw_goto C dX12_reasonFor_56 (tgt := 60) rfl ?_
            exact fw_iret C hrt Y ⟨Option.some.inj h, rfl⟩ (fun t ht => ht) dX12_reasonFor_60
        · have h := ite_t c12 h
          refine fw_iconst C dX12_reasonFor_45 (v := 3) rfl ?_
          exact fw_iret C hrt Y ⟨Option.some.inj h, rfl⟩ (fun t ht => ht) dX12_reasonFor_46
      · have h := ite_f c9 h
        refine fw_iconst C dX12_reasonFor_35 (v := 2) rfl ?_
        exact fw_iret C hrt Y ⟨Option.some.inj h, rfl⟩ (fun t ht => ht) dX12_reasonFor_36
    · have h := ite_t c6 h
      refine fw_iconst C dX12_reasonFor_24 (v := 1) rfl ?_
      exact fw_iret C hrt Y ⟨Option.some.inj h, rfl⟩ (fun t ht => ht) dX12_reasonFor_25
  · have h := ite_t c3 h
    refine fw_iconst C dX12_reasonFor_11 (v := 0) rfl ?_
    exact fw_iret C hrt Y ⟨Option.some.inj h, rfl⟩ (fun t ht => ht) dX12_reasonFor_12
end
set_option maxRecDepth 100000 in
set_option maxHeartbeats 4000000 in
theorem c_X12_reasonFor {l : Launch} {N0 : Nat} {T : Nat → ClassId} {D : va_G} {gr : List (Nat × Nat)} {ad : Nat → Nat → Nat → Nat} {Y : Mem} {a1 : Int32} {res : Int32} (hG : ∀ q ∈ [(10, 0)], q ∈ gr) (h : X12_reasonFor Y a1 = some res) : CI l yX12_reasonFor wsX12_reasonFor (Rm 6) N0 T D gr ad Y [.ref (ad 10 0 0), .int a1] (fun r Y1 => r = res ∧ Y1 = Y) :=
  fw_body (by decide +kernel) rfl (Nat.le_of_ble_eq_true rfl) (fun p e s m below meth c C hrt => w_X12_reasonFor C hrt hG  h)
theorem ly_X12_blocker_12 : ∀ w ∈ u_ws RX12 TX12 19, w ∈ wsX12_blocker := by decide +kernel
theorem fl_X12_blocker_13 : Cond.fieldLink RX12 13 "RecipeSchedulerModel" "m" "[I" ∈ wsX12_blocker := by decide +kernel
section
variable {p : Program} {l : Launch} {e : Env} {s : State} {m : MethodId} {below : List Frame} {meth : Method} {c : Code} {N0 : Nat} {T : Nat → ClassId} {D : va_G} {gr : List (Nat × Nat)} {ad : Nat → Nat → Nat → Nat}
set_option maxRecDepth 100000 in
set_option maxHeartbeats 4000000 in
theorem w_X12_blocker_b65 {Y : Mem} {a1 : Int32} (C : Cx p s m [.ref (ad 10 0 0), .int a1].toArray meth c cX12_blocker 4 wsX12_blocker RX12 N0 T D gr ad) (hrt : meth.sig.returnType = (some .int)) (hG : ∀ q ∈ [(10, 0)], q ∈ gr) {res : Int32} {k19 : Int32 → Int32 → Option (Int32)} (hk19 : ∀ (l3 : Int32) (l2 : Int32), k19 l3 l2 = some res → FW p l e (Rm 7) s m [.ref (ad 10 0 0), .int a1].toArray below meth c 4 N0 T D gr ad 0 0 (MQ below (va_Qi (fun r Y1 => r = res ∧ Y1 = Y) (WB T D gr ad) (fun q => N0 ≤ q)) [.ref (ad 10 0 0), .int a1].toArray s 0 0 (fun q => N0 ≤ q)) Y 19 [(3, .int l3), (2, .int l2), (0, .ref (ad 10 0 0)), (1, .int a1)] []) (l3 : Int32) (l2 : Int32) (h : X12_blocker_b65 Y a1 k19 l3 l2 = some res) : FW p l e (Rm 7) s m [.ref (ad 10 0 0), .int a1].toArray below meth c 4 N0 T D gr ad 0 0 (MQ below (va_Qi (fun r Y1 => r = res ∧ Y1 = Y) (WB T D gr ad) (fun q => N0 ≤ q)) [.ref (ad 10 0 0), .int a1].toArray s 0 0 (fun q => N0 ≤ q)) Y 65 [(3, .int l3), (2, .int l2), (0, .ref (ad 10 0 0)), (1, .int a1)] [] := by
  unfold X12_blocker_b65 at h
  refine fw_iinc C dX12_blocker_65 (kk := 0) (v := l3 + 1) rfl rfl (by decide) (L' := [(3, .int (l3 + 1)), (2, .int l2), (0, .ref (ad 10 0 0)), (1, .int a1)]) rfl ?_
  refine fw_goto C dX12_blocker_68 (tgt := 19) rfl ?_
  exact hk19 _ _ h
set_option maxRecDepth 100000 in
set_option maxHeartbeats 4000000 in
theorem w_X12_blocker_b50 {Y : Mem} {a1 : Int32} (C : Cx p s m [.ref (ad 10 0 0), .int a1].toArray meth c cX12_blocker 4 wsX12_blocker RX12 N0 T D gr ad) (hrt : meth.sig.returnType = (some .int)) (hG : ∀ q ∈ [(10, 0)], q ∈ gr) {res : Int32} {k19 : Int32 → Int32 → Option (Int32)} (hk19 : ∀ (l3 : Int32) (l2 : Int32), k19 l3 l2 = some res → FW p l e (Rm 7) s m [.ref (ad 10 0 0), .int a1].toArray below meth c 4 N0 T D gr ad 0 0 (MQ below (va_Qi (fun r Y1 => r = res ∧ Y1 = Y) (WB T D gr ad) (fun q => N0 ≤ q)) [.ref (ad 10 0 0), .int a1].toArray s 0 0 (fun q => N0 ≤ q)) Y 19 [(3, .int l3), (2, .int l2), (0, .ref (ad 10 0 0)), (1, .int a1)] []) (l3 : Int32) (l2 : Int32) (h : X12_blocker_b50 Y a1 k19 l3 l2 = some res) : FW p l e (Rm 7) s m [.ref (ad 10 0 0), .int a1].toArray below meth c 4 N0 T D gr ad 0 0 (MQ below (va_Qi (fun r Y1 => r = res ∧ Y1 = Y) (WB T D gr ad) (fun q => N0 ≤ q)) [.ref (ad 10 0 0), .int a1].toArray s 0 0 (fun q => N0 ≤ q)) Y 50 [(3, .int l3), (2, .int l2), (0, .ref (ad 10 0 0)), (1, .int a1)] [] := by
  unfold X12_blocker_b50 at h
  refine fw_iload_n C dX12_blocker_50 rfl 1 rfl ?_
  refine fw_iconst C dX12_blocker_51 (v := 4) rfl ?_
  refine fw_icmp_ne C dX12_blocker_52 (tgt := 65) rfl (fun c7 => ?_) (fun c7 => ?_)
  · have h := ite_f c7 h
    exact w_X12_blocker_b65 C hrt hG  hk19 _ _ h
  · have h := ite_t c7 h
    refine fw_aload_n C dX12_blocker_55 rfl 2 rfl ?_
    refine fw_iload_n C dX12_blocker_56 rfl 0 rfl ?_
    obtain ⟨r8, q9, h⟩ := bd1_some h
    refine fw_callVi C (ci := 10) (Cn := RX12) (Tc := TX12) (N := 19) (As := [.int l3]) (c_X12_isCooked (gac (hG _ (List.mem_of_getElem? (i := 0) rfl)) ga0) q9) (cwV 1 (cx_ts C) gX12_blocker_X12_isCooked rfl rfl rfl (by decide +kernel) ⟨Nat.le_of_ble_eq_true rfl, Nat.le_of_ble_eq_true rfl⟩) rfl (hG _ (List.mem_of_getElem? (i := 0) rfl)) (of10_0 _) (ce10 T ad _ _) rfl (st := []) rfl (Nat.le_of_ble_eq_true rfl) ⟨Nat.le_refl 0, Nat.le_refl 0⟩ dX12_blocker_57 (pp2 ?_)
    refine fw_if_eq C dX12_blocker_60 (tgt := 65) rfl (fun c10 => ?_) (fun c10 => ?_)
    · have h := ite_t c10 h
      exact w_X12_blocker_b65 C hrt hG  hk19 _ _ h
    · have h := ite_f c10 h
      refine fw_iload_n C dX12_blocker_63 rfl 0 rfl ?_
      exact fw_iret C hrt Y ⟨Option.some.inj h, rfl⟩ (fun t ht => ht) dX12_blocker_64
set_option maxRecDepth 100000 in
set_option maxHeartbeats 4000000 in
theorem w_X12_blocker_b19 {Y : Mem} {a1 : Int32} (C : Cx p s m [.ref (ad 10 0 0), .int a1].toArray meth c cX12_blocker 4 wsX12_blocker RX12 N0 T D gr ad) (hrt : meth.sig.returnType = (some .int)) (hG : ∀ q ∈ [(10, 0)], q ∈ gr) {res : Int32} : ∀ (n : Nat) (l3 : Int32) (l2 : Int32), X12_blocker_b19 Y a1  n l3 l2 = some res → FW p l e (Rm 7) s m [.ref (ad 10 0 0), .int a1].toArray below meth c 4 N0 T D gr ad 0 0 (MQ below (va_Qi (fun r Y1 => r = res ∧ Y1 = Y) (WB T D gr ad) (fun q => N0 ≤ q)) [.ref (ad 10 0 0), .int a1].toArray s 0 0 (fun q => N0 ≤ q)) Y 19 [(3, .int l3), (2, .int l2), (0, .ref (ad 10 0 0)), (1, .int a1)] [] := by
  intro n
  induction n with
  | zero =>
    intro l3 l2 h
    unfold X12_blocker_b19 at h
    cases h
  | succ n ih =>
    intro l3 l2 h
    unfold X12_blocker_b19 at h
    refine fw_iload_n C dX12_blocker_19 rfl 0 rfl ?_
    refine fw_aload_n C dX12_blocker_20 rfl 2 rfl ?_
    refine fw_get C (ci := 10) (Cn := RX12) (Tc := TX12) (N := 19) (j := 0) ly_X12_blocker_12 rfl (hG _ (List.mem_of_getElem? (i := 0) rfl)) (of10_0 _) (ce10 T ad _ _) (by decide) (cx_ts C _ fl_X12_blocker_13) (fun _ h => h) (v := .ref (ad 10 0 1)) rfl dX12_blocker_21 ?_
    refine fw_bipush C dX12_blocker_24 (v := 13) rfl ?_
    obtain ⟨b4, h⟩ := gd_some h
    refine fw_iald2 C (hG _ (List.mem_of_getElem? (i := 0) rfl)) (of10_1 _) (ca10_1 T ad _ _) b4 (Nat.le_of_ble_eq_true rfl) dX12_blocker_26 ?_
    refine fw_icmp_ge C dX12_blocker_27 (tgt := 71) rfl (fun c5 => ?_) (fun c5 => ?_)
    · have h := ite_t c5 h
      refine fw_iconst C dX12_blocker_71 (v := (-1)) rfl ?_
      exact fw_iret C hrt Y ⟨Option.some.inj h, rfl⟩ (fun t ht => ht) dX12_blocker_72
    · have h := ite_f c5 h
      refine fw_iload_n C dX12_blocker_30 rfl 1 rfl ?_
      refine fw_iconst C dX12_blocker_31 (v := 3) rfl ?_
      refine fw_icmp_ne C dX12_blocker_32 (tgt := 50) rfl (fun c6 => ?_) (fun c6 => ?_)
      · have h := ite_f c6 h
        exact w_X12_blocker_b50 C hrt hG  ih _ _ h
      · have h := ite_t c6 h
        refine fw_aload_n C dX12_blocker_35 rfl 2 rfl ?_
        refine fw_iload_n C dX12_blocker_36 rfl 0 rfl ?_
        refine fw_aload_n C dX12_blocker_37 rfl 2 rfl ?_
        refine fw_iload_n C dX12_blocker_38 rfl 3 rfl ?_
        refine fw_bipush C dX12_blocker_39 (v := 9) rfl ?_
        obtain ⟨r11, q12, h⟩ := bd1_some h
        refine fw_callVi C (ci := 10) (Cn := RX12) (Tc := TX12) (N := 19) (As := [.int a1, .int 9]) (c_X12_of (gac (hG _ (List.mem_of_getElem? (i := 0) rfl)) ga0) q12) (cwV 2 (cx_ts C) gX12_blocker_X12_of rfl rfl rfl (by decide +kernel) ⟨Nat.le_of_ble_eq_true rfl, Nat.le_of_ble_eq_true rfl⟩) rfl (hG _ (List.mem_of_getElem? (i := 0) rfl)) (of10_0 _) (ce10 T ad _ _) rfl (st := [.int l3, .ref (ad 10 0 0)]) rfl (Nat.le_of_ble_eq_true rfl) ⟨Nat.le_refl 0, Nat.le_refl 0⟩ dX12_blocker_41 (pp2 ?_)
        obtain ⟨r13, q14, h⟩ := bd1_some h
        refine fw_callVi C (ci := 10) (Cn := RX12) (Tc := TX12) (N := 19) (As := [.int l3, .int r11]) (c_X12_occupies (gac (hG _ (List.mem_of_getElem? (i := 0) rfl)) ga0) q14) (cwV 2 (cx_ts C) gX12_blocker_X12_occupies rfl rfl rfl (by decide +kernel) ⟨Nat.le_of_ble_eq_true rfl, Nat.le_of_ble_eq_true rfl⟩) rfl (hG _ (List.mem_of_getElem? (i := 0) rfl)) (of10_0 _) (ce10 T ad _ _) rfl (st := []) rfl (Nat.le_of_ble_eq_true rfl) ⟨Nat.le_refl 0, Nat.le_refl 0⟩ dX12_blocker_44 (pp2 ?_)
        refine fw_if_ne C dX12_blocker_47 (tgt := 63) rfl (fun c15 => ?_) (fun c15 => ?_)
        · have h := ite_f c15 h
          refine fw_iload_n C dX12_blocker_63 rfl 0 rfl ?_
          exact fw_iret C hrt Y ⟨Option.some.inj h, rfl⟩ (fun t ht => ht) dX12_blocker_64
        · have h := ite_t c15 h
          exact w_X12_blocker_b50 C hrt hG  ih _ _ h
set_option maxRecDepth 100000 in
set_option maxHeartbeats 4000000 in
theorem w_X12_blocker {Y : Mem} {a1 : Int32} (C : Cx p s m [.ref (ad 10 0 0), .int a1].toArray meth c cX12_blocker 4 wsX12_blocker RX12 N0 T D gr ad) (hrt : meth.sig.returnType = (some .int)) (hG : ∀ q ∈ [(10, 0)], q ∈ gr) {res : Int32} (h : X12_blocker Y a1 = some res) : FW p l e (Rm 7) s m [.ref (ad 10 0 0), .int a1].toArray below meth c 4 N0 T D gr ad 0 0 (MQ below (va_Qi (fun r Y1 => r = res ∧ Y1 = Y) (WB T D gr ad) (fun q => N0 ≤ q)) [.ref (ad 10 0 0), .int a1].toArray s 0 0 (fun q => N0 ≤ q)) Y 0 [(0, .ref (ad 10 0 0)), (1, .int a1)] [] := by
  unfold X12_blocker at h
  refine fw_aload_n C dX12_blocker_0 rfl 0 rfl ?_
  refine fw_iload_n C dX12_blocker_1 rfl 1 rfl ?_
  obtain ⟨r1, q2, h⟩ := bd1_some h
  refine fw_callVi C (ci := 10) (Cn := RX12) (Tc := TX12) (N := 19) (As := [.int a1]) (c_X12_reasonFor (gac (hG _ (List.mem_of_getElem? (i := 0) rfl)) ga0) q2) (cwV 1 (cx_ts C) gX12_blocker_X12_reasonFor rfl rfl rfl (by decide +kernel) ⟨Nat.le_of_ble_eq_true rfl, Nat.le_of_ble_eq_true rfl⟩) rfl (hG _ (List.mem_of_getElem? (i := 0) rfl)) (of10_0 _) (ce10 T ad _ _) rfl (st := []) rfl (Nat.le_of_ble_eq_true rfl) ⟨Nat.le_refl 0, Nat.le_refl 0⟩ dX12_blocker_2 (pp2 ?_)
  refine fw_istore_n C dX12_blocker_5 rfl (by decide) (L' := [(2, .int r1), (0, .ref (ad 10 0 0)), (1, .int a1)]) rfl ?_
  refine fw_iload_n C dX12_blocker_6 rfl 0 rfl ?_
  refine fw_iconst C dX12_blocker_7 (v := 2) rfl ?_
  refine fw_icmp_ne C dX12_blocker_8 (tgt := 17) rfl (fun c3 => ?_) (fun c3 => ?_)
  · have h := ite_f c3 h
    refine fw_iconst C dX12_blocker_17 (v := 0) rfl ?_
    refine fw_istore_n C dX12_blocker_18 rfl (by decide) (L' := [(3, .int 0), (2, .int r1), (0, .ref (ad 10 0 0)), (1, .int a1)]) rfl ?_
    exact w_X12_blocker_b19 C hrt hG   _ _ _ h
  · have h := ite_t c3 h
    refine fw_aload_n C dX12_blocker_11 rfl 1 rfl ?_
    refine fw_iload_n C dX12_blocker_12 rfl 2 rfl ?_
    obtain ⟨r16, q17, h⟩ := bd1_some h
    refine fw_callVi C (ci := 10) (Cn := RX12) (Tc := TX12) (N := 19) (As := [.int a1]) (c_X12_firstOpen (gac (hG _ (List.mem_of_getElem? (i := 0) rfl)) ga0) q17) (cwV 1 (cx_ts C) gX12_blocker_X12_firstOpen rfl rfl rfl (by decide +kernel) ⟨Nat.le_of_ble_eq_true rfl, Nat.le_of_ble_eq_true rfl⟩) rfl (hG _ (List.mem_of_getElem? (i := 0) rfl)) (of10_0 _) (ce10 T ad _ _) rfl (st := []) rfl (Nat.le_of_ble_eq_true rfl) ⟨Nat.le_refl 0, Nat.le_refl 0⟩ dX12_blocker_13 (pp2 ?_)
    exact fw_iret C hrt Y ⟨Option.some.inj h, rfl⟩ (fun t ht => ht) dX12_blocker_16
end
set_option maxRecDepth 100000 in
set_option maxHeartbeats 4000000 in
theorem c_X12_blocker {l : Launch} {N0 : Nat} {T : Nat → ClassId} {D : va_G} {gr : List (Nat × Nat)} {ad : Nat → Nat → Nat → Nat} {Y : Mem} {a1 : Int32} {res : Int32} (hG : ∀ q ∈ [(10, 0)], q ∈ gr) (h : X12_blocker Y a1 = some res) : CI l yX12_blocker wsX12_blocker (Rm 7) N0 T D gr ad Y [.ref (ad 10 0 0), .int a1] (fun r Y1 => r = res ∧ Y1 = Y) :=
  fw_body (by decide +kernel) rfl (Nat.le_of_ble_eq_true rfl) (fun p e s m below meth c C hrt => w_X12_blocker C hrt hG  h)
section
variable {p : Program} {l : Launch} {e : Env} {s : State} {m : MethodId} {below : List Frame} {meth : Method} {c : Code} {N0 : Nat} {T : Nat → ClassId} {D : va_G} {gr : List (Nat × Nat)} {ad : Nat → Nat → Nat → Nat}
set_option maxRecDepth 100000 in
set_option maxHeartbeats 4000000 in
theorem w_X12_blockingStep_b14 {a1 : Int32} (C : Cx p s m [.ref (ad 10 0 0), .int a1].toArray meth c cX12_blockingStep 2 wsX12_blockingStep RX12 N0 T D gr ad) (hrt : meth.sig.returnType = (some .int)) (hG : ∀ q ∈ [(10, 0)], q ∈ gr) {res : Int32 × Mem} (Y : Mem) (s0 : Int32) (h : X12_blockingStep_b14 a1  Y s0 = some res) : FW p l e (Rm 8) s m [.ref (ad 10 0 0), .int a1].toArray below meth c 2 N0 T D gr ad 0 0 (MQ below (va_Qi (fun r Y1 => (r, Y1) = res) (WB T D gr ad) (fun q => N0 ≤ q)) [.ref (ad 10 0 0), .int a1].toArray s 0 0 (fun q => N0 ≤ q)) Y 14 [(0, .ref (ad 10 0 0)), (1, .int a1)] [.int s0, .ref (ad 10 0 0)] := by
  unfold X12_blockingStep_b14 at h
  refine fw_iconst C dX12_blockingStep_14 (v := 0) rfl ?_
  refine fw_iconst C dX12_blockingStep_15 (v := 0) rfl ?_
  obtain ⟨r4, Y6, q5, h⟩ := bd2_some h
  refine fw_callVi C (ci := 10) (Cn := RX12) (Tc := TX12) (N := 19) (As := [.int s0, .int 0, .int 0]) (c_X12_fails (gac (hG _ (List.mem_of_getElem? (i := 0) rfl)) ga0) q5) (cwV 3 (cx_ts C) gX12_blockingStep_X12_fails rfl rfl rfl (by decide +kernel) ⟨Nat.le_of_ble_eq_true rfl, Nat.le_of_ble_eq_true rfl⟩) rfl (hG _ (List.mem_of_getElem? (i := 0) rfl)) (of10_0 _) (ce10 T ad _ _) rfl (st := []) rfl (Nat.le_of_ble_eq_true rfl) ⟨Nat.le_refl 0, Nat.le_refl 0⟩ dX12_blockingStep_16 (ppw ?_)
  refine fw_if_eq C dX12_blockingStep_19 (tgt := 24) rfl (fun c7 => ?_) (fun c7 => ?_)
  · have h := ite_t c7 h
    refine fw_aload_n C dX12_blockingStep_24 rfl 0 rfl ?_
    refine fw_iload_n C dX12_blockingStep_25 rfl 1 rfl ?_
    obtain ⟨r8, q9, h⟩ := bd1_some h
    refine fw_callVi C (ci := 10) (Cn := RX12) (Tc := TX12) (N := 19) (As := [.int a1]) (c_X12_blocker (gac (hG _ (List.mem_of_getElem? (i := 0) rfl)) ga0) q9) (cwV 1 (cx_ts C) gX12_blockingStep_X12_blocker rfl rfl rfl (by decide +kernel) ⟨Nat.le_of_ble_eq_true rfl, Nat.le_of_ble_eq_true rfl⟩) rfl (hG _ (List.mem_of_getElem? (i := 0) rfl)) (of10_0 _) (ce10 T ad _ _) rfl (st := []) rfl (Nat.le_of_ble_eq_true rfl) ⟨Nat.le_refl 0, Nat.le_refl 0⟩ dX12_blockingStep_26 (pp2 ?_)
    exact fw_iret C hrt Y6 (Option.some.inj h) (fun t ht => ht) dX12_blockingStep_29
  · have h := ite_f c7 h
    refine fw_iconst C dX12_blockingStep_22 (v := 0) rfl ?_
    exact fw_iret C hrt Y6 (Option.some.inj h) (fun t ht => ht) dX12_blockingStep_23
set_option maxRecDepth 100000 in
set_option maxHeartbeats 4000000 in
theorem w_X12_blockingStep {Y : Mem} {a1 : Int32} (C : Cx p s m [.ref (ad 10 0 0), .int a1].toArray meth c cX12_blockingStep 2 wsX12_blockingStep RX12 N0 T D gr ad) (hrt : meth.sig.returnType = (some .int)) (hG : ∀ q ∈ [(10, 0)], q ∈ gr) {res : Int32 × Mem} (h : X12_blockingStep Y a1 = some res) : FW p l e (Rm 8) s m [.ref (ad 10 0 0), .int a1].toArray below meth c 2 N0 T D gr ad 0 0 (MQ below (va_Qi (fun r Y1 => (r, Y1) = res) (WB T D gr ad) (fun q => N0 ≤ q)) [.ref (ad 10 0 0), .int a1].toArray s 0 0 (fun q => N0 ≤ q)) Y 0 [(0, .ref (ad 10 0 0)), (1, .int a1)] [] := by
  unfold X12_blockingStep at h
  refine fw_aload_n C dX12_blockingStep_0 rfl 0 rfl ?_
  refine fw_aload_n C dX12_blockingStep_1 rfl 0 rfl ?_
  refine fw_iload_n C dX12_blockingStep_2 rfl 1 rfl ?_
  obtain ⟨r1, q2, h⟩ := bd1_some h
  refine fw_callVi C (ci := 10) (Cn := RX12) (Tc := TX12) (N := 19) (As := [.int a1]) (c_X12_isStep (gac (hG _ (List.mem_of_getElem? (i := 0) rfl)) ga0) q2) (cwV 1 (cx_ts C) gX12_blockingStep_X12_isStep rfl rfl rfl (by decide +kernel) ⟨Nat.le_of_ble_eq_true rfl, Nat.le_of_ble_eq_true rfl⟩) rfl (hG _ (List.mem_of_getElem? (i := 0) rfl)) (of10_0 _) (ce10 T ad _ _) rfl (st := [.ref (ad 10 0 0)]) rfl (Nat.le_of_ble_eq_true rfl) ⟨Nat.le_refl 0, Nat.le_refl 0⟩ dX12_blockingStep_3 (pp2 ?_)
  refine fw_if_ne C dX12_blockingStep_6 (tgt := 13) rfl (fun c3 => ?_) (fun c3 => ?_)
  · have h := ite_f c3 h
    refine fw_iconst C dX12_blockingStep_13 (v := 0) rfl ?_
    exact w_X12_blockingStep_b14 C hrt hG   _ _ h
  · have h := ite_t c3 h
    refine fw_iconst C dX12_blockingStep_9 (v := 1) rfl ?_
    refine fw_goto C dX12_blockingStep_10 (tgt := 14) rfl ?_
    exact w_X12_blockingStep_b14 C hrt hG   _ _ h
end
set_option maxRecDepth 100000 in
set_option maxHeartbeats 4000000 in
theorem c_X12_blockingStep {l : Launch} {N0 : Nat} {T : Nat → ClassId} {D : va_G} {gr : List (Nat × Nat)} {ad : Nat → Nat → Nat → Nat} {Y : Mem} {a1 : Int32} {res : Int32 × Mem} (hG : ∀ q ∈ [(10, 0)], q ∈ gr) (h : X12_blockingStep Y a1 = some res) : CI l yX12_blockingStep wsX12_blockingStep (Rm 8) N0 T D gr ad Y [.ref (ad 10 0 0), .int a1] (fun r Y1 => (r, Y1) = res) :=
  fw_body (by decide +kernel) rfl (Nat.le_of_ble_eq_true rfl) (fun p e s m below meth c C hrt => w_X12_blockingStep C hrt hG  h)
theorem ly_X12_withStatus_12 : ∀ w ∈ u_ws RX12 TX12 19, w ∈ wsX12_withStatus := by decide +kernel
theorem fl_X12_withStatus_13 : Cond.fieldLink RX12 13 "RecipeSchedulerModel" "m" "[I" ∈ wsX12_withStatus := by decide +kernel
section
variable {p : Program} {l : Launch} {e : Env} {s : State} {m : MethodId} {below : List Frame} {meth : Method} {c : Code} {N0 : Nat} {T : Nat → ClassId} {D : va_G} {gr : List (Nat × Nat)} {ad : Nat → Nat → Nat → Nat}
set_option maxRecDepth 100000 in
set_option maxHeartbeats 4000000 in
theorem w_X12_withStatus_b32 {Y : Mem} {a1 : Int32} (C : Cx p s m [.ref (ad 10 0 0), .int a1].toArray meth c cX12_withStatus 4 wsX12_withStatus RX12 N0 T D gr ad) (hrt : meth.sig.returnType = (some .int)) (hG : ∀ q ∈ [(10, 0)], q ∈ gr) {res : Int32} {k4 : Int32 → Int32 → Option (Int32)} (hk4 : ∀ (l3 : Int32) (l2 : Int32), k4 l3 l2 = some res → FW p l e (Rm 1) s m [.ref (ad 10 0 0), .int a1].toArray below meth c 4 N0 T D gr ad 0 0 (MQ below (va_Qi (fun r Y1 => r = res ∧ Y1 = Y) (WB T D gr ad) (fun q => N0 ≤ q)) [.ref (ad 10 0 0), .int a1].toArray s 0 0 (fun q => N0 ≤ q)) Y 4 [(3, .int l3), (2, .int l2), (0, .ref (ad 10 0 0)), (1, .int a1)] []) (l3 : Int32) (s0 : Int32) (s1 : Int32) (h : X12_withStatus_b32 Y a1 k4 l3 s0 s1 = some res) : FW p l e (Rm 1) s m [.ref (ad 10 0 0), .int a1].toArray below meth c 4 N0 T D gr ad 0 0 (MQ below (va_Qi (fun r Y1 => r = res ∧ Y1 = Y) (WB T D gr ad) (fun q => N0 ≤ q)) [.ref (ad 10 0 0), .int a1].toArray s 0 0 (fun q => N0 ≤ q)) Y 32 [(3, .int l3), (0, .ref (ad 10 0 0)), (1, .int a1)] [.int s0, .int s1] := by
  unfold X12_withStatus_b32 at h
  refine fw_iadd C dX12_withStatus_32 ?_
  obtain ⟨v6, e7, h⟩ := lt_some h
  refine fw_top (v' := .int v6) (by rw [e7]) ?_
  refine fw_istore_n C dX12_withStatus_33 rfl (by decide) (L' := [(2, .int v6), (3, .int l3), (0, .ref (ad 10 0 0)), (1, .int a1)]) rfl ?_
  refine fw_iinc C dX12_withStatus_34 (kk := 1) (v := l3 + 1) rfl rfl (by decide) (L' := [(3, .int (l3 + 1)), (2, .int v6), (0, .ref (ad 10 0 0)), (1, .int a1)]) rfl ?_
  refine fw_goto C dX12_withStatus_37 (tgt := 4) rfl ?_
  exact hk4 _ _ h
set_option maxRecDepth 100000 in
set_option maxHeartbeats 4000000 in
theorem w_X12_withStatus_b4 {Y : Mem} {a1 : Int32} (C : Cx p s m [.ref (ad 10 0 0), .int a1].toArray meth c cX12_withStatus 4 wsX12_withStatus RX12 N0 T D gr ad) (hrt : meth.sig.returnType = (some .int)) (hG : ∀ q ∈ [(10, 0)], q ∈ gr) {res : Int32} : ∀ (n : Nat) (l3 : Int32) (l2 : Int32), X12_withStatus_b4 Y a1  n l3 l2 = some res → FW p l e (Rm 1) s m [.ref (ad 10 0 0), .int a1].toArray below meth c 4 N0 T D gr ad 0 0 (MQ below (va_Qi (fun r Y1 => r = res ∧ Y1 = Y) (WB T D gr ad) (fun q => N0 ≤ q)) [.ref (ad 10 0 0), .int a1].toArray s 0 0 (fun q => N0 ≤ q)) Y 4 [(3, .int l3), (2, .int l2), (0, .ref (ad 10 0 0)), (1, .int a1)] [] := by
  intro n
  induction n with
  | zero =>
    intro l3 l2 h
    unfold X12_withStatus_b4 at h
    cases h
  | succ n ih =>
    intro l3 l2 h
    unfold X12_withStatus_b4 at h
    refine fw_iload_n C dX12_withStatus_4 rfl 0 rfl ?_
    refine fw_aload_n C dX12_withStatus_5 rfl 2 rfl ?_
    refine fw_get C (ci := 10) (Cn := RX12) (Tc := TX12) (N := 19) (j := 0) ly_X12_withStatus_12 rfl (hG _ (List.mem_of_getElem? (i := 0) rfl)) (of10_0 _) (ce10 T ad _ _) (by decide) (cx_ts C _ fl_X12_withStatus_13) (fun _ h => h) (v := .ref (ad 10 0 1)) rfl dX12_withStatus_6 ?_
    refine fw_bipush C dX12_withStatus_9 (v := 13) rfl ?_
    obtain ⟨b1, h⟩ := gd_some h
    refine fw_iald2 C (hG _ (List.mem_of_getElem? (i := 0) rfl)) (of10_1 _) (ca10_1 T ad _ _) b1 (Nat.le_of_ble_eq_true rfl) dX12_withStatus_11 ?_
    refine fw_icmp_ge C dX12_withStatus_12 (tgt := 40) rfl (fun c2 => ?_) (fun c2 => ?_)
    · have h := ite_t c2 h
      refine fw_iload_n C dX12_withStatus_40 rfl 1 rfl ?_
      exact fw_iret C hrt Y ⟨Option.some.inj h, rfl⟩ (fun t ht => ht) dX12_withStatus_41
    · have h := ite_f c2 h
      refine fw_iload_n C dX12_withStatus_15 rfl 1 rfl ?_
      refine fw_aload_n C dX12_withStatus_16 rfl 2 rfl ?_
      refine fw_iload_n C dX12_withStatus_17 rfl 0 rfl ?_
      refine fw_bipush C dX12_withStatus_18 (v := 17) rfl ?_
      obtain ⟨r3, q4, h⟩ := bd1_some h
      refine fw_callVi C (ci := 10) (Cn := RX12) (Tc := TX12) (N := 19) (As := [.int l3, .int 17]) (c_X12_of (gac (hG _ (List.mem_of_getElem? (i := 0) rfl)) ga0) q4) (cwV 2 (cx_ts C) gX12_withStatus_X12_of rfl rfl rfl (by decide +kernel) ⟨Nat.le_of_ble_eq_true rfl, Nat.le_of_ble_eq_true rfl⟩) rfl (hG _ (List.mem_of_getElem? (i := 0) rfl)) (of10_0 _) (ce10 T ad _ _) rfl (st := [.int l2]) rfl (Nat.le_of_ble_eq_true rfl) ⟨Nat.le_refl 0, Nat.le_refl 0⟩ dX12_withStatus_20 (pp2 ?_)
      refine fw_iload_n C dX12_withStatus_23 rfl 3 rfl ?_
      refine fw_icmp_ne C dX12_withStatus_24 (tgt := 31) rfl (fun c5 => ?_) (fun c5 => ?_)
      · have h := ite_f c5 h
        refine fw_iconst C dX12_withStatus_31 (v := 0) rfl ?_
        refine fw_sub [0, 2, 3] (L' := [(3, .int l3), (0, .ref (ad 10 0 0)), (1, .int a1)]) rfl ?_
        exact w_X12_withStatus_b32 C hrt hG  ih _ _ _ h
      · have h := ite_t c5 h
        refine fw_iconst C dX12_withStatus_27 (v := 1) rfl ?_
        refine fw_goto C dX12_withStatus_28 (tgt := 32) rfl ?_
        refine fw_sub [0, 2, 3] (L' := [(3, .int l3), (0, .ref (ad 10 0 0)), (1, .int a1)]) rfl ?_
        exact w_X12_withStatus_b32 C hrt hG  ih _ _ _ h
set_option maxRecDepth 100000 in
set_option maxHeartbeats 4000000 in
theorem w_X12_withStatus {Y : Mem} {a1 : Int32} (C : Cx p s m [.ref (ad 10 0 0), .int a1].toArray meth c cX12_withStatus 4 wsX12_withStatus RX12 N0 T D gr ad) (hrt : meth.sig.returnType = (some .int)) (hG : ∀ q ∈ [(10, 0)], q ∈ gr) {res : Int32} (h : X12_withStatus Y a1 = some res) : FW p l e (Rm 1) s m [.ref (ad 10 0 0), .int a1].toArray below meth c 4 N0 T D gr ad 0 0 (MQ below (va_Qi (fun r Y1 => r = res ∧ Y1 = Y) (WB T D gr ad) (fun q => N0 ≤ q)) [.ref (ad 10 0 0), .int a1].toArray s 0 0 (fun q => N0 ≤ q)) Y 0 [(0, .ref (ad 10 0 0)), (1, .int a1)] [] := by
  unfold X12_withStatus at h
  refine fw_iconst C dX12_withStatus_0 (v := 0) rfl ?_
  refine fw_istore_n C dX12_withStatus_1 rfl (by decide) (L' := [(2, .int 0), (0, .ref (ad 10 0 0)), (1, .int a1)]) rfl ?_
  refine fw_iconst C dX12_withStatus_2 (v := 0) rfl ?_
  refine fw_istore_n C dX12_withStatus_3 rfl (by decide) (L' := [(3, .int 0), (2, .int 0), (0, .ref (ad 10 0 0)), (1, .int a1)]) rfl ?_
  exact w_X12_withStatus_b4 C hrt hG   _ _ _ h
end
set_option maxRecDepth 100000 in
set_option maxHeartbeats 4000000 in
theorem c_X12_withStatus {l : Launch} {N0 : Nat} {T : Nat → ClassId} {D : va_G} {gr : List (Nat × Nat)} {ad : Nat → Nat → Nat → Nat} {Y : Mem} {a1 : Int32} {res : Int32} (hG : ∀ q ∈ [(10, 0)], q ∈ gr) (h : X12_withStatus Y a1 = some res) : CI l yX12_withStatus wsX12_withStatus (Rm 1) N0 T D gr ad Y [.ref (ad 10 0 0), .int a1] (fun r Y1 => r = res ∧ Y1 = Y) :=
  fw_body (by decide +kernel) rfl (Nat.le_of_ble_eq_true rfl) (fun p e s m below meth c C hrt => w_X12_withStatus C hrt hG  h)
theorem ly_X12_isFinished_12 : ∀ w ∈ u_ws RX12 TX12 19, w ∈ wsX12_isFinished := by decide +kernel
theorem fl_X12_isFinished_13 : Cond.fieldLink RX12 13 "RecipeSchedulerModel" "m" "[I" ∈ wsX12_isFinished := by decide +kernel
section
variable {p : Program} {l : Launch} {e : Env} {s : State} {m : MethodId} {below : List Frame} {meth : Method} {c : Code} {N0 : Nat} {T : Nat → ClassId} {D : va_G} {gr : List (Nat × Nat)} {ad : Nat → Nat → Nat → Nat}
set_option maxRecDepth 100000 in
set_option maxHeartbeats 4000000 in
theorem w_X12_isFinished {Y : Mem} (C : Cx p s m [.ref (ad 10 0 0)].toArray meth c cX12_isFinished 1 wsX12_isFinished RX12 N0 T D gr ad) (hrt : meth.sig.returnType = (some .boolean)) (hG : ∀ q ∈ [(10, 0)], q ∈ gr) {res : Int32} (h : X12_isFinished Y = some res) : FW p l e (Rm 2) s m [.ref (ad 10 0 0)].toArray below meth c 1 N0 T D gr ad 0 0 (MQ below (va_Qi (fun r Y1 => r = res ∧ Y1 = Y) (WB T D gr ad) (fun q => N0 ≤ q)) [.ref (ad 10 0 0)].toArray s 0 0 (fun q => N0 ≤ q)) Y 0 [(0, .ref (ad 10 0 0))] [] := by
  unfold X12_isFinished at h
  refine fw_aload_n C dX12_isFinished_0 rfl 0 rfl ?_
  refine fw_iconst C dX12_isFinished_1 (v := 2) rfl ?_
  obtain ⟨r1, q2, h⟩ := bd1_some h
  refine fw_callVi C (ci := 10) (Cn := RX12) (Tc := TX12) (N := 19) (As := [.int 2]) (c_X12_withStatus (gac (hG _ (List.mem_of_getElem? (i := 0) rfl)) ga0) q2) (cwV 1 (cx_ts C) gX12_isFinished_X12_withStatus rfl rfl rfl (by decide +kernel) ⟨Nat.le_of_ble_eq_true rfl, Nat.le_of_ble_eq_true rfl⟩) rfl (hG _ (List.mem_of_getElem? (i := 0) rfl)) (of10_0 _) (ce10 T ad _ _) rfl (st := []) rfl (Nat.le_of_ble_eq_true rfl) ⟨Nat.le_refl 0, Nat.le_refl 0⟩ dX12_isFinished_2 (pp2 ?_)
  refine fw_aload_n C dX12_isFinished_5 rfl 0 rfl ?_
  refine fw_get C (ci := 10) (Cn := RX12) (Tc := TX12) (N := 19) (j := 0) ly_X12_isFinished_12 rfl (hG _ (List.mem_of_getElem? (i := 0) rfl)) (of10_0 _) (ce10 T ad _ _) (by decide) (cx_ts C _ fl_X12_isFinished_13) (fun _ h => h) (v := .ref (ad 10 0 1)) rfl dX12_isFinished_6 ?_
  refine fw_bipush C dX12_isFinished_9 (v := 13) rfl ?_
  obtain ⟨b3, h⟩ := gd_some h
  refine fw_iald2 C (hG _ (List.mem_of_getElem? (i := 0) rfl)) (of10_1 _) (ca10_1 T ad _ _) b3 (Nat.le_of_ble_eq_true rfl) dX12_isFinished_11 ?_
  refine fw_icmp_ne C dX12_isFinished_12 (tgt := 19) rfl (fun c4 => ?_) (fun c4 => ?_)
  · have h := ite_f c4 h
    refine fw_iconst C dX12_isFinished_19 (v := 0) rfl ?_
    exact fw_zret C hrt (by decide) Y ⟨Option.some.inj h, rfl⟩ (fun t ht => ht) dX12_isFinished_20
  · have h := ite_t c4 h
    refine fw_iconst C dX12_isFinished_15 (v := 1) rfl ?_
    refine fw_goto C dX12_isFinished_16 (tgt := 20) rfl ?_
    exact fw_zret C hrt (by decide) Y ⟨Option.some.inj h, rfl⟩ (fun t ht => ht) dX12_isFinished_20
end
set_option maxRecDepth 100000 in
set_option maxHeartbeats 4000000 in
theorem c_X12_isFinished {l : Launch} {N0 : Nat} {T : Nat → ClassId} {D : va_G} {gr : List (Nat × Nat)} {ad : Nat → Nat → Nat → Nat} {Y : Mem} {res : Int32} (hG : ∀ q ∈ [(10, 0)], q ∈ gr) (h : X12_isFinished Y = some res) : CI l yX12_isFinished wsX12_isFinished (Rm 2) N0 T D gr ad Y [.ref (ad 10 0 0)] (fun r Y1 => r = res ∧ Y1 = Y) :=
  fw_body (by decide +kernel) rfl (Nat.le_of_ble_eq_true rfl) (fun p e s m below meth c C hrt => w_X12_isFinished C hrt hG  h)
theorem ly_X12_set_12 : ∀ w ∈ u_ws RX12 TX12 19, w ∈ wsX12_set := by decide +kernel
theorem fl_X12_set_13 : Cond.fieldLink RX12 13 "RecipeSchedulerModel" "m" "[I" ∈ wsX12_set := by decide +kernel
section
variable {p : Program} {l : Launch} {e : Env} {s : State} {m : MethodId} {below : List Frame} {meth : Method} {c : Code} {N0 : Nat} {T : Nat → ClassId} {D : va_G} {gr : List (Nat × Nat)} {ad : Nat → Nat → Nat → Nat}
set_option maxRecDepth 100000 in
set_option maxHeartbeats 4000000 in
theorem w_X12_set {Y : Mem} {a1 : Int32} {a2 : Int32} {a3 : Int32} (C : Cx p s m [.ref (ad 10 0 0), .int a1, .int a2, .int a3].toArray meth c cX12_set 4 wsX12_set RX12 N0 T D gr ad) (hrt : meth.sig.returnType = none) (hG : ∀ q ∈ [(10, 0)], q ∈ gr) {res : Mem} (h : X12_set Y a1 a2 a3 = some res) : FW p l e (Rm 0) s m [.ref (ad 10 0 0), .int a1, .int a2, .int a3].toArray below meth c 4 N0 T D gr ad 0 0 (MQ below (va_Qv (fun Y1 => Y1 = res) (WB T D gr ad) (fun q => N0 ≤ q)) [.ref (ad 10 0 0), .int a1, .int a2, .int a3].toArray s 0 0 (fun q => N0 ≤ q)) Y 0 [(0, .ref (ad 10 0 0)), (1, .int a1), (2, .int a2), (3, .int a3)] [] := by
  unfold X12_set at h
  refine fw_aload_n C dX12_set_0 rfl 0 rfl ?_
  refine fw_get C (ci := 10) (Cn := RX12) (Tc := TX12) (N := 19) (j := 0) ly_X12_set_12 rfl (hG _ (List.mem_of_getElem? (i := 0) rfl)) (of10_0 _) (ce10 T ad _ _) (by decide) (cx_ts C _ fl_X12_set_13) (fun _ h => h) (v := .ref (ad 10 0 1)) rfl dX12_set_1 ?_
  refine fw_bipush C dX12_set_4 (v := 46) rfl ?_
  refine fw_iload_n C dX12_set_6 rfl 1 rfl ?_
  refine fw_bipush C dX12_set_7 (v := 24) rfl ?_
  refine fw_imul C dX12_set_9 ?_
  refine fw_iadd C dX12_set_10 ?_
  refine fw_iload_n C dX12_set_11 rfl 2 rfl ?_
  refine fw_iadd C dX12_set_12 ?_
  refine fw_iload_n C dX12_set_13 rfl 3 rfl ?_
  obtain ⟨b1, h⟩ := gd_some h
  obtain ⟨Y2, e3, h⟩ := lt_some h
  refine fw_iast2 C (hG _ (List.mem_of_getElem? (i := 0) rfl)) (of10_1 _) (ca10_1 T ad _) b1 (Nat.le_of_ble_eq_true rfl) dX12_set_14 ?_
  refine fw_mem e3 ?_
  exact fw_vret C hrt Y2 (Option.some.inj h) (fun t ht => ht) dX12_set_15
end
set_option maxRecDepth 100000 in
set_option maxHeartbeats 4000000 in
theorem c_X12_set {l : Launch} {N0 : Nat} {T : Nat → ClassId} {D : va_G} {gr : List (Nat × Nat)} {ad : Nat → Nat → Nat → Nat} {Y : Mem} {a1 : Int32} {a2 : Int32} {a3 : Int32} {res : Mem} (hG : ∀ q ∈ [(10, 0)], q ∈ gr) (h : X12_set Y a1 a2 a3 = some res) : CV l yX12_set wsX12_set (Rm 0) N0 T D gr ad Y [.ref (ad 10 0 0), .int a1, .int a2, .int a3] (fun Y1 => Y1 = res) :=
  fw_body (by decide +kernel) rfl (Nat.le_of_ble_eq_true rfl) (fun p e s m below meth c C hrt => w_X12_set C hrt hG  h)
theorem ly_X12_work_12 : ∀ w ∈ u_ws RX12 TX12 19, w ∈ wsX12_work := by decide +kernel
theorem fl_X12_work_13 : Cond.fieldLink RX12 13 "RecipeSchedulerModel" "m" "[I" ∈ wsX12_work := by decide +kernel
section
variable {p : Program} {l : Launch} {e : Env} {s : State} {m : MethodId} {below : List Frame} {meth : Method} {c : Code} {N0 : Nat} {T : Nat → ClassId} {D : va_G} {gr : List (Nat × Nat)} {ad : Nat → Nat → Nat → Nat}
set_option maxRecDepth 100000 in
set_option maxHeartbeats 4000000 in
theorem w_X12_work {Y : Mem} {a1 : Int32} (C : Cx p s m [.ref (ad 10 0 0), .int a1].toArray meth c cX12_work 2 wsX12_work RX12 N0 T D gr ad) (hrt : meth.sig.returnType = none) (hG : ∀ q ∈ [(10, 0)], q ∈ gr) {res : Mem} (h : X12_work Y a1 = some res) : FW p l e (Rm 1) s m [.ref (ad 10 0 0), .int a1].toArray below meth c 2 N0 T D gr ad 0 0 (MQ below (va_Qv (fun Y1 => Y1 = res) (WB T D gr ad) (fun q => N0 ≤ q)) [.ref (ad 10 0 0), .int a1].toArray s 0 0 (fun q => N0 ≤ q)) Y 0 [(0, .ref (ad 10 0 0)), (1, .int a1)] [] := by
  unfold X12_work at h
  refine fw_aload_n C dX12_work_0 rfl 0 rfl ?_
  refine fw_iload_n C dX12_work_1 rfl 1 rfl ?_
  refine fw_bipush C dX12_work_2 (v := 23) rfl ?_
  refine fw_iconst C dX12_work_4 (v := 0) rfl ?_
  obtain ⟨Y3, q2, h⟩ := bd1_some h
  refine fw_callVv C (ci := 10) (Cn := RX12) (Tc := TX12) (N := 19) (As := [.int a1, .int 23, .int 0]) (c_X12_set (gac (hG _ (List.mem_of_getElem? (i := 0) rfl)) ga0) q2) (cwV 3 (cx_ts C) gX12_work_X12_set rfl rfl rfl (by decide +kernel) ⟨Nat.le_of_ble_eq_true rfl, Nat.le_of_ble_eq_true rfl⟩) rfl (hG _ (List.mem_of_getElem? (i := 0) rfl)) (of10_0 _) (ce10 T ad _ _) rfl (st := []) rfl (Nat.le_of_ble_eq_true rfl) ⟨Nat.le_refl 0, Nat.le_refl 0⟩ dX12_work_5 (ppv ?_)
  refine fw_aload_n C dX12_work_8 rfl 0 rfl ?_
  refine fw_iload_n C dX12_work_9 rfl 1 rfl ?_
  refine fw_bipush C dX12_work_10 (v := 17) rfl ?_
  obtain ⟨r4, q5, h⟩ := bd1_some h
  refine fw_callVi C (ci := 10) (Cn := RX12) (Tc := TX12) (N := 19) (As := [.int a1, .int 17]) (c_X12_of (gac (hG _ (List.mem_of_getElem? (i := 0) rfl)) ga0) q5) (cwV 2 (cx_ts C) gX12_work_X12_of rfl rfl rfl (by decide +kernel) ⟨Nat.le_of_ble_eq_true rfl, Nat.le_of_ble_eq_true rfl⟩) rfl (hG _ (List.mem_of_getElem? (i := 0) rfl)) (of10_0 _) (ce10 T ad _ _) rfl (st := []) rfl (Nat.le_of_ble_eq_true rfl) ⟨Nat.le_refl 0, Nat.le_refl 0⟩ dX12_work_12 (pp2 ?_)
  refine fw_iconst C dX12_work_15 (v := 1) rfl ?_
  refine fw_icmp_eq C dX12_work_16 (tgt := 20) rfl (fun c6 => ?_) (fun c6 => ?_)
  · have h := ite_t c6 h
    refine fw_aload_n C dX12_work_20 rfl 0 rfl ?_
    refine fw_get C (ci := 10) (Cn := RX12) (Tc := TX12) (N := 19) (j := 0) ly_X12_work_12 rfl (hG _ (List.mem_of_getElem? (i := 0) rfl)) (of10_0 _) (ce10 T ad _ _) (by decide) (cx_ts C _ fl_X12_work_13) (fun _ h => h) (v := .ref (ad 10 0 1)) rfl dX12_work_21 ?_
    refine fw_bipush C dX12_work_24 (v := 10) rfl ?_
    refine fw_dup2 C dX12_work_26 rfl rfl ?_
    obtain ⟨b7, h⟩ := gd_some h
    refine fw_iald2 C (hG _ (List.mem_of_getElem? (i := 0) rfl)) (of10_1 _) (ca10_1 T ad _ _) b7 (Nat.le_of_ble_eq_true rfl) dX12_work_27 ?_
    refine fw_iconst C dX12_work_28 (v := 1) rfl ?_
    refine fw_aload_n C dX12_work_29 rfl 0 rfl ?_
    refine fw_iload_n C dX12_work_30 rfl 1 rfl ?_
    refine fw_bipush C dX12_work_31 (v := 11) rfl ?_
    obtain ⟨r8, q9, h⟩ := bd1_some h
    refine fw_callVi C (ci := 10) (Cn := RX12) (Tc := TX12) (N := 19) (As := [.int a1, .int 11]) (c_X12_of (gac (hG _ (List.mem_of_getElem? (i := 0) rfl)) ga0) q9) (cwV 2 (cx_ts C) gX12_work_X12_of rfl rfl rfl (by decide +kernel) ⟨Nat.le_of_ble_eq_true rfl, Nat.le_of_ble_eq_true rfl⟩) rfl (hG _ (List.mem_of_getElem? (i := 0) rfl)) (of10_0 _) (ce10 T ad _ _) rfl (st := [.int 1, .int (Y3 10 0 1 (ix 10)), .int 10, .ref (ad 10 0 1)]) rfl (Nat.le_of_ble_eq_true rfl) ⟨Nat.le_refl 0, Nat.le_refl 0⟩ dX12_work_33 (pp2 ?_)
    refine fw_isub C dX12_work_36 ?_
    refine fw_iadd C dX12_work_37 ?_
    obtain ⟨Y10, e11, h⟩ := lt_some h
    refine fw_iast2 C (hG _ (List.mem_of_getElem? (i := 0) rfl)) (of10_1 _) (ca10_1 T ad _) b7 (Nat.le_of_ble_eq_true rfl) dX12_work_38 ?_
    refine fw_mem e11 ?_
    refine fw_aload_n C dX12_work_39 rfl 0 rfl ?_
    refine fw_iload_n C dX12_work_40 rfl 1 rfl ?_
    refine fw_bipush C dX12_work_41 (v := 18) rfl ?_
    refine fw_aload_n C dX12_work_43 rfl 0 rfl ?_
    refine fw_iload_n C dX12_work_44 rfl 1 rfl ?_
    refine fw_bipush C dX12_work_45 (v := 18) rfl ?_
    obtain ⟨r12, q13, h⟩ := bd1_some h
    refine fw_callVi C (ci := 10) (Cn := RX12) (Tc := TX12) (N := 19) (As := [.int a1, .int 18]) (c_X12_of (gac (hG _ (List.mem_of_getElem? (i := 0) rfl)) ga0) q13) (cwV 2 (cx_ts C) gX12_work_X12_of rfl rfl rfl (by decide +kernel) ⟨Nat.le_of_ble_eq_true rfl, Nat.le_of_ble_eq_true rfl⟩) rfl (hG _ (List.mem_of_getElem? (i := 0) rfl)) (of10_0 _) (ce10 T ad _ _) rfl (st := [.int 18, .int a1, .ref (ad 10 0 0)]) rfl (Nat.le_of_ble_eq_true rfl) ⟨Nat.le_refl 0, Nat.le_refl 0⟩ dX12_work_47 (pp2 ?_)
    refine fw_iconst C dX12_work_50 (v := 1) rfl ?_
    refine fw_isub C dX12_work_51 ?_
    obtain ⟨Y16, q15, h⟩ := bd1_some h
    refine fw_callVv C (ci := 10) (Cn := RX12) (Tc := TX12) (N := 19) (As := [.int a1, .int 18, .int (r12 - 1)]) (c_X12_set (gac (hG _ (List.mem_of_getElem? (i := 0) rfl)) ga0) q15) (cwV 3 (cx_ts C) gX12_work_X12_set rfl rfl rfl (by decide +kernel) ⟨Nat.le_of_ble_eq_true rfl, Nat.le_of_ble_eq_true rfl⟩) rfl (hG _ (List.mem_of_getElem? (i := 0) rfl)) (of10_0 _) (ce10 T ad _ _) rfl (st := []) rfl (Nat.le_of_ble_eq_true rfl) ⟨Nat.le_refl 0, Nat.le_refl 0⟩ dX12_work_52 (ppv ?_)
    refine fw_aload_n C dX12_work_55 rfl 0 rfl ?_
    refine fw_iload_n C dX12_work_56 rfl 1 rfl ?_
    refine fw_bipush C dX12_work_57 (v := 18) rfl ?_
    obtain ⟨r17, q18, h⟩ := bd1_some h
    refine fw_callVi C (ci := 10) (Cn := RX12) (Tc := TX12) (N := 19) (As := [.int a1, .int 18]) (c_X12_of (gac (hG _ (List.mem_of_getElem? (i := 0) rfl)) ga0) q18) (cwV 2 (cx_ts C) gX12_work_X12_of rfl rfl rfl (by decide +kernel) ⟨Nat.le_of_ble_eq_true rfl, Nat.le_of_ble_eq_true rfl⟩) rfl (hG _ (List.mem_of_getElem? (i := 0) rfl)) (of10_0 _) (ce10 T ad _ _) rfl (st := []) rfl (Nat.le_of_ble_eq_true rfl) ⟨Nat.le_refl 0, Nat.le_refl 0⟩ dX12_work_59 (pp2 ?_)
    refine fw_if_le C dX12_work_62 (tgt := 66) rfl (fun c19 => ?_) (fun c19 => ?_)
    · have h := ite_t c19 h
      refine fw_aload_n C dX12_work_66 rfl 0 rfl ?_
      refine fw_iload_n C dX12_work_67 rfl 1 rfl ?_
      refine fw_bipush C dX12_work_68 (v := 17) rfl ?_
      refine fw_iconst C dX12_work_70 (v := 2) rfl ?_
      obtain ⟨Y22, q21, h⟩ := bd1_some h
      refine fw_callVv C (ci := 10) (Cn := RX12) (Tc := TX12) (N := 19) (As := [.int a1, .int 17, .int 2]) (c_X12_set (gac (hG _ (List.mem_of_getElem? (i := 0) rfl)) ga0) q21) (cwV 3 (cx_ts C) gX12_work_X12_set rfl rfl rfl (by decide +kernel) ⟨Nat.le_of_ble_eq_true rfl, Nat.le_of_ble_eq_true rfl⟩) rfl (hG _ (List.mem_of_getElem? (i := 0) rfl)) (of10_0 _) (ce10 T ad _ _) rfl (st := []) rfl (Nat.le_of_ble_eq_true rfl) ⟨Nat.le_refl 0, Nat.le_refl 0⟩ dX12_work_71 (ppv ?_)
      refine fw_aload_n C dX12_work_74 rfl 0 rfl ?_
      refine fw_iload_n C dX12_work_75 rfl 1 rfl ?_
      refine fw_bipush C dX12_work_76 (v := 19) rfl ?_
      refine fw_iconst C dX12_work_78 (v := 0) rfl ?_
      obtain ⟨Y25, q24, h⟩ := bd1_some h
      refine fw_callVv C (ci := 10) (Cn := RX12) (Tc := TX12) (N := 19) (As := [.int a1, .int 19, .int 0]) (c_X12_set (gac (hG _ (List.mem_of_getElem? (i := 0) rfl)) ga0) q24) (cwV 3 (cx_ts C) gX12_work_X12_set rfl rfl rfl (by decide +kernel) ⟨Nat.le_of_ble_eq_true rfl, Nat.le_of_ble_eq_true rfl⟩) rfl (hG _ (List.mem_of_getElem? (i := 0) rfl)) (of10_0 _) (ce10 T ad _ _) rfl (st := []) rfl (Nat.le_of_ble_eq_true rfl) ⟨Nat.le_refl 0, Nat.le_refl 0⟩ dX12_work_79 (ppv ?_)
      refine fw_aload_n C dX12_work_82 rfl 0 rfl ?_
      refine fw_iload_n C dX12_work_83 rfl 1 rfl ?_
      refine fw_bipush C dX12_work_84 (v := 21) rfl ?_
      refine fw_iconst C dX12_work_86 (v := 1) rfl ?_
      obtain ⟨Y28, q27, h⟩ := bd1_some h
      refine fw_callVv C (ci := 10) (Cn := RX12) (Tc := TX12) (N := 19) (As := [.int a1, .int 21, .int 1]) (c_X12_set (gac (hG _ (List.mem_of_getElem? (i := 0) rfl)) ga0) q27) (cwV 3 (cx_ts C) gX12_work_X12_set rfl rfl rfl (by decide +kernel) ⟨Nat.le_of_ble_eq_true rfl, Nat.le_of_ble_eq_true rfl⟩) rfl (hG _ (List.mem_of_getElem? (i := 0) rfl)) (of10_0 _) (ce10 T ad _ _) rfl (st := []) rfl (Nat.le_of_ble_eq_true rfl) ⟨Nat.le_refl 0, Nat.le_refl 0⟩ dX12_work_87 (ppv ?_)
      refine fw_aload_n C dX12_work_90 rfl 0 rfl ?_
      refine fw_iload_n C dX12_work_91 rfl 1 rfl ?_
      refine fw_bipush C dX12_work_92 (v := 23) rfl ?_
      refine fw_iconst C dX12_work_94 (v := 1) rfl ?_
      obtain ⟨Y31, q30, h⟩ := bd1_some h
      refine fw_callVv C (ci := 10) (Cn := RX12) (Tc := TX12) (N := 19) (As := [.int a1, .int 23, .int 1]) (c_X12_set (gac (hG _ (List.mem_of_getElem? (i := 0) rfl)) ga0) q30) (cwV 3 (cx_ts C) gX12_work_X12_set rfl rfl rfl (by decide +kernel) ⟨Nat.le_of_ble_eq_true rfl, Nat.le_of_ble_eq_true rfl⟩) rfl (hG _ (List.mem_of_getElem? (i := 0) rfl)) (of10_0 _) (ce10 T ad _ _) rfl (st := []) rfl (Nat.le_of_ble_eq_true rfl) ⟨Nat.le_refl 0, Nat.le_refl 0⟩ dX12_work_95 (ppv ?_)
      refine fw_aload_n C dX12_work_98 rfl 0 rfl ?_
      refine fw_get C (ci := 10) (Cn := RX12) (Tc := TX12) (N := 19) (j := 0) ly_X12_work_12 rfl (hG _ (List.mem_of_getElem? (i := 0) rfl)) (of10_0 _) (ce10 T ad _ _) (by decide) (cx_ts C _ fl_X12_work_13) (fun _ h => h) (v := .ref (ad 10 0 1)) rfl dX12_work_99 ?_
      refine fw_bipush C dX12_work_102 (v := 8) rfl ?_
      refine fw_dup2 C dX12_work_104 rfl rfl ?_
      obtain ⟨b32, h⟩ := gd_some h
      refine fw_iald2 C (hG _ (List.mem_of_getElem? (i := 0) rfl)) (of10_1 _) (ca10_1 T ad _ _) b32 (Nat.le_of_ble_eq_true rfl) dX12_work_105 ?_
      refine fw_iconst C dX12_work_106 (v := 1) rfl ?_
      refine fw_iadd C dX12_work_107 ?_
      obtain ⟨Y33, e34, h⟩ := lt_some h
      refine fw_iast2 C (hG _ (List.mem_of_getElem? (i := 0) rfl)) (of10_1 _) (ca10_1 T ad _) b32 (Nat.le_of_ble_eq_true rfl) dX12_work_108 ?_
      refine fw_mem e34 ?_
      exact fw_vret C hrt Y33 (Option.some.inj h) (fun t ht => ht) dX12_work_109
    · have h := ite_f c19 h
      exact fw_vret C hrt Y16 (Option.some.inj h) (fun t ht => ht) dX12_work_65
  · have h := ite_f c6 h
    exact fw_vret C hrt Y3 (Option.some.inj h) (fun t ht => ht) dX12_work_19
end
set_option maxRecDepth 100000 in
set_option maxHeartbeats 4000000 in
theorem c_X12_work {l : Launch} {N0 : Nat} {T : Nat → ClassId} {D : va_G} {gr : List (Nat × Nat)} {ad : Nat → Nat → Nat → Nat} {Y : Mem} {a1 : Int32} {res : Mem} (hG : ∀ q ∈ [(10, 0)], q ∈ gr) (h : X12_work Y a1 = some res) : CV l yX12_work wsX12_work (Rm 1) N0 T D gr ad Y [.ref (ad 10 0 0), .int a1] (fun Y1 => Y1 = res) :=
  fw_body (by decide +kernel) rfl (Nat.le_of_ble_eq_true rfl) (fun p e s m below meth c C hrt => w_X12_work C hrt hG  h)
section
variable {p : Program} {l : Launch} {e : Env} {s : State} {m : MethodId} {below : List Frame} {meth : Method} {c : Code} {N0 : Nat} {T : Nat → ClassId} {D : va_G} {gr : List (Nat × Nat)} {ad : Nat → Nat → Nat → Nat}
set_option maxRecDepth 100000 in
set_option maxHeartbeats 4000000 in
theorem w_X12_isTaken {Y : Mem} {a1 : Int32} (C : Cx p s m [.ref (ad 10 0 0), .int a1].toArray meth c cX12_isTaken 2 wsX12_isTaken RX12 N0 T D gr ad) (hrt : meth.sig.returnType = (some .boolean)) (hG : ∀ q ∈ [(10, 0)], q ∈ gr) {res : Int32} (h : X12_isTaken Y a1 = some res) : FW p l e (Rm 3) s m [.ref (ad 10 0 0), .int a1].toArray below meth c 2 N0 T D gr ad 0 0 (MQ below (va_Qi (fun r Y1 => r = res ∧ Y1 = Y) (WB T D gr ad) (fun q => N0 ≤ q)) [.ref (ad 10 0 0), .int a1].toArray s 0 0 (fun q => N0 ≤ q)) Y 0 [(0, .ref (ad 10 0 0)), (1, .int a1)] [] := by
  unfold X12_isTaken at h
  refine fw_aload_n C dX12_isTaken_0 rfl 0 rfl ?_
  refine fw_iload_n C dX12_isTaken_1 rfl 1 rfl ?_
  refine fw_bipush C dX12_isTaken_2 (v := 17) rfl ?_
  obtain ⟨r1, q2, h⟩ := bd1_some h
  refine fw_callVi C (ci := 10) (Cn := RX12) (Tc := TX12) (N := 19) (As := [.int a1, .int 17]) (c_X12_of (gac (hG _ (List.mem_of_getElem? (i := 0) rfl)) ga0) q2) (cwV 2 (cx_ts C) gX12_isTaken_X12_of rfl rfl rfl (by decide +kernel) ⟨Nat.le_of_ble_eq_true rfl, Nat.le_of_ble_eq_true rfl⟩) rfl (hG _ (List.mem_of_getElem? (i := 0) rfl)) (of10_0 _) (ce10 T ad _ _) rfl (st := []) rfl (Nat.le_of_ble_eq_true rfl) ⟨Nat.le_refl 0, Nat.le_refl 0⟩ dX12_isTaken_4 (pp2 ?_)
  refine fw_iconst C dX12_isTaken_7 (v := 2) rfl ?_
  refine fw_icmp_ne C dX12_isTaken_8 (tgt := 25) rfl (fun c3 => ?_) (fun c3 => ?_)
  · have h := ite_f c3 h
    refine fw_iconst C dX12_isTaken_25 (v := 0) rfl ?_
    exact fw_zret C hrt (by decide) Y ⟨Option.some.inj h, rfl⟩ (fun t ht => ht) dX12_isTaken_26
  · have h := ite_t c3 h
    refine fw_aload_n C dX12_isTaken_11 rfl 0 rfl ?_
    refine fw_iload_n C dX12_isTaken_12 rfl 1 rfl ?_
    refine fw_iconst C dX12_isTaken_13 (v := 1) rfl ?_
    refine fw_iconst C dX12_isTaken_14 (v := 2) rfl ?_
    obtain ⟨r4, q5, h⟩ := bd1_some h
    refine fw_callVi C (ci := 10) (Cn := RX12) (Tc := TX12) (N := 19) (As := [.int a1, .int 1, .int 2]) (c_X12_hasSuccessor (gac (hG _ (List.mem_of_getElem? (i := 0) rfl)) ga0) q5) (cwV 3 (cx_ts C) gX12_isTaken_X12_hasSuccessor rfl rfl rfl (by decide +kernel) ⟨Nat.le_of_ble_eq_true rfl, Nat.le_of_ble_eq_true rfl⟩) rfl (hG _ (List.mem_of_getElem? (i := 0) rfl)) (of10_0 _) (ce10 T ad _ _) rfl (st := []) rfl (Nat.le_of_ble_eq_true rfl) ⟨Nat.le_refl 0, Nat.le_refl 0⟩ dX12_isTaken_15 (pp2 ?_)
    refine fw_if_eq C dX12_isTaken_18 (tgt := 25) rfl (fun c6 => ?_) (fun c6 => ?_)
    · have h := ite_t c6 h
      refine fw_iconst C dX12_isTaken_25 (v := 0) rfl ?_
      exact fw_zret C hrt (by decide) Y ⟨Option.some.inj h, rfl⟩ (fun t ht => ht) dX12_isTaken_26
    · have h := ite_f c6 h
      refine fw_iconst C dX12_isTaken_21 (v := 1) rfl ?_
      refine fw_goto C dX12_isTaken_22 (tgt := 26) rfl ?_
      exact fw_zret C hrt (by decide) Y ⟨Option.some.inj h, rfl⟩ (fun t ht => ht) dX12_isTaken_26
end
set_option maxRecDepth 100000 in
set_option maxHeartbeats 4000000 in
theorem c_X12_isTaken {l : Launch} {N0 : Nat} {T : Nat → ClassId} {D : va_G} {gr : List (Nat × Nat)} {ad : Nat → Nat → Nat → Nat} {Y : Mem} {a1 : Int32} {res : Int32} (hG : ∀ q ∈ [(10, 0)], q ∈ gr) (h : X12_isTaken Y a1 = some res) : CI l yX12_isTaken wsX12_isTaken (Rm 3) N0 T D gr ad Y [.ref (ad 10 0 0), .int a1] (fun r Y1 => r = res ∧ Y1 = Y) :=
  fw_body (by decide +kernel) rfl (Nat.le_of_ble_eq_true rfl) (fun p e s m below meth c C hrt => w_X12_isTaken C hrt hG  h)
theorem ly_X12_cool_12 : ∀ w ∈ u_ws RX12 TX12 19, w ∈ wsX12_cool := by decide +kernel
theorem fl_X12_cool_13 : Cond.fieldLink RX12 13 "RecipeSchedulerModel" "m" "[I" ∈ wsX12_cool := by decide +kernel
section
variable {p : Program} {l : Launch} {e : Env} {s : State} {m : MethodId} {below : List Frame} {meth : Method} {c : Code} {N0 : Nat} {T : Nat → ClassId} {D : va_G} {gr : List (Nat × Nat)} {ad : Nat → Nat → Nat → Nat}
set_option maxRecDepth 100000 in
set_option maxHeartbeats 4000000 in
theorem w_X12_cool {Y : Mem} {a1 : Int32} (C : Cx p s m [.ref (ad 10 0 0), .int a1].toArray meth c cX12_cool 2 wsX12_cool RX12 N0 T D gr ad) (hrt : meth.sig.returnType = none) (hG : ∀ q ∈ [(10, 0)], q ∈ gr) {res : Mem} (h : X12_cool Y a1 = some res) : FW p l e (Rm 4) s m [.ref (ad 10 0 0), .int a1].toArray below meth c 2 N0 T D gr ad 0 0 (MQ below (va_Qv (fun Y1 => Y1 = res) (WB T D gr ad) (fun q => N0 ≤ q)) [.ref (ad 10 0 0), .int a1].toArray s 0 0 (fun q => N0 ≤ q)) Y 0 [(0, .ref (ad 10 0 0)), (1, .int a1)] [] := by
  unfold X12_cool at h
  refine fw_aload_n C dX12_cool_0 rfl 0 rfl ?_
  refine fw_iload_n C dX12_cool_1 rfl 1 rfl ?_
  refine fw_bipush C dX12_cool_2 (v := 10) rfl ?_
  obtain ⟨r1, q2, h⟩ := bd1_some h
  refine fw_callVi C (ci := 10) (Cn := RX12) (Tc := TX12) (N := 19) (As := [.int a1, .int 10]) (c_X12_of (gac (hG _ (List.mem_of_getElem? (i := 0) rfl)) ga0) q2) (cwV 2 (cx_ts C) gX12_cool_X12_of rfl rfl rfl (by decide +kernel) ⟨Nat.le_of_ble_eq_true rfl, Nat.le_of_ble_eq_true rfl⟩) rfl (hG _ (List.mem_of_getElem? (i := 0) rfl)) (of10_0 _) (ce10 T ad _ _) rfl (st := []) rfl (Nat.le_of_ble_eq_true rfl) ⟨Nat.le_refl 0, Nat.le_refl 0⟩ dX12_cool_4 (pp2 ?_)
  refine fw_if_eq C dX12_cool_7 (tgt := 40) rfl (fun c3 => ?_) (fun c3 => ?_)
  · have h := ite_t c3 h
    exact fw_vret C hrt Y (Option.some.inj h) (fun t ht => ht) dX12_cool_40
  · have h := ite_f c3 h
    refine fw_aload_n C dX12_cool_10 rfl 0 rfl ?_
    refine fw_iload_n C dX12_cool_11 rfl 1 rfl ?_
    refine fw_bipush C dX12_cool_12 (v := 17) rfl ?_
    obtain ⟨r4, q5, h⟩ := bd1_some h
    refine fw_callVi C (ci := 10) (Cn := RX12) (Tc := TX12) (N := 19) (As := [.int a1, .int 17]) (c_X12_of (gac (hG _ (List.mem_of_getElem? (i := 0) rfl)) ga0) q5) (cwV 2 (cx_ts C) gX12_cool_X12_of rfl rfl rfl (by decide +kernel) ⟨Nat.le_of_ble_eq_true rfl, Nat.le_of_ble_eq_true rfl⟩) rfl (hG _ (List.mem_of_getElem? (i := 0) rfl)) (of10_0 _) (ce10 T ad _ _) rfl (st := []) rfl (Nat.le_of_ble_eq_true rfl) ⟨Nat.le_refl 0, Nat.le_refl 0⟩ dX12_cool_14 (pp2 ?_)
    refine fw_iconst C dX12_cool_17 (v := 2) rfl ?_
    refine fw_icmp_ne C dX12_cool_18 (tgt := 40) rfl (fun c6 => ?_) (fun c6 => ?_)
    · have h := ite_f c6 h
      exact fw_vret C hrt Y (Option.some.inj h) (fun t ht => ht) dX12_cool_40
    · have h := ite_t c6 h
      refine fw_aload_n C dX12_cool_21 rfl 0 rfl ?_
      refine fw_iload_n C dX12_cool_22 rfl 1 rfl ?_
      refine fw_bipush C dX12_cool_23 (v := 23) rfl ?_
      obtain ⟨r7, q8, h⟩ := bd1_some h
      refine fw_callVi C (ci := 10) (Cn := RX12) (Tc := TX12) (N := 19) (As := [.int a1, .int 23]) (c_X12_of (gac (hG _ (List.mem_of_getElem? (i := 0) rfl)) ga0) q8) (cwV 2 (cx_ts C) gX12_cool_X12_of rfl rfl rfl (by decide +kernel) ⟨Nat.le_of_ble_eq_true rfl, Nat.le_of_ble_eq_true rfl⟩) rfl (hG _ (List.mem_of_getElem? (i := 0) rfl)) (of10_0 _) (ce10 T ad _ _) rfl (st := []) rfl (Nat.le_of_ble_eq_true rfl) ⟨Nat.le_refl 0, Nat.le_refl 0⟩ dX12_cool_25 (pp2 ?_)
      refine fw_iconst C dX12_cool_28 (v := 1) rfl ?_
      refine fw_icmp_eq C dX12_cool_29 (tgt := 40) rfl (fun c9 => ?_) (fun c9 => ?_)
      · have h := ite_t c9 h
        exact fw_vret C hrt Y (Option.some.inj h) (fun t ht => ht) dX12_cool_40
      · have h := ite_f c9 h
        refine fw_aload_n C dX12_cool_32 rfl 0 rfl ?_
        refine fw_iload_n C dX12_cool_33 rfl 1 rfl ?_
        obtain ⟨r10, q11, h⟩ := bd1_some h
        refine fw_callVi C (ci := 10) (Cn := RX12) (Tc := TX12) (N := 19) (As := [.int a1]) (c_X12_isTaken (gac (hG _ (List.mem_of_getElem? (i := 0) rfl)) ga0) q11) (cwV 1 (cx_ts C) gX12_cool_X12_isTaken rfl rfl rfl (by decide +kernel) ⟨Nat.le_of_ble_eq_true rfl, Nat.le_of_ble_eq_true rfl⟩) rfl (hG _ (List.mem_of_getElem? (i := 0) rfl)) (of10_0 _) (ce10 T ad _ _) rfl (st := []) rfl (Nat.le_of_ble_eq_true rfl) ⟨Nat.le_refl 0, Nat.le_refl 0⟩ dX12_cool_34 (pp2 ?_)
        refine fw_if_eq C dX12_cool_37 (tgt := 41) rfl (fun c12 => ?_) (fun c12 => ?_)
        · have h := ite_t c12 h
          refine fw_aload_n C dX12_cool_41 rfl 0 rfl ?_
          refine fw_iload_n C dX12_cool_42 rfl 1 rfl ?_
          refine fw_bipush C dX12_cool_43 (v := 19) rfl ?_
          refine fw_aload_n C dX12_cool_45 rfl 0 rfl ?_
          refine fw_iload_n C dX12_cool_46 rfl 1 rfl ?_
          refine fw_bipush C dX12_cool_47 (v := 19) rfl ?_
          obtain ⟨r13, q14, h⟩ := bd1_some h
          refine fw_callVi C (ci := 10) (Cn := RX12) (Tc := TX12) (N := 19) (As := [.int a1, .int 19]) (c_X12_of (gac (hG _ (List.mem_of_getElem? (i := 0) rfl)) ga0) q14) (cwV 2 (cx_ts C) gX12_cool_X12_of rfl rfl rfl (by decide +kernel) ⟨Nat.le_of_ble_eq_true rfl, Nat.le_of_ble_eq_true rfl⟩) rfl (hG _ (List.mem_of_getElem? (i := 0) rfl)) (of10_0 _) (ce10 T ad _ _) rfl (st := [.int 19, .int a1, .ref (ad 10 0 0)]) rfl (Nat.le_of_ble_eq_true rfl) ⟨Nat.le_refl 0, Nat.le_refl 0⟩ dX12_cool_49 (pp2 ?_)
          refine fw_iconst C dX12_cool_52 (v := 1) rfl ?_
          refine fw_iadd C dX12_cool_53 ?_
          obtain ⟨Y17, q16, h⟩ := bd1_some h
          refine fw_callVv C (ci := 10) (Cn := RX12) (Tc := TX12) (N := 19) (As := [.int a1, .int 19, .int (r13 + 1)]) (c_X12_set (gac (hG _ (List.mem_of_getElem? (i := 0) rfl)) ga0) q16) (cwV 3 (cx_ts C) gX12_cool_X12_set rfl rfl rfl (by decide +kernel) ⟨Nat.le_of_ble_eq_true rfl, Nat.le_of_ble_eq_true rfl⟩) rfl (hG _ (List.mem_of_getElem? (i := 0) rfl)) (of10_0 _) (ce10 T ad _ _) rfl (st := []) rfl (Nat.le_of_ble_eq_true rfl) ⟨Nat.le_refl 0, Nat.le_refl 0⟩ dX12_cool_54 (ppv ?_)
          refine fw_aload_n C dX12_cool_57 rfl 0 rfl ?_
          refine fw_iload_n C dX12_cool_58 rfl 1 rfl ?_
          refine fw_bipush C dX12_cool_59 (v := 19) rfl ?_
          obtain ⟨r18, q19, h⟩ := bd1_some h
          refine fw_callVi C (ci := 10) (Cn := RX12) (Tc := TX12) (N := 19) (As := [.int a1, .int 19]) (c_X12_of (gac (hG _ (List.mem_of_getElem? (i := 0) rfl)) ga0) q19) (cwV 2 (cx_ts C) gX12_cool_X12_of rfl rfl rfl (by decide +kernel) ⟨Nat.le_of_ble_eq_true rfl, Nat.le_of_ble_eq_true rfl⟩) rfl (hG _ (List.mem_of_getElem? (i := 0) rfl)) (of10_0 _) (ce10 T ad _ _) rfl (st := []) rfl (Nat.le_of_ble_eq_true rfl) ⟨Nat.le_refl 0, Nat.le_refl 0⟩ dX12_cool_61 (pp2 ?_)
          refine fw_aload_n C dX12_cool_64 rfl 0 rfl ?_
          refine fw_get C (ci := 10) (Cn := RX12) (Tc := TX12) (N := 19) (j := 0) ly_X12_cool_12 rfl (hG _ (List.mem_of_getElem? (i := 0) rfl)) (of10_0 _) (ce10 T ad _ _) (by decide) (cx_ts C _ fl_X12_cool_13) (fun _ h => h) (v := .ref (ad 10 0 1)) rfl dX12_cool_65 ?_
          refine fw_iconst C dX12_cool_68 (v := 1) rfl ?_
          obtain ⟨b20, h⟩ := gd_some h
          refine fw_iald2 C (hG _ (List.mem_of_getElem? (i := 0) rfl)) (of10_1 _) (ca10_1 T ad _ _) b20 (Nat.le_of_ble_eq_true rfl) dX12_cool_69 ?_
          refine fw_icmp_gt C dX12_cool_70 (tgt := 74) rfl (fun c21 => ?_) (fun c21 => ?_)
          · have h := ite_t c21 h
            refine fw_aload_n C dX12_cool_74 rfl 0 rfl ?_
            refine fw_iload_n C dX12_cool_75 rfl 1 rfl ?_
            refine fw_bipush C dX12_cool_76 (v := 17) rfl ?_
            refine fw_iconst C dX12_cool_78 (v := 3) rfl ?_
            obtain ⟨Y24, q23, h⟩ := bd1_some h
            refine fw_callVv C (ci := 10) (Cn := RX12) (Tc := TX12) (N := 19) (As := [.int a1, .int 17, .int 3]) (c_X12_set (gac (hG _ (List.mem_of_getElem? (i := 0) rfl)) ga0) q23) (cwV 3 (cx_ts C) gX12_cool_X12_set rfl rfl rfl (by decide +kernel) ⟨Nat.le_of_ble_eq_true rfl, Nat.le_of_ble_eq_true rfl⟩) rfl (hG _ (List.mem_of_getElem? (i := 0) rfl)) (of10_0 _) (ce10 T ad _ _) rfl (st := []) rfl (Nat.le_of_ble_eq_true rfl) ⟨Nat.le_refl 0, Nat.le_refl 0⟩ dX12_cool_79 (ppv ?_)
            refine fw_aload_n C dX12_cool_82 rfl 0 rfl ?_
            refine fw_iload_n C dX12_cool_83 rfl 1 rfl ?_
            refine fw_bipush C dX12_cool_84 (v := 19) rfl ?_
            refine fw_iconst C dX12_cool_86 (v := 0) rfl ?_
            obtain ⟨Y27, q26, h⟩ := bd1_some h
            refine fw_callVv C (ci := 10) (Cn := RX12) (Tc := TX12) (N := 19) (As := [.int a1, .int 19, .int 0]) (c_X12_set (gac (hG _ (List.mem_of_getElem? (i := 0) rfl)) ga0) q26) (cwV 3 (cx_ts C) gX12_cool_X12_set rfl rfl rfl (by decide +kernel) ⟨Nat.le_of_ble_eq_true rfl, Nat.le_of_ble_eq_true rfl⟩) rfl (hG _ (List.mem_of_getElem? (i := 0) rfl)) (of10_0 _) (ce10 T ad _ _) rfl (st := []) rfl (Nat.le_of_ble_eq_true rfl) ⟨Nat.le_refl 0, Nat.le_refl 0⟩ dX12_cool_87 (ppv ?_)
            refine fw_aload_n C dX12_cool_90 rfl 0 rfl ?_
            refine fw_iload_n C dX12_cool_91 rfl 1 rfl ?_
            refine fw_bipush C dX12_cool_92 (v := 22) rfl ?_
            refine fw_aload_n C dX12_cool_94 rfl 0 rfl ?_
            refine fw_iload_n C dX12_cool_95 rfl 1 rfl ?_
            refine fw_bipush C dX12_cool_96 (v := 22) rfl ?_
            obtain ⟨r28, q29, h⟩ := bd1_some h
            refine fw_callVi C (ci := 10) (Cn := RX12) (Tc := TX12) (N := 19) (As := [.int a1, .int 22]) (c_X12_of (gac (hG _ (List.mem_of_getElem? (i := 0) rfl)) ga0) q29) (cwV 2 (cx_ts C) gX12_cool_X12_of rfl rfl rfl (by decide +kernel) ⟨Nat.le_of_ble_eq_true rfl, Nat.le_of_ble_eq_true rfl⟩) rfl (hG _ (List.mem_of_getElem? (i := 0) rfl)) (of10_0 _) (ce10 T ad _ _) rfl (st := [.int 22, .int a1, .ref (ad 10 0 0)]) rfl (Nat.le_of_ble_eq_true rfl) ⟨Nat.le_refl 0, Nat.le_refl 0⟩ dX12_cool_98 (pp2 ?_)
            refine fw_iconst C dX12_cool_101 (v := 1) rfl ?_
            refine fw_iadd C dX12_cool_102 ?_
            obtain ⟨Y32, q31, h⟩ := bd1_some h
            refine fw_callVv C (ci := 10) (Cn := RX12) (Tc := TX12) (N := 19) (As := [.int a1, .int 22, .int (r28 + 1)]) (c_X12_set (gac (hG _ (List.mem_of_getElem? (i := 0) rfl)) ga0) q31) (cwV 3 (cx_ts C) gX12_cool_X12_set rfl rfl rfl (by decide +kernel) ⟨Nat.le_of_ble_eq_true rfl, Nat.le_of_ble_eq_true rfl⟩) rfl (hG _ (List.mem_of_getElem? (i := 0) rfl)) (of10_0 _) (ce10 T ad _ _) rfl (st := []) rfl (Nat.le_of_ble_eq_true rfl) ⟨Nat.le_refl 0, Nat.le_refl 0⟩ dX12_cool_103 (ppv ?_)
            refine fw_aload_n C dX12_cool_106 rfl 0 rfl ?_
            refine fw_get C (ci := 10) (Cn := RX12) (Tc := TX12) (N := 19) (j := 0) ly_X12_cool_12 rfl (hG _ (List.mem_of_getElem? (i := 0) rfl)) (of10_0 _) (ce10 T ad _ _) (by decide) (cx_ts C _ fl_X12_cool_13) (fun _ h => h) (v := .ref (ad 10 0 1)) rfl dX12_cool_107 ?_
            refine fw_bipush C dX12_cool_110 (v := 9) rfl ?_
            refine fw_dup2 C dX12_cool_112 rfl rfl ?_
            obtain ⟨b33, h⟩ := gd_some h
            refine fw_iald2 C (hG _ (List.mem_of_getElem? (i := 0) rfl)) (of10_1 _) (ca10_1 T ad _ _) b33 (Nat.le_of_ble_eq_true rfl) dX12_cool_113 ?_
            refine fw_iconst C dX12_cool_114 (v := 1) rfl ?_
            refine fw_iadd C dX12_cool_115 ?_
            obtain ⟨Y34, e35, h⟩ := lt_some h
            refine fw_iast2 C (hG _ (List.mem_of_getElem? (i := 0) rfl)) (of10_1 _) (ca10_1 T ad _) b33 (Nat.le_of_ble_eq_true rfl) dX12_cool_116 ?_
            refine fw_mem e35 ?_
            exact fw_vret C hrt Y34 (Option.some.inj h) (fun t ht => ht) dX12_cool_117
          · have h := ite_f c21 h
            exact fw_vret C hrt Y17 (Option.some.inj h) (fun t ht => ht) dX12_cool_73
        · have h := ite_f c12 h
          exact fw_vret C hrt Y (Option.some.inj h) (fun t ht => ht) dX12_cool_40
end
set_option maxRecDepth 100000 in
set_option maxHeartbeats 4000000 in
theorem c_X12_cool {l : Launch} {N0 : Nat} {T : Nat → ClassId} {D : va_G} {gr : List (Nat × Nat)} {ad : Nat → Nat → Nat → Nat} {Y : Mem} {a1 : Int32} {res : Mem} (hG : ∀ q ∈ [(10, 0)], q ∈ gr) (h : X12_cool Y a1 = some res) : CV l yX12_cool wsX12_cool (Rm 4) N0 T D gr ad Y [.ref (ad 10 0 0), .int a1] (fun Y1 => Y1 = res) :=
  fw_body (by decide +kernel) rfl (Nat.le_of_ble_eq_true rfl) (fun p e s m below meth c C hrt => w_X12_cool C hrt hG  h)
theorem ly_X12_computePaths_12 : ∀ w ∈ u_ws RX12 TX12 19, w ∈ wsX12_computePaths := by decide +kernel
theorem fl_X12_computePaths_13 : Cond.fieldLink RX12 13 "RecipeSchedulerModel" "m" "[I" ∈ wsX12_computePaths := by decide +kernel
theorem fl_X12_computePaths_42 : Cond.fieldLink RX12 42 "RecipeSchedulerModel" "paths" "[I" ∈ wsX12_computePaths := by decide +kernel
section
variable {p : Program} {l : Launch} {e : Env} {s : State} {m : MethodId} {below : List Frame} {meth : Method} {c : Code} {N0 : Nat} {T : Nat → ClassId} {D : va_G} {gr : List (Nat × Nat)} {ad : Nat → Nat → Nat → Nat}
set_option maxRecDepth 100000 in
set_option maxHeartbeats 4000000 in
theorem w_X12_computePaths_b57  (C : Cx p s m [.ref (ad 10 0 0)].toArray meth c cX12_computePaths 4 wsX12_computePaths RX12 N0 T D gr ad) (hrt : meth.sig.returnType = none) (hG : ∀ q ∈ [(10, 0)], q ∈ gr) {res : Mem} {k20 : Mem → Int32 → Int32 → Int32 → Option (Mem)} (hk20 : ∀ (Y : Mem) (l3 : Int32) (l2 : Int32) (l1 : Int32), k20 Y l3 l2 l1 = some res → FW p l e (Rm 2) s m [.ref (ad 10 0 0)].toArray below meth c 4 N0 T D gr ad 0 0 (MQ below (va_Qv (fun Y1 => Y1 = res) (WB T D gr ad) (fun q => N0 ≤ q)) [.ref (ad 10 0 0)].toArray s 0 0 (fun q => N0 ≤ q)) Y 20 [(3, .int l3), (2, .int l2), (1, .int l1), (0, .ref (ad 10 0 0))] []) (Y : Mem) (l3 : Int32) (l2 : Int32) (l1 : Int32) (h : X12_computePaths_b57  k20 Y l3 l2 l1 = some res) : FW p l e (Rm 2) s m [.ref (ad 10 0 0)].toArray below meth c 4 N0 T D gr ad 0 0 (MQ below (va_Qv (fun Y1 => Y1 = res) (WB T D gr ad) (fun q => N0 ≤ q)) [.ref (ad 10 0 0)].toArray s 0 0 (fun q => N0 ≤ q)) Y 57 [(3, .int l3), (2, .int l2), (1, .int l1), (0, .ref (ad 10 0 0))] [] := by
  unfold X12_computePaths_b57 at h
  refine fw_iinc C dX12_computePaths_57 (kk := 0) (v := l3 + 1) rfl rfl (by decide) (L' := [(3, .int (l3 + 1)), (2, .int l2), (1, .int l1), (0, .ref (ad 10 0 0))]) rfl ?_
  refine fw_goto C dX12_computePaths_60 (tgt := 20) rfl ?_
  exact hk20 _ _ _ _ h
set_option maxRecDepth 100000 in
set_option maxHeartbeats 4000000 in
theorem w_X12_computePaths_b20  (C : Cx p s m [.ref (ad 10 0 0)].toArray meth c cX12_computePaths 4 wsX12_computePaths RX12 N0 T D gr ad) (hrt : meth.sig.returnType = none) (hG : ∀ q ∈ [(10, 0)], q ∈ gr) {res : Mem} {k10 : Mem → Int32 → Option (Mem)} (hk10 : ∀ (Y : Mem) (l1 : Int32), k10 Y l1 = some res → FW p l e (Rm 2) s m [.ref (ad 10 0 0)].toArray below meth c 4 N0 T D gr ad 0 0 (MQ below (va_Qv (fun Y1 => Y1 = res) (WB T D gr ad) (fun q => N0 ≤ q)) [.ref (ad 10 0 0)].toArray s 0 0 (fun q => N0 ≤ q)) Y 10 [(1, .int l1), (0, .ref (ad 10 0 0))] []) : ∀ (n : Nat) (Y : Mem) (l3 : Int32) (l2 : Int32) (l1 : Int32), X12_computePaths_b20  k10 n Y l3 l2 l1 = some res → FW p l e (Rm 2) s m [.ref (ad 10 0 0)].toArray below meth c 4 N0 T D gr ad 0 0 (MQ below (va_Qv (fun Y1 => Y1 = res) (WB T D gr ad) (fun q => N0 ≤ q)) [.ref (ad 10 0 0)].toArray s 0 0 (fun q => N0 ≤ q)) Y 20 [(3, .int l3), (2, .int l2), (1, .int l1), (0, .ref (ad 10 0 0))] [] := by
  intro n
  induction n with
  | zero =>
    intro Y l3 l2 l1 h
    unfold X12_computePaths_b20 at h
    cases h
  | succ n ih =>
    intro Y l3 l2 l1 h
    unfold X12_computePaths_b20 at h
    refine fw_iload_n C dX12_computePaths_20 rfl 0 rfl ?_
    refine fw_aload_n C dX12_computePaths_21 rfl 3 rfl ?_
    refine fw_get C (ci := 10) (Cn := RX12) (Tc := TX12) (N := 19) (j := 0) ly_X12_computePaths_12 rfl (hG _ (List.mem_of_getElem? (i := 0) rfl)) (of10_0 _) (ce10 T ad _ _) (by decide) (cx_ts C _ fl_X12_computePaths_13) (fun _ h => h) (v := .ref (ad 10 0 1)) rfl dX12_computePaths_22 ?_
    refine fw_bipush C dX12_computePaths_25 (v := 13) rfl ?_
    obtain ⟨b7, h⟩ := gd_some h
    refine fw_iald2 C (hG _ (List.mem_of_getElem? (i := 0) rfl)) (of10_1 _) (ca10_1 T ad _ _) b7 (Nat.le_of_ble_eq_true rfl) dX12_computePaths_27 ?_
    refine fw_icmp_ge C dX12_computePaths_28 (tgt := 63) rfl (fun c8 => ?_) (fun c8 => ?_)
    · have h := ite_t c8 h
      refine fw_aload_n C dX12_computePaths_63 rfl 3 rfl ?_
      refine fw_get C (ci := 10) (Cn := RX12) (Tc := TX12) (N := 19) (j := 10) ly_X12_computePaths_12 rfl (hG _ (List.mem_of_getElem? (i := 0) rfl)) (of10_0 _) (ce10 T ad _ _) (by decide) (cx_ts C _ fl_X12_computePaths_42) (fun _ h => h) (v := .ref (ad 10 0 5)) rfl dX12_computePaths_64 ?_
      refine fw_iload_n C dX12_computePaths_67 rfl 2 rfl ?_
      refine fw_aload_n C dX12_computePaths_68 rfl 3 rfl ?_
      refine fw_iload_n C dX12_computePaths_69 rfl 2 rfl ?_
      refine fw_bipush C dX12_computePaths_70 (v := 7) rfl ?_
      obtain ⟨r9, q10, h⟩ := bd1_some h
      refine fw_callVi C (ci := 10) (Cn := RX12) (Tc := TX12) (N := 19) (As := [.int l1, .int 7]) (c_X12_of (gac (hG _ (List.mem_of_getElem? (i := 0) rfl)) ga0) q10) (cwV 2 (cx_ts C) gX12_computePaths_X12_of rfl rfl rfl (by decide +kernel) ⟨Nat.le_of_ble_eq_true rfl, Nat.le_of_ble_eq_true rfl⟩) rfl (hG _ (List.mem_of_getElem? (i := 0) rfl)) (of10_0 _) (ce10 T ad _ _) rfl (st := [.int l1, .ref (ad 10 0 5)]) rfl (Nat.le_of_ble_eq_true rfl) ⟨Nat.le_refl 0, Nat.le_refl 0⟩ dX12_computePaths_72 (pp2 ?_)
      refine fw_iload_n C dX12_computePaths_75 rfl 1 rfl ?_
      refine fw_iadd C dX12_computePaths_76 ?_
      obtain ⟨b11, h⟩ := gd_some h
      obtain ⟨Y12, e13, h⟩ := lt_some h
      refine fw_iast2 C (hG _ (List.mem_of_getElem? (i := 0) rfl)) (of10_5 _) (ca10_5 T ad _) b11 (Nat.le_of_ble_eq_true rfl) dX12_computePaths_77 ?_
      refine fw_mem e13 ?_
      refine fw_iinc C dX12_computePaths_78 (kk := 2) (v := l1 + (-1)) rfl rfl (by decide) (L' := [(1, .int (l1 + (-1))), (3, .int l3), (2, .int l2), (0, .ref (ad 10 0 0))]) rfl ?_
      refine fw_goto C dX12_computePaths_81 (tgt := 10) rfl ?_
      refine fw_sub [0, 3] (L' := [(1, .int (l1 + (-1))), (0, .ref (ad 10 0 0))]) rfl ?_
      exact hk10 _ _ h
    · have h := ite_f c8 h
      refine fw_aload_n C dX12_computePaths_31 rfl 3 rfl ?_
      refine fw_iload_n C dX12_computePaths_32 rfl 2 rfl ?_
      refine fw_iload_n C dX12_computePaths_33 rfl 0 rfl ?_
      obtain ⟨r14, q15, h⟩ := bd1_some h
      refine fw_callVi C (ci := 10) (Cn := RX12) (Tc := TX12) (N := 19) (As := [.int l1, .int l3]) (c_X12_isPredecessor (gac (hG _ (List.mem_of_getElem? (i := 0) rfl)) ga0) q15) (cwV 2 (cx_ts C) gX12_computePaths_X12_isPredecessor rfl rfl rfl (by decide +kernel) ⟨Nat.le_of_ble_eq_true rfl, Nat.le_of_ble_eq_true rfl⟩) rfl (hG _ (List.mem_of_getElem? (i := 0) rfl)) (of10_0 _) (ce10 T ad _ _) rfl (st := []) rfl (Nat.le_of_ble_eq_true rfl) ⟨Nat.le_refl 0, Nat.le_refl 0⟩ dX12_computePaths_34 (pp2 ?_)
      refine fw_if_eq C dX12_computePaths_37 (tgt := 57) rfl (fun c16 => ?_) (fun c16 => ?_)
      · have h := ite_t c16 h
        exact w_X12_computePaths_b57 C hrt hG  ih _ _ _ _ h
      · have h := ite_f c16 h
        refine fw_aload_n C dX12_computePaths_40 rfl 3 rfl ?_
        refine fw_get C (ci := 10) (Cn := RX12) (Tc := TX12) (N := 19) (j := 10) ly_X12_computePaths_12 rfl (hG _ (List.mem_of_getElem? (i := 0) rfl)) (of10_0 _) (ce10 T ad _ _) (by decide) (cx_ts C _ fl_X12_computePaths_42) (fun _ h => h) (v := .ref (ad 10 0 5)) rfl dX12_computePaths_41 ?_
        refine fw_iload_n C dX12_computePaths_44 rfl 0 rfl ?_
        obtain ⟨b17, h⟩ := gd_some h
        refine fw_iald2 C (hG _ (List.mem_of_getElem? (i := 0) rfl)) (of10_5 _) (ca10_5 T ad _ _) b17 (Nat.le_of_ble_eq_true rfl) dX12_computePaths_45 ?_
        refine fw_iload_n C dX12_computePaths_46 rfl 1 rfl ?_
        refine fw_icmp_le C dX12_computePaths_47 (tgt := 57) rfl (fun c18 => ?_) (fun c18 => ?_)
        · have h := ite_t c18 h
          exact w_X12_computePaths_b57 C hrt hG  ih _ _ _ _ h
        · have h := ite_f c18 h
          refine fw_aload_n C dX12_computePaths_50 rfl 3 rfl ?_
          refine fw_get C (ci := 10) (Cn := RX12) (Tc := TX12) (N := 19) (j := 10) ly_X12_computePaths_12 rfl (hG _ (List.mem_of_getElem? (i := 0) rfl)) (of10_0 _) (ce10 T ad _ _) (by decide) (cx_ts C _ fl_X12_computePaths_42) (fun _ h => h) (v := .ref (ad 10 0 5)) rfl dX12_computePaths_51 ?_
          refine fw_iload_n C dX12_computePaths_54 rfl 0 rfl ?_
          refine fw_iald2 C (hG _ (List.mem_of_getElem? (i := 0) rfl)) (of10_5 _) (ca10_5 T ad _ _) b17 (Nat.le_of_ble_eq_true rfl) dX12_computePaths_55 ?_
          obtain ⟨v19, e20, h⟩ := lt_some h
          refine fw_top (v' := .int v19) (by rw [e20]) ?_
          refine fw_istore_n C dX12_computePaths_56 rfl (by decide) (L' := [(2, .int v19), (3, .int l3), (1, .int l1), (0, .ref (ad 10 0 0))]) rfl ?_
          refine fw_sub [1, 0, 2, 3] (L' := [(3, .int l3), (2, .int v19), (1, .int l1), (0, .ref (ad 10 0 0))]) rfl ?_
          exact w_X12_computePaths_b57 C hrt hG  ih _ _ _ _ h
set_option maxRecDepth 100000 in
set_option maxHeartbeats 4000000 in
theorem w_X12_computePaths_b10  (C : Cx p s m [.ref (ad 10 0 0)].toArray meth c cX12_computePaths 4 wsX12_computePaths RX12 N0 T D gr ad) (hrt : meth.sig.returnType = none) (hG : ∀ q ∈ [(10, 0)], q ∈ gr) {res : Mem} : ∀ (n : Nat) (Y : Mem) (l1 : Int32), X12_computePaths_b10   n Y l1 = some res → FW p l e (Rm 2) s m [.ref (ad 10 0 0)].toArray below meth c 4 N0 T D gr ad 0 0 (MQ below (va_Qv (fun Y1 => Y1 = res) (WB T D gr ad) (fun q => N0 ≤ q)) [.ref (ad 10 0 0)].toArray s 0 0 (fun q => N0 ≤ q)) Y 10 [(1, .int l1), (0, .ref (ad 10 0 0))] [] := by
  intro n
  induction n with
  | zero =>
    intro Y l1 h
    unfold X12_computePaths_b10 at h
    cases h
  | succ n ih =>
    intro Y l1 h
    unfold X12_computePaths_b10 at h
    refine fw_iload_n C dX12_computePaths_10 rfl 0 rfl ?_
    refine fw_if_lt C dX12_computePaths_11 (tgt := 84) rfl (fun c4 => ?_) (fun c4 => ?_)
    · have h := ite_t c4 h
      exact fw_vret C hrt Y (Option.some.inj h) (fun t ht => ht) dX12_computePaths_84
    · have h := ite_f c4 h
      refine fw_iconst C dX12_computePaths_14 (v := 0) rfl ?_
      refine fw_istore_n C dX12_computePaths_15 rfl (by decide) (L' := [(2, .int 0), (1, .int l1), (0, .ref (ad 10 0 0))]) rfl ?_
      refine fw_iload_n C dX12_computePaths_16 rfl 1 rfl ?_
      refine fw_iconst C dX12_computePaths_17 (v := 1) rfl ?_
      refine fw_iadd C dX12_computePaths_18 ?_
      obtain ⟨v5, e6, h⟩ := lt_some h
      refine fw_top (v' := .int v5) (by rw [e6]) ?_
      refine fw_istore_n C dX12_computePaths_19 rfl (by decide) (L' := [(3, .int v5), (2, .int 0), (1, .int l1), (0, .ref (ad 10 0 0))]) rfl ?_
      exact w_X12_computePaths_b20 C hrt hG  ih _ _ _ _ _ h
set_option maxRecDepth 100000 in
set_option maxHeartbeats 4000000 in
theorem w_X12_computePaths {Y : Mem} (C : Cx p s m [.ref (ad 10 0 0)].toArray meth c cX12_computePaths 4 wsX12_computePaths RX12 N0 T D gr ad) (hrt : meth.sig.returnType = none) (hG : ∀ q ∈ [(10, 0)], q ∈ gr) {res : Mem} (h : X12_computePaths Y = some res) : FW p l e (Rm 2) s m [.ref (ad 10 0 0)].toArray below meth c 4 N0 T D gr ad 0 0 (MQ below (va_Qv (fun Y1 => Y1 = res) (WB T D gr ad) (fun q => N0 ≤ q)) [.ref (ad 10 0 0)].toArray s 0 0 (fun q => N0 ≤ q)) Y 0 [(0, .ref (ad 10 0 0))] [] := by
  unfold X12_computePaths at h
  refine fw_aload_n C dX12_computePaths_0 rfl 0 rfl ?_
  refine fw_get C (ci := 10) (Cn := RX12) (Tc := TX12) (N := 19) (j := 0) ly_X12_computePaths_12 rfl (hG _ (List.mem_of_getElem? (i := 0) rfl)) (of10_0 _) (ce10 T ad _ _) (by decide) (cx_ts C _ fl_X12_computePaths_13) (fun _ h => h) (v := .ref (ad 10 0 1)) rfl dX12_computePaths_1 ?_
  refine fw_bipush C dX12_computePaths_4 (v := 13) rfl ?_
  obtain ⟨b1, h⟩ := gd_some h
  refine fw_iald2 C (hG _ (List.mem_of_getElem? (i := 0) rfl)) (of10_1 _) (ca10_1 T ad _ _) b1 (Nat.le_of_ble_eq_true rfl) dX12_computePaths_6 ?_
  refine fw_iconst C dX12_computePaths_7 (v := 1) rfl ?_
  refine fw_isub C dX12_computePaths_8 ?_
  obtain ⟨v2, e3, h⟩ := lt_some h
  refine fw_top (v' := .int v2) (by rw [e3]) ?_
  refine fw_istore_n C dX12_computePaths_9 rfl (by decide) (L' := [(1, .int v2), (0, .ref (ad 10 0 0))]) rfl ?_
  exact w_X12_computePaths_b10 C hrt hG   _ _ _ h
end
set_option maxRecDepth 100000 in
set_option maxHeartbeats 4000000 in
theorem c_X12_computePaths {l : Launch} {N0 : Nat} {T : Nat → ClassId} {D : va_G} {gr : List (Nat × Nat)} {ad : Nat → Nat → Nat → Nat} {Y : Mem} {res : Mem} (hG : ∀ q ∈ [(10, 0)], q ∈ gr) (h : X12_computePaths Y = some res) : CV l yX12_computePaths wsX12_computePaths (Rm 2) N0 T D gr ad Y [.ref (ad 10 0 0)] (fun Y1 => Y1 = res) :=
  fw_body (by decide +kernel) rfl (Nat.le_of_ble_eq_true rfl) (fun p e s m below meth c C hrt => w_X12_computePaths C hrt hG  h)
