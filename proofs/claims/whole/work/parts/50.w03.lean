section
variable {p : Program} {l : Launch} {e : Env} {s : State} {m : MethodId} {below : List Frame} {meth : Method} {c : Code} {N0 : Nat} {T : Nat → ClassId} {D : va_G} {gr : List (Nat × Nat)} {ad : Nat → Nat → Nat → Nat}
set_option maxRecDepth 100000 in
set_option maxHeartbeats 4000000 in
theorem w_X12_firstOpen_b2 {Y : Mem} {a1 : Int32} (C : Cx p s m [.ref (ad 10 0 0), .int a1].toArray meth c cX12_firstOpen 3 wsX12_firstOpen RX12 N0 T D gr ad) (hrt : meth.sig.returnType = (some .int)) (hG : ∀ q ∈ [(10, 0)], q ∈ gr) {res : Int32} : ∀ (n : Nat) (l2 : Int32), X12_firstOpen_b2 Y a1  n l2 = some res → FW p l e (Rm 1) s m [.ref (ad 10 0 0), .int a1].toArray below meth c 3 N0 T D gr ad 0 0 (MQ below (va_Qi (fun r Y1 => r = res ∧ Y1 = Y) (WB T D gr ad) (fun q => N0 ≤ q)) [.ref (ad 10 0 0), .int a1].toArray s 0 0 (fun q => N0 ≤ q)) Y 2 [(2, .int l2), (0, .ref (ad 10 0 0)), (1, .int a1)] [] := by
  intro n
  induction n with
  | zero =>
    intro l2 h
    unfold X12_firstOpen_b2 at h
    cases h
  | succ n ih =>
    intro l2 h
    unfold X12_firstOpen_b2 at h
    refine fw_iload_n C dX12_firstOpen_2 rfl 0 rfl ?_
    refine fw_aload_n C dX12_firstOpen_3 rfl 1 rfl ?_
    refine fw_iload_n C dX12_firstOpen_4 rfl 2 rfl ?_
    refine fw_bipush C dX12_firstOpen_5 (v := 12) rfl ?_
    obtain ⟨r1, q2, h⟩ := bd1_some h
    refine fw_callVi C (ci := 10) (Cn := RX12) (Tc := TX12) (N := 19) (As := [.int a1, .int 12]) (c_X12_of (gac (hG _ (List.mem_of_getElem? (i := 0) rfl)) ga0) q2) (cwV 2 (cx_ts C) gX12_firstOpen_X12_of rfl rfl rfl (by decide +kernel) ⟨Nat.le_of_ble_eq_true rfl, Nat.le_of_ble_eq_true rfl⟩) rfl (hG _ (List.mem_of_getElem? (i := 0) rfl)) (of10_0 _) (ce10 T ad _ _) rfl (st := [.int l2]) rfl (Nat.le_of_ble_eq_true rfl) ⟨Nat.le_refl 0, Nat.le_refl 0⟩ dX12_firstOpen_7 (pp2 ?_)
    refine fw_icmp_ge C dX12_firstOpen_10 (tgt := 48) rfl (fun c3 => ?_) (fun c3 => ?_)
    · have h := ite_t c3 h
      refine fw_iconst C dX12_firstOpen_48 (v := (-1)) rfl ?_
      exact fw_iret C hrt Y ⟨Option.some.inj h, rfl⟩ (fun t ht => ht) dX12_firstOpen_49
    · have h := ite_f c3 h
      refine fw_aload_n C dX12_firstOpen_13 rfl 1 rfl ?_
      refine fw_aload_n C dX12_firstOpen_14 rfl 1 rfl ?_
      refine fw_iload_n C dX12_firstOpen_15 rfl 2 rfl ?_
      refine fw_bipush C dX12_firstOpen_16 (v := 13) rfl ?_
      refine fw_iload_n C dX12_firstOpen_18 rfl 0 rfl ?_
      refine fw_iadd C dX12_firstOpen_19 ?_
      obtain ⟨r4, q5, h⟩ := bd1_some h
      refine fw_callVi C (ci := 10) (Cn := RX12) (Tc := TX12) (N := 19) (As := [.int a1, .int (13 + l2)]) (c_X12_of (gac (hG _ (List.mem_of_getElem? (i := 0) rfl)) ga0) q5) (cwV 2 (cx_ts C) gX12_firstOpen_X12_of rfl rfl rfl (by decide +kernel) ⟨Nat.le_of_ble_eq_true rfl, Nat.le_of_ble_eq_true rfl⟩) rfl (hG _ (List.mem_of_getElem? (i := 0) rfl)) (of10_0 _) (ce10 T ad _ _) rfl (st := [.ref (ad 10 0 0)]) rfl (Nat.le_of_ble_eq_true rfl) ⟨Nat.le_refl 0, Nat.le_refl 0⟩ dX12_firstOpen_20 (pp2 ?_)
      refine fw_bipush C dX12_firstOpen_23 (v := 17) rfl ?_
      obtain ⟨r6, q7, h⟩ := bd1_some h
      refine fw_callVi C (ci := 10) (Cn := RX12) (Tc := TX12) (N := 19) (As := [.int r4, .int 17]) (c_X12_of (gac (hG _ (List.mem_of_getElem? (i := 0) rfl)) ga0) q7) (cwV 2 (cx_ts C) gX12_firstOpen_X12_of rfl rfl rfl (by decide +kernel) ⟨Nat.le_of_ble_eq_true rfl, Nat.le_of_ble_eq_true rfl⟩) rfl (hG _ (List.mem_of_getElem? (i := 0) rfl)) (of10_0 _) (ce10 T ad _ _) rfl (st := []) rfl (Nat.le_of_ble_eq_true rfl) ⟨Nat.le_refl 0, Nat.le_refl 0⟩ dX12_firstOpen_25 (pp2 ?_)
      refine fw_iconst C dX12_firstOpen_28 (v := 2) rfl ?_
      refine fw_icmp_eq C dX12_firstOpen_29 (tgt := 42) rfl (fun c8 => ?_) (fun c8 => ?_)
      · have h := ite_t c8 h
        refine fw_iinc C dX12_firstOpen_42 (kk := 0) (v := l2 + 1) rfl rfl (by decide) (L' := [(2, .int (l2 + 1)), (0, .ref (ad 10 0 0)), (1, .int a1)]) rfl ?_
        refine fw_goto C dX12_firstOpen_45 (tgt := 2) rfl ?_
        exact ih _ h
      · have h := ite_f c8 h
        refine fw_aload_n C dX12_firstOpen_32 rfl 1 rfl ?_
        refine fw_iload_n C dX12_firstOpen_33 rfl 2 rfl ?_
        refine fw_bipush C dX12_firstOpen_34 (v := 13) rfl ?_
        refine fw_iload_n C dX12_firstOpen_36 rfl 0 rfl ?_
        refine fw_iadd C dX12_firstOpen_37 ?_
        obtain ⟨r9, q10, h⟩ := bd1_some h
        refine fw_callVi C (ci := 10) (Cn := RX12) (Tc := TX12) (N := 19) (As := [.int a1, .int (13 + l2)]) (c_X12_of (gac (hG _ (List.mem_of_getElem? (i := 0) rfl)) ga0) q10) (cwV 2 (cx_ts C) gX12_firstOpen_X12_of rfl rfl rfl (by decide +kernel) ⟨Nat.le_of_ble_eq_true rfl, Nat.le_of_ble_eq_true rfl⟩) rfl (hG _ (List.mem_of_getElem? (i := 0) rfl)) (of10_0 _) (ce10 T ad _ _) rfl (st := []) rfl (Nat.le_of_ble_eq_true rfl) ⟨Nat.le_refl 0, Nat.le_refl 0⟩ dX12_firstOpen_38 (pp2 ?_)
        exact fw_iret C hrt Y ⟨Option.some.inj h, rfl⟩ (fun t ht => ht) dX12_firstOpen_41
set_option maxRecDepth 100000 in
set_option maxHeartbeats 4000000 in
theorem w_X12_firstOpen {Y : Mem} {a1 : Int32} (C : Cx p s m [.ref (ad 10 0 0), .int a1].toArray meth c cX12_firstOpen 3 wsX12_firstOpen RX12 N0 T D gr ad) (hrt : meth.sig.returnType = (some .int)) (hG : ∀ q ∈ [(10, 0)], q ∈ gr) {res : Int32} (h : X12_firstOpen Y a1 = some res) : FW p l e (Rm 1) s m [.ref (ad 10 0 0), .int a1].toArray below meth c 3 N0 T D gr ad 0 0 (MQ below (va_Qi (fun r Y1 => r = res ∧ Y1 = Y) (WB T D gr ad) (fun q => N0 ≤ q)) [.ref (ad 10 0 0), .int a1].toArray s 0 0 (fun q => N0 ≤ q)) Y 0 [(0, .ref (ad 10 0 0)), (1, .int a1)] [] := by
  unfold X12_firstOpen at h
  refine fw_iconst C dX12_firstOpen_0 (v := 0) rfl ?_
  refine fw_istore_n C dX12_firstOpen_1 rfl (by decide) (L' := [(2, .int 0), (0, .ref (ad 10 0 0)), (1, .int a1)]) rfl ?_
  exact w_X12_firstOpen_b2 C hrt hG   _ _ h
end
set_option maxRecDepth 100000 in
set_option maxHeartbeats 4000000 in
theorem c_X12_firstOpen {l : Launch} {N0 : Nat} {T : Nat → ClassId} {D : va_G} {gr : List (Nat × Nat)} {ad : Nat → Nat → Nat → Nat} {Y : Mem} {a1 : Int32} {res : Int32} (hG : ∀ q ∈ [(10, 0)], q ∈ gr) (h : X12_firstOpen Y a1 = some res) : CI l yX12_firstOpen wsX12_firstOpen (Rm 1) N0 T D gr ad Y [.ref (ad 10 0 0), .int a1] (fun r Y1 => r = res ∧ Y1 = Y) :=
  fw_body (by decide +kernel) rfl (Nat.le_of_ble_eq_true rfl) (fun p e s m below meth c C hrt => w_X12_firstOpen C hrt hG  h)
section
variable {p : Program} {l : Launch} {e : Env} {s : State} {m : MethodId} {below : List Frame} {meth : Method} {c : Code} {N0 : Nat} {T : Nat → ClassId} {D : va_G} {gr : List (Nat × Nat)} {ad : Nat → Nat → Nat → Nat}
set_option maxRecDepth 100000 in
set_option maxHeartbeats 4000000 in
theorem w_X12_isPredecessor_b2 {Y : Mem} {a1 : Int32} {a2 : Int32} (C : Cx p s m [.ref (ad 10 0 0), .int a1, .int a2].toArray meth c cX12_isPredecessor 4 wsX12_isPredecessor RX12 N0 T D gr ad) (hrt : meth.sig.returnType = (some .boolean)) (hG : ∀ q ∈ [(10, 0)], q ∈ gr) {res : Int32} : ∀ (n : Nat) (l3 : Int32), X12_isPredecessor_b2 Y a1 a2  n l3 = some res → FW p l e (Rm 1) s m [.ref (ad 10 0 0), .int a1, .int a2].toArray below meth c 4 N0 T D gr ad 0 0 (MQ below (va_Qi (fun r Y1 => r = res ∧ Y1 = Y) (WB T D gr ad) (fun q => N0 ≤ q)) [.ref (ad 10 0 0), .int a1, .int a2].toArray s 0 0 (fun q => N0 ≤ q)) Y 2 [(3, .int l3), (0, .ref (ad 10 0 0)), (1, .int a1), (2, .int a2)] [] := by
  intro n
  induction n with
  | zero =>
    intro l3 h
    unfold X12_isPredecessor_b2 at h
    cases h
  | succ n ih =>
    intro l3 h
    unfold X12_isPredecessor_b2 at h
    refine fw_iload_n C dX12_isPredecessor_2 rfl 0 rfl ?_
    refine fw_aload_n C dX12_isPredecessor_3 rfl 1 rfl ?_
    refine fw_iload_n C dX12_isPredecessor_4 rfl 3 rfl ?_
    refine fw_bipush C dX12_isPredecessor_5 (v := 12) rfl ?_
    obtain ⟨r1, q2, h⟩ := bd1_some h
    refine fw_callVi C (ci := 10) (Cn := RX12) (Tc := TX12) (N := 19) (As := [.int a2, .int 12]) (c_X12_of (gac (hG _ (List.mem_of_getElem? (i := 0) rfl)) ga0) q2) (cwV 2 (cx_ts C) gX12_isPredecessor_X12_of rfl rfl rfl (by decide +kernel) ⟨Nat.le_of_ble_eq_true rfl, Nat.le_of_ble_eq_true rfl⟩) rfl (hG _ (List.mem_of_getElem? (i := 0) rfl)) (of10_0 _) (ce10 T ad _ _) rfl (st := [.int l3]) rfl (Nat.le_of_ble_eq_true rfl) ⟨Nat.le_refl 0, Nat.le_refl 0⟩ dX12_isPredecessor_7 (pp2 ?_)
    refine fw_icmp_ge C dX12_isPredecessor_10 (tgt := 34) rfl (fun c3 => ?_) (fun c3 => ?_)
    · have h := ite_t c3 h
      refine fw_iconst C dX12_isPredecessor_34 (v := 0) rfl ?_
      exact fw_zret C hrt (by decide) Y ⟨Option.some.inj h, rfl⟩ (fun t ht => ht) dX12_isPredecessor_35
    · have h := ite_f c3 h
      refine fw_aload_n C dX12_isPredecessor_13 rfl 1 rfl ?_
      refine fw_iload_n C dX12_isPredecessor_14 rfl 3 rfl ?_
      refine fw_bipush C dX12_isPredecessor_15 (v := 13) rfl ?_
      refine fw_iload_n C dX12_isPredecessor_17 rfl 0 rfl ?_
      refine fw_iadd C dX12_isPredecessor_18 ?_
      obtain ⟨r4, q5, h⟩ := bd1_some h
      refine fw_callVi C (ci := 10) (Cn := RX12) (Tc := TX12) (N := 19) (As := [.int a2, .int (13 + l3)]) (c_X12_of (gac (hG _ (List.mem_of_getElem? (i := 0) rfl)) ga0) q5) (cwV 2 (cx_ts C) gX12_isPredecessor_X12_of rfl rfl rfl (by decide +kernel) ⟨Nat.le_of_ble_eq_true rfl, Nat.le_of_ble_eq_true rfl⟩) rfl (hG _ (List.mem_of_getElem? (i := 0) rfl)) (of10_0 _) (ce10 T ad _ _) rfl (st := []) rfl (Nat.le_of_ble_eq_true rfl) ⟨Nat.le_refl 0, Nat.le_refl 0⟩ dX12_isPredecessor_19 (pp2 ?_)
      refine fw_iload_n C dX12_isPredecessor_22 rfl 2 rfl ?_
      refine fw_icmp_ne C dX12_isPredecessor_23 (tgt := 28) rfl (fun c6 => ?_) (fun c6 => ?_)
      · have h := ite_f c6 h
        refine fw_iinc C dX12_isPredecessor_28 (kk := 0) (v := l3 + 1) rfl rfl (by decide) (L' := [(3, .int (l3 + 1)), (0, .ref (ad 10 0 0)), (1, .int a1), (2, .int a2)]) rfl ?_
        refine fw_goto C dX12_isPredecessor_31 (tgt := 2) rfl ?_
        exact ih _ h
      · have h := ite_t c6 h
        refine fw_iconst C dX12_isPredecessor_26 (v := 1) rfl ?_
        exact fw_zret C hrt (by decide) Y ⟨Option.some.inj h, rfl⟩ (fun t ht => ht) dX12_isPredecessor_27
set_option maxRecDepth 100000 in
set_option maxHeartbeats 4000000 in
theorem w_X12_isPredecessor {Y : Mem} {a1 : Int32} {a2 : Int32} (C : Cx p s m [.ref (ad 10 0 0), .int a1, .int a2].toArray meth c cX12_isPredecessor 4 wsX12_isPredecessor RX12 N0 T D gr ad) (hrt : meth.sig.returnType = (some .boolean)) (hG : ∀ q ∈ [(10, 0)], q ∈ gr) {res : Int32} (h : X12_isPredecessor Y a1 a2 = some res) : FW p l e (Rm 1) s m [.ref (ad 10 0 0), .int a1, .int a2].toArray below meth c 4 N0 T D gr ad 0 0 (MQ below (va_Qi (fun r Y1 => r = res ∧ Y1 = Y) (WB T D gr ad) (fun q => N0 ≤ q)) [.ref (ad 10 0 0), .int a1, .int a2].toArray s 0 0 (fun q => N0 ≤ q)) Y 0 [(0, .ref (ad 10 0 0)), (1, .int a1), (2, .int a2)] [] := by
  unfold X12_isPredecessor at h
  refine fw_iconst C dX12_isPredecessor_0 (v := 0) rfl ?_
  refine fw_istore_n C dX12_isPredecessor_1 rfl (by decide) (L' := [(3, .int 0), (0, .ref (ad 10 0 0)), (1, .int a1), (2, .int a2)]) rfl ?_
  exact w_X12_isPredecessor_b2 C hrt hG   _ _ h
end
set_option maxRecDepth 100000 in
set_option maxHeartbeats 4000000 in
theorem c_X12_isPredecessor {l : Launch} {N0 : Nat} {T : Nat → ClassId} {D : va_G} {gr : List (Nat × Nat)} {ad : Nat → Nat → Nat → Nat} {Y : Mem} {a1 : Int32} {a2 : Int32} {res : Int32} (hG : ∀ q ∈ [(10, 0)], q ∈ gr) (h : X12_isPredecessor Y a1 a2 = some res) : CI l yX12_isPredecessor wsX12_isPredecessor (Rm 1) N0 T D gr ad Y [.ref (ad 10 0 0), .int a1, .int a2] (fun r Y1 => r = res ∧ Y1 = Y) :=
  fw_body (by decide +kernel) rfl (Nat.le_of_ble_eq_true rfl) (fun p e s m below meth c C hrt => w_X12_isPredecessor C hrt hG  h)
theorem ly_X12_hasSuccessor_12 : ∀ w ∈ u_ws RX12 TX12 19, w ∈ wsX12_hasSuccessor := by decide +kernel
theorem fl_X12_hasSuccessor_13 : Cond.fieldLink RX12 13 "RecipeSchedulerModel" "m" "[I" ∈ wsX12_hasSuccessor := by decide +kernel
section
variable {p : Program} {l : Launch} {e : Env} {s : State} {m : MethodId} {below : List Frame} {meth : Method} {c : Code} {N0 : Nat} {T : Nat → ClassId} {D : va_G} {gr : List (Nat × Nat)} {ad : Nat → Nat → Nat → Nat}
set_option maxRecDepth 100000 in
set_option maxHeartbeats 4000000 in
theorem w_X12_hasSuccessor_b53 {Y : Mem} {a1 : Int32} {a2 : Int32} {a3 : Int32} (C : Cx p s m [.ref (ad 10 0 0), .int a1, .int a2, .int a3].toArray meth c cX12_hasSuccessor 5 wsX12_hasSuccessor RX12 N0 T D gr ad) (hrt : meth.sig.returnType = (some .boolean)) (hG : ∀ q ∈ [(10, 0)], q ∈ gr) {res : Int32} {k5 : Int32 → Option (Int32)} (hk5 : ∀ (l4 : Int32), k5 l4 = some res → FW p l e (Rm 2) s m [.ref (ad 10 0 0), .int a1, .int a2, .int a3].toArray below meth c 5 N0 T D gr ad 0 0 (MQ below (va_Qi (fun r Y1 => r = res ∧ Y1 = Y) (WB T D gr ad) (fun q => N0 ≤ q)) [.ref (ad 10 0 0), .int a1, .int a2, .int a3].toArray s 0 0 (fun q => N0 ≤ q)) Y 5 [(4, .int l4), (0, .ref (ad 10 0 0)), (1, .int a1), (2, .int a2), (3, .int a3)] []) (l4 : Int32) (h : X12_hasSuccessor_b53 Y a1 a2 a3 k5 l4 = some res) : FW p l e (Rm 2) s m [.ref (ad 10 0 0), .int a1, .int a2, .int a3].toArray below meth c 5 N0 T D gr ad 0 0 (MQ below (va_Qi (fun r Y1 => r = res ∧ Y1 = Y) (WB T D gr ad) (fun q => N0 ≤ q)) [.ref (ad 10 0 0), .int a1, .int a2, .int a3].toArray s 0 0 (fun q => N0 ≤ q)) Y 53 [(4, .int l4), (0, .ref (ad 10 0 0)), (1, .int a1), (2, .int a2), (3, .int a3)] [] := by
  unfold X12_hasSuccessor_b53 at h
  refine fw_iinc C dX12_hasSuccessor_53 (kk := 0) (v := l4 + 1) rfl rfl (by decide) (L' := [(4, .int (l4 + 1)), (0, .ref (ad 10 0 0)), (1, .int a1), (2, .int a2), (3, .int a3)]) rfl ?_
  refine fw_goto C dX12_hasSuccessor_56 (tgt := 5) rfl ?_
  exact hk5 _ h
set_option maxRecDepth 100000 in
set_option maxHeartbeats 4000000 in
theorem w_X12_hasSuccessor_b5 {Y : Mem} {a1 : Int32} {a2 : Int32} {a3 : Int32} (C : Cx p s m [.ref (ad 10 0 0), .int a1, .int a2, .int a3].toArray meth c cX12_hasSuccessor 5 wsX12_hasSuccessor RX12 N0 T D gr ad) (hrt : meth.sig.returnType = (some .boolean)) (hG : ∀ q ∈ [(10, 0)], q ∈ gr) {res : Int32} : ∀ (n : Nat) (l4 : Int32), X12_hasSuccessor_b5 Y a1 a2 a3  n l4 = some res → FW p l e (Rm 2) s m [.ref (ad 10 0 0), .int a1, .int a2, .int a3].toArray below meth c 5 N0 T D gr ad 0 0 (MQ below (va_Qi (fun r Y1 => r = res ∧ Y1 = Y) (WB T D gr ad) (fun q => N0 ≤ q)) [.ref (ad 10 0 0), .int a1, .int a2, .int a3].toArray s 0 0 (fun q => N0 ≤ q)) Y 5 [(4, .int l4), (0, .ref (ad 10 0 0)), (1, .int a1), (2, .int a2), (3, .int a3)] [] := by
  intro n
  induction n with
  | zero =>
    intro l4 h
    unfold X12_hasSuccessor_b5 at h
    cases h
  | succ n ih =>
    intro l4 h
    unfold X12_hasSuccessor_b5 at h
    refine fw_iload C dX12_hasSuccessor_5 0 rfl ?_
    refine fw_aload_n C dX12_hasSuccessor_7 rfl 1 rfl ?_
    refine fw_get C (ci := 10) (Cn := RX12) (Tc := TX12) (N := 19) (j := 0) ly_X12_hasSuccessor_12 rfl (hG _ (List.mem_of_getElem? (i := 0) rfl)) (of10_0 _) (ce10 T ad _ _) (by decide) (cx_ts C _ fl_X12_hasSuccessor_13) (fun _ h => h) (v := .ref (ad 10 0 1)) rfl dX12_hasSuccessor_8 ?_
    refine fw_bipush C dX12_hasSuccessor_11 (v := 13) rfl ?_
    obtain ⟨b3, h⟩ := gd_some h
    refine fw_iald2 C (hG _ (List.mem_of_getElem? (i := 0) rfl)) (of10_1 _) (ca10_1 T ad _ _) b3 (Nat.le_of_ble_eq_true rfl) dX12_hasSuccessor_13 ?_
    refine fw_icmp_ge C dX12_hasSuccessor_14 (tgt := 59) rfl (fun c4 => ?_) (fun c4 => ?_)
    · have h := ite_t c4 h
      refine fw_iconst C dX12_hasSuccessor_59 (v := 0) rfl ?_
      exact fw_zret C hrt (by decide) Y ⟨Option.some.inj h, rfl⟩ (fun t ht => ht) dX12_hasSuccessor_60
    · have h := ite_f c4 h
      refine fw_aload_n C dX12_hasSuccessor_17 rfl 1 rfl ?_
      refine fw_iload_n C dX12_hasSuccessor_18 rfl 2 rfl ?_
      refine fw_iload C dX12_hasSuccessor_19 0 rfl ?_
      obtain ⟨r5, q6, h⟩ := bd1_some h
      refine fw_callVi C (ci := 10) (Cn := RX12) (Tc := TX12) (N := 19) (As := [.int a1, .int l4]) (c_X12_isPredecessor (gac (hG _ (List.mem_of_getElem? (i := 0) rfl)) ga0) q6) (cwV 2 (cx_ts C) gX12_hasSuccessor_X12_isPredecessor rfl rfl rfl (by decide +kernel) ⟨Nat.le_of_ble_eq_true rfl, Nat.le_of_ble_eq_true rfl⟩) rfl (hG _ (List.mem_of_getElem? (i := 0) rfl)) (of10_0 _) (ce10 T ad _ _) rfl (st := []) rfl (Nat.le_of_ble_eq_true rfl) ⟨Nat.le_refl 0, Nat.le_refl 0⟩ dX12_hasSuccessor_21 (pp2 ?_)
      refine fw_if_eq C dX12_hasSuccessor_24 (tgt := 53) rfl (fun c7 => ?_) (fun c7 => ?_)
      · have h := ite_t c7 h
        exact w_X12_hasSuccessor_b53 C hrt hG  ih _ h
      · have h := ite_f c7 h
        refine fw_aload_n C dX12_hasSuccessor_27 rfl 1 rfl ?_
        refine fw_iload C dX12_hasSuccessor_28 0 rfl ?_
        refine fw_bipush C dX12_hasSuccessor_30 (v := 17) rfl ?_
        obtain ⟨r8, q9, h⟩ := bd1_some h
        refine fw_callVi C (ci := 10) (Cn := RX12) (Tc := TX12) (N := 19) (As := [.int l4, .int 17]) (c_X12_of (gac (hG _ (List.mem_of_getElem? (i := 0) rfl)) ga0) q9) (cwV 2 (cx_ts C) gX12_hasSuccessor_X12_of rfl rfl rfl (by decide +kernel) ⟨Nat.le_of_ble_eq_true rfl, Nat.le_of_ble_eq_true rfl⟩) rfl (hG _ (List.mem_of_getElem? (i := 0) rfl)) (of10_0 _) (ce10 T ad _ _) rfl (st := []) rfl (Nat.le_of_ble_eq_true rfl) ⟨Nat.le_refl 0, Nat.le_refl 0⟩ dX12_hasSuccessor_32 (pp2 ?_)
        refine fw_iload_n C dX12_hasSuccessor_35 rfl 3 rfl ?_
        refine fw_icmp_eq C dX12_hasSuccessor_36 (tgt := 51) rfl (fun c10 => ?_) (fun c10 => ?_)
        · have h := ite_t c10 h
          refine fw_iconst C dX12_hasSuccessor_51 (v := 1) rfl ?_
          exact fw_zret C hrt (by decide) Y ⟨Option.some.inj h, rfl⟩ (fun t ht => ht) dX12_hasSuccessor_52
        · have h := ite_f c10 h
          refine fw_aload_n C dX12_hasSuccessor_39 rfl 1 rfl ?_
          refine fw_iload C dX12_hasSuccessor_40 0 rfl ?_
          refine fw_bipush C dX12_hasSuccessor_42 (v := 17) rfl ?_
          obtain ⟨r11, q12, h⟩ := bd1_some h
          refine fw_callVi C (ci := 10) (Cn := RX12) (Tc := TX12) (N := 19) (As := [.int l4, .int 17]) (c_X12_of (gac (hG _ (List.mem_of_getElem? (i := 0) rfl)) ga0) q12) (cwV 2 (cx_ts C) gX12_hasSuccessor_X12_of rfl rfl rfl (by decide +kernel) ⟨Nat.le_of_ble_eq_true rfl, Nat.le_of_ble_eq_true rfl⟩) rfl (hG _ (List.mem_of_getElem? (i := 0) rfl)) (of10_0 _) (ce10 T ad _ _) rfl (st := []) rfl (Nat.le_of_ble_eq_true rfl) ⟨Nat.le_refl 0, Nat.le_refl 0⟩ dX12_hasSuccessor_44 (pp2 ?_)
          refine fw_iload_n C dX12_hasSuccessor_47 rfl 4 rfl ?_
          refine fw_icmp_ne C dX12_hasSuccessor_48 (tgt := 53) rfl (fun c13 => ?_) (fun c13 => ?_)
          · have h := ite_f c13 h
            exact w_X12_hasSuccessor_b53 C hrt hG  ih _ h
          · have h := ite_t c13 h
            refine fw_iconst C dX12_hasSuccessor_51 (v := 1) rfl ?_
            exact fw_zret C hrt (by decide) Y ⟨Option.some.inj h, rfl⟩ (fun t ht => ht) dX12_hasSuccessor_52
set_option maxRecDepth 100000 in
set_option maxHeartbeats 4000000 in
theorem w_X12_hasSuccessor {Y : Mem} {a1 : Int32} {a2 : Int32} {a3 : Int32} (C : Cx p s m [.ref (ad 10 0 0), .int a1, .int a2, .int a3].toArray meth c cX12_hasSuccessor 5 wsX12_hasSuccessor RX12 N0 T D gr ad) (hrt : meth.sig.returnType = (some .boolean)) (hG : ∀ q ∈ [(10, 0)], q ∈ gr) {res : Int32} (h : X12_hasSuccessor Y a1 a2 a3 = some res) : FW p l e (Rm 2) s m [.ref (ad 10 0 0), .int a1, .int a2, .int a3].toArray below meth c 5 N0 T D gr ad 0 0 (MQ below (va_Qi (fun r Y1 => r = res ∧ Y1 = Y) (WB T D gr ad) (fun q => N0 ≤ q)) [.ref (ad 10 0 0), .int a1, .int a2, .int a3].toArray s 0 0 (fun q => N0 ≤ q)) Y 0 [(0, .ref (ad 10 0 0)), (1, .int a1), (2, .int a2), (3, .int a3)] [] := by
  unfold X12_hasSuccessor at h
  refine fw_iload_n C dX12_hasSuccessor_0 rfl 1 rfl ?_
  refine fw_iconst C dX12_hasSuccessor_1 (v := 1) rfl ?_
  refine fw_iadd C dX12_hasSuccessor_2 ?_
  obtain ⟨v1, e2, h⟩ := lt_some h
  refine fw_top (v' := .int v1) (by rw [e2]) ?_
  refine fw_istore C dX12_hasSuccessor_3 (by decide) (L' := [(4, .int v1), (0, .ref (ad 10 0 0)), (1, .int a1), (2, .int a2), (3, .int a3)]) rfl ?_
  exact w_X12_hasSuccessor_b5 C hrt hG   _ _ h
end
set_option maxRecDepth 100000 in
set_option maxHeartbeats 4000000 in
theorem c_X12_hasSuccessor {l : Launch} {N0 : Nat} {T : Nat → ClassId} {D : va_G} {gr : List (Nat × Nat)} {ad : Nat → Nat → Nat → Nat} {Y : Mem} {a1 : Int32} {a2 : Int32} {a3 : Int32} {res : Int32} (hG : ∀ q ∈ [(10, 0)], q ∈ gr) (h : X12_hasSuccessor Y a1 a2 a3 = some res) : CI l yX12_hasSuccessor wsX12_hasSuccessor (Rm 2) N0 T D gr ad Y [.ref (ad 10 0 0), .int a1, .int a2, .int a3] (fun r Y1 => r = res ∧ Y1 = Y) :=
  fw_body (by decide +kernel) rfl (Nat.le_of_ble_eq_true rfl) (fun p e s m below meth c C hrt => w_X12_hasSuccessor C hrt hG  h)
section
variable {p : Program} {l : Launch} {e : Env} {s : State} {m : MethodId} {below : List Frame} {meth : Method} {c : Code} {N0 : Nat} {T : Nat → ClassId} {D : va_G} {gr : List (Nat × Nat)} {ad : Nat → Nat → Nat → Nat}
set_option maxRecDepth 100000 in
set_option maxHeartbeats 4000000 in
theorem w_X12_occupies_b45 {Y : Mem} {a1 : Int32} {a2 : Int32} (C : Cx p s m [.ref (ad 10 0 0), .int a1, .int a2].toArray meth c cX12_occupies 3 wsX12_occupies RX12 N0 T D gr ad) (hrt : meth.sig.returnType = (some .boolean)) (hG : ∀ q ∈ [(10, 0)], q ∈ gr) {res : Int32}  (h : X12_occupies_b45 Y a1 a2   = some res) : FW p l e (Rm 3) s m [.ref (ad 10 0 0), .int a1, .int a2].toArray below meth c 3 N0 T D gr ad 0 0 (MQ below (va_Qi (fun r Y1 => r = res ∧ Y1 = Y) (WB T D gr ad) (fun q => N0 ≤ q)) [.ref (ad 10 0 0), .int a1, .int a2].toArray s 0 0 (fun q => N0 ≤ q)) Y 45 [] [] := by
  unfold X12_occupies_b45 at h
  refine fw_iconst C dX12_occupies_45 (v := 1) rfl ?_
  refine fw_goto C dX12_occupies_46 (tgt := 50) rfl ?_
  exact fw_zret C hrt (by decide) Y ⟨Option.some.inj h, rfl⟩ (fun t ht => ht) dX12_occupies_50
set_option maxRecDepth 100000 in
set_option maxHeartbeats 4000000 in
theorem w_X12_occupies {Y : Mem} {a1 : Int32} {a2 : Int32} (C : Cx p s m [.ref (ad 10 0 0), .int a1, .int a2].toArray meth c cX12_occupies 3 wsX12_occupies RX12 N0 T D gr ad) (hrt : meth.sig.returnType = (some .boolean)) (hG : ∀ q ∈ [(10, 0)], q ∈ gr) {res : Int32} (h : X12_occupies Y a1 a2 = some res) : FW p l e (Rm 3) s m [.ref (ad 10 0 0), .int a1, .int a2].toArray below meth c 3 N0 T D gr ad 0 0 (MQ below (va_Qi (fun r Y1 => r = res ∧ Y1 = Y) (WB T D gr ad) (fun q => N0 ≤ q)) [.ref (ad 10 0 0), .int a1, .int a2].toArray s 0 0 (fun q => N0 ≤ q)) Y 0 [(0, .ref (ad 10 0 0)), (1, .int a1), (2, .int a2)] [] := by
  unfold X12_occupies at h
  refine fw_aload_n C dX12_occupies_0 rfl 0 rfl ?_
  refine fw_iload_n C dX12_occupies_1 rfl 1 rfl ?_
  refine fw_bipush C dX12_occupies_2 (v := 9) rfl ?_
  obtain ⟨r1, q2, h⟩ := bd1_some h
  refine fw_callVi C (ci := 10) (Cn := RX12) (Tc := TX12) (N := 19) (As := [.int a1, .int 9]) (c_X12_of (gac (hG _ (List.mem_of_getElem? (i := 0) rfl)) ga0) q2) (cwV 2 (cx_ts C) gX12_occupies_X12_of rfl rfl rfl (by decide +kernel) ⟨Nat.le_of_ble_eq_true rfl, Nat.le_of_ble_eq_true rfl⟩) rfl (hG _ (List.mem_of_getElem? (i := 0) rfl)) (of10_0 _) (ce10 T ad _ _) rfl (st := []) rfl (Nat.le_of_ble_eq_true rfl) ⟨Nat.le_refl 0, Nat.le_refl 0⟩ dX12_occupies_4 (pp2 ?_)
  refine fw_iload_n C dX12_occupies_7 rfl 2 rfl ?_
  refine fw_icmp_eq C dX12_occupies_8 (tgt := 13) rfl (fun c3 => ?_) (fun c3 => ?_)
  · have h := ite_t c3 h
    refine fw_aload_n C dX12_occupies_13 rfl 0 rfl ?_
    refine fw_iload_n C dX12_occupies_14 rfl 1 rfl ?_
    refine fw_bipush C dX12_occupies_15 (v := 17) rfl ?_
    obtain ⟨r4, q5, h⟩ := bd1_some h
    refine fw_callVi C (ci := 10) (Cn := RX12) (Tc := TX12) (N := 19) (As := [.int a1, .int 17]) (c_X12_of (gac (hG _ (List.mem_of_getElem? (i := 0) rfl)) ga0) q5) (cwV 2 (cx_ts C) gX12_occupies_X12_of rfl rfl rfl (by decide +kernel) ⟨Nat.le_of_ble_eq_true rfl, Nat.le_of_ble_eq_true rfl⟩) rfl (hG _ (List.mem_of_getElem? (i := 0) rfl)) (of10_0 _) (ce10 T ad _ _) rfl (st := []) rfl (Nat.le_of_ble_eq_true rfl) ⟨Nat.le_refl 0, Nat.le_refl 0⟩ dX12_occupies_17 (pp2 ?_)
    refine fw_iconst C dX12_occupies_20 (v := 1) rfl ?_
    refine fw_icmp_eq C dX12_occupies_21 (tgt := 45) rfl (fun c6 => ?_) (fun c6 => ?_)
    · have h := ite_t c6 h
      refine fw_sub [] (L' := []) rfl ?_
      exact w_X12_occupies_b45 C hrt hG    h
    · have h := ite_f c6 h
      refine fw_aload_n C dX12_occupies_24 rfl 0 rfl ?_
      refine fw_iload_n C dX12_occupies_25 rfl 1 rfl ?_
      refine fw_bipush C dX12_occupies_26 (v := 17) rfl ?_
      obtain ⟨r7, q8, h⟩ := bd1_some h
      refine fw_callVi C (ci := 10) (Cn := RX12) (Tc := TX12) (N := 19) (As := [.int a1, .int 17]) (c_X12_of (gac (hG _ (List.mem_of_getElem? (i := 0) rfl)) ga0) q8) (cwV 2 (cx_ts C) gX12_occupies_X12_of rfl rfl rfl (by decide +kernel) ⟨Nat.le_of_ble_eq_true rfl, Nat.le_of_ble_eq_true rfl⟩) rfl (hG _ (List.mem_of_getElem? (i := 0) rfl)) (of10_0 _) (ce10 T ad _ _) rfl (st := []) rfl (Nat.le_of_ble_eq_true rfl) ⟨Nat.le_refl 0, Nat.le_refl 0⟩ dX12_occupies_28 (pp2 ?_)
      refine fw_iconst C dX12_occupies_31 (v := 2) rfl ?_
      refine fw_icmp_ne C dX12_occupies_32 (tgt := 49) rfl (fun c9 => ?_) (fun c9 => ?_)
      · have h := ite_f c9 h
        refine fw_iconst C dX12_occupies_49 (v := 0) rfl ?_
        exact fw_zret C hrt (by decide) Y ⟨Option.some.inj h, rfl⟩ (fun t ht => ht) dX12_occupies_50
      · have h := ite_t c9 h
        refine fw_aload_n C dX12_occupies_35 rfl 0 rfl ?_
        refine fw_iload_n C dX12_occupies_36 rfl 1 rfl ?_
        refine fw_iconst C dX12_occupies_37 (v := 0) rfl ?_
        refine fw_iconst C dX12_occupies_38 (v := 3) rfl ?_
        obtain ⟨r10, q11, h⟩ := bd1_some h
        refine fw_callVi C (ci := 10) (Cn := RX12) (Tc := TX12) (N := 19) (As := [.int a1, .int 0, .int 3]) (c_X12_hasSuccessor (gac (hG _ (List.mem_of_getElem? (i := 0) rfl)) ga0) q11) (cwV 3 (cx_ts C) gX12_occupies_X12_hasSuccessor rfl rfl rfl (by decide +kernel) ⟨Nat.le_of_ble_eq_true rfl, Nat.le_of_ble_eq_true rfl⟩) rfl (hG _ (List.mem_of_getElem? (i := 0) rfl)) (of10_0 _) (ce10 T ad _ _) rfl (st := []) rfl (Nat.le_of_ble_eq_true rfl) ⟨Nat.le_refl 0, Nat.le_refl 0⟩ dX12_occupies_39 (pp2 ?_)
        refine fw_if_eq C dX12_occupies_42 (tgt := 49) rfl (fun c12 => ?_) (fun c12 => ?_)
        · have h := ite_t c12 h
          refine fw_iconst C dX12_occupies_49 (v := 0) rfl ?_
          exact fw_zret C hrt (by decide) Y ⟨Option.some.inj h, rfl⟩ (fun t ht => ht) dX12_occupies_50
        · have h := ite_f c12 h
          refine fw_sub [] (L' := []) rfl ?_
          exact w_X12_occupies_b45 C hrt hG    h
  · have h := ite_f c3 h
    refine fw_iconst C dX12_occupies_11 (v := 0) rfl ?_
    exact fw_zret C hrt (by decide) Y ⟨Option.some.inj h, rfl⟩ (fun t ht => ht) dX12_occupies_12
end
set_option maxRecDepth 100000 in
set_option maxHeartbeats 4000000 in
theorem c_X12_occupies {l : Launch} {N0 : Nat} {T : Nat → ClassId} {D : va_G} {gr : List (Nat × Nat)} {ad : Nat → Nat → Nat → Nat} {Y : Mem} {a1 : Int32} {a2 : Int32} {res : Int32} (hG : ∀ q ∈ [(10, 0)], q ∈ gr) (h : X12_occupies Y a1 a2 = some res) : CI l yX12_occupies wsX12_occupies (Rm 3) N0 T D gr ad Y [.ref (ad 10 0 0), .int a1, .int a2] (fun r Y1 => r = res ∧ Y1 = Y) :=
  fw_body (by decide +kernel) rfl (Nat.le_of_ble_eq_true rfl) (fun p e s m below meth c C hrt => w_X12_occupies C hrt hG  h)
theorem ly_X12_usedPans_12 : ∀ w ∈ u_ws RX12 TX12 19, w ∈ wsX12_usedPans := by decide +kernel
theorem fl_X12_usedPans_13 : Cond.fieldLink RX12 13 "RecipeSchedulerModel" "m" "[I" ∈ wsX12_usedPans := by decide +kernel
section
variable {p : Program} {l : Launch} {e : Env} {s : State} {m : MethodId} {below : List Frame} {meth : Method} {c : Code} {N0 : Nat} {T : Nat → ClassId} {D : va_G} {gr : List (Nat × Nat)} {ad : Nat → Nat → Nat → Nat}
set_option maxRecDepth 100000 in
set_option maxHeartbeats 4000000 in
theorem w_X12_usedPans_b30 {Y : Mem} {a1 : Int32} (C : Cx p s m [.ref (ad 10 0 0), .int a1].toArray meth c cX12_usedPans 4 wsX12_usedPans RX12 N0 T D gr ad) (hrt : meth.sig.returnType = (some .int)) (hG : ∀ q ∈ [(10, 0)], q ∈ gr) {res : Int32} {k4 : Int32 → Int32 → Option (Int32)} (hk4 : ∀ (l3 : Int32) (l2 : Int32), k4 l3 l2 = some res → FW p l e (Rm 4) s m [.ref (ad 10 0 0), .int a1].toArray below meth c 4 N0 T D gr ad 0 0 (MQ below (va_Qi (fun r Y1 => r = res ∧ Y1 = Y) (WB T D gr ad) (fun q => N0 ≤ q)) [.ref (ad 10 0 0), .int a1].toArray s 0 0 (fun q => N0 ≤ q)) Y 4 [(3, .int l3), (2, .int l2), (0, .ref (ad 10 0 0)), (1, .int a1)] []) (l3 : Int32) (s0 : Int32) (s1 : Int32) (h : X12_usedPans_b30 Y a1 k4 l3 s0 s1 = some res) : FW p l e (Rm 4) s m [.ref (ad 10 0 0), .int a1].toArray below meth c 4 N0 T D gr ad 0 0 (MQ below (va_Qi (fun r Y1 => r = res ∧ Y1 = Y) (WB T D gr ad) (fun q => N0 ≤ q)) [.ref (ad 10 0 0), .int a1].toArray s 0 0 (fun q => N0 ≤ q)) Y 30 [(3, .int l3), (0, .ref (ad 10 0 0)), (1, .int a1)] [.int s0, .int s1] := by
  unfold X12_usedPans_b30 at h
  refine fw_iadd C dX12_usedPans_30 ?_
  obtain ⟨v6, e7, h⟩ := lt_some h
  refine fw_top (v' := .int v6) (by rw [e7]) ?_
  refine fw_istore_n C dX12_usedPans_31 rfl (by decide) (L' := [(2, .int v6), (3, .int l3), (0, .ref (ad 10 0 0)), (1, .int a1)]) rfl ?_
  refine fw_iinc C dX12_usedPans_32 (kk := 1) (v := l3 + 1) rfl rfl (by decide) (L' := [(3, .int (l3 + 1)), (2, .int v6), (0, .ref (ad 10 0 0)), (1, .int a1)]) rfl ?_
  refine fw_goto C dX12_usedPans_35 (tgt := 4) rfl ?_
  exact hk4 _ _ h
set_option maxRecDepth 100000 in
set_option maxHeartbeats 4000000 in
theorem w_X12_usedPans_b4 {Y : Mem} {a1 : Int32} (C : Cx p s m [.ref (ad 10 0 0), .int a1].toArray meth c cX12_usedPans 4 wsX12_usedPans RX12 N0 T D gr ad) (hrt : meth.sig.returnType = (some .int)) (hG : ∀ q ∈ [(10, 0)], q ∈ gr) {res : Int32} : ∀ (n : Nat) (l3 : Int32) (l2 : Int32), X12_usedPans_b4 Y a1  n l3 l2 = some res → FW p l e (Rm 4) s m [.ref (ad 10 0 0), .int a1].toArray below meth c 4 N0 T D gr ad 0 0 (MQ below (va_Qi (fun r Y1 => r = res ∧ Y1 = Y) (WB T D gr ad) (fun q => N0 ≤ q)) [.ref (ad 10 0 0), .int a1].toArray s 0 0 (fun q => N0 ≤ q)) Y 4 [(3, .int l3), (2, .int l2), (0, .ref (ad 10 0 0)), (1, .int a1)] [] := by
  intro n
  induction n with
  | zero =>
    intro l3 l2 h
    unfold X12_usedPans_b4 at h
    cases h
  | succ n ih =>
    intro l3 l2 h
    unfold X12_usedPans_b4 at h
    refine fw_iload_n C dX12_usedPans_4 rfl 0 rfl ?_
    refine fw_aload_n C dX12_usedPans_5 rfl 2 rfl ?_
    refine fw_get C (ci := 10) (Cn := RX12) (Tc := TX12) (N := 19) (j := 0) ly_X12_usedPans_12 rfl (hG _ (List.mem_of_getElem? (i := 0) rfl)) (of10_0 _) (ce10 T ad _ _) (by decide) (cx_ts C _ fl_X12_usedPans_13) (fun _ h => h) (v := .ref (ad 10 0 1)) rfl dX12_usedPans_6 ?_
    refine fw_bipush C dX12_usedPans_9 (v := 13) rfl ?_
    obtain ⟨b1, h⟩ := gd_some h
    refine fw_iald2 C (hG _ (List.mem_of_getElem? (i := 0) rfl)) (of10_1 _) (ca10_1 T ad _ _) b1 (Nat.le_of_ble_eq_true rfl) dX12_usedPans_11 ?_
    refine fw_icmp_ge C dX12_usedPans_12 (tgt := 38) rfl (fun c2 => ?_) (fun c2 => ?_)
    · have h := ite_t c2 h
      refine fw_iload_n C dX12_usedPans_38 rfl 1 rfl ?_
      exact fw_iret C hrt Y ⟨Option.some.inj h, rfl⟩ (fun t ht => ht) dX12_usedPans_39
    · have h := ite_f c2 h
      refine fw_iload_n C dX12_usedPans_15 rfl 1 rfl ?_
      refine fw_aload_n C dX12_usedPans_16 rfl 2 rfl ?_
      refine fw_iload_n C dX12_usedPans_17 rfl 0 rfl ?_
      refine fw_iload_n C dX12_usedPans_18 rfl 3 rfl ?_
      obtain ⟨r3, q4, h⟩ := bd1_some h
      refine fw_callVi C (ci := 10) (Cn := RX12) (Tc := TX12) (N := 19) (As := [.int l3, .int a1]) (c_X12_occupies (gac (hG _ (List.mem_of_getElem? (i := 0) rfl)) ga0) q4) (cwV 2 (cx_ts C) gX12_usedPans_X12_occupies rfl rfl rfl (by decide +kernel) ⟨Nat.le_of_ble_eq_true rfl, Nat.le_of_ble_eq_true rfl⟩) rfl (hG _ (List.mem_of_getElem? (i := 0) rfl)) (of10_0 _) (ce10 T ad _ _) rfl (st := [.int l2]) rfl (Nat.le_of_ble_eq_true rfl) ⟨Nat.le_refl 0, Nat.le_refl 0⟩ dX12_usedPans_19 (pp2 ?_)
      refine fw_if_eq C dX12_usedPans_22 (tgt := 29) rfl (fun c5 => ?_) (fun c5 => ?_)
      · have h := ite_t c5 h
        refine fw_iconst C dX12_usedPans_29 (v := 0) rfl ?_
        refine fw_sub [0, 2, 3] (L' := [(3, .int l3), (0, .ref (ad 10 0 0)), (1, .int a1)]) rfl ?_
        exact w_X12_usedPans_b30 C hrt hG  ih _ _ _ h
      · have h := ite_f c5 h
        refine fw_iconst C dX12_usedPans_25 (v := 1) rfl ?_
        refine fw_goto C dX12_usedPans_26 (tgt := 30) rfl ?_
        refine fw_sub [0, 2, 3] (L' := [(3, .int l3), (0, .ref (ad 10 0 0)), (1, .int a1)]) rfl ?_
        exact w_X12_usedPans_b30 C hrt hG  ih _ _ _ h
set_option maxRecDepth 100000 in
set_option maxHeartbeats 4000000 in
theorem w_X12_usedPans {Y : Mem} {a1 : Int32} (C : Cx p s m [.ref (ad 10 0 0), .int a1].toArray meth c cX12_usedPans 4 wsX12_usedPans RX12 N0 T D gr ad) (hrt : meth.sig.returnType = (some .int)) (hG : ∀ q ∈ [(10, 0)], q ∈ gr) {res : Int32} (h : X12_usedPans Y a1 = some res) : FW p l e (Rm 4) s m [.ref (ad 10 0 0), .int a1].toArray below meth c 4 N0 T D gr ad 0 0 (MQ below (va_Qi (fun r Y1 => r = res ∧ Y1 = Y) (WB T D gr ad) (fun q => N0 ≤ q)) [.ref (ad 10 0 0), .int a1].toArray s 0 0 (fun q => N0 ≤ q)) Y 0 [(0, .ref (ad 10 0 0)), (1, .int a1)] [] := by
  unfold X12_usedPans at h
  refine fw_iconst C dX12_usedPans_0 (v := 0) rfl ?_
  refine fw_istore_n C dX12_usedPans_1 rfl (by decide) (L' := [(2, .int 0), (0, .ref (ad 10 0 0)), (1, .int a1)]) rfl ?_
  refine fw_iconst C dX12_usedPans_2 (v := 0) rfl ?_
  refine fw_istore_n C dX12_usedPans_3 rfl (by decide) (L' := [(3, .int 0), (2, .int 0), (0, .ref (ad 10 0 0)), (1, .int a1)]) rfl ?_
  exact w_X12_usedPans_b4 C hrt hG   _ _ _ h
end
set_option maxRecDepth 100000 in
set_option maxHeartbeats 4000000 in
theorem c_X12_usedPans {l : Launch} {N0 : Nat} {T : Nat → ClassId} {D : va_G} {gr : List (Nat × Nat)} {ad : Nat → Nat → Nat → Nat} {Y : Mem} {a1 : Int32} {res : Int32} (hG : ∀ q ∈ [(10, 0)], q ∈ gr) (h : X12_usedPans Y a1 = some res) : CI l yX12_usedPans wsX12_usedPans (Rm 4) N0 T D gr ad Y [.ref (ad 10 0 0), .int a1] (fun r Y1 => r = res ∧ Y1 = Y) :=
  fw_body (by decide +kernel) rfl (Nat.le_of_ble_eq_true rfl) (fun p e s m below meth c C hrt => w_X12_usedPans C hrt hG  h)
theorem ly_X12_capacity_12 : ∀ w ∈ u_ws RX12 TX12 19, w ∈ wsX12_capacity := by decide +kernel
theorem fl_X12_capacity_13 : Cond.fieldLink RX12 13 "RecipeSchedulerModel" "m" "[I" ∈ wsX12_capacity := by decide +kernel
section
variable {p : Program} {l : Launch} {e : Env} {s : State} {m : MethodId} {below : List Frame} {meth : Method} {c : Code} {N0 : Nat} {T : Nat → ClassId} {D : va_G} {gr : List (Nat × Nat)} {ad : Nat → Nat → Nat → Nat}
set_option maxRecDepth 100000 in
set_option maxHeartbeats 4000000 in
theorem w_X12_capacity {Y : Mem} {a1 : Int32} (C : Cx p s m [.ref (ad 10 0 0), .int a1].toArray meth c cX12_capacity 2 wsX12_capacity RX12 N0 T D gr ad) (hrt : meth.sig.returnType = (some .int)) (hG : ∀ q ∈ [(10, 0)], q ∈ gr) {res : Int32} (h : X12_capacity Y a1 = some res) : FW p l e (Rm 0) s m [.ref (ad 10 0 0), .int a1].toArray below meth c 2 N0 T D gr ad 0 0 (MQ below (va_Qi (fun r Y1 => r = res ∧ Y1 = Y) (WB T D gr ad) (fun q => N0 ≤ q)) [.ref (ad 10 0 0), .int a1].toArray s 0 0 (fun q => N0 ≤ q)) Y 0 [(0, .ref (ad 10 0 0)), (1, .int a1)] [] := by
  unfold X12_capacity at h
  refine fw_aload_n C dX12_capacity_0 rfl 0 rfl ?_
  refine fw_get C (ci := 10) (Cn := RX12) (Tc := TX12) (N := 19) (j := 0) ly_X12_capacity_12 rfl (hG _ (List.mem_of_getElem? (i := 0) rfl)) (of10_0 _) (ce10 T ad _ _) (by decide) (cx_ts C _ fl_X12_capacity_13) (fun _ h => h) (v := .ref (ad 10 0 1)) rfl dX12_capacity_1 ?_
  refine fw_bipush C dX12_capacity_4 (v := 14) rfl ?_
  refine fw_iload_n C dX12_capacity_6 rfl 1 rfl ?_
  refine fw_bipush C dX12_capacity_7 (v := 8) rfl ?_
  refine fw_imul C dX12_capacity_9 ?_
  refine fw_iadd C dX12_capacity_10 ?_
  refine fw_bipush C dX12_capacity_11 (v := 7) rfl ?_
  refine fw_iadd C dX12_capacity_13 ?_
  obtain ⟨b1, h⟩ := gd_some h
  refine fw_iald2 C (hG _ (List.mem_of_getElem? (i := 0) rfl)) (of10_1 _) (ca10_1 T ad _ _) b1 (Nat.le_of_ble_eq_true rfl) dX12_capacity_14 ?_
  exact fw_iret C hrt Y ⟨Option.some.inj h, rfl⟩ (fun t ht => ht) dX12_capacity_15
end
set_option maxRecDepth 100000 in
set_option maxHeartbeats 4000000 in
theorem c_X12_capacity {l : Launch} {N0 : Nat} {T : Nat → ClassId} {D : va_G} {gr : List (Nat × Nat)} {ad : Nat → Nat → Nat → Nat} {Y : Mem} {a1 : Int32} {res : Int32} (hG : ∀ q ∈ [(10, 0)], q ∈ gr) (h : X12_capacity Y a1 = some res) : CI l yX12_capacity wsX12_capacity (Rm 0) N0 T D gr ad Y [.ref (ad 10 0 0), .int a1] (fun r Y1 => r = res ∧ Y1 = Y) :=
  fw_body (by decide +kernel) rfl (Nat.le_of_ble_eq_true rfl) (fun p e s m below meth c C hrt => w_X12_capacity C hrt hG  h)
section
variable {p : Program} {l : Launch} {e : Env} {s : State} {m : MethodId} {below : List Frame} {meth : Method} {c : Code} {N0 : Nat} {T : Nat → ClassId} {D : va_G} {gr : List (Nat × Nat)} {ad : Nat → Nat → Nat → Nat}
set_option maxRecDepth 100000 in
set_option maxHeartbeats 4000000 in
theorem w_X12_hasPan_b26 {Y : Mem} {a1 : Int32} (C : Cx p s m [.ref (ad 10 0 0), .int a1].toArray meth c cX12_hasPan 3 wsX12_hasPan RX12 N0 T D gr ad) (hrt : meth.sig.returnType = (some .boolean)) (hG : ∀ q ∈ [(10, 0)], q ∈ gr) {res : Int32}  (h : X12_hasPan_b26 Y a1   = some res) : FW p l e (Rm 5) s m [.ref (ad 10 0 0), .int a1].toArray below meth c 3 N0 T D gr ad 0 0 (MQ below (va_Qi (fun r Y1 => r = res ∧ Y1 = Y) (WB T D gr ad) (fun q => N0 ≤ q)) [.ref (ad 10 0 0), .int a1].toArray s 0 0 (fun q => N0 ≤ q)) Y 26 [] [] := by
  unfold X12_hasPan_b26 at h
  refine fw_iconst C dX12_hasPan_26 (v := 1) rfl ?_
  refine fw_goto C dX12_hasPan_27 (tgt := 31) rfl ?_
  exact fw_zret C hrt (by decide) Y ⟨Option.some.inj h, rfl⟩ (fun t ht => ht) dX12_hasPan_31
set_option maxRecDepth 100000 in
set_option maxHeartbeats 4000000 in
theorem w_X12_hasPan {Y : Mem} {a1 : Int32} (C : Cx p s m [.ref (ad 10 0 0), .int a1].toArray meth c cX12_hasPan 3 wsX12_hasPan RX12 N0 T D gr ad) (hrt : meth.sig.returnType = (some .boolean)) (hG : ∀ q ∈ [(10, 0)], q ∈ gr) {res : Int32} (h : X12_hasPan Y a1 = some res) : FW p l e (Rm 5) s m [.ref (ad 10 0 0), .int a1].toArray below meth c 3 N0 T D gr ad 0 0 (MQ below (va_Qi (fun r Y1 => r = res ∧ Y1 = Y) (WB T D gr ad) (fun q => N0 ≤ q)) [.ref (ad 10 0 0), .int a1].toArray s 0 0 (fun q => N0 ≤ q)) Y 0 [(0, .ref (ad 10 0 0)), (1, .int a1)] [] := by
  unfold X12_hasPan at h
  refine fw_aload_n C dX12_hasPan_0 rfl 0 rfl ?_
  refine fw_iload_n C dX12_hasPan_1 rfl 1 rfl ?_
  refine fw_bipush C dX12_hasPan_2 (v := 9) rfl ?_
  obtain ⟨r1, q2, h⟩ := bd1_some h
  refine fw_callVi C (ci := 10) (Cn := RX12) (Tc := TX12) (N := 19) (As := [.int a1, .int 9]) (c_X12_of (gac (hG _ (List.mem_of_getElem? (i := 0) rfl)) ga0) q2) (cwV 2 (cx_ts C) gX12_hasPan_X12_of rfl rfl rfl (by decide +kernel) ⟨Nat.le_of_ble_eq_true rfl, Nat.le_of_ble_eq_true rfl⟩) rfl (hG _ (List.mem_of_getElem? (i := 0) rfl)) (of10_0 _) (ce10 T ad _ _) rfl (st := []) rfl (Nat.le_of_ble_eq_true rfl) ⟨Nat.le_refl 0, Nat.le_refl 0⟩ dX12_hasPan_4 (pp2 ?_)
  refine fw_istore_n C dX12_hasPan_7 rfl (by decide) (L' := [(2, .int r1), (0, .ref (ad 10 0 0)), (1, .int a1)]) rfl ?_
  refine fw_iload_n C dX12_hasPan_8 rfl 0 rfl ?_
  refine fw_iconst C dX12_hasPan_9 (v := (-1)) rfl ?_
  refine fw_icmp_eq C dX12_hasPan_10 (tgt := 26) rfl (fun c3 => ?_) (fun c3 => ?_)
  · have h := ite_t c3 h
    refine fw_sub [] (L' := []) rfl ?_
    exact w_X12_hasPan_b26 C hrt hG    h
  · have h := ite_f c3 h
    refine fw_aload_n C dX12_hasPan_13 rfl 1 rfl ?_
    refine fw_iload_n C dX12_hasPan_14 rfl 0 rfl ?_
    obtain ⟨r4, q5, h⟩ := bd1_some h
    refine fw_callVi C (ci := 10) (Cn := RX12) (Tc := TX12) (N := 19) (As := [.int r1]) (c_X12_usedPans (gac (hG _ (List.mem_of_getElem? (i := 0) rfl)) ga0) q5) (cwV 1 (cx_ts C) gX12_hasPan_X12_usedPans rfl rfl rfl (by decide +kernel) ⟨Nat.le_of_ble_eq_true rfl, Nat.le_of_ble_eq_true rfl⟩) rfl (hG _ (List.mem_of_getElem? (i := 0) rfl)) (of10_0 _) (ce10 T ad _ _) rfl (st := []) rfl (Nat.le_of_ble_eq_true rfl) ⟨Nat.le_refl 0, Nat.le_refl 0⟩ dX12_hasPan_15 (pp2 ?_)
    refine fw_aload_n C dX12_hasPan_18 rfl 1 rfl ?_
    refine fw_iload_n C dX12_hasPan_19 rfl 0 rfl ?_
    obtain ⟨r6, q7, h⟩ := bd1_some h
    refine fw_callVi C (ci := 10) (Cn := RX12) (Tc := TX12) (N := 19) (As := [.int r1]) (c_X12_capacity (gac (hG _ (List.mem_of_getElem? (i := 0) rfl)) ga0) q7) (cwV 1 (cx_ts C) gX12_hasPan_X12_capacity rfl rfl rfl (by decide +kernel) ⟨Nat.le_of_ble_eq_true rfl, Nat.le_of_ble_eq_true rfl⟩) rfl (hG _ (List.mem_of_getElem? (i := 0) rfl)) (of10_0 _) (ce10 T ad _ _) rfl (st := [.int r4]) rfl (Nat.le_of_ble_eq_true rfl) ⟨Nat.le_refl 0, Nat.le_refl 0⟩ dX12_hasPan_20 (pp2 ?_)
    refine fw_icmp_ge C dX12_hasPan_23 (tgt := 30) rfl (fun c8 => ?_) (fun c8 => ?_)
    · have h := ite_t c8 h
      refine fw_iconst C dX12_hasPan_30 (v := 0) rfl ?_
      exact fw_zret C hrt (by decide) Y ⟨Option.some.inj h, rfl⟩ (fun t ht => ht) dX12_hasPan_31
    · have h := ite_f c8 h
      refine fw_sub [] (L' := []) rfl ?_
      exact w_X12_hasPan_b26 C hrt hG    h
end
set_option maxRecDepth 100000 in
set_option maxHeartbeats 4000000 in
theorem c_X12_hasPan {l : Launch} {N0 : Nat} {T : Nat → ClassId} {D : va_G} {gr : List (Nat × Nat)} {ad : Nat → Nat → Nat → Nat} {Y : Mem} {a1 : Int32} {res : Int32} (hG : ∀ q ∈ [(10, 0)], q ∈ gr) (h : X12_hasPan Y a1 = some res) : CI l yX12_hasPan wsX12_hasPan (Rm 5) N0 T D gr ad Y [.ref (ad 10 0 0), .int a1] (fun r Y1 => r = res ∧ Y1 = Y) :=
  fw_body (by decide +kernel) rfl (Nat.le_of_ble_eq_true rfl) (fun p e s m below meth c C hrt => w_X12_hasPan C hrt hG  h)
