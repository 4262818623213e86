section
variable {p : Program} {l : Launch} {e : Env} {s : State} {m : MethodId} {below : List Frame} {meth : Method} {c : Code} {N0 : Nat} {T : Nat → ClassId} {D : va_G} {gr : List (Nat × Nat)} {ad : Nat → Nat → Nat → Nat}
set_option maxRecDepth 100000 in
set_option maxHeartbeats 4000000 in
theorem w_X12_stop_b36 {a1 : Int32} (C : Cx p s m [.ref (ad 10 0 0), .int a1].toArray meth c cX12_stop 3 wsX12_stop RX12 N0 T D gr ad) (hrt : meth.sig.returnType = (some .int)) (hG : ∀ q ∈ [(10, 0)], q ∈ gr) {res : Int32 × Mem} (Y : Mem) (s0 : Int32) (s1 : Int32) (h : X12_stop_b36 a1  Y s0 s1 = some res) : FW p l e (Rm 2) s m [.ref (ad 10 0 0), .int a1].toArray below meth c 3 N0 T D gr ad 0 0 (MQ below (va_Qi (fun r Y1 => (r, Y1) = res) (WB T D gr ad) (fun q => N0 ≤ q)) [.ref (ad 10 0 0), .int a1].toArray s 0 0 (fun q => N0 ≤ q)) Y 36 [(0, .ref (ad 10 0 0)), (1, .int a1)] [.int s0, .int s1, .ref (ad 10 0 0)] := by
  unfold X12_stop_b36 at h
  refine fw_iconst C dX12_stop_36 (v := 0) rfl ?_
  obtain ⟨r5, Y7, q6, h⟩ := bd2_some h
  refine fw_callVi C (ci := 10) (Cn := RX12) (Tc := TX12) (N := 19) (As := [.int s1, .int s0, .int 0]) (c_X12_fails (gac (hG _ (List.mem_of_getElem? (i := 0) rfl)) ga0) q6) (cwV 3 (cx_ts C) gX12_stop_X12_fails rfl rfl rfl (by decide +kernel) ⟨Nat.le_of_ble_eq_true rfl, Nat.le_of_ble_eq_true rfl⟩) rfl (hG _ (List.mem_of_getElem? (i := 0) rfl)) (of10_0 _) (ce10 T ad _ _) rfl (st := []) rfl (Nat.le_of_ble_eq_true rfl) ⟨Nat.le_refl 0, Nat.le_refl 0⟩ dX12_stop_37 (ppw ?_)
  refine fw_if_eq C dX12_stop_40 (tgt := 45) rfl (fun c8 => ?_) (fun c8 => ?_)
  · have h := ite_t c8 h
    refine fw_aload_n C dX12_stop_45 rfl 0 rfl ?_
    refine fw_iconst C dX12_stop_46 (v := 0) rfl ?_
    obtain ⟨Y11, q10, h⟩ := bd1_some h
    refine fw_callVv C (ci := 10) (Cn := RX12) (Tc := TX12) (N := 19) (As := [.int 0]) (c_X12_remember (gac (hG _ (List.mem_of_getElem? (i := 0) rfl)) ga0) q10) (cwV 1 (cx_ts C) gX12_stop_X12_remember rfl rfl rfl (by decide +kernel) ⟨Nat.le_of_ble_eq_true rfl, Nat.le_of_ble_eq_true rfl⟩) rfl (hG _ (List.mem_of_getElem? (i := 0) rfl)) (of10_0 _) (ce10 T ad _ _) rfl (st := []) rfl (Nat.le_of_ble_eq_true rfl) ⟨Nat.le_refl 0, Nat.le_refl 0⟩ dX12_stop_47 (ppv ?_)
    refine fw_aload_n C dX12_stop_50 rfl 0 rfl ?_
    refine fw_iload_n C dX12_stop_51 rfl 1 rfl ?_
    obtain ⟨r12, Y14, q13, h⟩ := bd2_some h
    refine fw_callVi C (ci := 10) (Cn := RX12) (Tc := TX12) (N := 19) (As := [.int a1]) (c_X12_stopIt (gac (hG _ (List.mem_of_getElem? (i := 0) rfl)) ga0) q13) (cwV 1 (cx_ts C) gX12_stop_X12_stopIt rfl rfl rfl (by decide +kernel) ⟨Nat.le_of_ble_eq_true rfl, Nat.le_of_ble_eq_true rfl⟩) rfl (hG _ (List.mem_of_getElem? (i := 0) rfl)) (of10_0 _) (ce10 T ad _ _) rfl (st := []) rfl (Nat.le_of_ble_eq_true rfl) ⟨Nat.le_refl 0, Nat.le_refl 0⟩ dX12_stop_52 (ppw ?_)
    exact fw_iret C hrt Y14 (Option.some.inj h) (fun t ht => ht) dX12_stop_55
  · have h := ite_f c8 h
    refine fw_iconst C dX12_stop_43 (v := 0) rfl ?_
    exact fw_iret C hrt Y7 (Option.some.inj h) (fun t ht => ht) dX12_stop_44
set_option maxRecDepth 100000 in
set_option maxHeartbeats 4000000 in
theorem w_X12_stop_b35 {a1 : Int32} (C : Cx p s m [.ref (ad 10 0 0), .int a1].toArray meth c cX12_stop 3 wsX12_stop RX12 N0 T D gr ad) (hrt : meth.sig.returnType = (some .int)) (hG : ∀ q ∈ [(10, 0)], q ∈ gr) {res : Int32 × Mem} (Y : Mem) (s0 : Int32) (h : X12_stop_b35 a1  Y s0 = some res) : FW p l e (Rm 2) s m [.ref (ad 10 0 0), .int a1].toArray below meth c 3 N0 T D gr ad 0 0 (MQ below (va_Qi (fun r Y1 => (r, Y1) = res) (WB T D gr ad) (fun q => N0 ≤ q)) [.ref (ad 10 0 0), .int a1].toArray s 0 0 (fun q => N0 ≤ q)) Y 35 [(0, .ref (ad 10 0 0)), (1, .int a1)] [.int s0, .ref (ad 10 0 0)] := by
  unfold X12_stop_b35 at h
  refine fw_iconst C dX12_stop_35 (v := 0) rfl ?_
  exact w_X12_stop_b36 C hrt hG   _ _ _ h
set_option maxRecDepth 100000 in
set_option maxHeartbeats 4000000 in
theorem w_X12_stop_b16 {a1 : Int32} (C : Cx p s m [.ref (ad 10 0 0), .int a1].toArray meth c cX12_stop 3 wsX12_stop RX12 N0 T D gr ad) (hrt : meth.sig.returnType = (some .int)) (hG : ∀ q ∈ [(10, 0)], q ∈ gr) {res : Int32 × Mem} (Y : Mem) (l2 : Int32) (s0 : Int32) (h : X12_stop_b16 a1  Y l2 s0 = some res) : FW p l e (Rm 2) s m [.ref (ad 10 0 0), .int a1].toArray below meth c 3 N0 T D gr ad 0 0 (MQ below (va_Qi (fun r Y1 => (r, Y1) = res) (WB T D gr ad) (fun q => N0 ≤ q)) [.ref (ad 10 0 0), .int a1].toArray s 0 0 (fun q => N0 ≤ q)) Y 16 [(2, .int l2), (0, .ref (ad 10 0 0)), (1, .int a1)] [.int s0, .ref (ad 10 0 0)] := by
  unfold X12_stop_b16 at h
  refine fw_iload_n C dX12_stop_16 rfl 0 rfl ?_
  refine fw_if_eq C dX12_stop_17 (tgt := 35) rfl (fun c4 => ?_) (fun c4 => ?_)
  · have h := ite_t c4 h
    refine fw_sub [1, 2] (L' := [(0, .ref (ad 10 0 0)), (1, .int a1)]) rfl ?_
    exact w_X12_stop_b35 C hrt hG   _ _ h
  · have h := ite_f c4 h
    refine fw_aload_n C dX12_stop_20 rfl 1 rfl ?_
    refine fw_iload_n C dX12_stop_21 rfl 2 rfl ?_
    refine fw_bipush C dX12_stop_22 (v := 17) rfl ?_
    obtain ⟨r15, q16, h⟩ := bd1_some h
    refine fw_callVi C (ci := 10) (Cn := RX12) (Tc := TX12) (N := 19) (As := [.int a1, .int 17]) (c_X12_of (gac (hG _ (List.mem_of_getElem? (i := 0) rfl)) ga0) q16) (cwV 2 (cx_ts C) gX12_stop_X12_of rfl rfl rfl (by decide +kernel) ⟨Nat.le_of_ble_eq_true rfl, Nat.le_of_ble_eq_true rfl⟩) rfl (hG _ (List.mem_of_getElem? (i := 0) rfl)) (of10_0 _) (ce10 T ad _ _) rfl (st := [.int s0, .ref (ad 10 0 0)]) rfl (Nat.le_of_ble_eq_true rfl) ⟨Nat.le_refl 0, Nat.le_refl 0⟩ dX12_stop_24 (pp2 ?_)
    refine fw_iconst C dX12_stop_27 (v := 1) rfl ?_
    refine fw_icmp_eq C dX12_stop_28 (tgt := 35) rfl (fun c17 => ?_) (fun c17 => ?_)
    · have h := ite_t c17 h
      refine fw_sub [1, 2] (L' := [(0, .ref (ad 10 0 0)), (1, .int a1)]) rfl ?_
      exact w_X12_stop_b35 C hrt hG   _ _ h
    · have h := ite_f c17 h
      refine fw_iconst C dX12_stop_31 (v := 1) rfl ?_
      refine fw_goto C dX12_stop_32 (tgt := 36) rfl ?_
      refine fw_sub [1, 2] (L' := [(0, .ref (ad 10 0 0)), (1, .int a1)]) rfl ?_
      exact w_X12_stop_b36 C hrt hG   _ _ _ h
set_option maxRecDepth 100000 in
set_option maxHeartbeats 4000000 in
theorem w_X12_stop {Y : Mem} {a1 : Int32} (C : Cx p s m [.ref (ad 10 0 0), .int a1].toArray meth c cX12_stop 3 wsX12_stop RX12 N0 T D gr ad) (hrt : meth.sig.returnType = (some .int)) (hG : ∀ q ∈ [(10, 0)], q ∈ gr) {res : Int32 × Mem} (h : X12_stop Y a1 = some res) : FW p l e (Rm 2) s m [.ref (ad 10 0 0), .int a1].toArray below meth c 3 N0 T D gr ad 0 0 (MQ below (va_Qi (fun r Y1 => (r, Y1) = res) (WB T D gr ad) (fun q => N0 ≤ q)) [.ref (ad 10 0 0), .int a1].toArray s 0 0 (fun q => N0 ≤ q)) Y 0 [(0, .ref (ad 10 0 0)), (1, .int a1)] [] := by
  unfold X12_stop at h
  refine fw_aload_n C dX12_stop_0 rfl 0 rfl ?_
  refine fw_iload_n C dX12_stop_1 rfl 1 rfl ?_
  obtain ⟨r1, q2, h⟩ := bd1_some h
  refine fw_callVi C (ci := 10) (Cn := RX12) (Tc := TX12) (N := 19) (As := [.int a1]) (c_X12_isStep (gac (hG _ (List.mem_of_getElem? (i := 0) rfl)) ga0) q2) (cwV 1 (cx_ts C) gX12_stop_X12_isStep rfl rfl rfl (by decide +kernel) ⟨Nat.le_of_ble_eq_true rfl, Nat.le_of_ble_eq_true rfl⟩) rfl (hG _ (List.mem_of_getElem? (i := 0) rfl)) (of10_0 _) (ce10 T ad _ _) rfl (st := []) rfl (Nat.le_of_ble_eq_true rfl) ⟨Nat.le_refl 0, Nat.le_refl 0⟩ dX12_stop_2 (pp2 ?_)
  refine fw_istore_n C dX12_stop_5 rfl (by decide) (L' := [(2, .int r1), (0, .ref (ad 10 0 0)), (1, .int a1)]) rfl ?_
  refine fw_aload_n C dX12_stop_6 rfl 1 rfl ?_
  refine fw_iload_n C dX12_stop_7 rfl 0 rfl ?_
  refine fw_if_ne C dX12_stop_8 (tgt := 15) rfl (fun c3 => ?_) (fun c3 => ?_)
  · have h := ite_f c3 h
    refine fw_iconst C dX12_stop_15 (v := 0) rfl ?_
    exact w_X12_stop_b16 C hrt hG   _ _ _ h
  · have h := ite_t c3 h
    refine fw_iconst C dX12_stop_11 (v := 1) rfl ?_
    refine fw_goto C dX12_stop_12 (tgt := 16) rfl ?_
    exact w_X12_stop_b16 C hrt hG   _ _ _ h
end
set_option maxRecDepth 100000 in
set_option maxHeartbeats 4000000 in
theorem c_X12_stop {l : Launch} {N0 : Nat} {T : Nat → ClassId} {D : va_G} {gr : List (Nat × Nat)} {ad : Nat → Nat → Nat → Nat} {Y : Mem} {a1 : Int32} {res : Int32 × Mem} (hG : ∀ q ∈ [(10, 0)], q ∈ gr) (h : X12_stop Y a1 = some res) : CI l yX12_stop wsX12_stop (Rm 2) N0 T D gr ad Y [.ref (ad 10 0 0), .int a1] (fun r Y1 => (r, Y1) = res) :=
  fw_body (by decide +kernel) rfl (Nat.le_of_ble_eq_true rfl) (fun p e s m below meth c C hrt => w_X12_stop C hrt hG  h)
theorem ly_X12_successors_12 : ∀ w ∈ u_ws RX12 TX12 19, w ∈ wsX12_successors := by decide +kernel
theorem fl_X12_successors_13 : Cond.fieldLink RX12 13 "RecipeSchedulerModel" "m" "[I" ∈ wsX12_successors := by decide +kernel
section
variable {p : Program} {l : Launch} {e : Env} {s : State} {m : MethodId} {below : List Frame} {meth : Method} {c : Code} {N0 : Nat} {T : Nat → ClassId} {D : va_G} {gr : List (Nat × Nat)} {ad : Nat → Nat → Nat → Nat}
set_option maxRecDepth 100000 in
set_option maxHeartbeats 4000000 in
theorem w_X12_successors_b32 {Y : Mem} {a1 : Int32} (C : Cx p s m [.ref (ad 10 0 0), .int a1].toArray meth c cX12_successors 4 wsX12_successors RX12 N0 T D gr ad) (hrt : meth.sig.returnType = (some .int)) (hG : ∀ q ∈ [(10, 0)], q ∈ gr) {res : Int32} {k6 : Int32 → Int32 → Option (Int32)} (hk6 : ∀ (l3 : Int32) (l2 : Int32), k6 l3 l2 = some res → FW p l e (Rm 2) s m [.ref (ad 10 0 0), .int a1].toArray below meth c 4 N0 T D gr ad 0 0 (MQ below (va_Qi (fun r Y1 => r = res ∧ Y1 = Y) (WB T D gr ad) (fun q => N0 ≤ q)) [.ref (ad 10 0 0), .int a1].toArray s 0 0 (fun q => N0 ≤ q)) Y 6 [(3, .int l3), (2, .int l2), (0, .ref (ad 10 0 0)), (1, .int a1)] []) (l3 : Int32) (s0 : Int32) (s1 : Int32) (h : X12_successors_b32 Y a1 k6 l3 s0 s1 = some res) : FW p l e (Rm 2) s m [.ref (ad 10 0 0), .int a1].toArray below meth c 4 N0 T D gr ad 0 0 (MQ below (va_Qi (fun r Y1 => r = res ∧ Y1 = Y) (WB T D gr ad) (fun q => N0 ≤ q)) [.ref (ad 10 0 0), .int a1].toArray s 0 0 (fun q => N0 ≤ q)) Y 32 [(3, .int l3), (0, .ref (ad 10 0 0)), (1, .int a1)] [.int s0, .int s1] := by
  unfold X12_successors_b32 at h
  refine fw_iadd C dX12_successors_32 ?_
  obtain ⟨v8, e9, h⟩ := lt_some h
  refine fw_top (v' := .int v8) (by rw [e9]) ?_
  refine fw_istore_n C dX12_successors_33 rfl (by decide) (L' := [(2, .int v8), (3, .int l3), (0, .ref (ad 10 0 0)), (1, .int a1)]) rfl ?_
  refine fw_iinc C dX12_successors_34 (kk := 1) (v := l3 + 1) rfl rfl (by decide) (L' := [(3, .int (l3 + 1)), (2, .int v8), (0, .ref (ad 10 0 0)), (1, .int a1)]) rfl ?_
  refine fw_goto C dX12_successors_37 (tgt := 6) rfl ?_
  exact hk6 _ _ h
set_option maxRecDepth 100000 in
set_option maxHeartbeats 4000000 in
theorem w_X12_successors_b6 {Y : Mem} {a1 : Int32} (C : Cx p s m [.ref (ad 10 0 0), .int a1].toArray meth c cX12_successors 4 wsX12_successors RX12 N0 T D gr ad) (hrt : meth.sig.returnType = (some .int)) (hG : ∀ q ∈ [(10, 0)], q ∈ gr) {res : Int32} : ∀ (n : Nat) (l3 : Int32) (l2 : Int32), X12_successors_b6 Y a1  n l3 l2 = some res → FW p l e (Rm 2) s m [.ref (ad 10 0 0), .int a1].toArray below meth c 4 N0 T D gr ad 0 0 (MQ below (va_Qi (fun r Y1 => r = res ∧ Y1 = Y) (WB T D gr ad) (fun q => N0 ≤ q)) [.ref (ad 10 0 0), .int a1].toArray s 0 0 (fun q => N0 ≤ q)) Y 6 [(3, .int l3), (2, .int l2), (0, .ref (ad 10 0 0)), (1, .int a1)] [] := by
  intro n
  induction n with
  | zero =>
    intro l3 l2 h
    unfold X12_successors_b6 at h
    cases h
  | succ n ih =>
    intro l3 l2 h
    unfold X12_successors_b6 at h
    refine fw_iload_n C dX12_successors_6 rfl 0 rfl ?_
    refine fw_aload_n C dX12_successors_7 rfl 2 rfl ?_
    refine fw_get C (ci := 10) (Cn := RX12) (Tc := TX12) (N := 19) (j := 0) ly_X12_successors_12 rfl (hG _ (List.mem_of_getElem? (i := 0) rfl)) (of10_0 _) (ce10 T ad _ _) (by decide) (cx_ts C _ fl_X12_successors_13) (fun _ h => h) (v := .ref (ad 10 0 1)) rfl dX12_successors_8 ?_
    refine fw_bipush C dX12_successors_11 (v := 13) rfl ?_
    obtain ⟨b3, h⟩ := gd_some h
    refine fw_iald2 C (hG _ (List.mem_of_getElem? (i := 0) rfl)) (of10_1 _) (ca10_1 T ad _ _) b3 (Nat.le_of_ble_eq_true rfl) dX12_successors_13 ?_
    refine fw_icmp_ge C dX12_successors_14 (tgt := 40) rfl (fun c4 => ?_) (fun c4 => ?_)
    · have h := ite_t c4 h
      refine fw_iload_n C dX12_successors_40 rfl 1 rfl ?_
      exact fw_iret C hrt Y ⟨Option.some.inj h, rfl⟩ (fun t ht => ht) dX12_successors_41
    · have h := ite_f c4 h
      refine fw_iload_n C dX12_successors_17 rfl 1 rfl ?_
      refine fw_aload_n C dX12_successors_18 rfl 2 rfl ?_
      refine fw_iload_n C dX12_successors_19 rfl 3 rfl ?_
      refine fw_iload_n C dX12_successors_20 rfl 0 rfl ?_
      obtain ⟨r5, q6, h⟩ := bd1_some h
      refine fw_callVi C (ci := 10) (Cn := RX12) (Tc := TX12) (N := 19) (As := [.int a1, .int l3]) (c_X12_isPredecessor (gac (hG _ (List.mem_of_getElem? (i := 0) rfl)) ga0) q6) (cwV 2 (cx_ts C) gX12_successors_X12_isPredecessor rfl rfl rfl (by decide +kernel) ⟨Nat.le_of_ble_eq_true rfl, Nat.le_of_ble_eq_true rfl⟩) rfl (hG _ (List.mem_of_getElem? (i := 0) rfl)) (of10_0 _) (ce10 T ad _ _) rfl (st := [.int l2]) rfl (Nat.le_of_ble_eq_true rfl) ⟨Nat.le_refl 0, Nat.le_refl 0⟩ dX12_successors_21 (pp2 ?_)
      refine fw_if_eq C dX12_successors_24 (tgt := 31) rfl (fun c7 => ?_) (fun c7 => ?_)
      · have h := ite_t c7 h
        refine fw_iconst C dX12_successors_31 (v := 0) rfl ?_
        refine fw_sub [0, 2, 3] (L' := [(3, .int l3), (0, .ref (ad 10 0 0)), (1, .int a1)]) rfl ?_
        exact w_X12_successors_b32 C hrt hG  ih _ _ _ h
      · have h := ite_f c7 h
        refine fw_iconst C dX12_successors_27 (v := 1) rfl ?_
        refine fw_goto C dX12_successors_28 (tgt := 32) rfl ?_
        refine fw_sub [0, 2, 3] (L' := [(3, .int l3), (0, .ref (ad 10 0 0)), (1, .int a1)]) rfl ?_
        exact w_X12_successors_b32 C hrt hG  ih _ _ _ h
set_option maxRecDepth 100000 in
set_option maxHeartbeats 4000000 in
theorem w_X12_successors {Y : Mem} {a1 : Int32} (C : Cx p s m [.ref (ad 10 0 0), .int a1].toArray meth c cX12_successors 4 wsX12_successors RX12 N0 T D gr ad) (hrt : meth.sig.returnType = (some .int)) (hG : ∀ q ∈ [(10, 0)], q ∈ gr) {res : Int32} (h : X12_successors Y a1 = some res) : FW p l e (Rm 2) s m [.ref (ad 10 0 0), .int a1].toArray below meth c 4 N0 T D gr ad 0 0 (MQ below (va_Qi (fun r Y1 => r = res ∧ Y1 = Y) (WB T D gr ad) (fun q => N0 ≤ q)) [.ref (ad 10 0 0), .int a1].toArray s 0 0 (fun q => N0 ≤ q)) Y 0 [(0, .ref (ad 10 0 0)), (1, .int a1)] [] := by
  unfold X12_successors at h
  refine fw_iconst C dX12_successors_0 (v := 0) rfl ?_
  refine fw_istore_n C dX12_successors_1 rfl (by decide) (L' := [(2, .int 0), (0, .ref (ad 10 0 0)), (1, .int a1)]) rfl ?_
  refine fw_iload_n C dX12_successors_2 rfl 2 rfl ?_
  refine fw_iconst C dX12_successors_3 (v := 1) rfl ?_
  refine fw_iadd C dX12_successors_4 ?_
  obtain ⟨v1, e2, h⟩ := lt_some h
  refine fw_top (v' := .int v1) (by rw [e2]) ?_
  refine fw_istore_n C dX12_successors_5 rfl (by decide) (L' := [(3, .int v1), (2, .int 0), (0, .ref (ad 10 0 0)), (1, .int a1)]) rfl ?_
  exact w_X12_successors_b6 C hrt hG   _ _ _ h
end
set_option maxRecDepth 100000 in
set_option maxHeartbeats 4000000 in
theorem c_X12_successors {l : Launch} {N0 : Nat} {T : Nat → ClassId} {D : va_G} {gr : List (Nat × Nat)} {ad : Nat → Nat → Nat → Nat} {Y : Mem} {a1 : Int32} {res : Int32} (hG : ∀ q ∈ [(10, 0)], q ∈ gr) (h : X12_successors Y a1 = some res) : CI l yX12_successors wsX12_successors (Rm 2) N0 T D gr ad Y [.ref (ad 10 0 0), .int a1] (fun r Y1 => r = res ∧ Y1 = Y) :=
  fw_body (by decide +kernel) rfl (Nat.le_of_ble_eq_true rfl) (fun p e s m below meth c C hrt => w_X12_successors C hrt hG  h)
section
variable {p : Program} {l : Launch} {e : Env} {s : State} {m : MethodId} {below : List Frame} {meth : Method} {c : Code} {N0 : Nat} {T : Nat → ClassId} {D : va_G} {gr : List (Nat × Nat)} {ad : Nat → Nat → Nat → Nat}
set_option maxRecDepth 100000 in
set_option maxHeartbeats 4000000 in
theorem w_X12_successorCount_b14 {a1 : Int32} (C : Cx p s m [.ref (ad 10 0 0), .int a1].toArray meth c cX12_successorCount 2 wsX12_successorCount RX12 N0 T D gr ad) (hrt : meth.sig.returnType = (some .int)) (hG : ∀ q ∈ [(10, 0)], q ∈ gr) {res : Int32 × Mem} (Y : Mem) (s0 : Int32) (h : X12_successorCount_b14 a1  Y s0 = some res) : FW p l e (Rm 3) s m [.ref (ad 10 0 0), .int a1].toArray below meth c 2 N0 T D gr ad 0 0 (MQ below (va_Qi (fun r Y1 => (r, Y1) = res) (WB T D gr ad) (fun q => N0 ≤ q)) [.ref (ad 10 0 0), .int a1].toArray s 0 0 (fun q => N0 ≤ q)) Y 14 [(0, .ref (ad 10 0 0)), (1, .int a1)] [.int s0, .ref (ad 10 0 0)] := by
  unfold X12_successorCount_b14 at h
  refine fw_iconst C dX12_successorCount_14 (v := 0) rfl ?_
  refine fw_iconst C dX12_successorCount_15 (v := 0) rfl ?_
  obtain ⟨r4, Y6, q5, h⟩ := bd2_some h
  refine fw_callVi C (ci := 10) (Cn := RX12) (Tc := TX12) (N := 19) (As := [.int s0, .int 0, .int 0]) (c_X12_fails (gac (hG _ (List.mem_of_getElem? (i := 0) rfl)) ga0) q5) (cwV 3 (cx_ts C) gX12_successorCount_X12_fails rfl rfl rfl (by decide +kernel) ⟨Nat.le_of_ble_eq_true rfl, Nat.le_of_ble_eq_true rfl⟩) rfl (hG _ (List.mem_of_getElem? (i := 0) rfl)) (of10_0 _) (ce10 T ad _ _) rfl (st := []) rfl (Nat.le_of_ble_eq_true rfl) ⟨Nat.le_refl 0, Nat.le_refl 0⟩ dX12_successorCount_16 (ppw ?_)
  refine fw_if_eq C dX12_successorCount_19 (tgt := 24) rfl (fun c7 => ?_) (fun c7 => ?_)
  · have h := ite_t c7 h
    refine fw_aload_n C dX12_successorCount_24 rfl 0 rfl ?_
    refine fw_iload_n C dX12_successorCount_25 rfl 1 rfl ?_
    obtain ⟨r8, q9, h⟩ := bd1_some h
    refine fw_callVi C (ci := 10) (Cn := RX12) (Tc := TX12) (N := 19) (As := [.int a1]) (c_X12_successors (gac (hG _ (List.mem_of_getElem? (i := 0) rfl)) ga0) q9) (cwV 1 (cx_ts C) gX12_successorCount_X12_successors rfl rfl rfl (by decide +kernel) ⟨Nat.le_of_ble_eq_true rfl, Nat.le_of_ble_eq_true rfl⟩) rfl (hG _ (List.mem_of_getElem? (i := 0) rfl)) (of10_0 _) (ce10 T ad _ _) rfl (st := []) rfl (Nat.le_of_ble_eq_true rfl) ⟨Nat.le_refl 0, Nat.le_refl 0⟩ dX12_successorCount_26 (pp2 ?_)
    exact fw_iret C hrt Y6 (Option.some.inj h) (fun t ht => ht) dX12_successorCount_29
  · have h := ite_f c7 h
    refine fw_iconst C dX12_successorCount_22 (v := 0) rfl ?_
    exact fw_iret C hrt Y6 (Option.some.inj h) (fun t ht => ht) dX12_successorCount_23
set_option maxRecDepth 100000 in
set_option maxHeartbeats 4000000 in
theorem w_X12_successorCount {Y : Mem} {a1 : Int32} (C : Cx p s m [.ref (ad 10 0 0), .int a1].toArray meth c cX12_successorCount 2 wsX12_successorCount RX12 N0 T D gr ad) (hrt : meth.sig.returnType = (some .int)) (hG : ∀ q ∈ [(10, 0)], q ∈ gr) {res : Int32 × Mem} (h : X12_successorCount Y a1 = some res) : FW p l e (Rm 3) s m [.ref (ad 10 0 0), .int a1].toArray below meth c 2 N0 T D gr ad 0 0 (MQ below (va_Qi (fun r Y1 => (r, Y1) = res) (WB T D gr ad) (fun q => N0 ≤ q)) [.ref (ad 10 0 0), .int a1].toArray s 0 0 (fun q => N0 ≤ q)) Y 0 [(0, .ref (ad 10 0 0)), (1, .int a1)] [] := by
  unfold X12_successorCount at h
  refine fw_aload_n C dX12_successorCount_0 rfl 0 rfl ?_
  refine fw_aload_n C dX12_successorCount_1 rfl 0 rfl ?_
  refine fw_iload_n C dX12_successorCount_2 rfl 1 rfl ?_
  obtain ⟨r1, q2, h⟩ := bd1_some h
  refine fw_callVi C (ci := 10) (Cn := RX12) (Tc := TX12) (N := 19) (As := [.int a1]) (c_X12_isStep (gac (hG _ (List.mem_of_getElem? (i := 0) rfl)) ga0) q2) (cwV 1 (cx_ts C) gX12_successorCount_X12_isStep rfl rfl rfl (by decide +kernel) ⟨Nat.le_of_ble_eq_true rfl, Nat.le_of_ble_eq_true rfl⟩) rfl (hG _ (List.mem_of_getElem? (i := 0) rfl)) (of10_0 _) (ce10 T ad _ _) rfl (st := [.ref (ad 10 0 0)]) rfl (Nat.le_of_ble_eq_true rfl) ⟨Nat.le_refl 0, Nat.le_refl 0⟩ dX12_successorCount_3 (pp2 ?_)
  refine fw_if_ne C dX12_successorCount_6 (tgt := 13) rfl (fun c3 => ?_) (fun c3 => ?_)
  · have h := ite_f c3 h
    refine fw_iconst C dX12_successorCount_13 (v := 0) rfl ?_
    exact w_X12_successorCount_b14 C hrt hG   _ _ h
  · have h := ite_t c3 h
    refine fw_iconst C dX12_successorCount_9 (v := 1) rfl ?_
    refine fw_goto C dX12_successorCount_10 (tgt := 14) rfl ?_
    exact w_X12_successorCount_b14 C hrt hG   _ _ h
end
set_option maxRecDepth 100000 in
set_option maxHeartbeats 4000000 in
theorem c_X12_successorCount {l : Launch} {N0 : Nat} {T : Nat → ClassId} {D : va_G} {gr : List (Nat × Nat)} {ad : Nat → Nat → Nat → Nat} {Y : Mem} {a1 : Int32} {res : Int32 × Mem} (hG : ∀ q ∈ [(10, 0)], q ∈ gr) (h : X12_successorCount Y a1 = some res) : CI l yX12_successorCount wsX12_successorCount (Rm 3) N0 T D gr ad Y [.ref (ad 10 0 0), .int a1] (fun r Y1 => (r, Y1) = res) :=
  fw_body (by decide +kernel) rfl (Nat.le_of_ble_eq_true rfl) (fun p e s m below meth c C hrt => w_X12_successorCount C hrt hG  h)
section
variable {p : Program} {l : Launch} {e : Env} {s : State} {m : MethodId} {below : List Frame} {meth : Method} {c : Code} {N0 : Nat} {T : Nat → ClassId} {D : va_G} {gr : List (Nat × Nat)} {ad : Nat → Nat → Nat → Nat}
set_option maxRecDepth 100000 in
set_option maxHeartbeats 4000000 in
theorem w_X12_taste {Y : Mem} (C : Cx p s m [.ref (ad 10 0 0)].toArray meth c cX12_taste 1 wsX12_taste RX12 N0 T D gr ad) (hrt : meth.sig.returnType = (some .int)) (hG : ∀ q ∈ [(10, 0)], q ∈ gr) {res : Int32 × Mem} (h : X12_taste Y = some res) : FW p l e (Rm 2) s m [.ref (ad 10 0 0)].toArray below meth c 1 N0 T D gr ad 0 0 (MQ below (va_Qi (fun r Y1 => (r, Y1) = res) (WB T D gr ad) (fun q => N0 ≤ q)) [.ref (ad 10 0 0)].toArray s 0 0 (fun q => N0 ≤ q)) Y 0 [(0, .ref (ad 10 0 0))] [] := by
  unfold X12_taste at h
  refine fw_aload_n C dX12_taste_0 rfl 0 rfl ?_
  refine fw_aload_n C dX12_taste_1 rfl 0 rfl ?_
  obtain ⟨r1, q2, h⟩ := bd1_some h
  refine fw_callVi C (ci := 10) (Cn := RX12) (Tc := TX12) (N := 19) (As := []) (c_X12_tasteNow (gac (hG _ (List.mem_of_getElem? (i := 0) rfl)) ga0) q2) (cwV 0 (cx_ts C) gX12_taste_X12_tasteNow rfl rfl rfl (by decide +kernel) ⟨Nat.le_of_ble_eq_true rfl, Nat.le_of_ble_eq_true rfl⟩) rfl (hG _ (List.mem_of_getElem? (i := 0) rfl)) (of10_0 _) (ce10 T ad _ _) rfl (st := [.ref (ad 10 0 0)]) rfl (Nat.le_of_ble_eq_true rfl) ⟨Nat.le_refl 0, Nat.le_refl 0⟩ dX12_taste_2 (pp2 ?_)
  obtain ⟨r3, Y5, q4, h⟩ := bd2_some h
  refine fw_callVi C (ci := 10) (Cn := RX12) (Tc := TX12) (N := 19) (As := [.int r1]) (c_X12_plain (gac (hG _ (List.mem_of_getElem? (i := 0) rfl)) ga0) q4) (cwV 1 (cx_ts C) gX12_taste_X12_plain rfl rfl rfl (by decide +kernel) ⟨Nat.le_of_ble_eq_true rfl, Nat.le_of_ble_eq_true rfl⟩) rfl (hG _ (List.mem_of_getElem? (i := 0) rfl)) (of10_0 _) (ce10 T ad _ _) rfl (st := []) rfl (Nat.le_of_ble_eq_true rfl) ⟨Nat.le_refl 0, Nat.le_refl 0⟩ dX12_taste_5 (ppw ?_)
  exact fw_iret C hrt Y5 (Option.some.inj h) (fun t ht => ht) dX12_taste_8
end
set_option maxRecDepth 100000 in
set_option maxHeartbeats 4000000 in
theorem c_X12_taste {l : Launch} {N0 : Nat} {T : Nat → ClassId} {D : va_G} {gr : List (Nat × Nat)} {ad : Nat → Nat → Nat → Nat} {Y : Mem} {res : Int32 × Mem} (hG : ∀ q ∈ [(10, 0)], q ∈ gr) (h : X12_taste Y = some res) : CI l yX12_taste wsX12_taste (Rm 2) N0 T D gr ad Y [.ref (ad 10 0 0)] (fun r Y1 => (r, Y1) = res) :=
  fw_body (by decide +kernel) rfl (Nat.le_of_ble_eq_true rfl) (fun p e s m below meth c C hrt => w_X12_taste C hrt hG  h)
theorem ly_X12_thrown_12 : ∀ w ∈ u_ws RX12 TX12 19, w ∈ wsX12_thrown := by decide +kernel
theorem fl_X12_thrown_1 : Cond.fieldLink RX12 1 "RecipeSchedulerModel" "thrown" "I" ∈ wsX12_thrown := by decide +kernel
section
variable {p : Program} {l : Launch} {e : Env} {s : State} {m : MethodId} {below : List Frame} {meth : Method} {c : Code} {N0 : Nat} {T : Nat → ClassId} {D : va_G} {gr : List (Nat × Nat)} {ad : Nat → Nat → Nat → Nat}
set_option maxRecDepth 100000 in
set_option maxHeartbeats 4000000 in
theorem w_X12_thrown {Y : Mem} (C : Cx p s m [.ref (ad 10 0 0)].toArray meth c cX12_thrown 1 wsX12_thrown RX12 N0 T D gr ad) (hrt : meth.sig.returnType = (some .int)) (hG : ∀ q ∈ [(10, 0)], q ∈ gr) {res : Int32} (h : X12_thrown Y = some res) : FW p l e (Rm 0) s m [.ref (ad 10 0 0)].toArray below meth c 1 N0 T D gr ad 0 0 (MQ below (va_Qi (fun r Y1 => r = res ∧ Y1 = Y) (WB T D gr ad) (fun q => N0 ≤ q)) [.ref (ad 10 0 0)].toArray s 0 0 (fun q => N0 ≤ q)) Y 0 [(0, .ref (ad 10 0 0))] [] := by
  unfold X12_thrown at h
  refine fw_aload_n C dX12_thrown_0 rfl 0 rfl ?_
  refine fw_get C (ci := 10) (Cn := RX12) (Tc := TX12) (N := 19) (j := 9) ly_X12_thrown_12 rfl (hG _ (List.mem_of_getElem? (i := 0) rfl)) (of10_0 _) (ce10 T ad _ _) (by decide) (cx_ts C _ fl_X12_thrown_1) (fun _ h => h) (v := .int (Y 10 0 0 9)) rfl dX12_thrown_1 ?_
  exact fw_iret C hrt Y ⟨Option.some.inj h, rfl⟩ (fun t ht => ht) dX12_thrown_4
end
set_option maxRecDepth 100000 in
set_option maxHeartbeats 4000000 in
theorem c_X12_thrown {l : Launch} {N0 : Nat} {T : Nat → ClassId} {D : va_G} {gr : List (Nat × Nat)} {ad : Nat → Nat → Nat → Nat} {Y : Mem} {res : Int32} (hG : ∀ q ∈ [(10, 0)], q ∈ gr) (h : X12_thrown Y = some res) : CI l yX12_thrown wsX12_thrown (Rm 0) N0 T D gr ad Y [.ref (ad 10 0 0)] (fun r Y1 => r = res ∧ Y1 = Y) :=
  fw_body (by decide +kernel) rfl (Nat.le_of_ble_eq_true rfl) (fun p e s m below meth c C hrt => w_X12_thrown C hrt hG  h)
theorem ly_X12_truncate_12 : ∀ w ∈ u_ws RX12 TX12 19, w ∈ wsX12_truncate := by decide +kernel
theorem fl_X12_truncate_27 : Cond.fieldLink RX12 27 "RecipeSchedulerModel" "length" "I" ∈ wsX12_truncate := by decide +kernel
section
variable {p : Program} {l : Launch} {e : Env} {s : State} {m : MethodId} {below : List Frame} {meth : Method} {c : Code} {N0 : Nat} {T : Nat → ClassId} {D : va_G} {gr : List (Nat × Nat)} {ad : Nat → Nat → Nat → Nat}
set_option maxRecDepth 100000 in
set_option maxHeartbeats 4000000 in
theorem w_X12_truncate_b18 {a1 : Int32} (C : Cx p s m [.ref (ad 10 0 0), .int a1].toArray meth c cX12_truncate 2 wsX12_truncate RX12 N0 T D gr ad) (hrt : meth.sig.returnType = (some .int)) (hG : ∀ q ∈ [(10, 0)], q ∈ gr) {res : Int32 × Mem} (Y : Mem) (s0 : Int32) (h : X12_truncate_b18 a1  Y s0 = some res) : FW p l e (Rm 1) s m [.ref (ad 10 0 0), .int a1].toArray below meth c 2 N0 T D gr ad 0 0 (MQ below (va_Qi (fun r Y1 => (r, Y1) = res) (WB T D gr ad) (fun q => N0 ≤ q)) [.ref (ad 10 0 0), .int a1].toArray s 0 0 (fun q => N0 ≤ q)) Y 18 [(0, .ref (ad 10 0 0)), (1, .int a1)] [.int s0, .ref (ad 10 0 0)] := by
  unfold X12_truncate_b18 at h
  refine fw_iconst C dX12_truncate_18 (v := 0) rfl ?_
  refine fw_iconst C dX12_truncate_19 (v := 0) rfl ?_
  obtain ⟨r4, Y6, q5, h⟩ := bd2_some h
  refine fw_callVi C (ci := 10) (Cn := RX12) (Tc := TX12) (N := 19) (As := [.int s0, .int 0, .int 0]) (c_X12_fails (gac (hG _ (List.mem_of_getElem? (i := 0) rfl)) ga0) q5) (cwV 3 (cx_ts C) gX12_truncate_X12_fails rfl rfl rfl (by decide +kernel) ⟨Nat.le_of_ble_eq_true rfl, Nat.le_of_ble_eq_true rfl⟩) rfl (hG _ (List.mem_of_getElem? (i := 0) rfl)) (of10_0 _) (ce10 T ad _ _) rfl (st := []) rfl (Nat.le_of_ble_eq_true rfl) ⟨Nat.le_refl 0, Nat.le_refl 0⟩ dX12_truncate_20 (ppw ?_)
  refine fw_if_eq C dX12_truncate_23 (tgt := 28) rfl (fun c7 => ?_) (fun c7 => ?_)
  · have h := ite_t c7 h
    refine fw_aload_n C dX12_truncate_28 rfl 0 rfl ?_
    refine fw_iload_n C dX12_truncate_29 rfl 1 rfl ?_
    obtain ⟨Y8, e9, h⟩ := lt_some h
    refine fw_put C (ci := 10) (Cn := RX12) (Tc := TX12) (N := 19) (j := 4) (ty := .int) (upd (Y6 10 0 0) 4 a1) ly_X12_truncate_12 rfl tyX12_ok nmX12 (hG _ (List.mem_of_getElem? (i := 0) rfl)) (of10_0 _) (ce10 T ad _ _) (by decide) (cx_ts C _ fl_X12_truncate_27) (fun _ h => h) rfl (by decide +kernel) rfl rfl (Nat.le_of_ble_eq_true rfl) (ce10_put4 T ad _ _ _) dX12_truncate_30 ?_
    refine fw_mem ((up_eq _ _ _ _ _ _).symm.trans e9) ?_
    refine fw_iload_n C dX12_truncate_33 rfl 1 rfl ?_
    exact fw_iret C hrt Y8 (Option.some.inj h) (fun t ht => ht) dX12_truncate_34
  · have h := ite_f c7 h
    refine fw_iconst C dX12_truncate_26 (v := 0) rfl ?_
    exact fw_iret C hrt Y6 (Option.some.inj h) (fun t ht => ht) dX12_truncate_27
set_option maxRecDepth 100000 in
set_option maxHeartbeats 4000000 in
theorem w_X12_truncate {Y : Mem} {a1 : Int32} (C : Cx p s m [.ref (ad 10 0 0), .int a1].toArray meth c cX12_truncate 2 wsX12_truncate RX12 N0 T D gr ad) (hrt : meth.sig.returnType = (some .int)) (hG : ∀ q ∈ [(10, 0)], q ∈ gr) {res : Int32 × Mem} (h : X12_truncate Y a1 = some res) : FW p l e (Rm 1) s m [.ref (ad 10 0 0), .int a1].toArray below meth c 2 N0 T D gr ad 0 0 (MQ below (va_Qi (fun r Y1 => (r, Y1) = res) (WB T D gr ad) (fun q => N0 ≤ q)) [.ref (ad 10 0 0), .int a1].toArray s 0 0 (fun q => N0 ≤ q)) Y 0 [(0, .ref (ad 10 0 0)), (1, .int a1)] [] := by
  unfold X12_truncate at h
  refine fw_aload_n C dX12_truncate_0 rfl 0 rfl ?_
  refine fw_iload_n C dX12_truncate_1 rfl 1 rfl ?_
  refine fw_iconst C dX12_truncate_2 (v := 0) rfl ?_
  refine fw_aload_n C dX12_truncate_3 rfl 0 rfl ?_
  refine fw_get C (ci := 10) (Cn := RX12) (Tc := TX12) (N := 19) (j := 4) ly_X12_truncate_12 rfl (hG _ (List.mem_of_getElem? (i := 0) rfl)) (of10_0 _) (ce10 T ad _ _) (by decide) (cx_ts C _ fl_X12_truncate_27) (fun _ h => h) (v := .int (Y 10 0 0 4)) rfl dX12_truncate_4 ?_
  obtain ⟨r1, q2, h⟩ := bd1_some h
  refine fw_callSi C (As := [.int a1, .int 0, .int (Y 10 0 0 4)]) (c_X12_in ga0 q2) (va_cwS 3 (cx_ts C) gX12_truncate_X12_in rfl rfl rfl (by decide +kernel) ⟨Nat.le_of_ble_eq_true rfl, Nat.le_of_ble_eq_true rfl⟩) rfl (st := [.ref (ad 10 0 0)]) rfl (Nat.le_of_ble_eq_true rfl) ⟨Nat.le_refl 0, Nat.le_refl 0⟩ dX12_truncate_7 (pp2 ?_)
  refine fw_if_ne C dX12_truncate_10 (tgt := 17) rfl (fun c3 => ?_) (fun c3 => ?_)
  · have h := ite_f c3 h
    refine fw_iconst C dX12_truncate_17 (v := 0) rfl ?_
    exact w_X12_truncate_b18 C hrt hG   _ _ h
  · have h := ite_t c3 h
    refine fw_iconst C dX12_truncate_13 (v := 1) rfl ?_
    refine fw_goto C dX12_truncate_14 (tgt := 18) rfl ?_
    exact w_X12_truncate_b18 C hrt hG   _ _ h
end
set_option maxRecDepth 100000 in
set_option maxHeartbeats 4000000 in
theorem c_X12_truncate {l : Launch} {N0 : Nat} {T : Nat → ClassId} {D : va_G} {gr : List (Nat × Nat)} {ad : Nat → Nat → Nat → Nat} {Y : Mem} {a1 : Int32} {res : Int32 × Mem} (hG : ∀ q ∈ [(10, 0)], q ∈ gr) (h : X12_truncate Y a1 = some res) : CI l yX12_truncate wsX12_truncate (Rm 1) N0 T D gr ad Y [.ref (ad 10 0 0), .int a1] (fun r Y1 => (r, Y1) = res) :=
  fw_body (by decide +kernel) rfl (Nat.le_of_ble_eq_true rfl) (fun p e s m below meth c C hrt => w_X12_truncate C hrt hG  h)
theorem ly_X12_undo_12 : ∀ w ∈ u_ws RX12 TX12 19, w ∈ wsX12_undo := by decide +kernel
theorem fl_X12_undo_21 : Cond.fieldLink RX12 21 "RecipeSchedulerModel" "undoable" "I" ∈ wsX12_undo := by decide +kernel
section
variable {p : Program} {l : Launch} {e : Env} {s : State} {m : MethodId} {below : List Frame} {meth : Method} {c : Code} {N0 : Nat} {T : Nat → ClassId} {D : va_G} {gr : List (Nat × Nat)} {ad : Nat → Nat → Nat → Nat}
set_option maxRecDepth 100000 in
set_option maxHeartbeats 4000000 in
theorem w_X12_undo_b13  (C : Cx p s m [.ref (ad 10 0 0)].toArray meth c cX12_undo 1 wsX12_undo RX12 N0 T D gr ad) (hrt : meth.sig.returnType = (some .int)) (hG : ∀ q ∈ [(10, 0)], q ∈ gr) {res : Int32 × Mem} (Y : Mem) (s0 : Int32) (h : X12_undo_b13   Y s0 = some res) : FW p l e (Rm 1) s m [.ref (ad 10 0 0)].toArray below meth c 1 N0 T D gr ad 0 0 (MQ below (va_Qi (fun r Y1 => (r, Y1) = res) (WB T D gr ad) (fun q => N0 ≤ q)) [.ref (ad 10 0 0)].toArray s 0 0 (fun q => N0 ≤ q)) Y 13 [(0, .ref (ad 10 0 0))] [.int s0, .ref (ad 10 0 0)] := by
  unfold X12_undo_b13 at h
  refine fw_iconst C dX12_undo_13 (v := 0) rfl ?_
  refine fw_iconst C dX12_undo_14 (v := 0) rfl ?_
  obtain ⟨r2, Y4, q3, h⟩ := bd2_some h
  refine fw_callVi C (ci := 10) (Cn := RX12) (Tc := TX12) (N := 19) (As := [.int s0, .int 0, .int 0]) (c_X12_fails (gac (hG _ (List.mem_of_getElem? (i := 0) rfl)) ga0) q3) (cwV 3 (cx_ts C) gX12_undo_X12_fails rfl rfl rfl (by decide +kernel) ⟨Nat.le_of_ble_eq_true rfl, Nat.le_of_ble_eq_true rfl⟩) rfl (hG _ (List.mem_of_getElem? (i := 0) rfl)) (of10_0 _) (ce10 T ad _ _) rfl (st := []) rfl (Nat.le_of_ble_eq_true rfl) ⟨Nat.le_refl 0, Nat.le_refl 0⟩ dX12_undo_15 (ppw ?_)
  refine fw_if_eq C dX12_undo_18 (tgt := 23) rfl (fun c5 => ?_) (fun c5 => ?_)
  · have h := ite_t c5 h
    refine fw_aload_n C dX12_undo_23 rfl 0 rfl ?_
    refine fw_aload_n C dX12_undo_24 rfl 0 rfl ?_
    refine fw_get C (ci := 10) (Cn := RX12) (Tc := TX12) (N := 19) (j := 2) ly_X12_undo_12 rfl (hG _ (List.mem_of_getElem? (i := 0) rfl)) (of10_0 _) (ce10 T ad _ _) (by decide) (cx_ts C _ fl_X12_undo_21) (fun _ h => h) (v := .int (Y4 10 0 0 2)) rfl dX12_undo_25 ?_
    refine fw_iconst C dX12_undo_28 (v := 0) rfl ?_
    obtain ⟨Y8, q7, h⟩ := bd1_some h
    refine fw_callVv C (ci := 10) (Cn := RX12) (Tc := TX12) (N := 19) (As := [.int (Y4 10 0 0 2), .int 0]) (c_X12_copyBlock (gac (hG _ (List.mem_of_getElem? (i := 0) rfl)) ga0) q7) (cwV 2 (cx_ts C) gX12_undo_X12_copyBlock rfl rfl rfl (by decide +kernel) ⟨Nat.le_of_ble_eq_true rfl, Nat.le_of_ble_eq_true rfl⟩) rfl (hG _ (List.mem_of_getElem? (i := 0) rfl)) (of10_0 _) (ce10 T ad _ _) rfl (st := []) rfl (Nat.le_of_ble_eq_true rfl) ⟨Nat.le_refl 0, Nat.le_refl 0⟩ dX12_undo_29 (ppv ?_)
    refine fw_aload_n C dX12_undo_32 rfl 0 rfl ?_
    refine fw_dup C dX12_undo_33 rfl ?_
    refine fw_get C (ci := 10) (Cn := RX12) (Tc := TX12) (N := 19) (j := 2) ly_X12_undo_12 rfl (hG _ (List.mem_of_getElem? (i := 0) rfl)) (of10_0 _) (ce10 T ad _ _) (by decide) (cx_ts C _ fl_X12_undo_21) (fun _ h => h) (v := .int (Y8 10 0 0 2)) rfl dX12_undo_34 ?_
    refine fw_iconst C dX12_undo_37 (v := 1) rfl ?_
    refine fw_isub C dX12_undo_38 ?_
    obtain ⟨Y9, e10, h⟩ := lt_some h
    refine fw_put C (ci := 10) (Cn := RX12) (Tc := TX12) (N := 19) (j := 2) (ty := .int) (upd (Y8 10 0 0) 2 ((Y8 10 0 0 2) - 1)) ly_X12_undo_12 rfl tyX12_ok nmX12 (hG _ (List.mem_of_getElem? (i := 0) rfl)) (of10_0 _) (ce10 T ad _ _) (by decide) (cx_ts C _ fl_X12_undo_21) (fun _ h => h) rfl (by decide +kernel) rfl rfl (Nat.le_of_ble_eq_true rfl) (ce10_put2 T ad _ _ _) dX12_undo_39 ?_
    refine fw_mem ((up_eq _ _ _ _ _ _).symm.trans e10) ?_
    refine fw_aload_n C dX12_undo_42 rfl 0 rfl ?_
    refine fw_get C (ci := 10) (Cn := RX12) (Tc := TX12) (N := 19) (j := 2) ly_X12_undo_12 rfl (hG _ (List.mem_of_getElem? (i := 0) rfl)) (of10_0 _) (ce10 T ad _ _) (by decide) (cx_ts C _ fl_X12_undo_21) (fun _ h => h) (v := .int (Y9 10 0 0 2)) rfl dX12_undo_43 ?_
    exact fw_iret C hrt Y9 (Option.some.inj h) (fun t ht => ht) dX12_undo_46
  · have h := ite_f c5 h
    refine fw_iconst C dX12_undo_21 (v := 0) rfl ?_
    exact fw_iret C hrt Y4 (Option.some.inj h) (fun t ht => ht) dX12_undo_22
set_option maxRecDepth 100000 in
set_option maxHeartbeats 4000000 in
theorem w_X12_undo {Y : Mem} (C : Cx p s m [.ref (ad 10 0 0)].toArray meth c cX12_undo 1 wsX12_undo RX12 N0 T D gr ad) (hrt : meth.sig.returnType = (some .int)) (hG : ∀ q ∈ [(10, 0)], q ∈ gr) {res : Int32 × Mem} (h : X12_undo Y = some res) : FW p l e (Rm 1) s m [.ref (ad 10 0 0)].toArray below meth c 1 N0 T D gr ad 0 0 (MQ below (va_Qi (fun r Y1 => (r, Y1) = res) (WB T D gr ad) (fun q => N0 ≤ q)) [.ref (ad 10 0 0)].toArray s 0 0 (fun q => N0 ≤ q)) Y 0 [(0, .ref (ad 10 0 0))] [] := by
  unfold X12_undo at h
  refine fw_aload_n C dX12_undo_0 rfl 0 rfl ?_
  refine fw_aload_n C dX12_undo_1 rfl 0 rfl ?_
  refine fw_get C (ci := 10) (Cn := RX12) (Tc := TX12) (N := 19) (j := 2) ly_X12_undo_12 rfl (hG _ (List.mem_of_getElem? (i := 0) rfl)) (of10_0 _) (ce10 T ad _ _) (by decide) (cx_ts C _ fl_X12_undo_21) (fun _ h => h) (v := .int (Y 10 0 0 2)) rfl dX12_undo_2 ?_
  refine fw_if_ne C dX12_undo_5 (tgt := 12) rfl (fun c1 => ?_) (fun c1 => ?_)
  · have h := ite_f c1 h
    refine fw_iconst C dX12_undo_12 (v := 0) rfl ?_
    exact w_X12_undo_b13 C hrt hG   _ _ h
  · have h := ite_t c1 h
    refine fw_iconst C dX12_undo_8 (v := 1) rfl ?_
    refine fw_goto C dX12_undo_9 (tgt := 13) rfl ?_
    exact w_X12_undo_b13 C hrt hG   _ _ h
end
set_option maxRecDepth 100000 in
set_option maxHeartbeats 4000000 in
theorem c_X12_undo {l : Launch} {N0 : Nat} {T : Nat → ClassId} {D : va_G} {gr : List (Nat × Nat)} {ad : Nat → Nat → Nat → Nat} {Y : Mem} {res : Int32 × Mem} (hG : ∀ q ∈ [(10, 0)], q ∈ gr) (h : X12_undo Y = some res) : CI l yX12_undo wsX12_undo (Rm 1) N0 T D gr ad Y [.ref (ad 10 0 0)] (fun r Y1 => (r, Y1) = res) :=
  fw_body (by decide +kernel) rfl (Nat.le_of_ble_eq_true rfl) (fun p e s m below meth c C hrt => w_X12_undo C hrt hG  h)
section
variable {p : Program} {l : Launch} {e : Env} {s : State} {m : MethodId} {below : List Frame} {meth : Method} {c : Code} {N0 : Nat} {T : Nat → ClassId} {D : va_G} {gr : List (Nat × Nat)} {ad : Nat → Nat → Nat → Nat}
set_option maxRecDepth 100000 in
set_option maxHeartbeats 4000000 in
theorem w_X12_whyNotRunning_b14 {a1 : Int32} (C : Cx p s m [.ref (ad 10 0 0), .int a1].toArray meth c cX12_whyNotRunning 2 wsX12_whyNotRunning RX12 N0 T D gr ad) (hrt : meth.sig.returnType = (some .int)) (hG : ∀ q ∈ [(10, 0)], q ∈ gr) {res : Int32 × Mem} (Y : Mem) (s0 : Int32) (h : X12_whyNotRunning_b14 a1  Y s0 = some res) : FW p l e (Rm 7) s m [.ref (ad 10 0 0), .int a1].toArray below meth c 2 N0 T D gr ad 0 0 (MQ below (va_Qi (fun r Y1 => (r, Y1) = res) (WB T D gr ad) (fun q => N0 ≤ q)) [.ref (ad 10 0 0), .int a1].toArray s 0 0 (fun q => N0 ≤ q)) Y 14 [(0, .ref (ad 10 0 0)), (1, .int a1)] [.int s0, .ref (ad 10 0 0)] := by
  unfold X12_whyNotRunning_b14 at h
  refine fw_iconst C dX12_whyNotRunning_14 (v := 0) rfl ?_
  refine fw_iconst C dX12_whyNotRunning_15 (v := 0) rfl ?_
  obtain ⟨r4, Y6, q5, h⟩ := bd2_some h
  refine fw_callVi C (ci := 10) (Cn := RX12) (Tc := TX12) (N := 19) (As := [.int s0, .int 0, .int 0]) (c_X12_fails (gac (hG _ (List.mem_of_getElem? (i := 0) rfl)) ga0) q5) (cwV 3 (cx_ts C) gX12_whyNotRunning_X12_fails rfl rfl rfl (by decide +kernel) ⟨Nat.le_of_ble_eq_true rfl, Nat.le_of_ble_eq_true rfl⟩) rfl (hG _ (List.mem_of_getElem? (i := 0) rfl)) (of10_0 _) (ce10 T ad _ _) rfl (st := []) rfl (Nat.le_of_ble_eq_true rfl) ⟨Nat.le_refl 0, Nat.le_refl 0⟩ dX12_whyNotRunning_16 (ppw ?_)
  refine fw_if_eq C dX12_whyNotRunning_19 (tgt := 24) rfl (fun c7 => ?_) (fun c7 => ?_)
  · have h := ite_t c7 h
    refine fw_aload_n C dX12_whyNotRunning_24 rfl 0 rfl ?_
    refine fw_iload_n C dX12_whyNotRunning_25 rfl 1 rfl ?_
    obtain ⟨r8, q9, h⟩ := bd1_some h
    refine fw_callVi C (ci := 10) (Cn := RX12) (Tc := TX12) (N := 19) (As := [.int a1]) (c_X12_reasonFor (gac (hG _ (List.mem_of_getElem? (i := 0) rfl)) ga0) q9) (cwV 1 (cx_ts C) gX12_whyNotRunning_X12_reasonFor rfl rfl rfl (by decide +kernel) ⟨Nat.le_of_ble_eq_true rfl, Nat.le_of_ble_eq_true rfl⟩) rfl (hG _ (List.mem_of_getElem? (i := 0) rfl)) (of10_0 _) (ce10 T ad _ _) rfl (st := []) rfl (Nat.le_of_ble_eq_true rfl) ⟨Nat.le_refl 0, Nat.le_refl 0⟩ dX12_whyNotRunning_26 (pp2 ?_)
    exact fw_iret C hrt Y6 (Option.some.inj h) (fun t ht => ht) dX12_whyNotRunning_29
  · have h := ite_f c7 h
    refine fw_iconst C dX12_whyNotRunning_22 (v := 0) rfl ?_
    exact fw_iret C hrt Y6 (Option.some.inj h) (fun t ht => ht) dX12_whyNotRunning_23
set_option maxRecDepth 100000 in
set_option maxHeartbeats 4000000 in
theorem w_X12_whyNotRunning {Y : Mem} {a1 : Int32} (C : Cx p s m [.ref (ad 10 0 0), .int a1].toArray meth c cX12_whyNotRunning 2 wsX12_whyNotRunning RX12 N0 T D gr ad) (hrt : meth.sig.returnType = (some .int)) (hG : ∀ q ∈ [(10, 0)], q ∈ gr) {res : Int32 × Mem} (h : X12_whyNotRunning Y a1 = some res) : FW p l e (Rm 7) s m [.ref (ad 10 0 0), .int a1].toArray below meth c 2 N0 T D gr ad 0 0 (MQ below (va_Qi (fun r Y1 => (r, Y1) = res) (WB T D gr ad) (fun q => N0 ≤ q)) [.ref (ad 10 0 0), .int a1].toArray s 0 0 (fun q => N0 ≤ q)) Y 0 [(0, .ref (ad 10 0 0)), (1, .int a1)] [] := by
  unfold X12_whyNotRunning at h
  refine fw_aload_n C dX12_whyNotRunning_0 rfl 0 rfl ?_
  refine fw_aload_n C dX12_whyNotRunning_1 rfl 0 rfl ?_
  refine fw_iload_n C dX12_whyNotRunning_2 rfl 1 rfl ?_
  obtain ⟨r1, q2, h⟩ := bd1_some h
  refine fw_callVi C (ci := 10) (Cn := RX12) (Tc := TX12) (N := 19) (As := [.int a1]) (c_X12_isStep (gac (hG _ (List.mem_of_getElem? (i := 0) rfl)) ga0) q2) (cwV 1 (cx_ts C) gX12_whyNotRunning_X12_isStep rfl rfl rfl (by decide +kernel) ⟨Nat.le_of_ble_eq_true rfl, Nat.le_of_ble_eq_true rfl⟩) rfl (hG _ (List.mem_of_getElem? (i := 0) rfl)) (of10_0 _) (ce10 T ad _ _) rfl (st := [.ref (ad 10 0 0)]) rfl (Nat.le_of_ble_eq_true rfl) ⟨Nat.le_refl 0, Nat.le_refl 0⟩ dX12_whyNotRunning_3 (pp2 ?_)
  refine fw_if_ne C dX12_whyNotRunning_6 (tgt := 13) rfl (fun c3 => ?_) (fun c3 => ?_)
  · have h := ite_f c3 h
    refine fw_iconst C dX12_whyNotRunning_13 (v := 0) rfl ?_
    exact w_X12_whyNotRunning_b14 C hrt hG   _ _ h
  · have h := ite_t c3 h
    refine fw_iconst C dX12_whyNotRunning_9 (v := 1) rfl ?_
    refine fw_goto C dX12_whyNotRunning_10 (tgt := 14) rfl ?_
    exact w_X12_whyNotRunning_b14 C hrt hG   _ _ h
end
set_option maxRecDepth 100000 in
set_option maxHeartbeats 4000000 in
theorem c_X12_whyNotRunning {l : Launch} {N0 : Nat} {T : Nat → ClassId} {D : va_G} {gr : List (Nat × Nat)} {ad : Nat → Nat → Nat → Nat} {Y : Mem} {a1 : Int32} {res : Int32 × Mem} (hG : ∀ q ∈ [(10, 0)], q ∈ gr) (h : X12_whyNotRunning Y a1 = some res) : CI l yX12_whyNotRunning wsX12_whyNotRunning (Rm 7) N0 T D gr ad Y [.ref (ad 10 0 0), .int a1] (fun r Y1 => (r, Y1) = res) :=
  fw_body (by decide +kernel) rfl (Nat.le_of_ble_eq_true rfl) (fun p e s m below meth c C hrt => w_X12_whyNotRunning C hrt hG  h)
theorem ly_X12_whyNotServed_12 : ∀ w ∈ u_ws RX12 TX12 19, w ∈ wsX12_whyNotServed := by decide +kernel
theorem fl_X12_whyNotServed_1 : Cond.fieldLink RX12 1 "RecipeSchedulerModel" "thrown" "I" ∈ wsX12_whyNotServed := by decide +kernel
section
variable {p : Program} {l : Launch} {e : Env} {s : State} {m : MethodId} {below : List Frame} {meth : Method} {c : Code} {N0 : Nat} {T : Nat → ClassId} {D : va_G} {gr : List (Nat × Nat)} {ad : Nat → Nat → Nat → Nat}
set_option maxRecDepth 100000 in
set_option maxHeartbeats 4000000 in
theorem w_X12_whyNotServed {Y : Mem} (C : Cx p s m [.ref (ad 10 0 0)].toArray meth c cX12_whyNotServed 1 wsX12_whyNotServed RX12 N0 T D gr ad) (hrt : meth.sig.returnType = (some .int)) (hG : ∀ q ∈ [(10, 0)], q ∈ gr) {res : Int32 × Mem} (h : X12_whyNotServed Y = some res) : FW p l e (Rm 4) s m [.ref (ad 10 0 0)].toArray below meth c 1 N0 T D gr ad 0 0 (MQ below (va_Qi (fun r Y1 => (r, Y1) = res) (WB T D gr ad) (fun q => N0 ≤ q)) [.ref (ad 10 0 0)].toArray s 0 0 (fun q => N0 ≤ q)) Y 0 [(0, .ref (ad 10 0 0))] [] := by
  unfold X12_whyNotServed at h
  refine fw_aload_n C dX12_whyNotServed_0 rfl 0 rfl ?_
  refine fw_iconst C dX12_whyNotServed_1 (v := 0) rfl ?_
  obtain ⟨Y1, e2, h⟩ := lt_some h
  refine fw_put C (ci := 10) (Cn := RX12) (Tc := TX12) (N := 19) (j := 9) (ty := .int) (upd (Y 10 0 0) 9 0) ly_X12_whyNotServed_12 rfl tyX12_ok nmX12 (hG _ (List.mem_of_getElem? (i := 0) rfl)) (of10_0 _) (ce10 T ad _ _) (by decide) (cx_ts C _ fl_X12_whyNotServed_1) (fun _ h => h) rfl (by decide +kernel) rfl rfl (Nat.le_of_ble_eq_true rfl) (ce10_put9 T ad _ _ _) dX12_whyNotServed_2 ?_
  refine fw_mem ((up_eq _ _ _ _ _ _).symm.trans e2) ?_
  refine fw_aload_n C dX12_whyNotServed_5 rfl 0 rfl ?_
  obtain ⟨r3, q4, h⟩ := bd1_some h
  refine fw_callVi C (ci := 10) (Cn := RX12) (Tc := TX12) (N := 19) (As := []) (c_X12_servingReason (gac (hG _ (List.mem_of_getElem? (i := 0) rfl)) ga0) q4) (cwV 0 (cx_ts C) gX12_whyNotServed_X12_servingReason rfl rfl rfl (by decide +kernel) ⟨Nat.le_of_ble_eq_true rfl, Nat.le_of_ble_eq_true rfl⟩) rfl (hG _ (List.mem_of_getElem? (i := 0) rfl)) (of10_0 _) (ce10 T ad _ _) rfl (st := []) rfl (Nat.le_of_ble_eq_true rfl) ⟨Nat.le_refl 0, Nat.le_refl 0⟩ dX12_whyNotServed_6 (pp2 ?_)
  exact fw_iret C hrt Y1 (Option.some.inj h) (fun t ht => ht) dX12_whyNotServed_9
end
set_option maxRecDepth 100000 in
set_option maxHeartbeats 4000000 in
theorem c_X12_whyNotServed {l : Launch} {N0 : Nat} {T : Nat → ClassId} {D : va_G} {gr : List (Nat × Nat)} {ad : Nat → Nat → Nat → Nat} {Y : Mem} {res : Int32 × Mem} (hG : ∀ q ∈ [(10, 0)], q ∈ gr) (h : X12_whyNotServed Y = some res) : CI l yX12_whyNotServed wsX12_whyNotServed (Rm 4) N0 T D gr ad Y [.ref (ad 10 0 0)] (fun r Y1 => (r, Y1) = res) :=
  fw_body (by decide +kernel) rfl (Nat.le_of_ble_eq_true rfl) (fun p e s m below meth c C hrt => w_X12_whyNotServed C hrt hG  h)
