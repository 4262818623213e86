theorem ly_X12_computePaths_12 : ∀ w ∈ u_ws RX12 TX12 19, w ∈ wsX12_computePaths := by decide +kernel
theorem fl_X12_computePaths_13 : Cond.fieldLink RX12 13 "RecipeSchedulerModel" "m" "[I" ∈ wsX12_computePaths := by decide +kernel
theorem fl_X12_computePaths_42 : Cond.fieldLink RX12 42 "RecipeSchedulerModel" "paths" "[I" ∈ wsX12_computePaths := by decide +kernel
section
variable {p : Program} {l : Launch} {e : Env} {s : State} {m : MethodId} {below : List Frame} {meth : Method} {c : Code} {N0 : Nat} {T : Nat → ClassId} {D : va_G} {gr : List (Nat × Nat)} {ad : Nat → Nat → Nat → Nat}
set_option maxRecDepth 100000 in
set_option maxHeartbeats 4000000 in
theorem w_X12_computePaths_b57  (C : Cx p s m [.ref (ad 10 0 0)].toArray meth c cX12_computePaths 4 wsX12_computePaths RX12 N0 T D gr ad) (hrt : meth.sig.returnType = none) (hG : ∀ q ∈ [(10, 0)], q ∈ gr) {res : Mem} {k20 : Mem → Int32 → Int32 → Int32 → Option (Mem)} (hk20 : ∀ (Y : Mem) (l3 : Int32) (l2 : Int32) (l1 : Int32), k20 Y l3 l2 l1 = some res → FW p l e (Rm 2) s m [.ref (ad 10 0 0)].toArray below meth c 4 N0 T D gr ad 0 0 (MQ below (va_Qv (fun Y1 => Y1 = res) (WB T D gr ad) (fun q => N0 ≤ q)) [.ref (ad 10 0 0)].toArray s 0 0 (fun q => N0 ≤ q)) Y 20 [(3, .int l3), (2, .int l2), (1, .int l1), (0, .ref (ad 10 0 0))] []) (Y : Mem) (l3 : Int32) (l2 : Int32) (l1 : Int32) (h : X12_computePaths_b57  k20 Y l3 l2 l1 = some res) : FW p l e (Rm 2) s m [.ref (ad 10 0 0)].toArray below meth c 4 N0 T D gr ad 0 0 (MQ below (va_Qv (fun Y1 => Y1 = res) (WB T D gr ad) (fun q => N0 ≤ q)) [.ref (ad 10 0 0)].toArray s 0 0 (fun q => N0 ≤ q)) Y 57 [(3, .int l3), (2, .int l2), (1, .int l1), (0, .ref (ad 10 0 0))] [] := by
  unfold X12_computePaths_b57 at h
  refine fw_iinc C dX12_computePaths_57 (kk := 0) (v := l3 + 1) rfl rfl (by decide) (L' := [(3, .int (l3 + 1)), (2, .int l2), (1, .int l1), (0, .ref (ad 10 0 0))]) rfl ?_
  refine fw_goto C dX12_computePaths_60 (tgt := 20) rfl ?_
  exact hk20 _ _ _ _ h
set_option maxRecDepth 100000 in
set_option maxHeartbeats 4000000 in
theorem w_X12_computePaths_b20  (C : Cx p s m [.ref (ad 10 0 0)].toArray meth c cX12_computePaths 4 wsX12_computePaths RX12 N0 T D gr ad) (hrt : meth.sig.returnType = none) (hG : ∀ q ∈ [(10, 0)], q ∈ gr) {res : Mem} {k10 : Mem → Int32 → Option (Mem)} (hk10 : ∀ (Y : Mem) (l1 : Int32), k10 Y l1 = some res → FW p l e (Rm 2) s m [.ref (ad 10 0 0)].toArray below meth c 4 N0 T D gr ad 0 0 (MQ below (va_Qv (fun Y1 => Y1 = res) (WB T D gr ad) (fun q => N0 ≤ q)) [.ref (ad 10 0 0)].toArray s 0 0 (fun q => N0 ≤ q)) Y 10 [(1, .int l1), (0, .ref (ad 10 0 0))] []) : ∀ (n : Nat) (Y : Mem) (l3 : Int32) (l2 : Int32) (l1 : Int32), X12_computePaths_b20  k10 n Y l3 l2 l1 = some res → FW p l e (Rm 2) s m [.ref (ad 10 0 0)].toArray below meth c 4 N0 T D gr ad 0 0 (MQ below (va_Qv (fun Y1 => Y1 = res) (WB T D gr ad) (fun q => N0 ≤ q)) [.ref (ad 10 0 0)].toArray s 0 0 (fun q => N0 ≤ q)) Y 20 [(3, .int l3), (2, .int l2), (1, .int l1), (0, .ref (ad 10 0 0))] [] := by
  intro n
  induction n with
  | zero =>
    intro Y l3 l2 l1 h
    unfold X12_computePaths_b20 at h
    cases h
  | succ n ih =>
    intro Y l3 l2 l1 h
    unfold X12_computePaths_b20 at h
    refine fw_iload_n C dX12_computePaths_20 rfl 0 rfl ?_
    refine fw_aload_n C dX12_computePaths_21 rfl 3 rfl ?_
    refine fw_get C (ci := 10) (Cn := RX12) (Tc := TX12) (N := 19) (j := 0) ly_X12_computePaths_12 rfl (hG _ (List.mem_of_getElem? (i := 0) rfl)) (of10_0 _) (ce10 T ad _ _) (by decide) (cx_ts C _ fl_X12_computePaths_13) (fun _ h => h) (v := .ref (ad 10 0 1)) rfl dX12_computePaths_22 ?_
    refine fw_bipush C dX12_computePaths_25 (v := 13) rfl ?_
    obtain ⟨b7, h⟩ := gd_some h
    refine fw_iald2 C (hG _ (List.mem_of_getElem? (i := 0) rfl)) (of10_1 _) (ca10_1 T ad _ _) b7 (Nat.le_of_ble_eq_true rfl) dX12_computePaths_27 ?_
    refine fw_icmp_ge C dX12_computePaths_28 (tgt := 63) rfl (fun c8 => ?_) (fun c8 => ?_)
    · have h := ite_t c8 h
      refine fw_aload_n C dX12_computePaths_63 rfl 3 rfl ?_
      refine fw_get C (ci := 10) (Cn := RX12) (Tc := TX12) (N := 19) (j := 10) ly_X12_computePaths_12 rfl (hG _ (List.mem_of_getElem? (i := 0) rfl)) (of10_0 _) (ce10 T ad _ _) (by decide) (cx_ts C _ fl_X12_computePaths_42) (fun _ h => h) (v := .ref (ad 10 0 5)) rfl dX12_computePaths_64 ?_
      refine fw_iload_n C dX12_computePaths_67 rfl 2 rfl ?_
      refine fw_aload_n C dX12_computePaths_68 rfl 3 rfl ?_
      refine fw_iload_n C dX12_computePaths_69 rfl 2 rfl ?_
      refine fw_bipush C dX12_computePaths_70 (v := 7) rfl ?_
      obtain ⟨r9, q10, h⟩ := bd1_some h
      refine fw_callVi C (ci := 10) (Cn := RX12) (Tc := TX12) (N := 19) (As := [.int l1, .int 7]) (c_X12_of (gac (hG _ (List.mem_of_getElem? (i := 0) rfl)) ga0) q10) (cwV 2 (cx_ts C) gX12_computePaths_X12_of rfl rfl rfl (by decide +kernel) ⟨Nat.le_of_ble_eq_true rfl, Nat.le_of_ble_eq_true rfl⟩) rfl (hG _ (List.mem_of_getElem? (i := 0) rfl)) (of10_0 _) (ce10 T ad _ _) rfl (st := [.int l1, .ref (ad 10 0 5)]) rfl (Nat.le_of_ble_eq_true rfl) ⟨Nat.le_refl 0, Nat.le_refl 0⟩ dX12_computePaths_72 (pp2 ?_)
      refine fw_iload_n C dX12_computePaths_75 rfl 1 rfl ?_
      refine fw_iadd C dX12_computePaths_76 ?_
      obtain ⟨b11, h⟩ := gd_some h
      obtain ⟨Y12, e13, h⟩ := lt_some h
      refine fw_iast2 C (hG _ (List.mem_of_getElem? (i := 0) rfl)) (of10_5 _) (ca10_5 T ad _) b11 (Nat.le_of_ble_eq_true rfl) dX12_computePaths_77 ?_
      refine fw_mem e13 ?_
      refine fw_iinc C dX12_computePaths_78 (kk := 2) (v := l1 + (-1)) rfl rfl (by decide) (L' := [(1, .int (l1 + (-1))), (3, .int l3), (2, .int l2), (0, .ref (ad 10 0 0))]) rfl ?_
      refine fw_goto C dX12_computePaths_81 (tgt := 10) rfl ?_
      refine fw_sub [0, 3] (L' := [(1, .int (l1 + (-1))), (0, .ref (ad 10 0 0))]) rfl ?_
      exact hk10 _ _ h
    · have h := ite_f c8 h
      refine fw_aload_n C dX12_computePaths_31 rfl 3 rfl ?_
      refine fw_iload_n C dX12_computePaths_32 rfl 2 rfl ?_
      refine fw_iload_n C dX12_computePaths_33 rfl 0 rfl ?_
      obtain ⟨r14, q15, h⟩ := bd1_some h
      refine fw_callVi C (ci := 10) (Cn := RX12) (Tc := TX12) (N := 19) (As := [.int l1, .int l3]) (c_X12_isPredecessor (gac (hG _ (List.mem_of_getElem? (i := 0) rfl)) ga0) q15) (cwV 2 (cx_ts C) gX12_computePaths_X12_isPredecessor rfl rfl rfl (by decide +kernel) ⟨Nat.le_of_ble_eq_true rfl, Nat.le_of_ble_eq_true rfl⟩) rfl (hG _ (List.mem_of_getElem? (i := 0) rfl)) (of10_0 _) (ce10 T ad _ _) rfl (st := []) rfl (Nat.le_of_ble_eq_true rfl) ⟨Nat.le_refl 0, Nat.le_refl 0⟩ dX12_computePaths_34 (pp2 ?_)
      refine fw_if_eq C dX12_computePaths_37 (tgt := 57) rfl (fun c16 => ?_) (fun c16 => ?_)
      · have h := ite_t c16 h
        exact w_X12_computePaths_b57 C hrt hG  ih _ _ _ _ h
      · have h := ite_f c16 h
        refine fw_aload_n C dX12_computePaths_40 rfl 3 rfl ?_
        refine fw_get C (ci := 10) (Cn := RX12) (Tc := TX12) (N := 19) (j := 10) ly_X12_computePaths_12 rfl (hG _ (List.mem_of_getElem? (i := 0) rfl)) (of10_0 _) (ce10 T ad _ _) (by decide) (cx_ts C _ fl_X12_computePaths_42) (fun _ h => h) (v := .ref (ad 10 0 5)) rfl dX12_computePaths_41 ?_
        refine fw_iload_n C dX12_computePaths_44 rfl 0 rfl ?_
        obtain ⟨b17, h⟩ := gd_some h
        refine fw_iald2 C (hG _ (List.mem_of_getElem? (i := 0) rfl)) (of10_5 _) (ca10_5 T ad _ _) b17 (Nat.le_of_ble_eq_true rfl) dX12_computePaths_45 ?_
        refine fw_iload_n C dX12_computePaths_46 rfl 1 rfl ?_
        refine fw_icmp_le C dX12_computePaths_47 (tgt := 57) rfl (fun c18 => ?_) (fun c18 => ?_)
        · have h := ite_t c18 h
          exact w_X12_computePaths_b57 C hrt hG  ih _ _ _ _ h
        · have h := ite_f c18 h
          refine fw_aload_n C dX12_computePaths_50 rfl 3 rfl ?_
          refine fw_get C (ci := 10) (Cn := RX12) (Tc := TX12) (N := 19) (j := 10) ly_X12_computePaths_12 rfl (hG _ (List.mem_of_getElem? (i := 0) rfl)) (of10_0 _) (ce10 T ad _ _) (by decide) (cx_ts C _ fl_X12_computePaths_42) (fun _ h => h) (v := .ref (ad 10 0 5)) rfl dX12_computePaths_51 ?_
          refine fw_iload_n C dX12_computePaths_54 rfl 0 rfl ?_
          refine fw_iald2 C (hG _ (List.mem_of_getElem? (i := 0) rfl)) (of10_5 _) (ca10_5 T ad _ _) b17 (Nat.le_of_ble_eq_true rfl) dX12_computePaths_55 ?_
          obtain ⟨v19, e20, h⟩ := lt_some h
          refine fw_top (v' := .int v19) (by rw [e20]) ?_
          refine fw_istore_n C dX12_computePaths_56 rfl (by decide) (L' := [(2, .int v19), (3, .int l3), (1, .int l1), (0, .ref (ad 10 0 0))]) rfl ?_
          refine fw_sub [1, 0, 2, 3] (L' := [(3, .int l3), (2, .int v19), (1, .int l1), (0, .ref (ad 10 0 0))]) rfl ?_
          exact w_X12_computePaths_b57 C hrt hG  ih _ _ _ _ h
set_option maxRecDepth 100000 in
set_option maxHeartbeats 4000000 in
theorem w_X12_computePaths_b10  (C : Cx p s m [.ref (ad 10 0 0)].toArray meth c cX12_computePaths 4 wsX12_computePaths RX12 N0 T D gr ad) (hrt : meth.sig.returnType = none) (hG : ∀ q ∈ [(10, 0)], q ∈ gr) {res : Mem} : ∀ (n : Nat) (Y : Mem) (l1 : Int32), X12_computePaths_b10   n Y l1 = some res → FW p l e (Rm 2) s m [.ref (ad 10 0 0)].toArray below meth c 4 N0 T D gr ad 0 0 (MQ below (va_Qv (fun Y1 => Y1 = res) (WB T D gr ad) (fun q => N0 ≤ q)) [.ref (ad 10 0 0)].toArray s 0 0 (fun q => N0 ≤ q)) Y 10 [(1, .int l1), (0, .ref (ad 10 0 0))] [] := by
  intro n
  induction n with
  | zero =>
    intro Y l1 h
    unfold X12_computePaths_b10 at h
    cases h
  | succ n ih =>
    intro Y l1 h
    unfold X12_computePaths_b10 at h
    refine fw_iload_n C dX12_computePaths_10 rfl 0 rfl ?_
    refine fw_if_lt C dX12_computePaths_11 (tgt := 84) rfl (fun c4 => ?_) (fun c4 => ?_)
    · have h := ite_t c4 h
      exact fw_vret C hrt Y (Option.some.inj h) (fun t ht => ht) dX12_computePaths_84
    · have h := ite_f c4 h
      refine fw_iconst C dX12_computePaths_14 (v := 0) rfl ?_
      refine fw_istore_n C dX12_computePaths_15 rfl (by decide) (L' := [(2, .int 0), (1, .int l1), (0, .ref (ad 10 0 0))]) rfl ?_
      refine fw_iload_n C dX12_computePaths_16 rfl 1 rfl ?_
      refine fw_iconst C dX12_computePaths_17 (v := 1) rfl ?_
      refine fw_iadd C dX12_computePaths_18 ?_
      obtain ⟨v5, e6, h⟩ := lt_some h
      refine fw_top (v' := .int v5) (by rw [e6]) ?_
      refine fw_istore_n C dX12_computePaths_19 rfl (by decide) (L' := [(3, .int v5), (2, .int 0), (1, .int l1), (0, .ref (ad 10 0 0))]) rfl ?_
      exact w_X12_computePaths_b20 C hrt hG  ih _ _ _ _ _ h
set_option maxRecDepth 100000 in
set_option maxHeartbeats 4000000 in
theorem w_X12_computePaths {Y : Mem} (C : Cx p s m [.ref (ad 10 0 0)].toArray meth c cX12_computePaths 4 wsX12_computePaths RX12 N0 T D gr ad) (hrt : meth.sig.returnType = none) (hG : ∀ q ∈ [(10, 0)], q ∈ gr) {res : Mem} (h : X12_computePaths Y = some res) : FW p l e (Rm 2) s m [.ref (ad 10 0 0)].toArray below meth c 4 N0 T D gr ad 0 0 (MQ below (va_Qv (fun Y1 => Y1 = res) (WB T D gr ad) (fun q => N0 ≤ q)) [.ref (ad 10 0 0)].toArray s 0 0 (fun q => N0 ≤ q)) Y 0 [(0, .ref (ad 10 0 0))] [] := by
  unfold X12_computePaths at h
  refine fw_aload_n C dX12_computePaths_0 rfl 0 rfl ?_
  refine fw_get C (ci := 10) (Cn := RX12) (Tc := TX12) (N := 19) (j := 0) ly_X12_computePaths_12 rfl (hG _ (List.mem_of_getElem? (i := 0) rfl)) (of10_0 _) (ce10 T ad _ _) (by decide) (cx_ts C _ fl_X12_computePaths_13) (fun _ h => h) (v := .ref (ad 10 0 1)) rfl dX12_computePaths_1 ?_
  refine fw_bipush C dX12_computePaths_4 (v := 13) rfl ?_
  obtain ⟨b1, h⟩ := gd_some h
  refine fw_iald2 C (hG _ (List.mem_of_getElem? (i := 0) rfl)) (of10_1 _) (ca10_1 T ad _ _) b1 (Nat.le_of_ble_eq_true rfl) dX12_computePaths_6 ?_
  refine fw_iconst C dX12_computePaths_7 (v := 1) rfl ?_
  refine fw_isub C dX12_computePaths_8 ?_
  obtain ⟨v2, e3, h⟩ := lt_some h
  refine fw_top (v' := .int v2) (by rw [e3]) ?_
  refine fw_istore_n C dX12_computePaths_9 rfl (by decide) (L' := [(1, .int v2), (0, .ref (ad 10 0 0))]) rfl ?_
  exact w_X12_computePaths_b10 C hrt hG   _ _ _ h
end
set_option maxRecDepth 100000 in
set_option maxHeartbeats 4000000 in
theorem c_X12_computePaths {l : Launch} {N0 : Nat} {T : Nat → ClassId} {D : va_G} {gr : List (Nat × Nat)} {ad : Nat → Nat → Nat → Nat} {Y : Mem} {res : Mem} (hG : ∀ q ∈ [(10, 0)], q ∈ gr) (h : X12_computePaths Y = some res) : CV l yX12_computePaths wsX12_computePaths (Rm 2) N0 T D gr ad Y [.ref (ad 10 0 0)] (fun Y1 => Y1 = res) :=
  fw_body (by decide +kernel) rfl (Nat.le_of_ble_eq_true rfl) (fun p e s m below meth c C hrt => w_X12_computePaths C hrt hG  h)
section
variable {p : Program} {l : Launch} {e : Env} {s : State} {m : MethodId} {below : List Frame} {meth : Method} {c : Code} {N0 : Nat} {T : Nat → ClassId} {D : va_G} {gr : List (Nat × Nat)} {ad : Nat → Nat → Nat → Nat}
set_option maxRecDepth 100000 in
set_option maxHeartbeats 4000000 in
theorem w_X12_isReady {Y : Mem} {a1 : Int32} (C : Cx p s m [.ref (ad 10 0 0), .int a1].toArray meth c cX12_isReady 2 wsX12_isReady RX12 N0 T D gr ad) (hrt : meth.sig.returnType = (some .boolean)) (hG : ∀ q ∈ [(10, 0)], q ∈ gr) {res : Int32} (h : X12_isReady Y a1 = some res) : FW p l e (Rm 2) s m [.ref (ad 10 0 0), .int a1].toArray below meth c 2 N0 T D gr ad 0 0 (MQ below (va_Qi (fun r Y1 => r = res ∧ Y1 = Y) (WB T D gr ad) (fun q => N0 ≤ q)) [.ref (ad 10 0 0), .int a1].toArray s 0 0 (fun q => N0 ≤ q)) Y 0 [(0, .ref (ad 10 0 0)), (1, .int a1)] [] := by
  unfold X12_isReady at h
  refine fw_aload_n C dX12_isReady_0 rfl 0 rfl ?_
  refine fw_iload_n C dX12_isReady_1 rfl 1 rfl ?_
  refine fw_bipush C dX12_isReady_2 (v := 17) rfl ?_
  obtain ⟨r1, q2, h⟩ := bd1_some h
  refine fw_callVi C (ci := 10) (Cn := RX12) (Tc := TX12) (N := 19) (As := [.int a1, .int 17]) (c_X12_of (gac (hG _ (List.mem_of_getElem? (i := 0) rfl)) ga0) q2) (cwV 2 (cx_ts C) gX12_isReady_X12_of rfl rfl rfl (by decide +kernel) ⟨Nat.le_of_ble_eq_true rfl, Nat.le_of_ble_eq_true rfl⟩) rfl (hG _ (List.mem_of_getElem? (i := 0) rfl)) (of10_0 _) (ce10 T ad _ _) rfl (st := []) rfl (Nat.le_of_ble_eq_true rfl) ⟨Nat.le_refl 0, Nat.le_refl 0⟩ dX12_isReady_4 (pp2 ?_)
  refine fw_iconst C dX12_isReady_7 (v := 1) rfl ?_
  refine fw_icmp_eq C dX12_isReady_8 (tgt := 35) rfl (fun c3 => ?_) (fun c3 => ?_)
  · have h := ite_t c3 h
    refine fw_iconst C dX12_isReady_35 (v := 0) rfl ?_
    exact fw_zret C hrt (by decide) Y ⟨Option.some.inj h, rfl⟩ (fun t ht => ht) dX12_isReady_36
  · have h := ite_f c3 h
    refine fw_aload_n C dX12_isReady_11 rfl 0 rfl ?_
    refine fw_iload_n C dX12_isReady_12 rfl 1 rfl ?_
    refine fw_bipush C dX12_isReady_13 (v := 17) rfl ?_
    obtain ⟨r4, q5, h⟩ := bd1_some h
    refine fw_callVi C (ci := 10) (Cn := RX12) (Tc := TX12) (N := 19) (As := [.int a1, .int 17]) (c_X12_of (gac (hG _ (List.mem_of_getElem? (i := 0) rfl)) ga0) q5) (cwV 2 (cx_ts C) gX12_isReady_X12_of rfl rfl rfl (by decide +kernel) ⟨Nat.le_of_ble_eq_true rfl, Nat.le_of_ble_eq_true rfl⟩) rfl (hG _ (List.mem_of_getElem? (i := 0) rfl)) (of10_0 _) (ce10 T ad _ _) rfl (st := []) rfl (Nat.le_of_ble_eq_true rfl) ⟨Nat.le_refl 0, Nat.le_refl 0⟩ dX12_isReady_15 (pp2 ?_)
    refine fw_iconst C dX12_isReady_18 (v := 2) rfl ?_
    refine fw_icmp_eq C dX12_isReady_19 (tgt := 35) rfl (fun c6 => ?_) (fun c6 => ?_)
    · have h := ite_t c6 h
      refine fw_iconst C dX12_isReady_35 (v := 0) rfl ?_
      exact fw_zret C hrt (by decide) Y ⟨Option.some.inj h, rfl⟩ (fun t ht => ht) dX12_isReady_36
    · have h := ite_f c6 h
      refine fw_aload_n C dX12_isReady_22 rfl 0 rfl ?_
      refine fw_iload_n C dX12_isReady_23 rfl 1 rfl ?_
      obtain ⟨r7, q8, h⟩ := bd1_some h
      refine fw_callVi C (ci := 10) (Cn := RX12) (Tc := TX12) (N := 19) (As := [.int a1]) (c_X12_firstOpen (gac (hG _ (List.mem_of_getElem? (i := 0) rfl)) ga0) q8) (cwV 1 (cx_ts C) gX12_isReady_X12_firstOpen rfl rfl rfl (by decide +kernel) ⟨Nat.le_of_ble_eq_true rfl, Nat.le_of_ble_eq_true rfl⟩) rfl (hG _ (List.mem_of_getElem? (i := 0) rfl)) (of10_0 _) (ce10 T ad _ _) rfl (st := []) rfl (Nat.le_of_ble_eq_true rfl) ⟨Nat.le_refl 0, Nat.le_refl 0⟩ dX12_isReady_24 (pp2 ?_)
      refine fw_iconst C dX12_isReady_27 (v := (-1)) rfl ?_
      refine fw_icmp_ne C dX12_isReady_28 (tgt := 35) rfl (fun c9 => ?_) (fun c9 => ?_)
      · have h := ite_f c9 h
        refine fw_iconst C dX12_isReady_35 (v := 0) rfl ?_
        exact fw_zret C hrt (by decide) Y ⟨Option.some.inj h, rfl⟩ (fun t ht => ht) dX12_isReady_36
      · have h := ite_t c9 h
        refine fw_iconst C dX12_isReady_31 (v := 1) rfl ?_
        refine fw_goto C dX12_isReady_32 (tgt := 36) rfl ?_
        exact fw_zret C hrt (by decide) Y ⟨Option.some.inj h, rfl⟩ (fun t ht => ht) dX12_isReady_36
end
set_option maxRecDepth 100000 in
set_option maxHeartbeats 4000000 in
theorem c_X12_isReady {l : Launch} {N0 : Nat} {T : Nat → ClassId} {D : va_G} {gr : List (Nat × Nat)} {ad : Nat → Nat → Nat → Nat} {Y : Mem} {a1 : Int32} {res : Int32} (hG : ∀ q ∈ [(10, 0)], q ∈ gr) (h : X12_isReady Y a1 = some res) : CI l yX12_isReady wsX12_isReady (Rm 2) N0 T D gr ad Y [.ref (ad 10 0 0), .int a1] (fun r Y1 => r = res ∧ Y1 = Y) :=
  fw_body (by decide +kernel) rfl (Nat.le_of_ble_eq_true rfl) (fun p e s m below meth c C hrt => w_X12_isReady C hrt hG  h)
theorem ly_X12_queueReady_12 : ∀ w ∈ u_ws RX12 TX12 19, w ∈ wsX12_queueReady := by decide +kernel
theorem fl_X12_queueReady_13 : Cond.fieldLink RX12 13 "RecipeSchedulerModel" "m" "[I" ∈ wsX12_queueReady := by decide +kernel
theorem fl_X12_queueReady_51 : Cond.fieldLink RX12 51 "RecipeSchedulerModel" "queue" "[I" ∈ wsX12_queueReady := by decide +kernel
theorem fl_X12_queueReady_42 : Cond.fieldLink RX12 42 "RecipeSchedulerModel" "paths" "[I" ∈ wsX12_queueReady := by decide +kernel
section
variable {p : Program} {l : Launch} {e : Env} {s : State} {m : MethodId} {below : List Frame} {meth : Method} {c : Code} {N0 : Nat} {T : Nat → ClassId} {D : va_G} {gr : List (Nat × Nat)} {ad : Nat → Nat → Nat → Nat}
set_option maxRecDepth 100000 in
set_option maxHeartbeats 4000000 in
theorem w_X12_queueReady_b88  (C : Cx p s m [.ref (ad 10 0 0)].toArray meth c cX12_queueReady 4 wsX12_queueReady RX12 N0 T D gr ad) (hrt : meth.sig.returnType = (some .int)) (hG : ∀ q ∈ [(10, 0)], q ∈ gr) {res : Int32 × Mem} {k8 : Mem → Int32 → Int32 → Option (Int32 × Mem)} (hk8 : ∀ (Y : Mem) (l2 : Int32) (l1 : Int32), k8 Y l2 l1 = some res → FW p l e (Rm 3) s m [.ref (ad 10 0 0)].toArray below meth c 4 N0 T D gr ad 0 0 (MQ below (va_Qi (fun r Y1 => (r, Y1) = res) (WB T D gr ad) (fun q => N0 ≤ q)) [.ref (ad 10 0 0)].toArray s 0 0 (fun q => N0 ≤ q)) Y 8 [(2, .int l2), (1, .int l1), (0, .ref (ad 10 0 0))] []) (Y : Mem) (l1 : Int32) (l2 : Int32) (h : X12_queueReady_b88  k8 Y l1 l2 = some res) : FW p l e (Rm 3) s m [.ref (ad 10 0 0)].toArray below meth c 4 N0 T D gr ad 0 0 (MQ below (va_Qi (fun r Y1 => (r, Y1) = res) (WB T D gr ad) (fun q => N0 ≤ q)) [.ref (ad 10 0 0)].toArray s 0 0 (fun q => N0 ≤ q)) Y 88 [(1, .int l1), (2, .int l2), (0, .ref (ad 10 0 0))] [] := by
  unfold X12_queueReady_b88 at h
  refine fw_iinc C dX12_queueReady_88 (kk := 1) (v := l2 + 1) rfl rfl (by decide) (L' := [(2, .int (l2 + 1)), (1, .int l1), (0, .ref (ad 10 0 0))]) rfl ?_
  refine fw_goto C dX12_queueReady_91 (tgt := 8) rfl ?_
  exact hk8 _ _ _ h
set_option maxRecDepth 100000 in
set_option maxHeartbeats 4000000 in
theorem w_X12_queueReady_b78  (C : Cx p s m [.ref (ad 10 0 0)].toArray meth c cX12_queueReady 4 wsX12_queueReady RX12 N0 T D gr ad) (hrt : meth.sig.returnType = (some .int)) (hG : ∀ q ∈ [(10, 0)], q ∈ gr) {res : Int32 × Mem} {k8 : Mem → Int32 → Int32 → Option (Int32 × Mem)} (hk8 : ∀ (Y : Mem) (l2 : Int32) (l1 : Int32), k8 Y l2 l1 = some res → FW p l e (Rm 3) s m [.ref (ad 10 0 0)].toArray below meth c 4 N0 T D gr ad 0 0 (MQ below (va_Qi (fun r Y1 => (r, Y1) = res) (WB T D gr ad) (fun q => N0 ≤ q)) [.ref (ad 10 0 0)].toArray s 0 0 (fun q => N0 ≤ q)) Y 8 [(2, .int l2), (1, .int l1), (0, .ref (ad 10 0 0))] []) (Y : Mem) (l3 : Int32) (l2 : Int32) (l1 : Int32) (h : X12_queueReady_b78  k8 Y l3 l2 l1 = some res) : FW p l e (Rm 3) s m [.ref (ad 10 0 0)].toArray below meth c 4 N0 T D gr ad 0 0 (MQ below (va_Qi (fun r Y1 => (r, Y1) = res) (WB T D gr ad) (fun q => N0 ≤ q)) [.ref (ad 10 0 0)].toArray s 0 0 (fun q => N0 ≤ q)) Y 78 [(3, .int l3), (2, .int l2), (1, .int l1), (0, .ref (ad 10 0 0))] [] := by
  unfold X12_queueReady_b78 at h
  refine fw_aload_n C dX12_queueReady_78 rfl 3 rfl ?_
  refine fw_get C (ci := 10) (Cn := RX12) (Tc := TX12) (N := 19) (j := 13) ly_X12_queueReady_12 rfl (hG _ (List.mem_of_getElem? (i := 0) rfl)) (of10_0 _) (ce10 T ad _ _) (by decide) (cx_ts C _ fl_X12_queueReady_51) (fun _ h => h) (v := .ref (ad 10 0 8)) rfl dX12_queueReady_79 ?_
  refine fw_iload_n C dX12_queueReady_82 rfl 0 rfl ?_
  refine fw_iload_n C dX12_queueReady_83 rfl 1 rfl ?_
  obtain ⟨b10, h⟩ := gd_some h
  obtain ⟨Y11, e12, h⟩ := lt_some h
  refine fw_iast2 C (hG _ (List.mem_of_getElem? (i := 0) rfl)) (of10_8 _) (ca10_8 T ad _) b10 (Nat.le_of_ble_eq_true rfl) dX12_queueReady_84 ?_
  refine fw_mem e12 ?_
  refine fw_iinc C dX12_queueReady_85 (kk := 2) (v := l1 + 1) rfl rfl (by decide) (L' := [(1, .int (l1 + 1)), (3, .int l3), (2, .int l2), (0, .ref (ad 10 0 0))]) rfl ?_
  refine fw_sub [0, 2, 3] (L' := [(1, .int (l1 + 1)), (2, .int l2), (0, .ref (ad 10 0 0))]) rfl ?_
  exact w_X12_queueReady_b88 C hrt hG  hk8 _ _ _ h
set_option maxRecDepth 100000 in
set_option maxHeartbeats 4000000 in
theorem w_X12_queueReady_b32  (C : Cx p s m [.ref (ad 10 0 0)].toArray meth c cX12_queueReady 4 wsX12_queueReady RX12 N0 T D gr ad) (hrt : meth.sig.returnType = (some .int)) (hG : ∀ q ∈ [(10, 0)], q ∈ gr) {res : Int32 × Mem} {k8 : Mem → Int32 → Int32 → Option (Int32 × Mem)} (hk8 : ∀ (Y : Mem) (l2 : Int32) (l1 : Int32), k8 Y l2 l1 = some res → FW p l e (Rm 3) s m [.ref (ad 10 0 0)].toArray below meth c 4 N0 T D gr ad 0 0 (MQ below (va_Qi (fun r Y1 => (r, Y1) = res) (WB T D gr ad) (fun q => N0 ≤ q)) [.ref (ad 10 0 0)].toArray s 0 0 (fun q => N0 ≤ q)) Y 8 [(2, .int l2), (1, .int l1), (0, .ref (ad 10 0 0))] []) : ∀ (n : Nat) (Y : Mem) (l3 : Int32) (l2 : Int32) (l1 : Int32), X12_queueReady_b32  k8 n Y l3 l2 l1 = some res → FW p l e (Rm 3) s m [.ref (ad 10 0 0)].toArray below meth c 4 N0 T D gr ad 0 0 (MQ below (va_Qi (fun r Y1 => (r, Y1) = res) (WB T D gr ad) (fun q => N0 ≤ q)) [.ref (ad 10 0 0)].toArray s 0 0 (fun q => N0 ≤ q)) Y 32 [(3, .int l3), (2, .int l2), (1, .int l1), (0, .ref (ad 10 0 0))] [] := by
  intro n
  induction n with
  | zero =>
    intro Y l3 l2 l1 h
    unfold X12_queueReady_b32 at h
    cases h
  | succ n ih =>
    intro Y l3 l2 l1 h
    unfold X12_queueReady_b32 at h
    refine fw_iload_n C dX12_queueReady_32 rfl 0 rfl ?_
    refine fw_if_le C dX12_queueReady_33 (tgt := 78) rfl (fun c9 => ?_) (fun c9 => ?_)
    · have h := ite_t c9 h
      exact w_X12_queueReady_b78 C hrt hG  hk8 _ _ _ _ h
    · have h := ite_f c9 h
      refine fw_aload_n C dX12_queueReady_36 rfl 3 rfl ?_
      refine fw_get C (ci := 10) (Cn := RX12) (Tc := TX12) (N := 19) (j := 10) ly_X12_queueReady_12 rfl (hG _ (List.mem_of_getElem? (i := 0) rfl)) (of10_0 _) (ce10 T ad _ _) (by decide) (cx_ts C _ fl_X12_queueReady_42) (fun _ h => h) (v := .ref (ad 10 0 5)) rfl dX12_queueReady_37 ?_
      refine fw_aload_n C dX12_queueReady_40 rfl 3 rfl ?_
      refine fw_get C (ci := 10) (Cn := RX12) (Tc := TX12) (N := 19) (j := 13) ly_X12_queueReady_12 rfl (hG _ (List.mem_of_getElem? (i := 0) rfl)) (of10_0 _) (ce10 T ad _ _) (by decide) (cx_ts C _ fl_X12_queueReady_51) (fun _ h => h) (v := .ref (ad 10 0 8)) rfl dX12_queueReady_41 ?_
      refine fw_iload_n C dX12_queueReady_44 rfl 0 rfl ?_
      refine fw_iconst C dX12_queueReady_45 (v := 1) rfl ?_
      refine fw_isub C dX12_queueReady_46 ?_
      obtain ⟨b13, h⟩ := gd_some h
      refine fw_iald2 C (hG _ (List.mem_of_getElem? (i := 0) rfl)) (of10_8 _) (ca10_8 T ad _ _) b13 (Nat.le_of_ble_eq_true rfl) dX12_queueReady_47 ?_
      obtain ⟨b14, h⟩ := gd_some h
      refine fw_iald2 C (hG _ (List.mem_of_getElem? (i := 0) rfl)) (of10_5 _) (ca10_5 T ad _ _) b14 (Nat.le_of_ble_eq_true rfl) dX12_queueReady_48 ?_
      refine fw_aload_n C dX12_queueReady_49 rfl 3 rfl ?_
      refine fw_get C (ci := 10) (Cn := RX12) (Tc := TX12) (N := 19) (j := 10) ly_X12_queueReady_12 rfl (hG _ (List.mem_of_getElem? (i := 0) rfl)) (of10_0 _) (ce10 T ad _ _) (by decide) (cx_ts C _ fl_X12_queueReady_42) (fun _ h => h) (v := .ref (ad 10 0 5)) rfl dX12_queueReady_50 ?_
      refine fw_iload_n C dX12_queueReady_53 rfl 1 rfl ?_
      obtain ⟨b15, h⟩ := gd_some h
      refine fw_iald2 C (hG _ (List.mem_of_getElem? (i := 0) rfl)) (of10_5 _) (ca10_5 T ad _ _) b15 (Nat.le_of_ble_eq_true rfl) dX12_queueReady_54 ?_
      refine fw_icmp_ge C dX12_queueReady_55 (tgt := 78) rfl (fun c16 => ?_) (fun c16 => ?_)
      · have h := ite_t c16 h
        exact w_X12_queueReady_b78 C hrt hG  hk8 _ _ _ _ h
      · have h := ite_f c16 h
        refine fw_aload_n C dX12_queueReady_58 rfl 3 rfl ?_
        refine fw_get C (ci := 10) (Cn := RX12) (Tc := TX12) (N := 19) (j := 13) ly_X12_queueReady_12 rfl (hG _ (List.mem_of_getElem? (i := 0) rfl)) (of10_0 _) (ce10 T ad _ _) (by decide) (cx_ts C _ fl_X12_queueReady_51) (fun _ h => h) (v := .ref (ad 10 0 8)) rfl dX12_queueReady_59 ?_
        refine fw_iload_n C dX12_queueReady_62 rfl 0 rfl ?_
        refine fw_aload_n C dX12_queueReady_63 rfl 3 rfl ?_
        refine fw_get C (ci := 10) (Cn := RX12) (Tc := TX12) (N := 19) (j := 13) ly_X12_queueReady_12 rfl (hG _ (List.mem_of_getElem? (i := 0) rfl)) (of10_0 _) (ce10 T ad _ _) (by decide) (cx_ts C _ fl_X12_queueReady_51) (fun _ h => h) (v := .ref (ad 10 0 8)) rfl dX12_queueReady_64 ?_
        refine fw_iload_n C dX12_queueReady_67 rfl 0 rfl ?_
        refine fw_iconst C dX12_queueReady_68 (v := 1) rfl ?_
        refine fw_isub C dX12_queueReady_69 ?_
        refine fw_iald2 C (hG _ (List.mem_of_getElem? (i := 0) rfl)) (of10_8 _) (ca10_8 T ad _ _) b13 (Nat.le_of_ble_eq_true rfl) dX12_queueReady_70 ?_
        obtain ⟨b17, h⟩ := gd_some h
        obtain ⟨Y18, e19, h⟩ := lt_some h
        refine fw_iast2 C (hG _ (List.mem_of_getElem? (i := 0) rfl)) (of10_8 _) (ca10_8 T ad _) b17 (Nat.le_of_ble_eq_true rfl) dX12_queueReady_71 ?_
        refine fw_mem e19 ?_
        refine fw_iinc C dX12_queueReady_72 (kk := 0) (v := l3 + (-1)) rfl rfl (by decide) (L' := [(3, .int (l3 + (-1))), (2, .int l2), (1, .int l1), (0, .ref (ad 10 0 0))]) rfl ?_
        refine fw_goto C dX12_queueReady_75 (tgt := 32) rfl ?_
        exact ih _ _ _ _ h
set_option maxRecDepth 100000 in
set_option maxHeartbeats 4000000 in
theorem w_X12_queueReady_b8  (C : Cx p s m [.ref (ad 10 0 0)].toArray meth c cX12_queueReady 4 wsX12_queueReady RX12 N0 T D gr ad) (hrt : meth.sig.returnType = (some .int)) (hG : ∀ q ∈ [(10, 0)], q ∈ gr) {res : Int32 × Mem} : ∀ (n : Nat) (Y : Mem) (l2 : Int32) (l1 : Int32), X12_queueReady_b8   n Y l2 l1 = some res → FW p l e (Rm 3) s m [.ref (ad 10 0 0)].toArray below meth c 4 N0 T D gr ad 0 0 (MQ below (va_Qi (fun r Y1 => (r, Y1) = res) (WB T D gr ad) (fun q => N0 ≤ q)) [.ref (ad 10 0 0)].toArray s 0 0 (fun q => N0 ≤ q)) Y 8 [(2, .int l2), (1, .int l1), (0, .ref (ad 10 0 0))] [] := by
  intro n
  induction n with
  | zero =>
    intro Y l2 l1 h
    unfold X12_queueReady_b8 at h
    cases h
  | succ n ih =>
    intro Y l2 l1 h
    unfold X12_queueReady_b8 at h
    refine fw_iload_n C dX12_queueReady_8 rfl 0 rfl ?_
    refine fw_aload_n C dX12_queueReady_9 rfl 2 rfl ?_
    refine fw_get C (ci := 10) (Cn := RX12) (Tc := TX12) (N := 19) (j := 0) ly_X12_queueReady_12 rfl (hG _ (List.mem_of_getElem? (i := 0) rfl)) (of10_0 _) (ce10 T ad _ _) (by decide) (cx_ts C _ fl_X12_queueReady_13) (fun _ h => h) (v := .ref (ad 10 0 1)) rfl dX12_queueReady_10 ?_
    refine fw_bipush C dX12_queueReady_13 (v := 13) rfl ?_
    obtain ⟨b4, h⟩ := gd_some h
    refine fw_iald2 C (hG _ (List.mem_of_getElem? (i := 0) rfl)) (of10_1 _) (ca10_1 T ad _ _) b4 (Nat.le_of_ble_eq_true rfl) dX12_queueReady_15 ?_
    refine fw_icmp_ge C dX12_queueReady_16 (tgt := 94) rfl (fun c5 => ?_) (fun c5 => ?_)
    · have h := ite_t c5 h
      refine fw_iload_n C dX12_queueReady_94 rfl 1 rfl ?_
      exact fw_iret C hrt Y (Option.some.inj h) (fun t ht => ht) dX12_queueReady_95
    · have h := ite_f c5 h
      refine fw_aload_n C dX12_queueReady_19 rfl 2 rfl ?_
      refine fw_iload_n C dX12_queueReady_20 rfl 0 rfl ?_
      obtain ⟨r6, q7, h⟩ := bd1_some h
      refine fw_callVi C (ci := 10) (Cn := RX12) (Tc := TX12) (N := 19) (As := [.int l2]) (c_X12_isReady (gac (hG _ (List.mem_of_getElem? (i := 0) rfl)) ga0) q7) (cwV 1 (cx_ts C) gX12_queueReady_X12_isReady rfl rfl rfl (by decide +kernel) ⟨Nat.le_of_ble_eq_true rfl, Nat.le_of_ble_eq_true rfl⟩) rfl (hG _ (List.mem_of_getElem? (i := 0) rfl)) (of10_0 _) (ce10 T ad _ _) rfl (st := []) rfl (Nat.le_of_ble_eq_true rfl) ⟨Nat.le_refl 0, Nat.le_refl 0⟩ dX12_queueReady_21 (pp2 ?_)
      refine fw_if_ne C dX12_queueReady_24 (tgt := 30) rfl (fun c8 => ?_) (fun c8 => ?_)
      · have h := ite_f c8 h
        refine fw_iload_n C dX12_queueReady_30 rfl 1 rfl ?_
        refine fw_istore_n C dX12_queueReady_31 rfl (by decide) (L' := [(3, .int l1), (2, .int l2), (1, .int l1), (0, .ref (ad 10 0 0))]) rfl ?_
        exact w_X12_queueReady_b32 C hrt hG  ih _ _ _ _ _ h
      · have h := ite_t c8 h
        refine fw_goto C dX12_queueReady_27 (tgt := 88) rfl ?_
        refine fw_sub [1, 0, 2] (L' := [(1, .int l1), (2, .int l2), (0, .ref (ad 10 0 0))]) rfl ?_
        exact w_X12_queueReady_b88 C hrt hG  ih _ _ _ h
set_option maxRecDepth 100000 in
set_option maxHeartbeats 4000000 in
theorem w_X12_queueReady {Y : Mem} (C : Cx p s m [.ref (ad 10 0 0)].toArray meth c cX12_queueReady 4 wsX12_queueReady RX12 N0 T D gr ad) (hrt : meth.sig.returnType = (some .int)) (hG : ∀ q ∈ [(10, 0)], q ∈ gr) {res : Int32 × Mem} (h : X12_queueReady Y = some res) : FW p l e (Rm 3) s m [.ref (ad 10 0 0)].toArray below meth c 4 N0 T D gr ad 0 0 (MQ below (va_Qi (fun r Y1 => (r, Y1) = res) (WB T D gr ad) (fun q => N0 ≤ q)) [.ref (ad 10 0 0)].toArray s 0 0 (fun q => N0 ≤ q)) Y 0 [(0, .ref (ad 10 0 0))] [] := by
  unfold X12_queueReady at h
  refine fw_aload_n C dX12_queueReady_0 rfl 0 rfl ?_
  obtain ⟨Y3, q2, h⟩ := bd1_some h
  refine fw_callVv C (ci := 10) (Cn := RX12) (Tc := TX12) (N := 19) (As := []) (c_X12_computePaths (gac (hG _ (List.mem_of_getElem? (i := 0) rfl)) ga0) q2) (cwV 0 (cx_ts C) gX12_queueReady_X12_computePaths rfl rfl rfl (by decide +kernel) ⟨Nat.le_of_ble_eq_true rfl, Nat.le_of_ble_eq_true rfl⟩) rfl (hG _ (List.mem_of_getElem? (i := 0) rfl)) (of10_0 _) (ce10 T ad _ _) rfl (st := []) rfl (Nat.le_of_ble_eq_true rfl) ⟨Nat.le_refl 0, Nat.le_refl 0⟩ dX12_queueReady_1 (ppv ?_)
  refine fw_iconst C dX12_queueReady_4 (v := 0) rfl ?_
  refine fw_istore_n C dX12_queueReady_5 rfl (by decide) (L' := [(1, .int 0), (0, .ref (ad 10 0 0))]) rfl ?_
  refine fw_iconst C dX12_queueReady_6 (v := 0) rfl ?_
  refine fw_istore_n C dX12_queueReady_7 rfl (by decide) (L' := [(2, .int 0), (1, .int 0), (0, .ref (ad 10 0 0))]) rfl ?_
  exact w_X12_queueReady_b8 C hrt hG   _ _ _ _ h
end
set_option maxRecDepth 100000 in
set_option maxHeartbeats 4000000 in
theorem c_X12_queueReady {l : Launch} {N0 : Nat} {T : Nat → ClassId} {D : va_G} {gr : List (Nat × Nat)} {ad : Nat → Nat → Nat → Nat} {Y : Mem} {res : Int32 × Mem} (hG : ∀ q ∈ [(10, 0)], q ∈ gr) (h : X12_queueReady Y = some res) : CI l yX12_queueReady wsX12_queueReady (Rm 3) N0 T D gr ad Y [.ref (ad 10 0 0)] (fun r Y1 => (r, Y1) = res) :=
  fw_body (by decide +kernel) rfl (Nat.le_of_ble_eq_true rfl) (fun p e s m below meth c C hrt => w_X12_queueReady C hrt hG  h)
theorem ly_X12_startIfPossible_12 : ∀ w ∈ u_ws RX12 TX12 19, w ∈ wsX12_startIfPossible := by decide +kernel
theorem fl_X12_startIfPossible_13 : Cond.fieldLink RX12 13 "RecipeSchedulerModel" "m" "[I" ∈ wsX12_startIfPossible := by decide +kernel
section
variable {p : Program} {l : Launch} {e : Env} {s : State} {m : MethodId} {below : List Frame} {meth : Method} {c : Code} {N0 : Nat} {T : Nat → ClassId} {D : va_G} {gr : List (Nat × Nat)} {ad : Nat → Nat → Nat → Nat}
set_option maxRecDepth 100000 in
set_option maxHeartbeats 4000000 in
theorem w_X12_startIfPossible {Y : Mem} {a1 : Int32} (C : Cx p s m [.ref (ad 10 0 0), .int a1].toArray meth c cX12_startIfPossible 2 wsX12_startIfPossible RX12 N0 T D gr ad) (hrt : meth.sig.returnType = none) (hG : ∀ q ∈ [(10, 0)], q ∈ gr) {res : Mem} (h : X12_startIfPossible Y a1 = some res) : FW p l e (Rm 6) s m [.ref (ad 10 0 0), .int a1].toArray below meth c 2 N0 T D gr ad 0 0 (MQ below (va_Qv (fun Y1 => Y1 = res) (WB T D gr ad) (fun q => N0 ≤ q)) [.ref (ad 10 0 0), .int a1].toArray s 0 0 (fun q => N0 ≤ q)) Y 0 [(0, .ref (ad 10 0 0)), (1, .int a1)] [] := by
  unfold X12_startIfPossible at h
  refine fw_aload_n C dX12_startIfPossible_0 rfl 0 rfl ?_
  refine fw_iload_n C dX12_startIfPossible_1 rfl 1 rfl ?_
  obtain ⟨r1, q2, h⟩ := bd1_some h
  refine fw_callVi C (ci := 10) (Cn := RX12) (Tc := TX12) (N := 19) (As := [.int a1]) (c_X12_hasCook (gac (hG _ (List.mem_of_getElem? (i := 0) rfl)) ga0) q2) (cwV 1 (cx_ts C) gX12_startIfPossible_X12_hasCook rfl rfl rfl (by decide +kernel) ⟨Nat.le_of_ble_eq_true rfl, Nat.le_of_ble_eq_true rfl⟩) rfl (hG _ (List.mem_of_getElem? (i := 0) rfl)) (of10_0 _) (ce10 T ad _ _) rfl (st := []) rfl (Nat.le_of_ble_eq_true rfl) ⟨Nat.le_refl 0, Nat.le_refl 0⟩ dX12_startIfPossible_2 (pp2 ?_)
  refine fw_if_eq C dX12_startIfPossible_5 (tgt := 16) rfl (fun c3 => ?_) (fun c3 => ?_)
  · have h := ite_t c3 h
    exact fw_vret C hrt Y (Option.some.inj h) (fun t ht => ht) dX12_startIfPossible_16
  · have h := ite_f c3 h
    refine fw_aload_n C dX12_startIfPossible_8 rfl 0 rfl ?_
    refine fw_iload_n C dX12_startIfPossible_9 rfl 1 rfl ?_
    obtain ⟨r4, q5, h⟩ := bd1_some h
    refine fw_callVi C (ci := 10) (Cn := RX12) (Tc := TX12) (N := 19) (As := [.int a1]) (c_X12_hasPan (gac (hG _ (List.mem_of_getElem? (i := 0) rfl)) ga0) q5) (cwV 1 (cx_ts C) gX12_startIfPossible_X12_hasPan rfl rfl rfl (by decide +kernel) ⟨Nat.le_of_ble_eq_true rfl, Nat.le_of_ble_eq_true rfl⟩) rfl (hG _ (List.mem_of_getElem? (i := 0) rfl)) (of10_0 _) (ce10 T ad _ _) rfl (st := []) rfl (Nat.le_of_ble_eq_true rfl) ⟨Nat.le_refl 0, Nat.le_refl 0⟩ dX12_startIfPossible_10 (pp2 ?_)
    refine fw_if_ne C dX12_startIfPossible_13 (tgt := 17) rfl (fun c6 => ?_) (fun c6 => ?_)
    · have h := ite_f c6 h
      refine fw_aload_n C dX12_startIfPossible_17 rfl 0 rfl ?_
      refine fw_iload_n C dX12_startIfPossible_18 rfl 1 rfl ?_
      refine fw_bipush C dX12_startIfPossible_19 (v := 17) rfl ?_
      refine fw_iconst C dX12_startIfPossible_21 (v := 1) rfl ?_
      obtain ⟨Y9, q8, h⟩ := bd1_some h
      refine fw_callVv C (ci := 10) (Cn := RX12) (Tc := TX12) (N := 19) (As := [.int a1, .int 17, .int 1]) (c_X12_set (gac (hG _ (List.mem_of_getElem? (i := 0) rfl)) ga0) q8) (cwV 3 (cx_ts C) gX12_startIfPossible_X12_set rfl rfl rfl (by decide +kernel) ⟨Nat.le_of_ble_eq_true rfl, Nat.le_of_ble_eq_true rfl⟩) rfl (hG _ (List.mem_of_getElem? (i := 0) rfl)) (of10_0 _) (ce10 T ad _ _) rfl (st := []) rfl (Nat.le_of_ble_eq_true rfl) ⟨Nat.le_refl 0, Nat.le_refl 0⟩ dX12_startIfPossible_22 (ppv ?_)
      refine fw_aload_n C dX12_startIfPossible_25 rfl 0 rfl ?_
      refine fw_iload_n C dX12_startIfPossible_26 rfl 1 rfl ?_
      refine fw_bipush C dX12_startIfPossible_27 (v := 18) rfl ?_
      refine fw_aload_n C dX12_startIfPossible_29 rfl 0 rfl ?_
      refine fw_iload_n C dX12_startIfPossible_30 rfl 1 rfl ?_
      refine fw_bipush C dX12_startIfPossible_31 (v := 7) rfl ?_
      obtain ⟨r10, q11, h⟩ := bd1_some h
      refine fw_callVi C (ci := 10) (Cn := RX12) (Tc := TX12) (N := 19) (As := [.int a1, .int 7]) (c_X12_of (gac (hG _ (List.mem_of_getElem? (i := 0) rfl)) ga0) q11) (cwV 2 (cx_ts C) gX12_startIfPossible_X12_of rfl rfl rfl (by decide +kernel) ⟨Nat.le_of_ble_eq_true rfl, Nat.le_of_ble_eq_true rfl⟩) rfl (hG _ (List.mem_of_getElem? (i := 0) rfl)) (of10_0 _) (ce10 T ad _ _) rfl (st := [.int 18, .int a1, .ref (ad 10 0 0)]) rfl (Nat.le_of_ble_eq_true rfl) ⟨Nat.le_refl 0, Nat.le_refl 0⟩ dX12_startIfPossible_33 (pp2 ?_)
      obtain ⟨Y14, q13, h⟩ := bd1_some h
      refine fw_callVv C (ci := 10) (Cn := RX12) (Tc := TX12) (N := 19) (As := [.int a1, .int 18, .int r10]) (c_X12_set (gac (hG _ (List.mem_of_getElem? (i := 0) rfl)) ga0) q13) (cwV 3 (cx_ts C) gX12_startIfPossible_X12_set rfl rfl rfl (by decide +kernel) ⟨Nat.le_of_ble_eq_true rfl, Nat.le_of_ble_eq_true rfl⟩) rfl (hG _ (List.mem_of_getElem? (i := 0) rfl)) (of10_0 _) (ce10 T ad _ _) rfl (st := []) rfl (Nat.le_of_ble_eq_true rfl) ⟨Nat.le_refl 0, Nat.le_refl 0⟩ dX12_startIfPossible_36 (ppv ?_)
      refine fw_aload_n C dX12_startIfPossible_39 rfl 0 rfl ?_
      refine fw_iload_n C dX12_startIfPossible_40 rfl 1 rfl ?_
      refine fw_bipush C dX12_startIfPossible_41 (v := 20) rfl ?_
      refine fw_aload_n C dX12_startIfPossible_43 rfl 0 rfl ?_
      refine fw_iload_n C dX12_startIfPossible_44 rfl 1 rfl ?_
      refine fw_bipush C dX12_startIfPossible_45 (v := 20) rfl ?_
      obtain ⟨r15, q16, h⟩ := bd1_some h
      refine fw_callVi C (ci := 10) (Cn := RX12) (Tc := TX12) (N := 19) (As := [.int a1, .int 20]) (c_X12_of (gac (hG _ (List.mem_of_getElem? (i := 0) rfl)) ga0) q16) (cwV 2 (cx_ts C) gX12_startIfPossible_X12_of rfl rfl rfl (by decide +kernel) ⟨Nat.le_of_ble_eq_true rfl, Nat.le_of_ble_eq_true rfl⟩) rfl (hG _ (List.mem_of_getElem? (i := 0) rfl)) (of10_0 _) (ce10 T ad _ _) rfl (st := [.int 20, .int a1, .ref (ad 10 0 0)]) rfl (Nat.le_of_ble_eq_true rfl) ⟨Nat.le_refl 0, Nat.le_refl 0⟩ dX12_startIfPossible_47 (pp2 ?_)
      refine fw_iconst C dX12_startIfPossible_50 (v := 1) rfl ?_
      refine fw_iadd C dX12_startIfPossible_51 ?_
      obtain ⟨Y19, q18, h⟩ := bd1_some h
      refine fw_callVv C (ci := 10) (Cn := RX12) (Tc := TX12) (N := 19) (As := [.int a1, .int 20, .int (r15 + 1)]) (c_X12_set (gac (hG _ (List.mem_of_getElem? (i := 0) rfl)) ga0) q18) (cwV 3 (cx_ts C) gX12_startIfPossible_X12_set rfl rfl rfl (by decide +kernel) ⟨Nat.le_of_ble_eq_true rfl, Nat.le_of_ble_eq_true rfl⟩) rfl (hG _ (List.mem_of_getElem? (i := 0) rfl)) (of10_0 _) (ce10 T ad _ _) rfl (st := []) rfl (Nat.le_of_ble_eq_true rfl) ⟨Nat.le_refl 0, Nat.le_refl 0⟩ dX12_startIfPossible_52 (ppv ?_)
      refine fw_aload_n C dX12_startIfPossible_55 rfl 0 rfl ?_
      refine fw_get C (ci := 10) (Cn := RX12) (Tc := TX12) (N := 19) (j := 0) ly_X12_startIfPossible_12 rfl (hG _ (List.mem_of_getElem? (i := 0) rfl)) (of10_0 _) (ce10 T ad _ _) (by decide) (cx_ts C _ fl_X12_startIfPossible_13) (fun _ h => h) (v := .ref (ad 10 0 1)) rfl dX12_startIfPossible_56 ?_
      refine fw_bipush C dX12_startIfPossible_59 (v := 7) rfl ?_
      refine fw_dup2 C dX12_startIfPossible_61 rfl rfl ?_
      obtain ⟨b20, h⟩ := gd_some h
      refine fw_iald2 C (hG _ (List.mem_of_getElem? (i := 0) rfl)) (of10_1 _) (ca10_1 T ad _ _) b20 (Nat.le_of_ble_eq_true rfl) dX12_startIfPossible_62 ?_
      refine fw_iconst C dX12_startIfPossible_63 (v := 1) rfl ?_
      refine fw_iadd C dX12_startIfPossible_64 ?_
      obtain ⟨Y21, e22, h⟩ := lt_some h
      refine fw_iast2 C (hG _ (List.mem_of_getElem? (i := 0) rfl)) (of10_1 _) (ca10_1 T ad _) b20 (Nat.le_of_ble_eq_true rfl) dX12_startIfPossible_65 ?_
      refine fw_mem e22 ?_
      exact fw_vret C hrt Y21 (Option.some.inj h) (fun t ht => ht) dX12_startIfPossible_66
    · have h := ite_t c6 h
      exact fw_vret C hrt Y (Option.some.inj h) (fun t ht => ht) dX12_startIfPossible_16
end
set_option maxRecDepth 100000 in
set_option maxHeartbeats 4000000 in
theorem c_X12_startIfPossible {l : Launch} {N0 : Nat} {T : Nat → ClassId} {D : va_G} {gr : List (Nat × Nat)} {ad : Nat → Nat → Nat → Nat} {Y : Mem} {a1 : Int32} {res : Mem} (hG : ∀ q ∈ [(10, 0)], q ∈ gr) (h : X12_startIfPossible Y a1 = some res) : CV l yX12_startIfPossible wsX12_startIfPossible (Rm 6) N0 T D gr ad Y [.ref (ad 10 0 0), .int a1] (fun Y1 => Y1 = res) :=
  fw_body (by decide +kernel) rfl (Nat.le_of_ble_eq_true rfl) (fun p e s m below meth c C hrt => w_X12_startIfPossible C hrt hG  h)
