theorem ly_X12_writeSummary_12 : ∀ w ∈ u_ws RX12 TX12 19, w ∈ wsX12_writeSummary := by decide +kernel
theorem fl_X12_writeSummary_1 : Cond.fieldLink RX12 1 "RecipeSchedulerModel" "thrown" "I" ∈ wsX12_writeSummary := by decide +kernel
theorem fl_X12_writeSummary_39 : Cond.fieldLink RX12 39 "RecipeSchedulerModel" "writtenLength" "I" ∈ wsX12_writeSummary := by decide +kernel
theorem fl_X12_writeSummary_13 : Cond.fieldLink RX12 13 "RecipeSchedulerModel" "m" "[I" ∈ wsX12_writeSummary := by decide +kernel
section
variable {p : Program} {l : Launch} {e : Env} {s : State} {m : MethodId} {below : List Frame} {meth : Method} {c : Code} {N0 : Nat} {T : Nat → ClassId} {D : va_G} {gr : List (Nat × Nat)} {ad : Nat → Nat → Nat → Nat}
set_option maxRecDepth 100000 in
set_option maxHeartbeats 4000000 in
theorem w_X12_writeSummary_b35  (C : Cx p s m [.ref (ad 10 0 0)].toArray meth c cX12_writeSummary 3 wsX12_writeSummary RX12 N0 T D gr ad) (hrt : meth.sig.returnType = (some .int)) (hG : ∀ q ∈ [(10, 0)], q ∈ gr) {res : Int32 × Mem} {k12 : Mem → Int32 → Option (Int32 × Mem)} (hk12 : ∀ (Y : Mem) (l1 : Int32), k12 Y l1 = some res → FW p l e (Rm 2) s m [.ref (ad 10 0 0)].toArray below meth c 3 N0 T D gr ad 0 0 (MQ below (va_Qi (fun r Y1 => (r, Y1) = res) (WB T D gr ad) (fun q => N0 ≤ q)) [.ref (ad 10 0 0)].toArray s 0 0 (fun q => N0 ≤ q)) Y 12 [(1, .int l1), (0, .ref (ad 10 0 0))] []) : ∀ (n : Nat) (Y : Mem) (l2 : Int32) (l1 : Int32), X12_writeSummary_b35  k12 n Y l2 l1 = some res → FW p l e (Rm 2) s m [.ref (ad 10 0 0)].toArray below meth c 3 N0 T D gr ad 0 0 (MQ below (va_Qi (fun r Y1 => (r, Y1) = res) (WB T D gr ad) (fun q => N0 ≤ q)) [.ref (ad 10 0 0)].toArray s 0 0 (fun q => N0 ≤ q)) Y 35 [(2, .int l2), (1, .int l1), (0, .ref (ad 10 0 0))] [] := by
  intro n
  induction n with
  | zero =>
    intro Y l2 l1 h
    unfold X12_writeSummary_b35 at h
    cases h
  | succ n ih =>
    intro Y l2 l1 h
    unfold X12_writeSummary_b35 at h
    refine fw_iload_n C dX12_writeSummary_35 rfl 0 rfl ?_
    refine fw_aload_n C dX12_writeSummary_36 rfl 2 rfl ?_
    refine fw_iload_n C dX12_writeSummary_37 rfl 1 rfl ?_
    refine fw_iconst C dX12_writeSummary_38 (v := 0) rfl ?_
    obtain ⟨r8, q9, h⟩ := bd1_some h
    refine fw_callVi C (ci := 10) (Cn := RX12) (Tc := TX12) (N := 19) (As := [.int l1, .int 0]) (c_X12_of (gac (hG _ (List.mem_of_getElem? (i := 0) rfl)) ga0) q9) (cwV 2 (cx_ts C) gX12_writeSummary_X12_of rfl rfl rfl (by decide +kernel) ⟨Nat.le_of_ble_eq_true rfl, Nat.le_of_ble_eq_true rfl⟩) rfl (hG _ (List.mem_of_getElem? (i := 0) rfl)) (of10_0 _) (ce10 T ad _ _) rfl (st := [.int l2]) rfl (Nat.le_of_ble_eq_true rfl) ⟨Nat.le_refl 0, Nat.le_refl 0⟩ dX12_writeSummary_39 (pp2 ?_)
    refine fw_icmp_ge C dX12_writeSummary_42 (tgt := 63) rfl (fun c10 => ?_) (fun c10 => ?_)
    · have h := ite_t c10 h
      refine fw_aload_n C dX12_writeSummary_63 rfl 2 rfl ?_
      refine fw_iload_n C dX12_writeSummary_64 rfl 1 rfl ?_
      obtain ⟨Y13, q12, h⟩ := bd1_some h
      refine fw_callVv C (ci := 10) (Cn := RX12) (Tc := TX12) (N := 19) (As := [.int l1]) (c_X12_putMark (gac (hG _ (List.mem_of_getElem? (i := 0) rfl)) ga0) q12) (cwV 1 (cx_ts C) gX12_writeSummary_X12_putMark rfl rfl rfl (by decide +kernel) ⟨Nat.le_of_ble_eq_true rfl, Nat.le_of_ble_eq_true rfl⟩) rfl (hG _ (List.mem_of_getElem? (i := 0) rfl)) (of10_0 _) (ce10 T ad _ _) rfl (st := []) rfl (Nat.le_of_ble_eq_true rfl) ⟨Nat.le_refl 0, Nat.le_refl 0⟩ dX12_writeSummary_65 (ppv ?_)
      refine fw_iinc C dX12_writeSummary_68 (kk := 1) (v := l1 + 1) rfl rfl (by decide) (L' := [(1, .int (l1 + 1)), (2, .int l2), (0, .ref (ad 10 0 0))]) rfl ?_
      refine fw_goto C dX12_writeSummary_71 (tgt := 12) rfl ?_
      refine fw_sub [0, 2] (L' := [(1, .int (l1 + 1)), (0, .ref (ad 10 0 0))]) rfl ?_
      exact hk12 _ _ h
    · have h := ite_f c10 h
      refine fw_aload_n C dX12_writeSummary_45 rfl 2 rfl ?_
      refine fw_aload_n C dX12_writeSummary_46 rfl 2 rfl ?_
      refine fw_iload_n C dX12_writeSummary_47 rfl 1 rfl ?_
      refine fw_iconst C dX12_writeSummary_48 (v := 1) rfl ?_
      refine fw_iload_n C dX12_writeSummary_49 rfl 0 rfl ?_
      refine fw_iadd C dX12_writeSummary_50 ?_
      obtain ⟨r14, q15, h⟩ := bd1_some h
      refine fw_callVi C (ci := 10) (Cn := RX12) (Tc := TX12) (N := 19) (As := [.int l1, .int (1 + l2)]) (c_X12_of (gac (hG _ (List.mem_of_getElem? (i := 0) rfl)) ga0) q15) (cwV 2 (cx_ts C) gX12_writeSummary_X12_of rfl rfl rfl (by decide +kernel) ⟨Nat.le_of_ble_eq_true rfl, Nat.le_of_ble_eq_true rfl⟩) rfl (hG _ (List.mem_of_getElem? (i := 0) rfl)) (of10_0 _) (ce10 T ad _ _) rfl (st := [.ref (ad 10 0 0)]) rfl (Nat.le_of_ble_eq_true rfl) ⟨Nat.le_refl 0, Nat.le_refl 0⟩ dX12_writeSummary_51 (pp2 ?_)
      obtain ⟨Y18, q17, h⟩ := bd1_some h
      refine fw_callVv C (ci := 10) (Cn := RX12) (Tc := TX12) (N := 19) (As := [.int r14]) (c_X12_put (gac (hG _ (List.mem_of_getElem? (i := 0) rfl)) ga0) q17) (cwV 1 (cx_ts C) gX12_writeSummary_X12_put rfl rfl rfl (by decide +kernel) ⟨Nat.le_of_ble_eq_true rfl, Nat.le_of_ble_eq_true rfl⟩) rfl (hG _ (List.mem_of_getElem? (i := 0) rfl)) (of10_0 _) (ce10 T ad _ _) rfl (st := []) rfl (Nat.le_of_ble_eq_true rfl) ⟨Nat.le_refl 0, Nat.le_refl 0⟩ dX12_writeSummary_54 (ppv ?_)
      refine fw_iinc C dX12_writeSummary_57 (kk := 0) (v := l2 + 1) rfl rfl (by decide) (L' := [(2, .int (l2 + 1)), (1, .int l1), (0, .ref (ad 10 0 0))]) rfl ?_
      refine fw_goto C dX12_writeSummary_60 (tgt := 35) rfl ?_
      exact ih _ _ _ h
set_option maxRecDepth 100000 in
set_option maxHeartbeats 4000000 in
theorem w_X12_writeSummary_b33  (C : Cx p s m [.ref (ad 10 0 0)].toArray meth c cX12_writeSummary 3 wsX12_writeSummary RX12 N0 T D gr ad) (hrt : meth.sig.returnType = (some .int)) (hG : ∀ q ∈ [(10, 0)], q ∈ gr) {res : Int32 × Mem} {k12 : Mem → Int32 → Option (Int32 × Mem)} (hk12 : ∀ (Y : Mem) (l1 : Int32), k12 Y l1 = some res → FW p l e (Rm 2) s m [.ref (ad 10 0 0)].toArray below meth c 3 N0 T D gr ad 0 0 (MQ below (va_Qi (fun r Y1 => (r, Y1) = res) (WB T D gr ad) (fun q => N0 ≤ q)) [.ref (ad 10 0 0)].toArray s 0 0 (fun q => N0 ≤ q)) Y 12 [(1, .int l1), (0, .ref (ad 10 0 0))] []) (Y : Mem) (l1 : Int32) (h : X12_writeSummary_b33  k12 Y l1 = some res) : FW p l e (Rm 2) s m [.ref (ad 10 0 0)].toArray below meth c 3 N0 T D gr ad 0 0 (MQ below (va_Qi (fun r Y1 => (r, Y1) = res) (WB T D gr ad) (fun q => N0 ≤ q)) [.ref (ad 10 0 0)].toArray s 0 0 (fun q => N0 ≤ q)) Y 33 [(1, .int l1), (0, .ref (ad 10 0 0))] [] := by
  unfold X12_writeSummary_b33 at h
  refine fw_iconst C dX12_writeSummary_33 (v := 0) rfl ?_
  refine fw_istore_n C dX12_writeSummary_34 rfl (by decide) (L' := [(2, .int 0), (1, .int l1), (0, .ref (ad 10 0 0))]) rfl ?_
  exact w_X12_writeSummary_b35 C hrt hG  hk12 _ _ _ _ h
set_option maxRecDepth 100000 in
set_option maxHeartbeats 4000000 in
theorem w_X12_writeSummary_b12  (C : Cx p s m [.ref (ad 10 0 0)].toArray meth c cX12_writeSummary 3 wsX12_writeSummary RX12 N0 T D gr ad) (hrt : meth.sig.returnType = (some .int)) (hG : ∀ q ∈ [(10, 0)], q ∈ gr) {res : Int32 × Mem} : ∀ (n : Nat) (Y : Mem) (l1 : Int32), X12_writeSummary_b12   n Y l1 = some res → FW p l e (Rm 2) s m [.ref (ad 10 0 0)].toArray below meth c 3 N0 T D gr ad 0 0 (MQ below (va_Qi (fun r Y1 => (r, Y1) = res) (WB T D gr ad) (fun q => N0 ≤ q)) [.ref (ad 10 0 0)].toArray s 0 0 (fun q => N0 ≤ q)) Y 12 [(1, .int l1), (0, .ref (ad 10 0 0))] [] := by
  intro n
  induction n with
  | zero =>
    intro Y l1 h
    unfold X12_writeSummary_b12 at h
    cases h
  | succ n ih =>
    intro Y l1 h
    unfold X12_writeSummary_b12 at h
    refine fw_iload_n C dX12_writeSummary_12 rfl 0 rfl ?_
    refine fw_aload_n C dX12_writeSummary_13 rfl 1 rfl ?_
    refine fw_get C (ci := 10) (Cn := RX12) (Tc := TX12) (N := 19) (j := 0) ly_X12_writeSummary_12 rfl (hG _ (List.mem_of_getElem? (i := 0) rfl)) (of10_0 _) (ce10 T ad _ _) (by decide) (cx_ts C _ fl_X12_writeSummary_13) (fun _ h => h) (v := .ref (ad 10 0 1)) rfl dX12_writeSummary_14 ?_
    refine fw_bipush C dX12_writeSummary_17 (v := 13) rfl ?_
    obtain ⟨b5, h⟩ := gd_some h
    refine fw_iald2 C (hG _ (List.mem_of_getElem? (i := 0) rfl)) (of10_1 _) (ca10_1 T ad _ _) b5 (Nat.le_of_ble_eq_true rfl) dX12_writeSummary_19 ?_
    refine fw_icmp_ge C dX12_writeSummary_20 (tgt := 74) rfl (fun c6 => ?_) (fun c6 => ?_)
    · have h := ite_t c6 h
      refine fw_aload_n C dX12_writeSummary_74 rfl 1 rfl ?_
      refine fw_get C (ci := 10) (Cn := RX12) (Tc := TX12) (N := 19) (j := 8) ly_X12_writeSummary_12 rfl (hG _ (List.mem_of_getElem? (i := 0) rfl)) (of10_0 _) (ce10 T ad _ _) (by decide) (cx_ts C _ fl_X12_writeSummary_39) (fun _ h => h) (v := .int (Y 10 0 0 8)) rfl dX12_writeSummary_75 ?_
      exact fw_iret C hrt Y (Option.some.inj h) (fun t ht => ht) dX12_writeSummary_78
    · have h := ite_f c6 h
      refine fw_iload_n C dX12_writeSummary_23 rfl 0 rfl ?_
      refine fw_if_le C dX12_writeSummary_24 (tgt := 33) rfl (fun c7 => ?_) (fun c7 => ?_)
      · have h := ite_t c7 h
        exact w_X12_writeSummary_b33 C hrt hG  ih _ _ h
      · have h := ite_f c7 h
        refine fw_aload_n C dX12_writeSummary_27 rfl 1 rfl ?_
        refine fw_bipush C dX12_writeSummary_28 (v := 32) rfl ?_
        obtain ⟨Y21, q20, h⟩ := bd1_some h
        refine fw_callVv C (ci := 10) (Cn := RX12) (Tc := TX12) (N := 19) (As := [.int 32]) (c_X12_put (gac (hG _ (List.mem_of_getElem? (i := 0) rfl)) ga0) q20) (cwV 1 (cx_ts C) gX12_writeSummary_X12_put rfl rfl rfl (by decide +kernel) ⟨Nat.le_of_ble_eq_true rfl, Nat.le_of_ble_eq_true rfl⟩) rfl (hG _ (List.mem_of_getElem? (i := 0) rfl)) (of10_0 _) (ce10 T ad _ _) rfl (st := []) rfl (Nat.le_of_ble_eq_true rfl) ⟨Nat.le_refl 0, Nat.le_refl 0⟩ dX12_writeSummary_30 (ppv ?_)
        exact w_X12_writeSummary_b33 C hrt hG  ih _ _ h
set_option maxRecDepth 100000 in
set_option maxHeartbeats 4000000 in
theorem w_X12_writeSummary {Y : Mem} (C : Cx p s m [.ref (ad 10 0 0)].toArray meth c cX12_writeSummary 3 wsX12_writeSummary RX12 N0 T D gr ad) (hrt : meth.sig.returnType = (some .int)) (hG : ∀ q ∈ [(10, 0)], q ∈ gr) {res : Int32 × Mem} (h : X12_writeSummary Y = some res) : FW p l e (Rm 2) s m [.ref (ad 10 0 0)].toArray below meth c 3 N0 T D gr ad 0 0 (MQ below (va_Qi (fun r Y1 => (r, Y1) = res) (WB T D gr ad) (fun q => N0 ≤ q)) [.ref (ad 10 0 0)].toArray s 0 0 (fun q => N0 ≤ q)) Y 0 [(0, .ref (ad 10 0 0))] [] := by
  unfold X12_writeSummary at h
  refine fw_aload_n C dX12_writeSummary_0 rfl 0 rfl ?_
  refine fw_iconst C dX12_writeSummary_1 (v := 0) rfl ?_
  obtain ⟨Y1, e2, h⟩ := lt_some h
  refine fw_put C (ci := 10) (Cn := RX12) (Tc := TX12) (N := 19) (j := 9) (ty := .int) (upd (Y 10 0 0) 9 0) ly_X12_writeSummary_12 rfl tyX12_ok nmX12 (hG _ (List.mem_of_getElem? (i := 0) rfl)) (of10_0 _) (ce10 T ad _ _) (by decide) (cx_ts C _ fl_X12_writeSummary_1) (fun _ h => h) rfl (by decide +kernel) rfl rfl (Nat.le_of_ble_eq_true rfl) (ce10_put9 T ad _ _ _) dX12_writeSummary_2 ?_
  refine fw_mem ((up_eq _ _ _ _ _ _).symm.trans e2) ?_
  refine fw_aload_n C dX12_writeSummary_5 rfl 0 rfl ?_
  refine fw_iconst C dX12_writeSummary_6 (v := 0) rfl ?_
  obtain ⟨Y3, e4, h⟩ := lt_some h
  refine fw_put C (ci := 10) (Cn := RX12) (Tc := TX12) (N := 19) (j := 8) (ty := .int) (upd (Y1 10 0 0) 8 0) ly_X12_writeSummary_12 rfl tyX12_ok nmX12 (hG _ (List.mem_of_getElem? (i := 0) rfl)) (of10_0 _) (ce10 T ad _ _) (by decide) (cx_ts C _ fl_X12_writeSummary_39) (fun _ h => h) rfl (by decide +kernel) rfl rfl (Nat.le_of_ble_eq_true rfl) (ce10_put8 T ad _ _ _) dX12_writeSummary_7 ?_
  refine fw_mem ((up_eq _ _ _ _ _ _).symm.trans e4) ?_
  refine fw_iconst C dX12_writeSummary_10 (v := 0) rfl ?_
  refine fw_istore_n C dX12_writeSummary_11 rfl (by decide) (L' := [(1, .int 0), (0, .ref (ad 10 0 0))]) rfl ?_
  exact w_X12_writeSummary_b12 C hrt hG   _ _ _ h
end
set_option maxRecDepth 100000 in
set_option maxHeartbeats 4000000 in
theorem c_X12_writeSummary {l : Launch} {N0 : Nat} {T : Nat → ClassId} {D : va_G} {gr : List (Nat × Nat)} {ad : Nat → Nat → Nat → Nat} {Y : Mem} {res : Int32 × Mem} (hG : ∀ q ∈ [(10, 0)], q ∈ gr) (h : X12_writeSummary Y = some res) : CI l yX12_writeSummary wsX12_writeSummary (Rm 2) N0 T D gr ad Y [.ref (ad 10 0 0)] (fun r Y1 => (r, Y1) = res) :=
  fw_body (by decide +kernel) rfl (Nat.le_of_ble_eq_true rfl) (fun p e s m below meth c C hrt => w_X12_writeSummary C hrt hG  h)
theorem ly_X10_isWord_10 : ∀ w ∈ u_ws RX10 TX10 6, w ∈ wsX10_isWord := by decide +kernel
theorem fl_X10_isWord_44 : Cond.fieldLink RX10 44 "RecipeScheduler$Tokens" "kind" "I" ∈ wsX10_isWord := by decide +kernel
theorem fl_X10_isWord_22 : Cond.fieldLink RX10 22 "RecipeScheduler$Tokens" "end" "I" ∈ wsX10_isWord := by decide +kernel
theorem fl_X10_isWord_28 : Cond.fieldLink RX10 28 "RecipeScheduler$Tokens" "start" "I" ∈ wsX10_isWord := by decide +kernel
theorem fl_X10_isWord_9 : Cond.fieldLink RX10 9 "RecipeScheduler$Tokens" "text" "LRecipeScheduler$Text;" ∈ wsX10_isWord := by decide +kernel
theorem ly_X10_isWord_9 : ∀ w ∈ u_ws RX9 TX9 2, w ∈ wsX10_isWord := by decide +kernel
section
variable {p : Program} {l : Launch} {e : Env} {s : State} {m : MethodId} {below : List Frame} {meth : Method} {c : Code} {N0 : Nat} {T : Nat → ClassId} {D : va_G} {gr : List (Nat × Nat)} {ad : Nat → Nat → Nat → Nat}
set_option maxRecDepth 100000 in
set_option maxHeartbeats 4000000 in
theorem w_X10_isWord_b28 {Y : Mem} {w1 : Nat} (C : Cx p s m [.ref (ad 6 0 0), .ref (ad 21 w1 0)].toArray meth c cX10_isWord 3 wsX10_isWord RX10 N0 T D gr ad) (hrt : meth.sig.returnType = (some .boolean)) (hG : ∀ q ∈ [(6, 0), (5, 0)], q ∈ gr) {res : Int32} : ∀ (n : Nat) (l2 : Int32), X10_isWord_b28 Y w1  n l2 = some res → FW p l e (Rm 4) s m [.ref (ad 6 0 0), .ref (ad 21 w1 0)].toArray below meth c 3 N0 T D gr ad 0 0 (MQ below (va_Qi (fun r Y1 => r = res ∧ Y1 = Y) (WB T D gr ad) (fun q => N0 ≤ q)) [.ref (ad 6 0 0), .ref (ad 21 w1 0)].toArray s 0 0 (fun q => N0 ≤ q)) Y 28 [(2, .int l2), (0, .ref (ad 6 0 0)), (1, .ref (ad 21 w1 0))] [] := by
  intro n
  induction n with
  | zero =>
    intro l2 h
    unfold X10_isWord_b28 at h
    cases h
  | succ n ih =>
    intro l2 h
    unfold X10_isWord_b28 at h
    refine fw_iload_n C dX10_isWord_28 rfl 0 rfl ?_
    refine fw_aload_n C dX10_isWord_29 rfl 2 rfl ?_
    obtain ⟨b6, h⟩ := gd_some h
    have b6 := of_decide_eq_true b6
    obtain ⟨r7, q8, h⟩ := bd1_some h
    refine fw_callOi C (Cn := RJ0) (As := []) (c_J0_length_8abf5 ga0 q8) (cwV 0 (cx_ts C) gX10_isWord_J0_length_8abf5 rfl rfl rfl (by decide +kernel) ⟨Nat.le_of_ble_eq_true rfl, Nat.le_of_ble_eq_true rfl⟩) ((cx_st C).1 _ b6).1 rfl (st := [.int l2]) rfl (Nat.le_of_ble_eq_true rfl) ⟨Nat.le_refl 0, Nat.le_refl 0⟩ dX10_isWord_30 (pp2 ?_)
    refine fw_icmp_ge C dX10_isWord_33 (tgt := 66) rfl (fun c9 => ?_) (fun c9 => ?_)
    · have h := ite_t c9 h
      refine fw_iconst C dX10_isWord_66 (v := 1) rfl ?_
      exact fw_zret C hrt (by decide) Y ⟨Option.some.inj h, rfl⟩ (fun t ht => ht) dX10_isWord_67
    · have h := ite_f c9 h
      refine fw_aload_n C dX10_isWord_36 rfl 1 rfl ?_
      refine fw_get C (ci := 8) (Cn := RX10) (Tc := TX10) (N := 6) (j := 0) ly_X10_isWord_10 rfl (hG _ (List.mem_of_getElem? (i := 0) rfl)) (of6_0 _) (ce6 T ad _ _) (by decide) (cx_ts C _ fl_X10_isWord_9) (fun _ h => h) (v := .ref (ad 5 0 0)) rfl dX10_isWord_37 ?_
      refine fw_getN C (ci := 7) (Cn := RX9) (Tc := TX9) (N := 2) (j := 0) ly_X10_isWord_9 rfl (hG _ (List.mem_of_getElem? (i := 1) rfl)) (of5_0 _) (ce5 T ad _ _) (by decide) (Nst_use (cx_nst C) (w := .fieldLinkNest RX10 36 "RecipeScheduler$Text" "bytes" "[B" "RecipeScheduler") 45 (by decide +kernel) rfl) (fun _ h => h) (v := .ref (ad 5 0 1)) rfl dX10_isWord_40 ?_
      refine fw_aload_n C dX10_isWord_43 rfl 1 rfl ?_
      refine fw_get C (ci := 8) (Cn := RX10) (Tc := TX10) (N := 6) (j := 2) ly_X10_isWord_10 rfl (hG _ (List.mem_of_getElem? (i := 0) rfl)) (of6_0 _) (ce6 T ad _ _) (by decide) (cx_ts C _ fl_X10_isWord_28) (fun _ h => h) (v := .int (Y 6 0 0 2)) rfl dX10_isWord_44 ?_
      refine fw_iload_n C dX10_isWord_47 rfl 0 rfl ?_
      refine fw_iadd C dX10_isWord_48 ?_
      obtain ⟨b10, h⟩ := gd_some h
      refine fw_bald2 C (hG _ (List.mem_of_getElem? (i := 1) rfl)) (of5_1 _) (ca5_1 T ad _ _) b10 (tcap_lt _) dX10_isWord_49 ?_
      refine fw_aload_n C dX10_isWord_50 rfl 2 rfl ?_
      refine fw_iload_n C dX10_isWord_51 rfl 0 rfl ?_
      obtain ⟨r11, q12, h⟩ := bd1_some h
      refine fw_callOi C (Cn := RJ0) (As := [.int l2]) (c_J0_charAt_5068e ga0 q12) (cwV 1 (cx_ts C) gX10_isWord_J0_charAt_5068e rfl rfl rfl (by decide +kernel) ⟨Nat.le_of_ble_eq_true rfl, Nat.le_of_ble_eq_true rfl⟩) ((cx_st C).1 _ b6).1 rfl (st := [.int (Y 5 0 1 (ix ((Y 6 0 0 2) + l2)))]) rfl (Nat.le_of_ble_eq_true rfl) ⟨Nat.le_refl 0, Nat.le_refl 0⟩ dX10_isWord_52 (pp2 ?_)
      refine fw_icmp_eq C dX10_isWord_55 (tgt := 60) rfl (fun c13 => ?_) (fun c13 => ?_)
      · have h := ite_t c13 h
        refine fw_iinc C dX10_isWord_60 (kk := 0) (v := l2 + 1) rfl rfl (by decide) (L' := [(2, .int (l2 + 1)), (0, .ref (ad 6 0 0)), (1, .ref (ad 21 w1 0))]) rfl ?_
        refine fw_goto C dX10_isWord_63 (tgt := 28) rfl ?_
        exact ih _ h
      · have h := ite_f c13 h
        refine fw_iconst C dX10_isWord_58 (v := 0) rfl ?_
        exact fw_zret C hrt (by decide) Y ⟨Option.some.inj h, rfl⟩ (fun t ht => ht) dX10_isWord_59
set_option maxRecDepth 100000 in
set_option maxHeartbeats 4000000 in
theorem w_X10_isWord {Y : Mem} {w1 : Nat} (C : Cx p s m [.ref (ad 6 0 0), .ref (ad 21 w1 0)].toArray meth c cX10_isWord 3 wsX10_isWord RX10 N0 T D gr ad) (hrt : meth.sig.returnType = (some .boolean)) (hG : ∀ q ∈ [(6, 0), (5, 0)], q ∈ gr) {res : Int32} (h : X10_isWord Y w1 = some res) : FW p l e (Rm 4) s m [.ref (ad 6 0 0), .ref (ad 21 w1 0)].toArray below meth c 3 N0 T D gr ad 0 0 (MQ below (va_Qi (fun r Y1 => r = res ∧ Y1 = Y) (WB T D gr ad) (fun q => N0 ≤ q)) [.ref (ad 6 0 0), .ref (ad 21 w1 0)].toArray s 0 0 (fun q => N0 ≤ q)) Y 0 [(0, .ref (ad 6 0 0)), (1, .ref (ad 21 w1 0))] [] := by
  unfold X10_isWord at h
  refine fw_aload_n C dX10_isWord_0 rfl 0 rfl ?_
  refine fw_get C (ci := 8) (Cn := RX10) (Tc := TX10) (N := 6) (j := 1) ly_X10_isWord_10 rfl (hG _ (List.mem_of_getElem? (i := 0) rfl)) (of6_0 _) (ce6 T ad _ _) (by decide) (cx_ts C _ fl_X10_isWord_44) (fun _ h => h) (v := .int (Y 6 0 0 1)) rfl dX10_isWord_1 ?_
  refine fw_iconst C dX10_isWord_4 (v := 1) rfl ?_
  refine fw_icmp_ne C dX10_isWord_5 (tgt := 24) rfl (fun c1 => ?_) (fun c1 => ?_)
  · have h := ite_f c1 h
    refine fw_iconst C dX10_isWord_24 (v := 0) rfl ?_
    exact fw_zret C hrt (by decide) Y ⟨Option.some.inj h, rfl⟩ (fun t ht => ht) dX10_isWord_25
  · have h := ite_t c1 h
    refine fw_aload_n C dX10_isWord_8 rfl 0 rfl ?_
    refine fw_get C (ci := 8) (Cn := RX10) (Tc := TX10) (N := 6) (j := 3) ly_X10_isWord_10 rfl (hG _ (List.mem_of_getElem? (i := 0) rfl)) (of6_0 _) (ce6 T ad _ _) (by decide) (cx_ts C _ fl_X10_isWord_22) (fun _ h => h) (v := .int (Y 6 0 0 3)) rfl dX10_isWord_9 ?_
    refine fw_aload_n C dX10_isWord_12 rfl 0 rfl ?_
    refine fw_get C (ci := 8) (Cn := RX10) (Tc := TX10) (N := 6) (j := 2) ly_X10_isWord_10 rfl (hG _ (List.mem_of_getElem? (i := 0) rfl)) (of6_0 _) (ce6 T ad _ _) (by decide) (cx_ts C _ fl_X10_isWord_28) (fun _ h => h) (v := .int (Y 6 0 0 2)) rfl dX10_isWord_13 ?_
    refine fw_isub C dX10_isWord_16 ?_
    refine fw_aload_n C dX10_isWord_17 rfl 1 rfl ?_
    obtain ⟨b2, h⟩ := gd_some h
    have b2 := of_decide_eq_true b2
    obtain ⟨r3, q4, h⟩ := bd1_some h
    refine fw_callOi C (Cn := RJ0) (As := []) (c_J0_length_8abf5 ga0 q4) (cwV 0 (cx_ts C) gX10_isWord_J0_length_8abf5 rfl rfl rfl (by decide +kernel) ⟨Nat.le_of_ble_eq_true rfl, Nat.le_of_ble_eq_true rfl⟩) ((cx_st C).1 _ b2).1 rfl (st := [.int ((Y 6 0 0 3) - (Y 6 0 0 2))]) rfl (Nat.le_of_ble_eq_true rfl) ⟨Nat.le_refl 0, Nat.le_refl 0⟩ dX10_isWord_18 (pp2 ?_)
    refine fw_icmp_eq C dX10_isWord_21 (tgt := 26) rfl (fun c5 => ?_) (fun c5 => ?_)
    · have h := ite_t c5 h
      refine fw_iconst C dX10_isWord_26 (v := 0) rfl ?_
      refine fw_istore_n C dX10_isWord_27 rfl (by decide) (L' := [(2, .int 0), (0, .ref (ad 6 0 0)), (1, .ref (ad 21 w1 0))]) rfl ?_
      exact w_X10_isWord_b28 C hrt hG   _ _ h
    · have h := ite_f c5 h
      refine fw_iconst C dX10_isWord_24 (v := 0) rfl ?_
      exact fw_zret C hrt (by decide) Y ⟨Option.some.inj h, rfl⟩ (fun t ht => ht) dX10_isWord_25
end
set_option maxRecDepth 100000 in
set_option maxHeartbeats 4000000 in
theorem c_X10_isWord {l : Launch} {N0 : Nat} {T : Nat → ClassId} {D : va_G} {gr : List (Nat × Nat)} {ad : Nat → Nat → Nat → Nat} {Y : Mem} {w1 : Nat} {res : Int32} (hG : ∀ q ∈ [(6, 0), (5, 0)], q ∈ gr) (h : X10_isWord Y w1 = some res) : CI l yX10_isWord wsX10_isWord (Rm 4) N0 T D gr ad Y [.ref (ad 6 0 0), .ref (ad 21 w1 0)] (fun r Y1 => r = res ∧ Y1 = Y) :=
  fw_body (by decide +kernel) rfl (Nat.le_of_ble_eq_true rfl) (fun p e s m below meth c C hrt => w_X10_isWord C hrt hG  h)
section
variable {p : Program} {l : Launch} {e : Env} {s : State} {m : MethodId} {below : List Frame} {meth : Method} {c : Code} {N0 : Nat} {T : Nat → ClassId} {D : va_G} {gr : List (Nat × Nat)} {ad : Nat → Nat → Nat → Nat}
set_option maxRecDepth 100000 in
set_option maxHeartbeats 4000000 in
theorem w_X10_isGap_b12 {Y : Mem} {a0 : Int32} (C : Cx p s m [.int a0].toArray meth c cX10_isGap 1 wsX10_isGap RX10 N0 T D gr ad) (hrt : meth.sig.returnType = (some .boolean)) (hG : ∀ q ∈ [], q ∈ gr) {res : Int32}  (h : X10_isGap_b12 Y a0   = some res) : FW p l e (Rm 0) s m [.int a0].toArray below meth c 1 N0 T D gr ad 0 0 (MQ below (va_Qi (fun r Y1 => r = res ∧ Y1 = Y) (WB T D gr ad) (fun q => N0 ≤ q)) [.int a0].toArray s 0 0 (fun q => N0 ≤ q)) Y 12 [] [] := by
  unfold X10_isGap_b12 at h
  refine fw_iconst C dX10_isGap_12 (v := 1) rfl ?_
  refine fw_goto C dX10_isGap_13 (tgt := 17) rfl ?_
  exact fw_zret C hrt (by decide) Y ⟨Option.some.inj h, rfl⟩ (fun t ht => ht) dX10_isGap_17
set_option maxRecDepth 100000 in
set_option maxHeartbeats 4000000 in
theorem w_X10_isGap {Y : Mem} {a0 : Int32} (C : Cx p s m [.int a0].toArray meth c cX10_isGap 1 wsX10_isGap RX10 N0 T D gr ad) (hrt : meth.sig.returnType = (some .boolean)) (hG : ∀ q ∈ [], q ∈ gr) {res : Int32} (h : X10_isGap Y a0 = some res) : FW p l e (Rm 0) s m [.int a0].toArray below meth c 1 N0 T D gr ad 0 0 (MQ below (va_Qi (fun r Y1 => r = res ∧ Y1 = Y) (WB T D gr ad) (fun q => N0 ≤ q)) [.int a0].toArray s 0 0 (fun q => N0 ≤ q)) Y 0 [(0, .int a0)] [] := by
  unfold X10_isGap at h
  refine fw_iload_n C dX10_isGap_0 rfl 0 rfl ?_
  refine fw_bipush C dX10_isGap_1 (v := 32) rfl ?_
  refine fw_icmp_eq C dX10_isGap_3 (tgt := 12) rfl (fun c1 => ?_) (fun c1 => ?_)
  · have h := ite_t c1 h
    refine fw_sub [] (L' := []) rfl ?_
    exact w_X10_isGap_b12 C hrt hG    h
  · have h := ite_f c1 h
    refine fw_iload_n C dX10_isGap_6 rfl 0 rfl ?_
    refine fw_bipush C dX10_isGap_7 (v := 10) rfl ?_
    refine fw_icmp_ne C dX10_isGap_9 (tgt := 16) rfl (fun c2 => ?_) (fun c2 => ?_)
    · have h := ite_f c2 h
      refine fw_iconst C dX10_isGap_16 (v := 0) rfl ?_
      exact fw_zret C hrt (by decide) Y ⟨Option.some.inj h, rfl⟩ (fun t ht => ht) dX10_isGap_17
    · have h := ite_t c2 h
      refine fw_sub [] (L' := []) rfl ?_
      exact w_X10_isGap_b12 C hrt hG    h
end
set_option maxRecDepth 100000 in
set_option maxHeartbeats 4000000 in
theorem c_X10_isGap {l : Launch} {N0 : Nat} {T : Nat → ClassId} {D : va_G} {gr : List (Nat × Nat)} {ad : Nat → Nat → Nat → Nat} {Y : Mem} {a0 : Int32} {res : Int32} (hG : ∀ q ∈ [], q ∈ gr) (h : X10_isGap Y a0 = some res) : CI l yX10_isGap wsX10_isGap (Rm 0) N0 T D gr ad Y [.int a0] (fun r Y1 => r = res ∧ Y1 = Y) :=
  fw_body (by decide +kernel) rfl (Nat.le_of_ble_eq_true rfl) (fun p e s m below meth c C hrt => w_X10_isGap C hrt hG  h)
section
variable {p : Program} {l : Launch} {e : Env} {s : State} {m : MethodId} {below : List Frame} {meth : Method} {c : Code} {N0 : Nat} {T : Nat → ClassId} {D : va_G} {gr : List (Nat × Nat)} {ad : Nat → Nat → Nat → Nat}
set_option maxRecDepth 100000 in
set_option maxHeartbeats 4000000 in
theorem w_X11_isWithin {Y : Mem} {a0 : Int32} {a1 : Int32} {a2 : Int32} (C : Cx p s m [.int a0, .int a1, .int a2].toArray meth c cX11_isWithin 3 wsX11_isWithin RX11 N0 T D gr ad) (hrt : meth.sig.returnType = (some .boolean)) (hG : ∀ q ∈ [], q ∈ gr) {res : Int32} (h : X11_isWithin Y a0 a1 a2 = some res) : FW p l e (Rm 0) s m [.int a0, .int a1, .int a2].toArray below meth c 3 N0 T D gr ad 0 0 (MQ below (va_Qi (fun r Y1 => r = res ∧ Y1 = Y) (WB T D gr ad) (fun q => N0 ≤ q)) [.int a0, .int a1, .int a2].toArray s 0 0 (fun q => N0 ≤ q)) Y 0 [(0, .int a0), (1, .int a1), (2, .int a2)] [] := by
  unfold X11_isWithin at h
  refine fw_iload_n C dX11_isWithin_0 rfl 1 rfl ?_
  refine fw_iload_n C dX11_isWithin_1 rfl 0 rfl ?_
  refine fw_icmp_gt C dX11_isWithin_2 (tgt := 14) rfl (fun c1 => ?_) (fun c1 => ?_)
  · have h := ite_t c1 h
    refine fw_iconst C dX11_isWithin_14 (v := 0) rfl ?_
    exact fw_zret C hrt (by decide) Y ⟨Option.some.inj h, rfl⟩ (fun t ht => ht) dX11_isWithin_15
  · have h := ite_f c1 h
    refine fw_iload_n C dX11_isWithin_5 rfl 0 rfl ?_
    refine fw_iload_n C dX11_isWithin_6 rfl 2 rfl ?_
    refine fw_icmp_gt C dX11_isWithin_7 (tgt := 14) rfl (fun c2 => ?_) (fun c2 => ?_)
    · have h := ite_t c2 h
      refine fw_iconst C dX11_isWithin_14 (v := 0) rfl ?_
      exact fw_zret C hrt (by decide) Y ⟨Option.some.inj h, rfl⟩ (fun t ht => ht) dX11_isWithin_15
    · have h := ite_f c2 h
      refine fw_iconst C dX11_isWithin_10 (v := 1) rfl ?_
      refine fw_goto C dX11_isWithin_11 (tgt := 15) rfl ?_
      exact fw_zret C hrt (by decide) Y ⟨Option.some.inj h, rfl⟩ (fun t ht => ht) dX11_isWithin_15
end
set_option maxRecDepth 100000 in
set_option maxHeartbeats 4000000 in
theorem c_X11_isWithin {l : Launch} {N0 : Nat} {T : Nat → ClassId} {D : va_G} {gr : List (Nat × Nat)} {ad : Nat → Nat → Nat → Nat} {Y : Mem} {a0 : Int32} {a1 : Int32} {a2 : Int32} {res : Int32} (hG : ∀ q ∈ [], q ∈ gr) (h : X11_isWithin Y a0 a1 a2 = some res) : CI l yX11_isWithin wsX11_isWithin (Rm 0) N0 T D gr ad Y [.int a0, .int a1, .int a2] (fun r Y1 => r = res ∧ Y1 = Y) :=
  fw_body (by decide +kernel) rfl (Nat.le_of_ble_eq_true rfl) (fun p e s m below meth c C hrt => w_X11_isWithin C hrt hG  h)
theorem ly_X10_passRun_10 : ∀ w ∈ u_ws RX10 TX10 6, w ∈ wsX10_passRun := by decide +kernel
theorem fl_X10_passRun_22 : Cond.fieldLink RX10 22 "RecipeScheduler$Tokens" "end" "I" ∈ wsX10_passRun := by decide +kernel
theorem fl_X10_passRun_9 : Cond.fieldLink RX10 9 "RecipeScheduler$Tokens" "text" "LRecipeScheduler$Text;" ∈ wsX10_passRun := by decide +kernel
theorem ly_X10_passRun_9 : ∀ w ∈ u_ws RX9 TX9 2, w ∈ wsX10_passRun := by decide +kernel
section
variable {p : Program} {l : Launch} {e : Env} {s : State} {m : MethodId} {below : List Frame} {meth : Method} {c : Code} {N0 : Nat} {T : Nat → ClassId} {D : va_G} {gr : List (Nat × Nat)} {ad : Nat → Nat → Nat → Nat}
set_option maxRecDepth 100000 in
set_option maxHeartbeats 4000000 in
theorem w_X10_passRun_b0 {a1 : Int32} {a2 : Int32} (C : Cx p s m [.ref (ad 6 0 0), .int a1, .int a2].toArray meth c cX10_passRun 3 wsX10_passRun RX10 N0 T D gr ad) (hrt : meth.sig.returnType = none) (hG : ∀ q ∈ [(6, 0), (5, 0)], q ∈ gr) {res : Mem} : ∀ (n : Nat) (Y : Mem), X10_passRun_b0 a1 a2  n Y = some res → FW p l e (Rm 0) s m [.ref (ad 6 0 0), .int a1, .int a2].toArray below meth c 3 N0 T D gr ad 0 0 (MQ below (va_Qv (fun Y1 => Y1 = res) (WB T D gr ad) (fun q => N0 ≤ q)) [.ref (ad 6 0 0), .int a1, .int a2].toArray s 0 0 (fun q => N0 ≤ q)) Y 0 [(0, .ref (ad 6 0 0)), (1, .int a1), (2, .int a2)] [] := by
  intro n
  induction n with
  | zero =>
    intro Y h
    unfold X10_passRun_b0 at h
    cases h
  | succ n ih =>
    intro Y h
    unfold X10_passRun_b0 at h
    refine fw_aload_n C dX10_passRun_0 rfl 0 rfl ?_
    refine fw_get C (ci := 8) (Cn := RX10) (Tc := TX10) (N := 6) (j := 3) ly_X10_passRun_10 rfl (hG _ (List.mem_of_getElem? (i := 0) rfl)) (of6_0 _) (ce6 T ad _ _) (by decide) (cx_ts C _ fl_X10_passRun_22) (fun _ h => h) (v := .int (Y 6 0 0 3)) rfl dX10_passRun_1 ?_
    refine fw_aload_n C dX10_passRun_4 rfl 0 rfl ?_
    refine fw_get C (ci := 8) (Cn := RX10) (Tc := TX10) (N := 6) (j := 0) ly_X10_passRun_10 rfl (hG _ (List.mem_of_getElem? (i := 0) rfl)) (of6_0 _) (ce6 T ad _ _) (by decide) (cx_ts C _ fl_X10_passRun_9) (fun _ h => h) (v := .ref (ad 5 0 0)) rfl dX10_passRun_5 ?_
    refine fw_getN C (ci := 7) (Cn := RX9) (Tc := TX9) (N := 2) (j := 1) ly_X10_passRun_9 rfl (hG _ (List.mem_of_getElem? (i := 1) rfl)) (of5_0 _) (ce5 T ad _ _) (by decide) (Nst_use (cx_nst C) (w := .fieldLinkNest RX10 31 "RecipeScheduler$Text" "length" "I" "RecipeScheduler") 50 (by decide +kernel) rfl) (fun _ h => h) (v := .int (Y 5 0 0 1)) rfl dX10_passRun_8 ?_
    refine fw_icmp_ge C dX10_passRun_11 (tgt := 59) rfl (fun c1 => ?_) (fun c1 => ?_)
    · have h := ite_t c1 h
      exact fw_vret C hrt Y (Option.some.inj h) (fun t ht => ht) dX10_passRun_59
    · have h := ite_f c1 h
      refine fw_iload_n C dX10_passRun_14 rfl 1 rfl ?_
      refine fw_aload_n C dX10_passRun_15 rfl 0 rfl ?_
      refine fw_get C (ci := 8) (Cn := RX10) (Tc := TX10) (N := 6) (j := 0) ly_X10_passRun_10 rfl (hG _ (List.mem_of_getElem? (i := 0) rfl)) (of6_0 _) (ce6 T ad _ _) (by decide) (cx_ts C _ fl_X10_passRun_9) (fun _ h => h) (v := .ref (ad 5 0 0)) rfl dX10_passRun_16 ?_
      refine fw_getN C (ci := 7) (Cn := RX9) (Tc := TX9) (N := 2) (j := 0) ly_X10_passRun_9 rfl (hG _ (List.mem_of_getElem? (i := 1) rfl)) (of5_0 _) (ce5 T ad _ _) (by decide) (Nst_use (cx_nst C) (w := .fieldLinkNest RX10 36 "RecipeScheduler$Text" "bytes" "[B" "RecipeScheduler") 45 (by decide +kernel) rfl) (fun _ h => h) (v := .ref (ad 5 0 1)) rfl dX10_passRun_19 ?_
      refine fw_aload_n C dX10_passRun_22 rfl 0 rfl ?_
      refine fw_get C (ci := 8) (Cn := RX10) (Tc := TX10) (N := 6) (j := 3) ly_X10_passRun_10 rfl (hG _ (List.mem_of_getElem? (i := 0) rfl)) (of6_0 _) (ce6 T ad _ _) (by decide) (cx_ts C _ fl_X10_passRun_22) (fun _ h => h) (v := .int (Y 6 0 0 3)) rfl dX10_passRun_23 ?_
      obtain ⟨b2, h⟩ := gd_some h
      refine fw_bald2 C (hG _ (List.mem_of_getElem? (i := 1) rfl)) (of5_1 _) (ca5_1 T ad _ _) b2 (tcap_lt _) dX10_passRun_26 ?_
      refine fw_icmp_gt C dX10_passRun_27 (tgt := 59) rfl (fun c3 => ?_) (fun c3 => ?_)
      · have h := ite_t c3 h
        exact fw_vret C hrt Y (Option.some.inj h) (fun t ht => ht) dX10_passRun_59
      · have h := ite_f c3 h
        refine fw_aload_n C dX10_passRun_30 rfl 0 rfl ?_
        refine fw_get C (ci := 8) (Cn := RX10) (Tc := TX10) (N := 6) (j := 0) ly_X10_passRun_10 rfl (hG _ (List.mem_of_getElem? (i := 0) rfl)) (of6_0 _) (ce6 T ad _ _) (by decide) (cx_ts C _ fl_X10_passRun_9) (fun _ h => h) (v := .ref (ad 5 0 0)) rfl dX10_passRun_31 ?_
        refine fw_getN C (ci := 7) (Cn := RX9) (Tc := TX9) (N := 2) (j := 0) ly_X10_passRun_9 rfl (hG _ (List.mem_of_getElem? (i := 1) rfl)) (of5_0 _) (ce5 T ad _ _) (by decide) (Nst_use (cx_nst C) (w := .fieldLinkNest RX10 36 "RecipeScheduler$Text" "bytes" "[B" "RecipeScheduler") 45 (by decide +kernel) rfl) (fun _ h => h) (v := .ref (ad 5 0 1)) rfl dX10_passRun_34 ?_
        refine fw_aload_n C dX10_passRun_37 rfl 0 rfl ?_
        refine fw_get C (ci := 8) (Cn := RX10) (Tc := TX10) (N := 6) (j := 3) ly_X10_passRun_10 rfl (hG _ (List.mem_of_getElem? (i := 0) rfl)) (of6_0 _) (ce6 T ad _ _) (by decide) (cx_ts C _ fl_X10_passRun_22) (fun _ h => h) (v := .int (Y 6 0 0 3)) rfl dX10_passRun_38 ?_
        refine fw_bald2 C (hG _ (List.mem_of_getElem? (i := 1) rfl)) (of5_1 _) (ca5_1 T ad _ _) b2 (tcap_lt _) dX10_passRun_41 ?_
        refine fw_iload_n C dX10_passRun_42 rfl 2 rfl ?_
        refine fw_icmp_gt C dX10_passRun_43 (tgt := 59) rfl (fun c4 => ?_) (fun c4 => ?_)
        · have h := ite_t c4 h
          exact fw_vret C hrt Y (Option.some.inj h) (fun t ht => ht) dX10_passRun_59
        · have h := ite_f c4 h
          refine fw_aload_n C dX10_passRun_46 rfl 0 rfl ?_
          refine fw_dup C dX10_passRun_47 rfl ?_
          refine fw_get C (ci := 8) (Cn := RX10) (Tc := TX10) (N := 6) (j := 3) ly_X10_passRun_10 rfl (hG _ (List.mem_of_getElem? (i := 0) rfl)) (of6_0 _) (ce6 T ad _ _) (by decide) (cx_ts C _ fl_X10_passRun_22) (fun _ h => h) (v := .int (Y 6 0 0 3)) rfl dX10_passRun_48 ?_
          refine fw_iconst C dX10_passRun_51 (v := 1) rfl ?_
          refine fw_iadd C dX10_passRun_52 ?_
          obtain ⟨Y5, e6, h⟩ := lt_some h
          refine fw_put C (ci := 8) (Cn := RX10) (Tc := TX10) (N := 6) (j := 3) (ty := .int) (upd (Y 6 0 0) 3 ((Y 6 0 0 3) + 1)) ly_X10_passRun_10 rfl tyX10_ok nmX10 (hG _ (List.mem_of_getElem? (i := 0) rfl)) (of6_0 _) (ce6 T ad _ _) (by decide) (cx_ts C _ fl_X10_passRun_22) (fun _ h => h) rfl (by decide +kernel) rfl rfl (Nat.le_of_ble_eq_true rfl) (ce6_put3 T ad _ _ _) dX10_passRun_53 ?_
          refine fw_mem ((up_eq _ _ _ _ _ _).symm.trans e6) ?_
          refine fw_goto C dX10_passRun_56 (tgt := 0) rfl ?_
          exact ih _ h
set_option maxRecDepth 100000 in
set_option maxHeartbeats 4000000 in
theorem w_X10_passRun {Y : Mem} {a1 : Int32} {a2 : Int32} (C : Cx p s m [.ref (ad 6 0 0), .int a1, .int a2].toArray meth c cX10_passRun 3 wsX10_passRun RX10 N0 T D gr ad) (hrt : meth.sig.returnType = none) (hG : ∀ q ∈ [(6, 0), (5, 0)], q ∈ gr) {res : Mem} (h : X10_passRun Y a1 a2 = some res) : FW p l e (Rm 0) s m [.ref (ad 6 0 0), .int a1, .int a2].toArray below meth c 3 N0 T D gr ad 0 0 (MQ below (va_Qv (fun Y1 => Y1 = res) (WB T D gr ad) (fun q => N0 ≤ q)) [.ref (ad 6 0 0), .int a1, .int a2].toArray s 0 0 (fun q => N0 ≤ q)) Y 0 [(0, .ref (ad 6 0 0)), (1, .int a1), (2, .int a2)] [] := by
  unfold X10_passRun at h
  exact w_X10_passRun_b0 C hrt hG   _ _ h
end
set_option maxRecDepth 100000 in
set_option maxHeartbeats 4000000 in
theorem c_X10_passRun {l : Launch} {N0 : Nat} {T : Nat → ClassId} {D : va_G} {gr : List (Nat × Nat)} {ad : Nat → Nat → Nat → Nat} {Y : Mem} {a1 : Int32} {a2 : Int32} {res : Mem} (hG : ∀ q ∈ [(6, 0), (5, 0)], q ∈ gr) (h : X10_passRun Y a1 a2 = some res) : CV l yX10_passRun wsX10_passRun (Rm 0) N0 T D gr ad Y [.ref (ad 6 0 0), .int a1, .int a2] (fun Y1 => Y1 = res) :=
  fw_body (by decide +kernel) rfl (Nat.le_of_ble_eq_true rfl) (fun p e s m below meth c C hrt => w_X10_passRun C hrt hG  h)
