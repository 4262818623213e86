section
variable {p : Program} {l : Launch} {e : Env} {s : State} {m : MethodId} {below : List Frame} {meth : Method} {c : Code} {N0 : Nat} {T : Nat → ClassId} {D : va_G} {gr : List (Nat × Nat)} {ad : Nat → Nat → Nat → Nat}
set_option maxRecDepth 100000 in
set_option maxHeartbeats 4000000 in
theorem w_X12_putMark_b70 {a1 : Int32} (C : Cx p s m [.ref (ad 10 0 0), .int a1].toArray meth c cX12_putMark 2 wsX12_putMark RX12 N0 T D gr ad) (hrt : meth.sig.returnType = none) (hG : ∀ q ∈ [(10, 0)], q ∈ gr) {res : Mem} (Y : Mem) (h : X12_putMark_b70 a1  Y = some res) : FW p l e (Rm 1) s m [.ref (ad 10 0 0), .int a1].toArray below meth c 2 N0 T D gr ad 0 0 (MQ below (va_Qv (fun Y1 => Y1 = res) (WB T D gr ad) (fun q => N0 ≤ q)) [.ref (ad 10 0 0), .int a1].toArray s 0 0 (fun q => N0 ≤ q)) Y 70 [(0, .ref (ad 10 0 0)), (1, .int a1)] [] := by
  unfold X12_putMark_b70 at h
  refine fw_aload_n C dX12_putMark_70 rfl 0 rfl ?_
  refine fw_bipush C dX12_putMark_71 (v := 48) rfl ?_
  refine fw_aload_n C dX12_putMark_73 rfl 0 rfl ?_
  refine fw_iload_n C dX12_putMark_74 rfl 1 rfl ?_
  refine fw_bipush C dX12_putMark_75 (v := 18) rfl ?_
  obtain ⟨r11, q12, h⟩ := bd1_some h
  refine fw_callVi C (ci := 10) (Cn := RX12) (Tc := TX12) (N := 19) (As := [.int a1, .int 18]) (c_X12_of (gac (hG _ (List.mem_of_getElem? (i := 0) rfl)) ga0) q12) (cwV 2 (cx_ts C) gX12_putMark_X12_of rfl rfl rfl (by decide +kernel) ⟨Nat.le_of_ble_eq_true rfl, Nat.le_of_ble_eq_true rfl⟩) rfl (hG _ (List.mem_of_getElem? (i := 0) rfl)) (of10_0 _) (ce10 T ad _ _) rfl (st := [.int 48, .ref (ad 10 0 0)]) rfl (Nat.le_of_ble_eq_true rfl) ⟨Nat.le_refl 0, Nat.le_refl 0⟩ dX12_putMark_77 (pp2 ?_)
  refine fw_bipush C dX12_putMark_80 (v := 10) rfl ?_
  refine fw_irem C dX12_putMark_82 (by decide) ?_
  refine fw_iadd C dX12_putMark_83 ?_
  obtain ⟨Y15, q14, h⟩ := bd1_some h
  refine fw_callVv C (ci := 10) (Cn := RX12) (Tc := TX12) (N := 19) (As := [.int (48 + (r11 - r11 / 10 * 10))]) (c_X12_put (gac (hG _ (List.mem_of_getElem? (i := 0) rfl)) ga0) q14) (cwV 1 (cx_ts C) gX12_putMark_X12_put rfl rfl rfl (by decide +kernel) ⟨Nat.le_of_ble_eq_true rfl, Nat.le_of_ble_eq_true rfl⟩) rfl (hG _ (List.mem_of_getElem? (i := 0) rfl)) (of10_0 _) (ce10 T ad _ _) rfl (st := []) rfl (Nat.le_of_ble_eq_true rfl) ⟨Nat.le_refl 0, Nat.le_refl 0⟩ dX12_putMark_84 (ppv ?_)
  refine fw_goto C dX12_putMark_87 (tgt := 105) rfl ?_
  exact fw_vret C hrt Y15 (Option.some.inj h) (fun t ht => ht) dX12_putMark_105
set_option maxRecDepth 100000 in
set_option maxHeartbeats 4000000 in
theorem w_X12_putMark {Y : Mem} {a1 : Int32} (C : Cx p s m [.ref (ad 10 0 0), .int a1].toArray meth c cX12_putMark 2 wsX12_putMark RX12 N0 T D gr ad) (hrt : meth.sig.returnType = none) (hG : ∀ q ∈ [(10, 0)], q ∈ gr) {res : Mem} (h : X12_putMark Y a1 = some res) : FW p l e (Rm 1) s m [.ref (ad 10 0 0), .int a1].toArray below meth c 2 N0 T D gr ad 0 0 (MQ below (va_Qv (fun Y1 => Y1 = res) (WB T D gr ad) (fun q => N0 ≤ q)) [.ref (ad 10 0 0), .int a1].toArray s 0 0 (fun q => N0 ≤ q)) Y 0 [(0, .ref (ad 10 0 0)), (1, .int a1)] [] := by
  unfold X12_putMark at h
  refine fw_aload_n C dX12_putMark_0 rfl 0 rfl ?_
  refine fw_iload_n C dX12_putMark_1 rfl 1 rfl ?_
  refine fw_bipush C dX12_putMark_2 (v := 17) rfl ?_
  obtain ⟨r1, q2, h⟩ := bd1_some h
  refine fw_callVi C (ci := 10) (Cn := RX12) (Tc := TX12) (N := 19) (As := [.int a1, .int 17]) (c_X12_of (gac (hG _ (List.mem_of_getElem? (i := 0) rfl)) ga0) q2) (cwV 2 (cx_ts C) gX12_putMark_X12_of rfl rfl rfl (by decide +kernel) ⟨Nat.le_of_ble_eq_true rfl, Nat.le_of_ble_eq_true rfl⟩) rfl (hG _ (List.mem_of_getElem? (i := 0) rfl)) (of10_0 _) (ce10 T ad _ _) rfl (st := []) rfl (Nat.le_of_ble_eq_true rfl) ⟨Nat.le_refl 0, Nat.le_refl 0⟩ dX12_putMark_4 (pp2 ?_)
  by_cases c3 : r1 = 0
  · have h := ite_t c3 h
    refine fw_tableIn C dX12_putMark_7 (by rw [c3]; decide +kernel) (by rw [c3]; decide +kernel) (off := 25) (by rw [c3]; decide +kernel) (tgt := 32) rfl ?_
    refine fw_aload_n C dX12_putMark_32 rfl 0 rfl ?_
    refine fw_bipush C dX12_putMark_33 (v := 46) rfl ?_
    obtain ⟨Y6, q5, h⟩ := bd1_some h
    refine fw_callVv C (ci := 10) (Cn := RX12) (Tc := TX12) (N := 19) (As := [.int 46]) (c_X12_put (gac (hG _ (List.mem_of_getElem? (i := 0) rfl)) ga0) q5) (cwV 1 (cx_ts C) gX12_putMark_X12_put rfl rfl rfl (by decide +kernel) ⟨Nat.le_of_ble_eq_true rfl, Nat.le_of_ble_eq_true rfl⟩) rfl (hG _ (List.mem_of_getElem? (i := 0) rfl)) (of10_0 _) (ce10 T ad _ _) rfl (st := []) rfl (Nat.le_of_ble_eq_true rfl) ⟨Nat.le_refl 0, Nat.le_refl 0⟩ dX12_putMark_35 (ppv ?_)
    refine fw_goto C dX12_putMark_38 (tgt := 105) rfl ?_
    exact fw_vret C hrt Y6 (Option.some.inj h) (fun t ht => ht) dX12_putMark_105
  · have h := ite_f c3 h
    by_cases c7 : r1 = 1
    · have h := ite_t c7 h
      refine fw_tableIn C dX12_putMark_7 (by rw [c7]; decide +kernel) (by rw [c7]; decide +kernel) (off := 34) (by rw [c7]; decide +kernel) (tgt := 41) rfl ?_
      refine fw_aload_n C dX12_putMark_41 rfl 0 rfl ?_
      refine fw_iload_n C dX12_putMark_42 rfl 1 rfl ?_
      refine fw_bipush C dX12_putMark_43 (v := 18) rfl ?_
      obtain ⟨r8, q9, h⟩ := bd1_some h
      refine fw_callVi C (ci := 10) (Cn := RX12) (Tc := TX12) (N := 19) (As := [.int a1, .int 18]) (c_X12_of (gac (hG _ (List.mem_of_getElem? (i := 0) rfl)) ga0) q9) (cwV 2 (cx_ts C) gX12_putMark_X12_of rfl rfl rfl (by decide +kernel) ⟨Nat.le_of_ble_eq_true rfl, Nat.le_of_ble_eq_true rfl⟩) rfl (hG _ (List.mem_of_getElem? (i := 0) rfl)) (of10_0 _) (ce10 T ad _ _) rfl (st := []) rfl (Nat.le_of_ble_eq_true rfl) ⟨Nat.le_refl 0, Nat.le_refl 0⟩ dX12_putMark_45 (pp2 ?_)
      refine fw_bipush C dX12_putMark_48 (v := 10) rfl ?_
      refine fw_icmp_lt C dX12_putMark_50 (tgt := 70) rfl (fun c10 => ?_) (fun c10 => ?_)
      · have h := ite_t c10 h
        exact w_X12_putMark_b70 C hrt hG   _ h
      · have h := ite_f c10 h
        refine fw_aload_n C dX12_putMark_53 rfl 0 rfl ?_
        refine fw_bipush C dX12_putMark_54 (v := 48) rfl ?_
        refine fw_aload_n C dX12_putMark_56 rfl 0 rfl ?_
        refine fw_iload_n C dX12_putMark_57 rfl 1 rfl ?_
        refine fw_bipush C dX12_putMark_58 (v := 18) rfl ?_
        obtain ⟨r16, q17, h⟩ := bd1_some h
        refine fw_callVi C (ci := 10) (Cn := RX12) (Tc := TX12) (N := 19) (As := [.int a1, .int 18]) (c_X12_of (gac (hG _ (List.mem_of_getElem? (i := 0) rfl)) ga0) q17) (cwV 2 (cx_ts C) gX12_putMark_X12_of rfl rfl rfl (by decide +kernel) ⟨Nat.le_of_ble_eq_true rfl, Nat.le_of_ble_eq_true rfl⟩) rfl (hG _ (List.mem_of_getElem? (i := 0) rfl)) (of10_0 _) (ce10 T ad _ _) rfl (st := [.int 48, .ref (ad 10 0 0)]) rfl (Nat.le_of_ble_eq_true rfl) ⟨Nat.le_refl 0, Nat.le_refl 0⟩ dX12_putMark_60 (pp2 ?_)
        refine fw_bipush C dX12_putMark_63 (v := 10) rfl ?_
        refine fw_idiv C dX12_putMark_65 (by decide) ?_
        refine fw_iadd C dX12_putMark_66 ?_
        obtain ⟨Y20, q19, h⟩ := bd1_some h
        refine fw_callVv C (ci := 10) (Cn := RX12) (Tc := TX12) (N := 19) (As := [.int (48 + (r16 / 10))]) (c_X12_put (gac (hG _ (List.mem_of_getElem? (i := 0) rfl)) ga0) q19) (cwV 1 (cx_ts C) gX12_putMark_X12_put rfl rfl rfl (by decide +kernel) ⟨Nat.le_of_ble_eq_true rfl, Nat.le_of_ble_eq_true rfl⟩) rfl (hG _ (List.mem_of_getElem? (i := 0) rfl)) (of10_0 _) (ce10 T ad _ _) rfl (st := []) rfl (Nat.le_of_ble_eq_true rfl) ⟨Nat.le_refl 0, Nat.le_refl 0⟩ dX12_putMark_67 (ppv ?_)
        exact w_X12_putMark_b70 C hrt hG   _ h
    · have h := ite_f c7 h
      by_cases c21 : r1 = 2
      · have h := ite_t c21 h
        refine fw_tableIn C dX12_putMark_7 (by rw [c21]; decide +kernel) (by rw [c21]; decide +kernel) (off := 83) (by rw [c21]; decide +kernel) (tgt := 90) rfl ?_
        refine fw_aload_n C dX12_putMark_90 rfl 0 rfl ?_
        refine fw_bipush C dX12_putMark_91 (v := 61) rfl ?_
        obtain ⟨Y24, q23, h⟩ := bd1_some h
        refine fw_callVv C (ci := 10) (Cn := RX12) (Tc := TX12) (N := 19) (As := [.int 61]) (c_X12_put (gac (hG _ (List.mem_of_getElem? (i := 0) rfl)) ga0) q23) (cwV 1 (cx_ts C) gX12_putMark_X12_put rfl rfl rfl (by decide +kernel) ⟨Nat.le_of_ble_eq_true rfl, Nat.le_of_ble_eq_true rfl⟩) rfl (hG _ (List.mem_of_getElem? (i := 0) rfl)) (of10_0 _) (ce10 T ad _ _) rfl (st := []) rfl (Nat.le_of_ble_eq_true rfl) ⟨Nat.le_refl 0, Nat.le_refl 0⟩ dX12_putMark_93 (ppv ?_)
        refine fw_goto C dX12_putMark_96 (tgt := 105) rfl ?_
        exact fw_vret C hrt Y24 (Option.some.inj h) (fun t ht => ht) dX12_putMark_105
      · have h := ite_f c21 h
        have c3 : ¬ (r1).toInt = 0 := fun q => c3 (Int32.toInt_inj.mp (by rw [q]; decide +kernel))
        have c7 : ¬ (r1).toInt = 1 := fun q => c7 (Int32.toInt_inj.mp (by rw [q]; decide +kernel))
        have c21 : ¬ (r1).toInt = 2 := fun q => c21 (Int32.toInt_inj.mp (by rw [q]; decide +kernel))
        refine fw_tableOut C dX12_putMark_7 (by omega) (tgt := 99) rfl ?_
        refine fw_aload_n C dX12_putMark_99 rfl 0 rfl ?_
        refine fw_bipush C dX12_putMark_100 (v := 42) rfl ?_
        obtain ⟨Y27, q26, h⟩ := bd1_some h
        refine fw_callVv C (ci := 10) (Cn := RX12) (Tc := TX12) (N := 19) (As := [.int 42]) (c_X12_put (gac (hG _ (List.mem_of_getElem? (i := 0) rfl)) ga0) q26) (cwV 1 (cx_ts C) gX12_putMark_X12_put rfl rfl rfl (by decide +kernel) ⟨Nat.le_of_ble_eq_true rfl, Nat.le_of_ble_eq_true rfl⟩) rfl (hG _ (List.mem_of_getElem? (i := 0) rfl)) (of10_0 _) (ce10 T ad _ _) rfl (st := []) rfl (Nat.le_of_ble_eq_true rfl) ⟨Nat.le_refl 0, Nat.le_refl 0⟩ dX12_putMark_102 (ppv ?_)
        exact fw_vret C hrt Y27 (Option.some.inj h) (fun t ht => ht) dX12_putMark_105
end
set_option maxRecDepth 100000 in
set_option maxHeartbeats 4000000 in
theorem c_X12_putMark {l : Launch} {N0 : Nat} {T : Nat → ClassId} {D : va_G} {gr : List (Nat × Nat)} {ad : Nat → Nat → Nat → Nat} {Y : Mem} {a1 : Int32} {res : Mem} (hG : ∀ q ∈ [(10, 0)], q ∈ gr) (h : X12_putMark Y a1 = some res) : CV l yX12_putMark wsX12_putMark (Rm 1) N0 T D gr ad Y [.ref (ad 10 0 0), .int a1] (fun Y1 => Y1 = res) :=
  fw_body (by decide +kernel) rfl (Nat.le_of_ble_eq_true rfl) (fun p e s m below meth c C hrt => w_X12_putMark C hrt hG  h)
theorem ly_X12_readyStep_12 : ∀ w ∈ u_ws RX12 TX12 19, w ∈ wsX12_readyStep := by decide +kernel
theorem fl_X12_readyStep_1 : Cond.fieldLink RX12 1 "RecipeSchedulerModel" "thrown" "I" ∈ wsX12_readyStep := by decide +kernel
theorem fl_X12_readyStep_51 : Cond.fieldLink RX12 51 "RecipeSchedulerModel" "queue" "[I" ∈ wsX12_readyStep := by decide +kernel
section
variable {p : Program} {l : Launch} {e : Env} {s : State} {m : MethodId} {below : List Frame} {meth : Method} {c : Code} {N0 : Nat} {T : Nat → ClassId} {D : va_G} {gr : List (Nat × Nat)} {ad : Nat → Nat → Nat → Nat}
set_option maxRecDepth 100000 in
set_option maxHeartbeats 4000000 in
theorem w_X12_readyStep {Y : Mem} {a1 : Int32} (C : Cx p s m [.ref (ad 10 0 0), .int a1].toArray meth c cX12_readyStep 2 wsX12_readyStep RX12 N0 T D gr ad) (hrt : meth.sig.returnType = (some .int)) (hG : ∀ q ∈ [(10, 0)], q ∈ gr) {res : Int32 × Mem} (h : X12_readyStep Y a1 = some res) : FW p l e (Rm 4) s m [.ref (ad 10 0 0), .int a1].toArray below meth c 2 N0 T D gr ad 0 0 (MQ below (va_Qi (fun r Y1 => (r, Y1) = res) (WB T D gr ad) (fun q => N0 ≤ q)) [.ref (ad 10 0 0), .int a1].toArray s 0 0 (fun q => N0 ≤ q)) Y 0 [(0, .ref (ad 10 0 0)), (1, .int a1)] [] := by
  unfold X12_readyStep at h
  refine fw_aload_n C dX12_readyStep_0 rfl 0 rfl ?_
  refine fw_iconst C dX12_readyStep_1 (v := 0) rfl ?_
  obtain ⟨Y1, e2, h⟩ := lt_some h
  refine fw_put C (ci := 10) (Cn := RX12) (Tc := TX12) (N := 19) (j := 9) (ty := .int) (upd (Y 10 0 0) 9 0) ly_X12_readyStep_12 rfl tyX12_ok nmX12 (hG _ (List.mem_of_getElem? (i := 0) rfl)) (of10_0 _) (ce10 T ad _ _) (by decide) (cx_ts C _ fl_X12_readyStep_1) (fun _ h => h) rfl (by decide +kernel) rfl rfl (Nat.le_of_ble_eq_true rfl) (ce10_put9 T ad _ _ _) dX12_readyStep_2 ?_
  refine fw_mem ((up_eq _ _ _ _ _ _).symm.trans e2) ?_
  refine fw_iload_n C dX12_readyStep_5 rfl 1 rfl ?_
  refine fw_iconst C dX12_readyStep_6 (v := 0) rfl ?_
  refine fw_aload_n C dX12_readyStep_7 rfl 0 rfl ?_
  obtain ⟨r3, Y5, q4, h⟩ := bd2_some h
  refine fw_callVi C (ci := 10) (Cn := RX12) (Tc := TX12) (N := 19) (As := []) (c_X12_queueReady (gac (hG _ (List.mem_of_getElem? (i := 0) rfl)) ga0) q4) (cwV 0 (cx_ts C) gX12_readyStep_X12_queueReady rfl rfl rfl (by decide +kernel) ⟨Nat.le_of_ble_eq_true rfl, Nat.le_of_ble_eq_true rfl⟩) rfl (hG _ (List.mem_of_getElem? (i := 0) rfl)) (of10_0 _) (ce10 T ad _ _) rfl (st := [.int 0, .int a1]) rfl (Nat.le_of_ble_eq_true rfl) ⟨Nat.le_refl 0, Nat.le_refl 0⟩ dX12_readyStep_8 (ppw ?_)
  refine fw_iconst C dX12_readyStep_11 (v := 1) rfl ?_
  refine fw_isub C dX12_readyStep_12 ?_
  obtain ⟨r6, q7, h⟩ := bd1_some h
  refine fw_callSi C (As := [.int a1, .int 0, .int (r3 - 1)]) (c_X12_in ga0 q7) (va_cwS 3 (cx_ts C) gX12_readyStep_X12_in rfl rfl rfl (by decide +kernel) ⟨Nat.le_of_ble_eq_true rfl, Nat.le_of_ble_eq_true rfl⟩) rfl (st := []) rfl (Nat.le_of_ble_eq_true rfl) ⟨Nat.le_refl 0, Nat.le_refl 0⟩ dX12_readyStep_13 (pp2 ?_)
  refine fw_if_eq C dX12_readyStep_16 (tgt := 28) rfl (fun c8 => ?_) (fun c8 => ?_)
  · have h := ite_t c8 h
    refine fw_iconst C dX12_readyStep_28 (v := (-1)) rfl ?_
    exact fw_iret C hrt Y5 (Option.some.inj h) (fun t ht => ht) dX12_readyStep_29
  · have h := ite_f c8 h
    refine fw_aload_n C dX12_readyStep_19 rfl 0 rfl ?_
    refine fw_get C (ci := 10) (Cn := RX12) (Tc := TX12) (N := 19) (j := 13) ly_X12_readyStep_12 rfl (hG _ (List.mem_of_getElem? (i := 0) rfl)) (of10_0 _) (ce10 T ad _ _) (by decide) (cx_ts C _ fl_X12_readyStep_51) (fun _ h => h) (v := .ref (ad 10 0 8)) rfl dX12_readyStep_20 ?_
    refine fw_iload_n C dX12_readyStep_23 rfl 1 rfl ?_
    obtain ⟨b9, h⟩ := gd_some h
    refine fw_iald2 C (hG _ (List.mem_of_getElem? (i := 0) rfl)) (of10_8 _) (ca10_8 T ad _ _) b9 (Nat.le_of_ble_eq_true rfl) dX12_readyStep_24 ?_
    refine fw_goto C dX12_readyStep_25 (tgt := 29) rfl ?_
    exact fw_iret C hrt Y5 (Option.some.inj h) (fun t ht => ht) dX12_readyStep_29
end
set_option maxRecDepth 100000 in
set_option maxHeartbeats 4000000 in
theorem c_X12_readyStep {l : Launch} {N0 : Nat} {T : Nat → ClassId} {D : va_G} {gr : List (Nat × Nat)} {ad : Nat → Nat → Nat → Nat} {Y : Mem} {a1 : Int32} {res : Int32 × Mem} (hG : ∀ q ∈ [(10, 0)], q ∈ gr) (h : X12_readyStep Y a1 = some res) : CI l yX12_readyStep wsX12_readyStep (Rm 4) N0 T D gr ad Y [.ref (ad 10 0 0), .int a1] (fun r Y1 => (r, Y1) = res) :=
  fw_body (by decide +kernel) rfl (Nat.le_of_ble_eq_true rfl) (fun p e s m below meth c C hrt => w_X12_readyStep C hrt hG  h)
section
variable {p : Program} {l : Launch} {e : Env} {s : State} {m : MethodId} {below : List Frame} {meth : Method} {c : Code} {N0 : Nat} {T : Nat → ClassId} {D : va_G} {gr : List (Nat × Nat)} {ad : Nat → Nat → Nat → Nat}
set_option maxRecDepth 100000 in
set_option maxHeartbeats 4000000 in
theorem w_X12_redo_b33 {a1 : Int32} (C : Cx p s m [.ref (ad 10 0 0), .int a1].toArray meth c cX12_redo 3 wsX12_redo RX12 N0 T D gr ad) (hrt : meth.sig.returnType = (some .int)) (hG : ∀ q ∈ [(10, 0)], q ∈ gr) {res : Int32 × Mem} (Y : Mem) (s0 : Int32) (s1 : Int32) (h : X12_redo_b33 a1  Y s0 s1 = some res) : FW p l e (Rm 5) s m [.ref (ad 10 0 0), .int a1].toArray below meth c 3 N0 T D gr ad 0 0 (MQ below (va_Qi (fun r Y1 => (r, Y1) = res) (WB T D gr ad) (fun q => N0 ≤ q)) [.ref (ad 10 0 0), .int a1].toArray s 0 0 (fun q => N0 ≤ q)) Y 33 [(0, .ref (ad 10 0 0)), (1, .int a1)] [.int s0, .int s1, .ref (ad 10 0 0)] := by
  unfold X12_redo_b33 at h
  refine fw_iconst C dX12_redo_33 (v := 0) rfl ?_
  obtain ⟨r5, Y7, q6, h⟩ := bd2_some h
  refine fw_callVi C (ci := 10) (Cn := RX12) (Tc := TX12) (N := 19) (As := [.int s1, .int s0, .int 0]) (c_X12_fails (gac (hG _ (List.mem_of_getElem? (i := 0) rfl)) ga0) q6) (cwV 3 (cx_ts C) gX12_redo_X12_fails rfl rfl rfl (by decide +kernel) ⟨Nat.le_of_ble_eq_true rfl, Nat.le_of_ble_eq_true rfl⟩) rfl (hG _ (List.mem_of_getElem? (i := 0) rfl)) (of10_0 _) (ce10 T ad _ _) rfl (st := []) rfl (Nat.le_of_ble_eq_true rfl) ⟨Nat.le_refl 0, Nat.le_refl 0⟩ dX12_redo_34 (ppw ?_)
  refine fw_if_eq C dX12_redo_37 (tgt := 42) rfl (fun c8 => ?_) (fun c8 => ?_)
  · have h := ite_t c8 h
    refine fw_aload_n C dX12_redo_42 rfl 0 rfl ?_
    refine fw_iconst C dX12_redo_43 (v := 0) rfl ?_
    obtain ⟨Y11, q10, h⟩ := bd1_some h
    refine fw_callVv C (ci := 10) (Cn := RX12) (Tc := TX12) (N := 19) (As := [.int 0]) (c_X12_remember (gac (hG _ (List.mem_of_getElem? (i := 0) rfl)) ga0) q10) (cwV 1 (cx_ts C) gX12_redo_X12_remember rfl rfl rfl (by decide +kernel) ⟨Nat.le_of_ble_eq_true rfl, Nat.le_of_ble_eq_true rfl⟩) rfl (hG _ (List.mem_of_getElem? (i := 0) rfl)) (of10_0 _) (ce10 T ad _ _) rfl (st := []) rfl (Nat.le_of_ble_eq_true rfl) ⟨Nat.le_refl 0, Nat.le_refl 0⟩ dX12_redo_44 (ppv ?_)
    refine fw_aload_n C dX12_redo_47 rfl 0 rfl ?_
    refine fw_iload_n C dX12_redo_48 rfl 1 rfl ?_
    obtain ⟨r12, Y14, q13, h⟩ := bd2_some h
    refine fw_callVi C (ci := 10) (Cn := RX12) (Tc := TX12) (N := 19) (As := [.int a1]) (c_X12_redoIt (gac (hG _ (List.mem_of_getElem? (i := 0) rfl)) ga0) q13) (cwV 1 (cx_ts C) gX12_redo_X12_redoIt rfl rfl rfl (by decide +kernel) ⟨Nat.le_of_ble_eq_true rfl, Nat.le_of_ble_eq_true rfl⟩) rfl (hG _ (List.mem_of_getElem? (i := 0) rfl)) (of10_0 _) (ce10 T ad _ _) rfl (st := []) rfl (Nat.le_of_ble_eq_true rfl) ⟨Nat.le_refl 0, Nat.le_refl 0⟩ dX12_redo_49 (ppw ?_)
    exact fw_iret C hrt Y14 (Option.some.inj h) (fun t ht => ht) dX12_redo_52
  · have h := ite_f c8 h
    refine fw_iconst C dX12_redo_40 (v := 0) rfl ?_
    exact fw_iret C hrt Y7 (Option.some.inj h) (fun t ht => ht) dX12_redo_41
set_option maxRecDepth 100000 in
set_option maxHeartbeats 4000000 in
theorem w_X12_redo_b32 {a1 : Int32} (C : Cx p s m [.ref (ad 10 0 0), .int a1].toArray meth c cX12_redo 3 wsX12_redo RX12 N0 T D gr ad) (hrt : meth.sig.returnType = (some .int)) (hG : ∀ q ∈ [(10, 0)], q ∈ gr) {res : Int32 × Mem} (Y : Mem) (s0 : Int32) (h : X12_redo_b32 a1  Y s0 = some res) : FW p l e (Rm 5) s m [.ref (ad 10 0 0), .int a1].toArray below meth c 3 N0 T D gr ad 0 0 (MQ below (va_Qi (fun r Y1 => (r, Y1) = res) (WB T D gr ad) (fun q => N0 ≤ q)) [.ref (ad 10 0 0), .int a1].toArray s 0 0 (fun q => N0 ≤ q)) Y 32 [(0, .ref (ad 10 0 0)), (1, .int a1)] [.int s0, .ref (ad 10 0 0)] := by
  unfold X12_redo_b32 at h
  refine fw_iconst C dX12_redo_32 (v := 0) rfl ?_
  exact w_X12_redo_b33 C hrt hG   _ _ _ h
set_option maxRecDepth 100000 in
set_option maxHeartbeats 4000000 in
theorem w_X12_redo_b16 {a1 : Int32} (C : Cx p s m [.ref (ad 10 0 0), .int a1].toArray meth c cX12_redo 3 wsX12_redo RX12 N0 T D gr ad) (hrt : meth.sig.returnType = (some .int)) (hG : ∀ q ∈ [(10, 0)], q ∈ gr) {res : Int32 × Mem} (Y : Mem) (l2 : Int32) (s0 : Int32) (h : X12_redo_b16 a1  Y l2 s0 = some res) : FW p l e (Rm 5) s m [.ref (ad 10 0 0), .int a1].toArray below meth c 3 N0 T D gr ad 0 0 (MQ below (va_Qi (fun r Y1 => (r, Y1) = res) (WB T D gr ad) (fun q => N0 ≤ q)) [.ref (ad 10 0 0), .int a1].toArray s 0 0 (fun q => N0 ≤ q)) Y 16 [(2, .int l2), (0, .ref (ad 10 0 0)), (1, .int a1)] [.int s0, .ref (ad 10 0 0)] := by
  unfold X12_redo_b16 at h
  refine fw_iload_n C dX12_redo_16 rfl 0 rfl ?_
  refine fw_if_eq C dX12_redo_17 (tgt := 32) rfl (fun c4 => ?_) (fun c4 => ?_)
  · have h := ite_t c4 h
    refine fw_sub [1, 2] (L' := [(0, .ref (ad 10 0 0)), (1, .int a1)]) rfl ?_
    exact w_X12_redo_b32 C hrt hG   _ _ h
  · have h := ite_f c4 h
    refine fw_aload_n C dX12_redo_20 rfl 1 rfl ?_
    refine fw_iload_n C dX12_redo_21 rfl 2 rfl ?_
    obtain ⟨r15, q16, h⟩ := bd1_some h
    refine fw_callVi C (ci := 10) (Cn := RX12) (Tc := TX12) (N := 19) (As := [.int a1]) (c_X12_canRedo (gac (hG _ (List.mem_of_getElem? (i := 0) rfl)) ga0) q16) (cwV 1 (cx_ts C) gX12_redo_X12_canRedo rfl rfl rfl (by decide +kernel) ⟨Nat.le_of_ble_eq_true rfl, Nat.le_of_ble_eq_true rfl⟩) rfl (hG _ (List.mem_of_getElem? (i := 0) rfl)) (of10_0 _) (ce10 T ad _ _) rfl (st := [.int s0, .ref (ad 10 0 0)]) rfl (Nat.le_of_ble_eq_true rfl) ⟨Nat.le_refl 0, Nat.le_refl 0⟩ dX12_redo_22 (pp2 ?_)
    refine fw_if_ne C dX12_redo_25 (tgt := 32) rfl (fun c17 => ?_) (fun c17 => ?_)
    · have h := ite_f c17 h
      refine fw_sub [1, 2] (L' := [(0, .ref (ad 10 0 0)), (1, .int a1)]) rfl ?_
      exact w_X12_redo_b32 C hrt hG   _ _ h
    · have h := ite_t c17 h
      refine fw_iconst C dX12_redo_28 (v := 1) rfl ?_
      refine fw_goto C dX12_redo_29 (tgt := 33) rfl ?_
      refine fw_sub [1, 2] (L' := [(0, .ref (ad 10 0 0)), (1, .int a1)]) rfl ?_
      exact w_X12_redo_b33 C hrt hG   _ _ _ h
set_option maxRecDepth 100000 in
set_option maxHeartbeats 4000000 in
theorem w_X12_redo {Y : Mem} {a1 : Int32} (C : Cx p s m [.ref (ad 10 0 0), .int a1].toArray meth c cX12_redo 3 wsX12_redo RX12 N0 T D gr ad) (hrt : meth.sig.returnType = (some .int)) (hG : ∀ q ∈ [(10, 0)], q ∈ gr) {res : Int32 × Mem} (h : X12_redo Y a1 = some res) : FW p l e (Rm 5) s m [.ref (ad 10 0 0), .int a1].toArray below meth c 3 N0 T D gr ad 0 0 (MQ below (va_Qi (fun r Y1 => (r, Y1) = res) (WB T D gr ad) (fun q => N0 ≤ q)) [.ref (ad 10 0 0), .int a1].toArray s 0 0 (fun q => N0 ≤ q)) Y 0 [(0, .ref (ad 10 0 0)), (1, .int a1)] [] := by
  unfold X12_redo at h
  refine fw_aload_n C dX12_redo_0 rfl 0 rfl ?_
  refine fw_iload_n C dX12_redo_1 rfl 1 rfl ?_
  obtain ⟨r1, q2, h⟩ := bd1_some h
  refine fw_callVi C (ci := 10) (Cn := RX12) (Tc := TX12) (N := 19) (As := [.int a1]) (c_X12_isStep (gac (hG _ (List.mem_of_getElem? (i := 0) rfl)) ga0) q2) (cwV 1 (cx_ts C) gX12_redo_X12_isStep rfl rfl rfl (by decide +kernel) ⟨Nat.le_of_ble_eq_true rfl, Nat.le_of_ble_eq_true rfl⟩) rfl (hG _ (List.mem_of_getElem? (i := 0) rfl)) (of10_0 _) (ce10 T ad _ _) rfl (st := []) rfl (Nat.le_of_ble_eq_true rfl) ⟨Nat.le_refl 0, Nat.le_refl 0⟩ dX12_redo_2 (pp2 ?_)
  refine fw_istore_n C dX12_redo_5 rfl (by decide) (L' := [(2, .int r1), (0, .ref (ad 10 0 0)), (1, .int a1)]) rfl ?_
  refine fw_aload_n C dX12_redo_6 rfl 1 rfl ?_
  refine fw_iload_n C dX12_redo_7 rfl 0 rfl ?_
  refine fw_if_ne C dX12_redo_8 (tgt := 15) rfl (fun c3 => ?_) (fun c3 => ?_)
  · have h := ite_f c3 h
    refine fw_iconst C dX12_redo_15 (v := 0) rfl ?_
    exact w_X12_redo_b16 C hrt hG   _ _ _ h
  · have h := ite_t c3 h
    refine fw_iconst C dX12_redo_11 (v := 1) rfl ?_
    refine fw_goto C dX12_redo_12 (tgt := 16) rfl ?_
    exact w_X12_redo_b16 C hrt hG   _ _ _ h
end
set_option maxRecDepth 100000 in
set_option maxHeartbeats 4000000 in
theorem c_X12_redo {l : Launch} {N0 : Nat} {T : Nat → ClassId} {D : va_G} {gr : List (Nat × Nat)} {ad : Nat → Nat → Nat → Nat} {Y : Mem} {a1 : Int32} {res : Int32 × Mem} (hG : ∀ q ∈ [(10, 0)], q ∈ gr) (h : X12_redo Y a1 = some res) : CI l yX12_redo wsX12_redo (Rm 5) N0 T D gr ad Y [.ref (ad 10 0 0), .int a1] (fun r Y1 => (r, Y1) = res) :=
  fw_body (by decide +kernel) rfl (Nat.le_of_ble_eq_true rfl) (fun p e s m below meth c C hrt => w_X12_redo C hrt hG  h)
section
variable {p : Program} {l : Launch} {e : Env} {s : State} {m : MethodId} {below : List Frame} {meth : Method} {c : Code} {N0 : Nat} {T : Nat → ClassId} {D : va_G} {gr : List (Nat × Nat)} {ad : Nat → Nat → Nat → Nat}
set_option maxRecDepth 100000 in
set_option maxHeartbeats 4000000 in
theorem w_X12_remaining {Y : Mem} {a1 : Int32} (C : Cx p s m [.ref (ad 10 0 0), .int a1].toArray meth c cX12_remaining 2 wsX12_remaining RX12 N0 T D gr ad) (hrt : meth.sig.returnType = (some .int)) (hG : ∀ q ∈ [(10, 0)], q ∈ gr) {res : Int32 × Mem} (h : X12_remaining Y a1 = some res) : FW p l e (Rm 3) s m [.ref (ad 10 0 0), .int a1].toArray below meth c 2 N0 T D gr ad 0 0 (MQ below (va_Qi (fun r Y1 => (r, Y1) = res) (WB T D gr ad) (fun q => N0 ≤ q)) [.ref (ad 10 0 0), .int a1].toArray s 0 0 (fun q => N0 ≤ q)) Y 0 [(0, .ref (ad 10 0 0)), (1, .int a1)] [] := by
  unfold X12_remaining at h
  refine fw_aload_n C dX12_remaining_0 rfl 0 rfl ?_
  refine fw_iload_n C dX12_remaining_1 rfl 1 rfl ?_
  refine fw_bipush C dX12_remaining_2 (v := 18) rfl ?_
  obtain ⟨r1, Y3, q2, h⟩ := bd2_some h
  refine fw_callVi C (ci := 10) (Cn := RX12) (Tc := TX12) (N := 19) (As := [.int a1, .int 18]) (c_X12_field (gac (hG _ (List.mem_of_getElem? (i := 0) rfl)) ga0) q2) (cwV 2 (cx_ts C) gX12_remaining_X12_field rfl rfl rfl (by decide +kernel) ⟨Nat.le_of_ble_eq_true rfl, Nat.le_of_ble_eq_true rfl⟩) rfl (hG _ (List.mem_of_getElem? (i := 0) rfl)) (of10_0 _) (ce10 T ad _ _) rfl (st := []) rfl (Nat.le_of_ble_eq_true rfl) ⟨Nat.le_refl 0, Nat.le_refl 0⟩ dX12_remaining_4 (ppw ?_)
  exact fw_iret C hrt Y3 (Option.some.inj h) (fun t ht => ht) dX12_remaining_7
end
set_option maxRecDepth 100000 in
set_option maxHeartbeats 4000000 in
theorem c_X12_remaining {l : Launch} {N0 : Nat} {T : Nat → ClassId} {D : va_G} {gr : List (Nat × Nat)} {ad : Nat → Nat → Nat → Nat} {Y : Mem} {a1 : Int32} {res : Int32 × Mem} (hG : ∀ q ∈ [(10, 0)], q ∈ gr) (h : X12_remaining Y a1 = some res) : CI l yX12_remaining wsX12_remaining (Rm 3) N0 T D gr ad Y [.ref (ad 10 0 0), .int a1] (fun r Y1 => (r, Y1) = res) :=
  fw_body (by decide +kernel) rfl (Nat.le_of_ble_eq_true rfl) (fun p e s m below meth c C hrt => w_X12_remaining C hrt hG  h)
theorem ly_X12_restore_12 : ∀ w ∈ u_ws RX12 TX12 19, w ∈ wsX12_restore := by decide +kernel
theorem fl_X12_restore_21 : Cond.fieldLink RX12 21 "RecipeSchedulerModel" "undoable" "I" ∈ wsX12_restore := by decide +kernel
theorem fl_X12_restore_13 : Cond.fieldLink RX12 13 "RecipeSchedulerModel" "m" "[I" ∈ wsX12_restore := by decide +kernel
theorem fl_X12_restore_17 : Cond.fieldLink RX12 17 "RecipeSchedulerModel" "isSaved" "[Z" ∈ wsX12_restore := by decide +kernel
section
variable {p : Program} {l : Launch} {e : Env} {s : State} {m : MethodId} {below : List Frame} {meth : Method} {c : Code} {N0 : Nat} {T : Nat → ClassId} {D : va_G} {gr : List (Nat × Nat)} {ad : Nat → Nat → Nat → Nat}
set_option maxRecDepth 100000 in
set_option maxHeartbeats 4000000 in
theorem w_X12_restore_b35 {a1 : Int32} (C : Cx p s m [.ref (ad 10 0 0), .int a1].toArray meth c cX12_restore 3 wsX12_restore RX12 N0 T D gr ad) (hrt : meth.sig.returnType = (some .int)) (hG : ∀ q ∈ [(10, 0)], q ∈ gr) {res : Int32 × Mem} (Y : Mem) (s0 : Int32) (s1 : Int32) (h : X12_restore_b35 a1  Y s0 s1 = some res) : FW p l e (Rm 1) s m [.ref (ad 10 0 0), .int a1].toArray below meth c 3 N0 T D gr ad 0 0 (MQ below (va_Qi (fun r Y1 => (r, Y1) = res) (WB T D gr ad) (fun q => N0 ≤ q)) [.ref (ad 10 0 0), .int a1].toArray s 0 0 (fun q => N0 ≤ q)) Y 35 [(0, .ref (ad 10 0 0)), (1, .int a1)] [.int s0, .int s1, .ref (ad 10 0 0)] := by
  unfold X12_restore_b35 at h
  refine fw_iconst C dX12_restore_35 (v := 0) rfl ?_
  obtain ⟨r5, Y7, q6, h⟩ := bd2_some h
  refine fw_callVi C (ci := 10) (Cn := RX12) (Tc := TX12) (N := 19) (As := [.int s1, .int s0, .int 0]) (c_X12_fails (gac (hG _ (List.mem_of_getElem? (i := 0) rfl)) ga0) q6) (cwV 3 (cx_ts C) gX12_restore_X12_fails rfl rfl rfl (by decide +kernel) ⟨Nat.le_of_ble_eq_true rfl, Nat.le_of_ble_eq_true rfl⟩) rfl (hG _ (List.mem_of_getElem? (i := 0) rfl)) (of10_0 _) (ce10 T ad _ _) rfl (st := []) rfl (Nat.le_of_ble_eq_true rfl) ⟨Nat.le_refl 0, Nat.le_refl 0⟩ dX12_restore_36 (ppw ?_)
  refine fw_if_eq C dX12_restore_39 (tgt := 44) rfl (fun c8 => ?_) (fun c8 => ?_)
  · have h := ite_t c8 h
    refine fw_aload_n C dX12_restore_44 rfl 0 rfl ?_
    refine fw_bipush C dX12_restore_45 (v := 7) rfl ?_
    refine fw_iload_n C dX12_restore_47 rfl 1 rfl ?_
    refine fw_iadd C dX12_restore_48 ?_
    refine fw_iconst C dX12_restore_49 (v := 0) rfl ?_
    obtain ⟨Y11, q10, h⟩ := bd1_some h
    refine fw_callVv C (ci := 10) (Cn := RX12) (Tc := TX12) (N := 19) (As := [.int (7 + a1), .int 0]) (c_X12_copyBlock (gac (hG _ (List.mem_of_getElem? (i := 0) rfl)) ga0) q10) (cwV 2 (cx_ts C) gX12_restore_X12_copyBlock rfl rfl rfl (by decide +kernel) ⟨Nat.le_of_ble_eq_true rfl, Nat.le_of_ble_eq_true rfl⟩) rfl (hG _ (List.mem_of_getElem? (i := 0) rfl)) (of10_0 _) (ce10 T ad _ _) rfl (st := []) rfl (Nat.le_of_ble_eq_true rfl) ⟨Nat.le_refl 0, Nat.le_refl 0⟩ dX12_restore_50 (ppv ?_)
    refine fw_aload_n C dX12_restore_53 rfl 0 rfl ?_
    refine fw_iconst C dX12_restore_54 (v := 0) rfl ?_
    obtain ⟨Y12, e13, h⟩ := lt_some h
    refine fw_put C (ci := 10) (Cn := RX12) (Tc := TX12) (N := 19) (j := 2) (ty := .int) (upd (Y11 10 0 0) 2 0) ly_X12_restore_12 rfl tyX12_ok nmX12 (hG _ (List.mem_of_getElem? (i := 0) rfl)) (of10_0 _) (ce10 T ad _ _) (by decide) (cx_ts C _ fl_X12_restore_21) (fun _ h => h) rfl (by decide +kernel) rfl rfl (Nat.le_of_ble_eq_true rfl) (ce10_put2 T ad _ _ _) dX12_restore_55 ?_
    refine fw_mem ((up_eq _ _ _ _ _ _).symm.trans e13) ?_
    refine fw_aload_n C dX12_restore_58 rfl 0 rfl ?_
    refine fw_get C (ci := 10) (Cn := RX12) (Tc := TX12) (N := 19) (j := 0) ly_X12_restore_12 rfl (hG _ (List.mem_of_getElem? (i := 0) rfl)) (of10_0 _) (ce10 T ad _ _) (by decide) (cx_ts C _ fl_X12_restore_13) (fun _ h => h) (v := .ref (ad 10 0 1)) rfl dX12_restore_59 ?_
    refine fw_iconst C dX12_restore_62 (v := 4) rfl ?_
    obtain ⟨b14, h⟩ := gd_some h
    refine fw_iald2 C (hG _ (List.mem_of_getElem? (i := 0) rfl)) (of10_1 _) (ca10_1 T ad _ _) b14 (Nat.le_of_ble_eq_true rfl) dX12_restore_63 ?_
    exact fw_iret C hrt Y12 (Option.some.inj h) (fun t ht => ht) dX12_restore_64
  · have h := ite_f c8 h
    refine fw_iconst C dX12_restore_42 (v := 0) rfl ?_
    exact fw_iret C hrt Y7 (Option.some.inj h) (fun t ht => ht) dX12_restore_43
set_option maxRecDepth 100000 in
set_option maxHeartbeats 4000000 in
theorem w_X12_restore_b34 {a1 : Int32} (C : Cx p s m [.ref (ad 10 0 0), .int a1].toArray meth c cX12_restore 3 wsX12_restore RX12 N0 T D gr ad) (hrt : meth.sig.returnType = (some .int)) (hG : ∀ q ∈ [(10, 0)], q ∈ gr) {res : Int32 × Mem} (Y : Mem) (s0 : Int32) (h : X12_restore_b34 a1  Y s0 = some res) : FW p l e (Rm 1) s m [.ref (ad 10 0 0), .int a1].toArray below meth c 3 N0 T D gr ad 0 0 (MQ below (va_Qi (fun r Y1 => (r, Y1) = res) (WB T D gr ad) (fun q => N0 ≤ q)) [.ref (ad 10 0 0), .int a1].toArray s 0 0 (fun q => N0 ≤ q)) Y 34 [(0, .ref (ad 10 0 0)), (1, .int a1)] [.int s0, .ref (ad 10 0 0)] := by
  unfold X12_restore_b34 at h
  refine fw_iconst C dX12_restore_34 (v := 0) rfl ?_
  exact w_X12_restore_b35 C hrt hG   _ _ _ h
set_option maxRecDepth 100000 in
set_option maxHeartbeats 4000000 in
theorem w_X12_restore_b17 {a1 : Int32} (C : Cx p s m [.ref (ad 10 0 0), .int a1].toArray meth c cX12_restore 3 wsX12_restore RX12 N0 T D gr ad) (hrt : meth.sig.returnType = (some .int)) (hG : ∀ q ∈ [(10, 0)], q ∈ gr) {res : Int32 × Mem} (Y : Mem) (l2 : Int32) (s0 : Int32) (h : X12_restore_b17 a1  Y l2 s0 = some res) : FW p l e (Rm 1) s m [.ref (ad 10 0 0), .int a1].toArray below meth c 3 N0 T D gr ad 0 0 (MQ below (va_Qi (fun r Y1 => (r, Y1) = res) (WB T D gr ad) (fun q => N0 ≤ q)) [.ref (ad 10 0 0), .int a1].toArray s 0 0 (fun q => N0 ≤ q)) Y 17 [(2, .int l2), (0, .ref (ad 10 0 0)), (1, .int a1)] [.int s0, .ref (ad 10 0 0)] := by
  unfold X12_restore_b17 at h
  refine fw_iload_n C dX12_restore_17 rfl 0 rfl ?_
  refine fw_if_eq C dX12_restore_18 (tgt := 34) rfl (fun c4 => ?_) (fun c4 => ?_)
  · have h := ite_t c4 h
    refine fw_sub [1, 2] (L' := [(0, .ref (ad 10 0 0)), (1, .int a1)]) rfl ?_
    exact w_X12_restore_b34 C hrt hG   _ _ h
  · have h := ite_f c4 h
    refine fw_aload_n C dX12_restore_21 rfl 1 rfl ?_
    refine fw_get C (ci := 10) (Cn := RX12) (Tc := TX12) (N := 19) (j := 1) ly_X12_restore_12 rfl (hG _ (List.mem_of_getElem? (i := 0) rfl)) (of10_0 _) (ce10 T ad _ _) (by decide) (cx_ts C _ fl_X12_restore_17) (fun _ h => h) (v := .ref (ad 10 0 2)) rfl dX12_restore_22 ?_
    refine fw_iload_n C dX12_restore_25 rfl 2 rfl ?_
    obtain ⟨b15, h⟩ := gd_some h
    refine fw_zald2 C (hG _ (List.mem_of_getElem? (i := 0) rfl)) (of10_2 _) (ca10_2 T ad _ _) b15 (Nat.le_of_ble_eq_true rfl) dX12_restore_26 ?_
    refine fw_if_ne C dX12_restore_27 (tgt := 34) rfl (fun c16 => ?_) (fun c16 => ?_)
    · have h := ite_f c16 h
      refine fw_sub [1, 2] (L' := [(0, .ref (ad 10 0 0)), (1, .int a1)]) rfl ?_
      exact w_X12_restore_b34 C hrt hG   _ _ h
    · have h := ite_t c16 h
      refine fw_iconst C dX12_restore_30 (v := 1) rfl ?_
      refine fw_goto C dX12_restore_31 (tgt := 35) rfl ?_
      refine fw_sub [1, 2] (L' := [(0, .ref (ad 10 0 0)), (1, .int a1)]) rfl ?_
      exact w_X12_restore_b35 C hrt hG   _ _ _ h
set_option maxRecDepth 100000 in
set_option maxHeartbeats 4000000 in
theorem w_X12_restore {Y : Mem} {a1 : Int32} (C : Cx p s m [.ref (ad 10 0 0), .int a1].toArray meth c cX12_restore 3 wsX12_restore RX12 N0 T D gr ad) (hrt : meth.sig.returnType = (some .int)) (hG : ∀ q ∈ [(10, 0)], q ∈ gr) {res : Int32 × Mem} (h : X12_restore Y a1 = some res) : FW p l e (Rm 1) s m [.ref (ad 10 0 0), .int a1].toArray below meth c 3 N0 T D gr ad 0 0 (MQ below (va_Qi (fun r Y1 => (r, Y1) = res) (WB T D gr ad) (fun q => N0 ≤ q)) [.ref (ad 10 0 0), .int a1].toArray s 0 0 (fun q => N0 ≤ q)) Y 0 [(0, .ref (ad 10 0 0)), (1, .int a1)] [] := by
  unfold X12_restore at h
  refine fw_iload_n C dX12_restore_0 rfl 1 rfl ?_
  refine fw_iconst C dX12_restore_1 (v := 0) rfl ?_
  refine fw_iconst C dX12_restore_2 (v := 1) rfl ?_
  obtain ⟨r1, q2, h⟩ := bd1_some h
  refine fw_callSi C (As := [.int a1, .int 0, .int 1]) (c_X12_in ga0 q2) (va_cwS 3 (cx_ts C) gX12_restore_X12_in rfl rfl rfl (by decide +kernel) ⟨Nat.le_of_ble_eq_true rfl, Nat.le_of_ble_eq_true rfl⟩) rfl (st := []) rfl (Nat.le_of_ble_eq_true rfl) ⟨Nat.le_refl 0, Nat.le_refl 0⟩ dX12_restore_3 (pp2 ?_)
  refine fw_istore_n C dX12_restore_6 rfl (by decide) (L' := [(2, .int r1), (0, .ref (ad 10 0 0)), (1, .int a1)]) rfl ?_
  refine fw_aload_n C dX12_restore_7 rfl 1 rfl ?_
  refine fw_iload_n C dX12_restore_8 rfl 0 rfl ?_
  refine fw_if_ne C dX12_restore_9 (tgt := 16) rfl (fun c3 => ?_) (fun c3 => ?_)
  · have h := ite_f c3 h
    refine fw_iconst C dX12_restore_16 (v := 0) rfl ?_
    exact w_X12_restore_b17 C hrt hG   _ _ _ h
  · have h := ite_t c3 h
    refine fw_iconst C dX12_restore_12 (v := 1) rfl ?_
    refine fw_goto C dX12_restore_13 (tgt := 17) rfl ?_
    exact w_X12_restore_b17 C hrt hG   _ _ _ h
end
set_option maxRecDepth 100000 in
set_option maxHeartbeats 4000000 in
theorem c_X12_restore {l : Launch} {N0 : Nat} {T : Nat → ClassId} {D : va_G} {gr : List (Nat × Nat)} {ad : Nat → Nat → Nat → Nat} {Y : Mem} {a1 : Int32} {res : Int32 × Mem} (hG : ∀ q ∈ [(10, 0)], q ∈ gr) (h : X12_restore Y a1 = some res) : CI l yX12_restore wsX12_restore (Rm 1) N0 T D gr ad Y [.ref (ad 10 0 0), .int a1] (fun r Y1 => (r, Y1) = res) :=
  fw_body (by decide +kernel) rfl (Nat.le_of_ble_eq_true rfl) (fun p e s m below meth c C hrt => w_X12_restore C hrt hG  h)
section
variable {p : Program} {l : Launch} {e : Env} {s : State} {m : MethodId} {below : List Frame} {meth : Method} {c : Code} {N0 : Nat} {T : Nat → ClassId} {D : va_G} {gr : List (Nat × Nat)} {ad : Nat → Nat → Nat → Nat}
set_option maxRecDepth 100000 in
set_option maxHeartbeats 4000000 in
theorem w_X12_rootBlocker_b28 {a1 : Int32} (C : Cx p s m [.ref (ad 10 0 0), .int a1].toArray meth c cX12_rootBlocker 4 wsX12_rootBlocker RX12 N0 T D gr ad) (hrt : meth.sig.returnType = (some .int)) (hG : ∀ q ∈ [(10, 0)], q ∈ gr) {res : Int32 × Mem} : ∀ (n : Nat) (Y : Mem) (l3 : Int32) (l2 : Int32), X12_rootBlocker_b28 a1  n Y l3 l2 = some res → FW p l e (Rm 7) s m [.ref (ad 10 0 0), .int a1].toArray below meth c 4 N0 T D gr ad 0 0 (MQ below (va_Qi (fun r Y1 => (r, Y1) = res) (WB T D gr ad) (fun q => N0 ≤ q)) [.ref (ad 10 0 0), .int a1].toArray s 0 0 (fun q => N0 ≤ q)) Y 28 [(3, .int l3), (2, .int l2), (0, .ref (ad 10 0 0))] [] := by
  intro n
  induction n with
  | zero =>
    intro Y l3 l2 h
    unfold X12_rootBlocker_b28 at h
    cases h
  | succ n ih =>
    intro Y l3 l2 h
    unfold X12_rootBlocker_b28 at h
    refine fw_aload_n C dX12_rootBlocker_28 rfl 2 rfl ?_
    refine fw_iload_n C dX12_rootBlocker_29 rfl 0 rfl ?_
    obtain ⟨r8, q9, h⟩ := bd1_some h
    refine fw_callVi C (ci := 10) (Cn := RX12) (Tc := TX12) (N := 19) (As := [.int l3]) (c_X12_reasonFor (gac (hG _ (List.mem_of_getElem? (i := 0) rfl)) ga0) q9) (cwV 1 (cx_ts C) gX12_rootBlocker_X12_reasonFor rfl rfl rfl (by decide +kernel) ⟨Nat.le_of_ble_eq_true rfl, Nat.le_of_ble_eq_true rfl⟩) rfl (hG _ (List.mem_of_getElem? (i := 0) rfl)) (of10_0 _) (ce10 T ad _ _) rfl (st := []) rfl (Nat.le_of_ble_eq_true rfl) ⟨Nat.le_refl 0, Nat.le_refl 0⟩ dX12_rootBlocker_30 (pp2 ?_)
    refine fw_iconst C dX12_rootBlocker_33 (v := 2) rfl ?_
    refine fw_icmp_ne C dX12_rootBlocker_34 (tgt := 48) rfl (fun c10 => ?_) (fun c10 => ?_)
    · have h := ite_f c10 h
      refine fw_iload_n C dX12_rootBlocker_48 rfl 1 rfl ?_
      exact fw_iret C hrt Y (Option.some.inj h) (fun t ht => ht) dX12_rootBlocker_49
    · have h := ite_t c10 h
      refine fw_aload_n C dX12_rootBlocker_37 rfl 2 rfl ?_
      refine fw_iload_n C dX12_rootBlocker_38 rfl 0 rfl ?_
      obtain ⟨r11, q12, h⟩ := bd1_some h
      refine fw_callVi C (ci := 10) (Cn := RX12) (Tc := TX12) (N := 19) (As := [.int l3]) (c_X12_firstOpen (gac (hG _ (List.mem_of_getElem? (i := 0) rfl)) ga0) q12) (cwV 1 (cx_ts C) gX12_rootBlocker_X12_firstOpen rfl rfl rfl (by decide +kernel) ⟨Nat.le_of_ble_eq_true rfl, Nat.le_of_ble_eq_true rfl⟩) rfl (hG _ (List.mem_of_getElem? (i := 0) rfl)) (of10_0 _) (ce10 T ad _ _) rfl (st := []) rfl (Nat.le_of_ble_eq_true rfl) ⟨Nat.le_refl 0, Nat.le_refl 0⟩ dX12_rootBlocker_39 (pp2 ?_)
      refine fw_istore_n C dX12_rootBlocker_42 rfl (by decide) (L' := [(2, .int r11), (3, .int l3), (0, .ref (ad 10 0 0))]) rfl ?_
      refine fw_iload_n C dX12_rootBlocker_43 rfl 0 rfl ?_
      refine fw_istore_n C dX12_rootBlocker_44 rfl (by decide) (L' := [(3, .int r11), (2, .int r11), (0, .ref (ad 10 0 0))]) rfl ?_
      refine fw_goto C dX12_rootBlocker_45 (tgt := 28) rfl ?_
      exact ih _ _ _ h
set_option maxRecDepth 100000 in
set_option maxHeartbeats 4000000 in
theorem w_X12_rootBlocker_b14 {a1 : Int32} (C : Cx p s m [.ref (ad 10 0 0), .int a1].toArray meth c cX12_rootBlocker 4 wsX12_rootBlocker RX12 N0 T D gr ad) (hrt : meth.sig.returnType = (some .int)) (hG : ∀ q ∈ [(10, 0)], q ∈ gr) {res : Int32 × Mem} (Y : Mem) (s0 : Int32) (h : X12_rootBlocker_b14 a1  Y s0 = some res) : FW p l e (Rm 7) s m [.ref (ad 10 0 0), .int a1].toArray below meth c 4 N0 T D gr ad 0 0 (MQ below (va_Qi (fun r Y1 => (r, Y1) = res) (WB T D gr ad) (fun q => N0 ≤ q)) [.ref (ad 10 0 0), .int a1].toArray s 0 0 (fun q => N0 ≤ q)) Y 14 [(0, .ref (ad 10 0 0)), (1, .int a1)] [.int s0, .ref (ad 10 0 0)] := by
  unfold X12_rootBlocker_b14 at h
  refine fw_iconst C dX12_rootBlocker_14 (v := 0) rfl ?_
  refine fw_iconst C dX12_rootBlocker_15 (v := 0) rfl ?_
  obtain ⟨r4, Y6, q5, h⟩ := bd2_some h
  refine fw_callVi C (ci := 10) (Cn := RX12) (Tc := TX12) (N := 19) (As := [.int s0, .int 0, .int 0]) (c_X12_fails (gac (hG _ (List.mem_of_getElem? (i := 0) rfl)) ga0) q5) (cwV 3 (cx_ts C) gX12_rootBlocker_X12_fails rfl rfl rfl (by decide +kernel) ⟨Nat.le_of_ble_eq_true rfl, Nat.le_of_ble_eq_true rfl⟩) rfl (hG _ (List.mem_of_getElem? (i := 0) rfl)) (of10_0 _) (ce10 T ad _ _) rfl (st := []) rfl (Nat.le_of_ble_eq_true rfl) ⟨Nat.le_refl 0, Nat.le_refl 0⟩ dX12_rootBlocker_16 (ppw ?_)
  refine fw_if_eq C dX12_rootBlocker_19 (tgt := 24) rfl (fun c7 => ?_) (fun c7 => ?_)
  · have h := ite_t c7 h
    refine fw_iconst C dX12_rootBlocker_24 (v := (-1)) rfl ?_
    refine fw_istore_n C dX12_rootBlocker_25 rfl (by decide) (L' := [(2, .int ((-1))), (0, .ref (ad 10 0 0)), (1, .int a1)]) rfl ?_
    refine fw_iload_n C dX12_rootBlocker_26 rfl 2 rfl ?_
    refine fw_istore_n C dX12_rootBlocker_27 rfl (by decide) (L' := [(3, .int a1), (2, .int ((-1))), (0, .ref (ad 10 0 0)), (1, .int a1)]) rfl ?_
    refine fw_sub [0, 1, 2] (L' := [(3, .int a1), (2, .int ((-1))), (0, .ref (ad 10 0 0))]) rfl ?_
    exact w_X12_rootBlocker_b28 C hrt hG   _ _ _ _ h
  · have h := ite_f c7 h
    refine fw_iconst C dX12_rootBlocker_22 (v := 0) rfl ?_
    exact fw_iret C hrt Y6 (Option.some.inj h) (fun t ht => ht) dX12_rootBlocker_23
set_option maxRecDepth 100000 in
set_option maxHeartbeats 4000000 in
theorem w_X12_rootBlocker {Y : Mem} {a1 : Int32} (C : Cx p s m [.ref (ad 10 0 0), .int a1].toArray meth c cX12_rootBlocker 4 wsX12_rootBlocker RX12 N0 T D gr ad) (hrt : meth.sig.returnType = (some .int)) (hG : ∀ q ∈ [(10, 0)], q ∈ gr) {res : Int32 × Mem} (h : X12_rootBlocker Y a1 = some res) : FW p l e (Rm 7) s m [.ref (ad 10 0 0), .int a1].toArray below meth c 4 N0 T D gr ad 0 0 (MQ below (va_Qi (fun r Y1 => (r, Y1) = res) (WB T D gr ad) (fun q => N0 ≤ q)) [.ref (ad 10 0 0), .int a1].toArray s 0 0 (fun q => N0 ≤ q)) Y 0 [(0, .ref (ad 10 0 0)), (1, .int a1)] [] := by
  unfold X12_rootBlocker at h
  refine fw_aload_n C dX12_rootBlocker_0 rfl 0 rfl ?_
  refine fw_aload_n C dX12_rootBlocker_1 rfl 0 rfl ?_
  refine fw_iload_n C dX12_rootBlocker_2 rfl 1 rfl ?_
  obtain ⟨r1, q2, h⟩ := bd1_some h
  refine fw_callVi C (ci := 10) (Cn := RX12) (Tc := TX12) (N := 19) (As := [.int a1]) (c_X12_isStep (gac (hG _ (List.mem_of_getElem? (i := 0) rfl)) ga0) q2) (cwV 1 (cx_ts C) gX12_rootBlocker_X12_isStep rfl rfl rfl (by decide +kernel) ⟨Nat.le_of_ble_eq_true rfl, Nat.le_of_ble_eq_true rfl⟩) rfl (hG _ (List.mem_of_getElem? (i := 0) rfl)) (of10_0 _) (ce10 T ad _ _) rfl (st := [.ref (ad 10 0 0)]) rfl (Nat.le_of_ble_eq_true rfl) ⟨Nat.le_refl 0, Nat.le_refl 0⟩ dX12_rootBlocker_3 (pp2 ?_)
  refine fw_if_ne C dX12_rootBlocker_6 (tgt := 13) rfl (fun c3 => ?_) (fun c3 => ?_)
  · have h := ite_f c3 h
    refine fw_iconst C dX12_rootBlocker_13 (v := 0) rfl ?_
    exact w_X12_rootBlocker_b14 C hrt hG   _ _ h
  · have h := ite_t c3 h
    refine fw_iconst C dX12_rootBlocker_9 (v := 1) rfl ?_
    refine fw_goto C dX12_rootBlocker_10 (tgt := 14) rfl ?_
    exact w_X12_rootBlocker_b14 C hrt hG   _ _ h
end
set_option maxRecDepth 100000 in
set_option maxHeartbeats 4000000 in
theorem c_X12_rootBlocker {l : Launch} {N0 : Nat} {T : Nat → ClassId} {D : va_G} {gr : List (Nat × Nat)} {ad : Nat → Nat → Nat → Nat} {Y : Mem} {a1 : Int32} {res : Int32 × Mem} (hG : ∀ q ∈ [(10, 0)], q ∈ gr) (h : X12_rootBlocker Y a1 = some res) : CI l yX12_rootBlocker wsX12_rootBlocker (Rm 7) N0 T D gr ad Y [.ref (ad 10 0 0), .int a1] (fun r Y1 => (r, Y1) = res) :=
  fw_body (by decide +kernel) rfl (Nat.le_of_ble_eq_true rfl) (fun p e s m below meth c C hrt => w_X12_rootBlocker C hrt hG  h)
