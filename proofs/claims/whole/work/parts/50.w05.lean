theorem ly_X12_isFinished_12 : ∀ w ∈ u_ws RX12 TX12 19, w ∈ wsX12_isFinished := by decide +kernel
theorem fl_X12_isFinished_13 : Cond.fieldLink RX12 13 "RecipeSchedulerModel" "m" "[I" ∈ wsX12_isFinished := by decide +kernel
section
variable {p : Program} {l : Launch} {e : Env} {s : State} {m : MethodId} {below : List Frame} {meth : Method} {c : Code} {N0 : Nat} {T : Nat → ClassId} {D : va_G} {gr : List (Nat × Nat)} {ad : Nat → Nat → Nat → Nat}
set_option maxRecDepth 100000 in
set_option maxHeartbeats 4000000 in
theorem w_X12_isFinished {Y : Mem} (C : Cx p s m [.ref (ad 10 0 0)].toArray meth c cX12_isFinished 1 wsX12_isFinished RX12 N0 T D gr ad) (hrt : meth.sig.returnType = (some .boolean)) (hG : ∀ q ∈ [(10, 0)], q ∈ gr) {res : Int32} (h : X12_isFinished Y = some res) : FW p l e (Rm 2) s m [.ref (ad 10 0 0)].toArray below meth c 1 N0 T D gr ad 0 0 (MQ below (va_Qi (fun r Y1 => r = res ∧ Y1 = Y) (WB T D gr ad) (fun q => N0 ≤ q)) [.ref (ad 10 0 0)].toArray s 0 0 (fun q => N0 ≤ q)) Y 0 [(0, .ref (ad 10 0 0))] [] := by
  unfold X12_isFinished at h
  refine fw_aload_n C dX12_isFinished_0 rfl 0 rfl ?_
  refine fw_iconst C dX12_isFinished_1 (v := 2) rfl ?_
  obtain ⟨r1, q2, h⟩ := bd1_some h
  refine fw_callVi C (ci := 10) (Cn := RX12) (Tc := TX12) (N := 19) (As := [.int 2]) (c_X12_withStatus (gac (hG _ (List.mem_of_getElem? (i := 0) rfl)) ga0) q2) (cwV 1 (cx_ts C) gX12_isFinished_X12_withStatus rfl rfl rfl (by decide +kernel) ⟨Nat.le_of_ble_eq_true rfl, Nat.le_of_ble_eq_true rfl⟩) rfl (hG _ (List.mem_of_getElem? (i := 0) rfl)) (of10_0 _) (ce10 T ad _ _) rfl (st := []) rfl (Nat.le_of_ble_eq_true rfl) ⟨Nat.le_refl 0, Nat.le_refl 0⟩ dX12_isFinished_2 (pp2 ?_)
  refine fw_aload_n C dX12_isFinished_5 rfl 0 rfl ?_
  refine fw_get C (ci := 10) (Cn := RX12) (Tc := TX12) (N := 19) (j := 0) ly_X12_isFinished_12 rfl (hG _ (List.mem_of_getElem? (i := 0) rfl)) (of10_0 _) (ce10 T ad _ _) (by decide) (cx_ts C _ fl_X12_isFinished_13) (fun _ h => h) (v := .ref (ad 10 0 1)) rfl dX12_isFinished_6 ?_
  refine fw_bipush C dX12_isFinished_9 (v := 13) rfl ?_
  obtain ⟨b3, h⟩ := gd_some h
  refine fw_iald2 C (hG _ (List.mem_of_getElem? (i := 0) rfl)) (of10_1 _) (ca10_1 T ad _ _) b3 (Nat.le_of_ble_eq_true rfl) dX12_isFinished_11 ?_
  refine fw_icmp_ne C dX12_isFinished_12 (tgt := 19) rfl (fun c4 => ?_) (fun c4 => ?_)
  · have h := ite_f c4 h
    refine fw_iconst C dX12_isFinished_19 (v := 0) rfl ?_
    exact fw_zret C hrt (by decide) Y ⟨Option.some.inj h, rfl⟩ (fun t ht => ht) dX12_isFinished_20
  · have h := ite_t c4 h
    refine fw_iconst C dX12_isFinished_15 (v := 1) rfl ?_
    refine fw_goto C dX12_isFinished_16 (tgt := 20) rfl ?_
    exact fw_zret C hrt (by decide) Y ⟨Option.some.inj h, rfl⟩ (fun t ht => ht) dX12_isFinished_20
end
set_option maxRecDepth 100000 in
set_option maxHeartbeats 4000000 in
theorem c_X12_isFinished {l : Launch} {N0 : Nat} {T : Nat → ClassId} {D : va_G} {gr : List (Nat × Nat)} {ad : Nat → Nat → Nat → Nat} {Y : Mem} {res : Int32} (hG : ∀ q ∈ [(10, 0)], q ∈ gr) (h : X12_isFinished Y = some res) : CI l yX12_isFinished wsX12_isFinished (Rm 2) N0 T D gr ad Y [.ref (ad 10 0 0)] (fun r Y1 => r = res ∧ Y1 = Y) :=
  fw_body (by decide +kernel) rfl (Nat.le_of_ble_eq_true rfl) (fun p e s m below meth c C hrt => w_X12_isFinished C hrt hG  h)
theorem ly_X12_set_12 : ∀ w ∈ u_ws RX12 TX12 19, w ∈ wsX12_set := by decide +kernel
theorem fl_X12_set_13 : Cond.fieldLink RX12 13 "RecipeSchedulerModel" "m" "[I" ∈ wsX12_set := by decide +kernel
section
variable {p : Program} {l : Launch} {e : Env} {s : State} {m : MethodId} {below : List Frame} {meth : Method} {c : Code} {N0 : Nat} {T : Nat → ClassId} {D : va_G} {gr : List (Nat × Nat)} {ad : Nat → Nat → Nat → Nat}
set_option maxRecDepth 100000 in
set_option maxHeartbeats 4000000 in
theorem w_X12_set {Y : Mem} {a1 : Int32} {a2 : Int32} {a3 : Int32} (C : Cx p s m [.ref (ad 10 0 0), .int a1, .int a2, .int a3].toArray meth c cX12_set 4 wsX12_set RX12 N0 T D gr ad) (hrt : meth.sig.returnType = none) (hG : ∀ q ∈ [(10, 0)], q ∈ gr) {res : Mem} (h : X12_set Y a1 a2 a3 = some res) : FW p l e (Rm 0) s m [.ref (ad 10 0 0), .int a1, .int a2, .int a3].toArray below meth c 4 N0 T D gr ad 0 0 (MQ below (va_Qv (fun Y1 => Y1 = res) (WB T D gr ad) (fun q => N0 ≤ q)) [.ref (ad 10 0 0), .int a1, .int a2, .int a3].toArray s 0 0 (fun q => N0 ≤ q)) Y 0 [(0, .ref (ad 10 0 0)), (1, .int a1), (2, .int a2), (3, .int a3)] [] := by
  unfold X12_set at h
  refine fw_aload_n C dX12_set_0 rfl 0 rfl ?_
  refine fw_get C (ci := 10) (Cn := RX12) (Tc := TX12) (N := 19) (j := 0) ly_X12_set_12 rfl (hG _ (List.mem_of_getElem? (i := 0) rfl)) (of10_0 _) (ce10 T ad _ _) (by decide) (cx_ts C _ fl_X12_set_13) (fun _ h => h) (v := .ref (ad 10 0 1)) rfl dX12_set_1 ?_
  refine fw_bipush C dX12_set_4 (v := 46) rfl ?_
  refine fw_iload_n C dX12_set_6 rfl 1 rfl ?_
  refine fw_bipush C dX12_set_7 (v := 24) rfl ?_
  refine fw_imul C dX12_set_9 ?_
  refine fw_iadd C dX12_set_10 ?_
  refine fw_iload_n C dX12_set_11 rfl 2 rfl ?_
  refine fw_iadd C dX12_set_12 ?_
  refine fw_iload_n C dX12_set_13 rfl 3 rfl ?_
  obtain ⟨b1, h⟩ := gd_some h
  obtain ⟨Y2, e3, h⟩ := lt_some h
  refine fw_iast2 C (hG _ (List.mem_of_getElem? (i := 0) rfl)) (of10_1 _) (ca10_1 T ad _) b1 (Nat.le_of_ble_eq_true rfl) dX12_set_14 ?_
  refine fw_mem e3 ?_
  exact fw_vret C hrt Y2 (Option.some.inj h) (fun t ht => ht) dX12_set_15
end
set_option maxRecDepth 100000 in
set_option maxHeartbeats 4000000 in
theorem c_X12_set {l : Launch} {N0 : Nat} {T : Nat → ClassId} {D : va_G} {gr : List (Nat × Nat)} {ad : Nat → Nat → Nat → Nat} {Y : Mem} {a1 : Int32} {a2 : Int32} {a3 : Int32} {res : Mem} (hG : ∀ q ∈ [(10, 0)], q ∈ gr) (h : X12_set Y a1 a2 a3 = some res) : CV l yX12_set wsX12_set (Rm 0) N0 T D gr ad Y [.ref (ad 10 0 0), .int a1, .int a2, .int a3] (fun Y1 => Y1 = res) :=
  fw_body (by decide +kernel) rfl (Nat.le_of_ble_eq_true rfl) (fun p e s m below meth c C hrt => w_X12_set C hrt hG  h)
theorem ly_X12_work_12 : ∀ w ∈ u_ws RX12 TX12 19, w ∈ wsX12_work := by decide +kernel
theorem fl_X12_work_13 : Cond.fieldLink RX12 13 "RecipeSchedulerModel" "m" "[I" ∈ wsX12_work := by decide +kernel
section
variable {p : Program} {l : Launch} {e : Env} {s : State} {m : MethodId} {below : List Frame} {meth : Method} {c : Code} {N0 : Nat} {T : Nat → ClassId} {D : va_G} {gr : List (Nat × Nat)} {ad : Nat → Nat → Nat → Nat}
set_option maxRecDepth 100000 in
set_option maxHeartbeats 4000000 in
theorem w_X12_work {Y : Mem} {a1 : Int32} (C : Cx p s m [.ref (ad 10 0 0), .int a1].toArray meth c cX12_work 2 wsX12_work RX12 N0 T D gr ad) (hrt : meth.sig.returnType = none) (hG : ∀ q ∈ [(10, 0)], q ∈ gr) {res : Mem} (h : X12_work Y a1 = some res) : FW p l e (Rm 1) s m [.ref (ad 10 0 0), .int a1].toArray below meth c 2 N0 T D gr ad 0 0 (MQ below (va_Qv (fun Y1 => Y1 = res) (WB T D gr ad) (fun q => N0 ≤ q)) [.ref (ad 10 0 0), .int a1].toArray s 0 0 (fun q => N0 ≤ q)) Y 0 [(0, .ref (ad 10 0 0)), (1, .int a1)] [] := by
  unfold X12_work at h
  refine fw_aload_n C dX12_work_0 rfl 0 rfl ?_
  refine fw_iload_n C dX12_work_1 rfl 1 rfl ?_
  refine fw_bipush C dX12_work_2 (v := 23) rfl ?_
  refine fw_iconst C dX12_work_4 (v := 0) rfl ?_
  obtain ⟨Y3, q2, h⟩ := bd1_some h
  refine fw_callVv C (ci := 10) (Cn := RX12) (Tc := TX12) (N := 19) (As := [.int a1, .int 23, .int 0]) (c_X12_set (gac (hG _ (List.mem_of_getElem? (i := 0) rfl)) ga0) q2) (cwV 3 (cx_ts C) gX12_work_X12_set rfl rfl rfl (by decide +kernel) ⟨Nat.le_of_ble_eq_true rfl, Nat.le_of_ble_eq_true rfl⟩) rfl (hG _ (List.mem_of_getElem? (i := 0) rfl)) (of10_0 _) (ce10 T ad _ _) rfl (st := []) rfl (Nat.le_of_ble_eq_true rfl) ⟨Nat.le_refl 0, Nat.le_refl 0⟩ dX12_work_5 (ppv ?_)
  refine fw_aload_n C dX12_work_8 rfl 0 rfl ?_
  refine fw_iload_n C dX12_work_9 rfl 1 rfl ?_
  refine fw_bipush C dX12_work_10 (v := 17) rfl ?_
  obtain ⟨r4, q5, h⟩ := bd1_some h
  refine fw_callVi C (ci := 10) (Cn := RX12) (Tc := TX12) (N := 19) (As := [.int a1, .int 17]) (c_X12_of (gac (hG _ (List.mem_of_getElem? (i := 0) rfl)) ga0) q5) (cwV 2 (cx_ts C) gX12_work_X12_of rfl rfl rfl (by decide +kernel) ⟨Nat.le_of_ble_eq_true rfl, Nat.le_of_ble_eq_true rfl⟩) rfl (hG _ (List.mem_of_getElem? (i := 0) rfl)) (of10_0 _) (ce10 T ad _ _) rfl (st := []) rfl (Nat.le_of_ble_eq_true rfl) ⟨Nat.le_refl 0, Nat.le_refl 0⟩ dX12_work_12 (pp2 ?_)
  refine fw_iconst C dX12_work_15 (v := 1) rfl ?_
  refine fw_icmp_eq C dX12_work_16 (tgt := 20) rfl (fun c6 => ?_) (fun c6 => ?_)
  · have h := ite_t c6 h
    refine fw_aload_n C dX12_work_20 rfl 0 rfl ?_
    refine fw_get C (ci := 10) (Cn := RX12) (Tc := TX12) (N := 19) (j := 0) ly_X12_work_12 rfl (hG _ (List.mem_of_getElem? (i := 0) rfl)) (of10_0 _) (ce10 T ad _ _) (by decide) (cx_ts C _ fl_X12_work_13) (fun _ h => h) (v := .ref (ad 10 0 1)) rfl dX12_work_21 ?_
    refine fw_bipush C dX12_work_24 (v := 10) rfl ?_
    refine fw_dup2 C dX12_work_26 rfl rfl ?_
    obtain ⟨b7, h⟩ := gd_some h
    refine fw_iald2 C (hG _ (List.mem_of_getElem? (i := 0) rfl)) (of10_1 _) (ca10_1 T ad _ _) b7 (Nat.le_of_ble_eq_true rfl) dX12_work_27 ?_
    refine fw_iconst C dX12_work_28 (v := 1) rfl ?_
    refine fw_aload_n C dX12_work_29 rfl 0 rfl ?_
    refine fw_iload_n C dX12_work_30 rfl 1 rfl ?_
    refine fw_bipush C dX12_work_31 (v := 11) rfl ?_
    obtain ⟨r8, q9, h⟩ := bd1_some h
    refine fw_callVi C (ci := 10) (Cn := RX12) (Tc := TX12) (N := 19) (As := [.int a1, .int 11]) (c_X12_of (gac (hG _ (List.mem_of_getElem? (i := 0) rfl)) ga0) q9) (cwV 2 (cx_ts C) gX12_work_X12_of rfl rfl rfl (by decide +kernel) ⟨Nat.le_of_ble_eq_true rfl, Nat.le_of_ble_eq_true rfl⟩) rfl (hG _ (List.mem_of_getElem? (i := 0) rfl)) (of10_0 _) (ce10 T ad _ _) rfl (st := [.int 1, .int (Y3 10 0 1 (ix 10)), .int 10, .ref (ad 10 0 1)]) rfl (Nat.le_of_ble_eq_true rfl) ⟨Nat.le_refl 0, Nat.le_refl 0⟩ dX12_work_33 (pp2 ?_)
    refine fw_isub C dX12_work_36 ?_
    refine fw_iadd C dX12_work_37 ?_
    obtain ⟨Y10, e11, h⟩ := lt_some h
    refine fw_iast2 C (hG _ (List.mem_of_getElem? (i := 0) rfl)) (of10_1 _) (ca10_1 T ad _) b7 (Nat.le_of_ble_eq_true rfl) dX12_work_38 ?_
    refine fw_mem e11 ?_
    refine fw_aload_n C dX12_work_39 rfl 0 rfl ?_
    refine fw_iload_n C dX12_work_40 rfl 1 rfl ?_
    refine fw_bipush C dX12_work_41 (v := 18) rfl ?_
    refine fw_aload_n C dX12_work_43 rfl 0 rfl ?_
    refine fw_iload_n C dX12_work_44 rfl 1 rfl ?_
    refine fw_bipush C dX12_work_45 (v := 18) rfl ?_
    obtain ⟨r12, q13, h⟩ := bd1_some h
    refine fw_callVi C (ci := 10) (Cn := RX12) (Tc := TX12) (N := 19) (As := [.int a1, .int 18]) (c_X12_of (gac (hG _ (List.mem_of_getElem? (i := 0) rfl)) ga0) q13) (cwV 2 (cx_ts C) gX12_work_X12_of rfl rfl rfl (by decide +kernel) ⟨Nat.le_of_ble_eq_true rfl, Nat.le_of_ble_eq_true rfl⟩) rfl (hG _ (List.mem_of_getElem? (i := 0) rfl)) (of10_0 _) (ce10 T ad _ _) rfl (st := [.int 18, .int a1, .ref (ad 10 0 0)]) rfl (Nat.le_of_ble_eq_true rfl) ⟨Nat.le_refl 0, Nat.le_refl 0⟩ dX12_work_47 (pp2 ?_)
    refine fw_iconst C dX12_work_50 (v := 1) rfl ?_
    refine fw_isub C dX12_work_51 ?_
    obtain ⟨Y16, q15, h⟩ := bd1_some h
    refine fw_callVv C (ci := 10) (Cn := RX12) (Tc := TX12) (N := 19) (As := [.int a1, .int 18, .int (r12 - 1)]) (c_X12_set (gac (hG _ (List.mem_of_getElem? (i := 0) rfl)) ga0) q15) (cwV 3 (cx_ts C) gX12_work_X12_set rfl rfl rfl (by decide +kernel) ⟨Nat.le_of_ble_eq_true rfl, Nat.le_of_ble_eq_true rfl⟩) rfl (hG _ (List.mem_of_getElem? (i := 0) rfl)) (of10_0 _) (ce10 T ad _ _) rfl (st := []) rfl (Nat.le_of_ble_eq_true rfl) ⟨Nat.le_refl 0, Nat.le_refl 0⟩ dX12_work_52 (ppv ?_)
    refine fw_aload_n C dX12_work_55 rfl 0 rfl ?_
    refine fw_iload_n C dX12_work_56 rfl 1 rfl ?_
    refine fw_bipush C dX12_work_57 (v := 18) rfl ?_
    obtain ⟨r17, q18, h⟩ := bd1_some h
    refine fw_callVi C (ci := 10) (Cn := RX12) (Tc := TX12) (N := 19) (As := [.int a1, .int 18]) (c_X12_of (gac (hG _ (List.mem_of_getElem? (i := 0) rfl)) ga0) q18) (cwV 2 (cx_ts C) gX12_work_X12_of rfl rfl rfl (by decide +kernel) ⟨Nat.le_of_ble_eq_true rfl, Nat.le_of_ble_eq_true rfl⟩) rfl (hG _ (List.mem_of_getElem? (i := 0) rfl)) (of10_0 _) (ce10 T ad _ _) rfl (st := []) rfl (Nat.le_of_ble_eq_true rfl) ⟨Nat.le_refl 0, Nat.le_refl 0⟩ dX12_work_59 (pp2 ?_)
    refine fw_if_le C dX12_work_62 (tgt := 66) rfl (fun c19 => ?_) (fun c19 => ?_)
    · have h := ite_t c19 h
      refine fw_aload_n C dX12_work_66 rfl 0 rfl ?_
      refine fw_iload_n C dX12_work_67 rfl 1 rfl ?_
      refine fw_bipush C dX12_work_68 (v := 17) rfl ?_
      refine fw_iconst C dX12_work_70 (v := 2) rfl ?_
      obtain ⟨Y22, q21, h⟩ := bd1_some h
      refine fw_callVv C (ci := 10) (Cn := RX12) (Tc := TX12) (N := 19) (As := [.int a1, .int 17, .int 2]) (c_X12_set (gac (hG _ (List.mem_of_getElem? (i := 0) rfl)) ga0) q21) (cwV 3 (cx_ts C) gX12_work_X12_set rfl rfl rfl (by decide +kernel) ⟨Nat.le_of_ble_eq_true rfl, Nat.le_of_ble_eq_true rfl⟩) rfl (hG _ (List.mem_of_getElem? (i := 0) rfl)) (of10_0 _) (ce10 T ad _ _) rfl (st := []) rfl (Nat.le_of_ble_eq_true rfl) ⟨Nat.le_refl 0, Nat.le_refl 0⟩ dX12_work_71 (ppv ?_)
      refine fw_aload_n C dX12_work_74 rfl 0 rfl ?_
      refine fw_iload_n C dX12_work_75 rfl 1 rfl ?_
      refine fw_bipush C dX12_work_76 (v := 19) rfl ?_
      refine fw_iconst C dX12_work_78 (v := 0) rfl ?_
      obtain ⟨Y25, q24, h⟩ := bd1_some h
      refine fw_callVv C (ci := 10) (Cn := RX12) (Tc := TX12) (N := 19) (As := [.int a1, .int 19, .int 0]) (c_X12_set (gac (hG _ (List.mem_of_getElem? (i := 0) rfl)) ga0) q24) (cwV 3 (cx_ts C) gX12_work_X12_set rfl rfl rfl (by decide +kernel) ⟨Nat.le_of_ble_eq_true rfl, Nat.le_of_ble_eq_true rfl⟩) rfl (hG _ (List.mem_of_getElem? (i := 0) rfl)) (of10_0 _) (ce10 T ad _ _) rfl (st := []) rfl (Nat.le_of_ble_eq_true rfl) ⟨Nat.le_refl 0, Nat.le_refl 0⟩ dX12_work_79 (ppv ?_)
      refine fw_aload_n C dX12_work_82 rfl 0 rfl ?_
      refine fw_iload_n C dX12_work_83 rfl 1 rfl ?_
      refine fw_bipush C dX12_work_84 (v := 21) rfl ?_
      refine fw_iconst C dX12_work_86 (v := 1) rfl ?_
      obtain ⟨Y28, q27, h⟩ := bd1_some h
      refine fw_callVv C (ci := 10) (Cn := RX12) (Tc := TX12) (N := 19) (As := [.int a1, .int 21, .int 1]) (c_X12_set (gac (hG _ (List.mem_of_getElem? (i := 0) rfl)) ga0) q27) (cwV 3 (cx_ts C) gX12_work_X12_set rfl rfl rfl (by decide +kernel) ⟨Nat.le_of_ble_eq_true rfl, Nat.le_of_ble_eq_true rfl⟩) rfl (hG _ (List.mem_of_getElem? (i := 0) rfl)) (of10_0 _) (ce10 T ad _ _) rfl (st := []) rfl (Nat.le_of_ble_eq_true rfl) ⟨Nat.le_refl 0, Nat.le_refl 0⟩ dX12_work_87 (ppv ?_)
      refine fw_aload_n C dX12_work_90 rfl 0 rfl ?_
      refine fw_iload_n C dX12_work_91 rfl 1 rfl ?_
      refine fw_bipush C dX12_work_92 (v := 23) rfl ?_
      refine fw_iconst C dX12_work_94 (v := 1) rfl ?_
      obtain ⟨Y31, q30, h⟩ := bd1_some h
      refine fw_callVv C (ci := 10) (Cn := RX12) (Tc := TX12) (N := 19) (As := [.int a1, .int 23, .int 1]) (c_X12_set (gac (hG _ (List.mem_of_getElem? (i := 0) rfl)) ga0) q30) (cwV 3 (cx_ts C) gX12_work_X12_set rfl rfl rfl (by decide +kernel) ⟨Nat.le_of_ble_eq_true rfl, Nat.le_of_ble_eq_true rfl⟩) rfl (hG _ (List.mem_of_getElem? (i := 0) rfl)) (of10_0 _) (ce10 T ad _ _) rfl (st := []) rfl (Nat.le_of_ble_eq_true rfl) ⟨Nat.le_refl 0, Nat.le_refl 0⟩ dX12_work_95 (ppv ?_)
      refine fw_aload_n C dX12_work_98 rfl 0 rfl ?_
      refine fw_get C (ci := 10) (Cn := RX12) (Tc := TX12) (N := 19) (j := 0) ly_X12_work_12 rfl (hG _ (List.mem_of_getElem? (i := 0) rfl)) (of10_0 _) (ce10 T ad _ _) (by decide) (cx_ts C _ fl_X12_work_13) (fun _ h => h) (v := .ref (ad 10 0 1)) rfl dX12_work_99 ?_
      refine fw_bipush C dX12_work_102 (v := 8) rfl ?_
      refine fw_dup2 C dX12_work_104 rfl rfl ?_
      obtain ⟨b32, h⟩ := gd_some h
      refine fw_iald2 C (hG _ (List.mem_of_getElem? (i := 0) rfl)) (of10_1 _) (ca10_1 T ad _ _) b32 (Nat.le_of_ble_eq_true rfl) dX12_work_105 ?_
      refine fw_iconst C dX12_work_106 (v := 1) rfl ?_
      refine fw_iadd C dX12_work_107 ?_
      obtain ⟨Y33, e34, h⟩ := lt_some h
      refine fw_iast2 C (hG _ (List.mem_of_getElem? (i := 0) rfl)) (of10_1 _) (ca10_1 T ad _) b32 (Nat.le_of_ble_eq_true rfl) dX12_work_108 ?_
      refine fw_mem e34 ?_
      exact fw_vret C hrt Y33 (Option.some.inj h) (fun t ht => ht) dX12_work_109
    · have h := ite_f c19 h
      exact fw_vret C hrt Y16 (Option.some.inj h) (fun t ht => ht) dX12_work_65
  · have h := ite_f c6 h
    exact fw_vret C hrt Y3 (Option.some.inj h) (fun t ht => ht) dX12_work_19
end
set_option maxRecDepth 100000 in
set_option maxHeartbeats 4000000 in
theorem c_X12_work {l : Launch} {N0 : Nat} {T : Nat → ClassId} {D : va_G} {gr : List (Nat × Nat)} {ad : Nat → Nat → Nat → Nat} {Y : Mem} {a1 : Int32} {res : Mem} (hG : ∀ q ∈ [(10, 0)], q ∈ gr) (h : X12_work Y a1 = some res) : CV l yX12_work wsX12_work (Rm 1) N0 T D gr ad Y [.ref (ad 10 0 0), .int a1] (fun Y1 => Y1 = res) :=
  fw_body (by decide +kernel) rfl (Nat.le_of_ble_eq_true rfl) (fun p e s m below meth c C hrt => w_X12_work C hrt hG  h)
section
variable {p : Program} {l : Launch} {e : Env} {s : State} {m : MethodId} {below : List Frame} {meth : Method} {c : Code} {N0 : Nat} {T : Nat → ClassId} {D : va_G} {gr : List (Nat × Nat)} {ad : Nat → Nat → Nat → Nat}
set_option maxRecDepth 100000 in
set_option maxHeartbeats 4000000 in
theorem w_X12_isTaken {Y : Mem} {a1 : Int32} (C : Cx p s m [.ref (ad 10 0 0), .int a1].toArray meth c cX12_isTaken 2 wsX12_isTaken RX12 N0 T D gr ad) (hrt : meth.sig.returnType = (some .boolean)) (hG : ∀ q ∈ [(10, 0)], q ∈ gr) {res : Int32} (h : X12_isTaken Y a1 = some res) : FW p l e (Rm 3) s m [.ref (ad 10 0 0), .int a1].toArray below meth c 2 N0 T D gr ad 0 0 (MQ below (va_Qi (fun r Y1 => r = res ∧ Y1 = Y) (WB T D gr ad) (fun q => N0 ≤ q)) [.ref (ad 10 0 0), .int a1].toArray s 0 0 (fun q => N0 ≤ q)) Y 0 [(0, .ref (ad 10 0 0)), (1, .int a1)] [] := by
  unfold X12_isTaken at h
  refine fw_aload_n C dX12_isTaken_0 rfl 0 rfl ?_
  refine fw_iload_n C dX12_isTaken_1 rfl 1 rfl ?_
  refine fw_bipush C dX12_isTaken_2 (v := 17) rfl ?_
  obtain ⟨r1, q2, h⟩ := bd1_some h
  refine fw_callVi C (ci := 10) (Cn := RX12) (Tc := TX12) (N := 19) (As := [.int a1, .int 17]) (c_X12_of (gac (hG _ (List.mem_of_getElem? (i := 0) rfl)) ga0) q2) (cwV 2 (cx_ts C) gX12_isTaken_X12_of rfl rfl rfl (by decide +kernel) ⟨Nat.le_of_ble_eq_true rfl, Nat.le_of_ble_eq_true rfl⟩) rfl (hG _ (List.mem_of_getElem? (i := 0) rfl)) (of10_0 _) (ce10 T ad _ _) rfl (st := []) rfl (Nat.le_of_ble_eq_true rfl) ⟨Nat.le_refl 0, Nat.le_refl 0⟩ dX12_isTaken_4 (pp2 ?_)
  refine fw_iconst C dX12_isTaken_7 (v := 2) rfl ?_
  refine fw_icmp_ne C dX12_isTaken_8 (tgt := 25) rfl (fun c3 => ?_) (fun c3 => ?_)
  · have h := ite_f c3 h
    refine fw_iconst C dX12_isTaken_25 (v := 0) rfl ?_
    exact fw_zret C hrt (by decide) Y ⟨Option.some.inj h, rfl⟩ (fun t ht => ht) dX12_isTaken_26
  · have h := ite_t c3 h
    refine fw_aload_n C dX12_isTaken_11 rfl 0 rfl ?_
    refine fw_iload_n C dX12_isTaken_12 rfl 1 rfl ?_
    refine fw_iconst C dX12_isTaken_13 (v := 1) rfl ?_
    refine fw_iconst C dX12_isTaken_14 (v := 2) rfl ?_
    obtain ⟨r4, q5, h⟩ := bd1_some h
    refine fw_callVi C (ci := 10) (Cn := RX12) (Tc := TX12) (N := 19) (As := [.int a1, .int 1, .int 2]) (c_X12_hasSuccessor (gac (hG _ (List.mem_of_getElem? (i := 0) rfl)) ga0) q5) (cwV 3 (cx_ts C) gX12_isTaken_X12_hasSuccessor rfl rfl rfl (by decide +kernel) ⟨Nat.le_of_ble_eq_true rfl, Nat.le_of_ble_eq_true rfl⟩) rfl (hG _ (List.mem_of_getElem? (i := 0) rfl)) (of10_0 _) (ce10 T ad _ _) rfl (st := []) rfl (Nat.le_of_ble_eq_true rfl) ⟨Nat.le_refl 0, Nat.le_refl 0⟩ dX12_isTaken_15 (pp2 ?_)
    refine fw_if_eq C dX12_isTaken_18 (tgt := 25) rfl (fun c6 => ?_) (fun c6 => ?_)
    · have h := ite_t c6 h
      refine fw_iconst C dX12_isTaken_25 (v := 0) rfl ?_
      exact fw_zret C hrt (by decide) Y ⟨Option.some.inj h, rfl⟩ (fun t ht => ht) dX12_isTaken_26
    · have h := ite_f c6 h
      refine fw_iconst C dX12_isTaken_21 (v := 1) rfl ?_
      refine fw_goto C dX12_isTaken_22 (tgt := 26) rfl ?_
      exact fw_zret C hrt (by decide) Y ⟨Option.some.inj h, rfl⟩ (fun t ht => ht) dX12_isTaken_26
end
set_option maxRecDepth 100000 in
set_option maxHeartbeats 4000000 in
theorem c_X12_isTaken {l : Launch} {N0 : Nat} {T : Nat → ClassId} {D : va_G} {gr : List (Nat × Nat)} {ad : Nat → Nat → Nat → Nat} {Y : Mem} {a1 : Int32} {res : Int32} (hG : ∀ q ∈ [(10, 0)], q ∈ gr) (h : X12_isTaken Y a1 = some res) : CI l yX12_isTaken wsX12_isTaken (Rm 3) N0 T D gr ad Y [.ref (ad 10 0 0), .int a1] (fun r Y1 => r = res ∧ Y1 = Y) :=
  fw_body (by decide +kernel) rfl (Nat.le_of_ble_eq_true rfl) (fun p e s m below meth c C hrt => w_X12_isTaken C hrt hG  h)
theorem ly_X12_cool_12 : ∀ w ∈ u_ws RX12 TX12 19, w ∈ wsX12_cool := by decide +kernel
theorem fl_X12_cool_13 : Cond.fieldLink RX12 13 "RecipeSchedulerModel" "m" "[I" ∈ wsX12_cool := by decide +kernel
section
variable {p : Program} {l : Launch} {e : Env} {s : State} {m : MethodId} {below : List Frame} {meth : Method} {c : Code} {N0 : Nat} {T : Nat → ClassId} {D : va_G} {gr : List (Nat × Nat)} {ad : Nat → Nat → Nat → Nat}
set_option maxRecDepth 100000 in
set_option maxHeartbeats 4000000 in
theorem w_X12_cool {Y : Mem} {a1 : Int32} (C : Cx p s m [.ref (ad 10 0 0), .int a1].toArray meth c cX12_cool 2 wsX12_cool RX12 N0 T D gr ad) (hrt : meth.sig.returnType = none) (hG : ∀ q ∈ [(10, 0)], q ∈ gr) {res : Mem} (h : X12_cool Y a1 = some res) : FW p l e (Rm 4) s m [.ref (ad 10 0 0), .int a1].toArray below meth c 2 N0 T D gr ad 0 0 (MQ below (va_Qv (fun Y1 => Y1 = res) (WB T D gr ad) (fun q => N0 ≤ q)) [.ref (ad 10 0 0), .int a1].toArray s 0 0 (fun q => N0 ≤ q)) Y 0 [(0, .ref (ad 10 0 0)), (1, .int a1)] [] := by
  unfold X12_cool at h
  refine fw_aload_n C dX12_cool_0 rfl 0 rfl ?_
  refine fw_iload_n C dX12_cool_1 rfl 1 rfl ?_
  refine fw_bipush C dX12_cool_2 (v := 10) rfl ?_
  obtain ⟨r1, q2, h⟩ := bd1_some h
  refine fw_callVi C (ci := 10) (Cn := RX12) (Tc := TX12) (N := 19) (As := [.int a1, .int 10]) (c_X12_of (gac (hG _ (List.mem_of_getElem? (i := 0) rfl)) ga0) q2) (cwV 2 (cx_ts C) gX12_cool_X12_of rfl rfl rfl (by decide +kernel) ⟨Nat.le_of_ble_eq_true rfl, Nat.le_of_ble_eq_true rfl⟩) rfl (hG _ (List.mem_of_getElem? (i := 0) rfl)) (of10_0 _) (ce10 T ad _ _) rfl (st := []) rfl (Nat.le_of_ble_eq_true rfl) ⟨Nat.le_refl 0, Nat.le_refl 0⟩ dX12_cool_4 (pp2 ?_)
  refine fw_if_eq C dX12_cool_7 (tgt := 40) rfl (fun c3 => ?_) (fun c3 => ?_)
  · have h := ite_t c3 h
    exact fw_vret C hrt Y (Option.some.inj h) (fun t ht => ht) dX12_cool_40
  · have h := ite_f c3 h
    refine fw_aload_n C dX12_cool_10 rfl 0 rfl ?_
    refine fw_iload_n C dX12_cool_11 rfl 1 rfl ?_
    refine fw_bipush C dX12_cool_12 (v := 17) rfl ?_
    obtain ⟨r4, q5, h⟩ := bd1_some h
    refine fw_callVi C (ci := 10) (Cn := RX12) (Tc := TX12) (N := 19) (As := [.int a1, .int 17]) (c_X12_of (gac (hG _ (List.mem_of_getElem? (i := 0) rfl)) ga0) q5) (cwV 2 (cx_ts C) gX12_cool_X12_of rfl rfl rfl (by decide +kernel) ⟨Nat.le_of_ble_eq_true rfl, Nat.le_of_ble_eq_true rfl⟩) rfl (hG _ (List.mem_of_getElem? (i := 0) rfl)) (of10_0 _) (ce10 T ad _ _) rfl (st := []) rfl (Nat.le_of_ble_eq_true rfl) ⟨Nat.le_refl 0, Nat.le_refl 0⟩ dX12_cool_14 (pp2 ?_)
    refine fw_iconst C dX12_cool_17 (v := 2) rfl ?_
    refine fw_icmp_ne C dX12_cool_18 (tgt := 40) rfl (fun c6 => ?_) (fun c6 => ?_)
    · have h := ite_f c6 h
      exact fw_vret C hrt Y (Option.some.inj h) (fun t ht => ht) dX12_cool_40
    · have h := ite_t c6 h
      refine fw_aload_n C dX12_cool_21 rfl 0 rfl ?_
      refine fw_iload_n C dX12_cool_22 rfl 1 rfl ?_
      refine fw_bipush C dX12_cool_23 (v := 23) rfl ?_
      obtain ⟨r7, q8, h⟩ := bd1_some h
      refine fw_callVi C (ci := 10) (Cn := RX12) (Tc := TX12) (N := 19) (As := [.int a1, .int 23]) (c_X12_of (gac (hG _ (List.mem_of_getElem? (i := 0) rfl)) ga0) q8) (cwV 2 (cx_ts C) gX12_cool_X12_of rfl rfl rfl (by decide +kernel) ⟨Nat.le_of_ble_eq_true rfl, Nat.le_of_ble_eq_true rfl⟩) rfl (hG _ (List.mem_of_getElem? (i := 0) rfl)) (of10_0 _) (ce10 T ad _ _) rfl (st := []) rfl (Nat.le_of_ble_eq_true rfl) ⟨Nat.le_refl 0, Nat.le_refl 0⟩ dX12_cool_25 (pp2 ?_)
      refine fw_iconst C dX12_cool_28 (v := 1) rfl ?_
      refine fw_icmp_eq C dX12_cool_29 (tgt := 40) rfl (fun c9 => ?_) (fun c9 => ?_)
      · have h := ite_t c9 h
        exact fw_vret C hrt Y (Option.some.inj h) (fun t ht => ht) dX12_cool_40
      · have h := ite_f c9 h
        refine fw_aload_n C dX12_cool_32 rfl 0 rfl ?_
        refine fw_iload_n C dX12_cool_33 rfl 1 rfl ?_
        obtain ⟨r10, q11, h⟩ := bd1_some h
        refine fw_callVi C (ci := 10) (Cn := RX12) (Tc := TX12) (N := 19) (As := [.int a1]) (c_X12_isTaken (gac (hG _ (List.mem_of_getElem? (i := 0) rfl)) ga0) q11) (cwV 1 (cx_ts C) gX12_cool_X12_isTaken rfl rfl rfl (by decide +kernel) ⟨Nat.le_of_ble_eq_true rfl, Nat.le_of_ble_eq_true rfl⟩) rfl (hG _ (List.mem_of_getElem? (i := 0) rfl)) (of10_0 _) (ce10 T ad _ _) rfl (st := []) rfl (Nat.le_of_ble_eq_true rfl) ⟨Nat.le_refl 0, Nat.le_refl 0⟩ dX12_cool_34 (pp2 ?_)
        refine fw_if_eq C dX12_cool_37 (tgt := 41) rfl (fun c12 => ?_) (fun c12 => ?_)
        · have h := ite_t c12 h
          refine fw_aload_n C dX12_cool_41 rfl 0 rfl ?_
          refine fw_iload_n C dX12_cool_42 rfl 1 rfl ?_
          refine fw_bipush C dX12_cool_43 (v := 19) rfl ?_
          refine fw_aload_n C dX12_cool_45 rfl 0 rfl ?_
          refine fw_iload_n C dX12_cool_46 rfl 1 rfl ?_
          refine fw_bipush C dX12_cool_47 (v := 19) rfl ?_
          obtain ⟨r13, q14, h⟩ := bd1_some h
          refine fw_callVi C (ci := 10) (Cn := RX12) (Tc := TX12) (N := 19) (As := [.int a1, .int 19]) (c_X12_of (gac (hG _ (List.mem_of_getElem? (i := 0) rfl)) ga0) q14) (cwV 2 (cx_ts C) gX12_cool_X12_of rfl rfl rfl (by decide +kernel) ⟨Nat.le_of_ble_eq_true rfl, Nat.le_of_ble_eq_true rfl⟩) rfl (hG _ (List.mem_of_getElem? (i := 0) rfl)) (of10_0 _) (ce10 T ad _ _) rfl (st := [.int 19, .int a1, .ref (ad 10 0 0)]) rfl (Nat.le_of_ble_eq_true rfl) ⟨Nat.le_refl 0, Nat.le_refl 0⟩ dX12_cool_49 (pp2 ?_)
          refine fw_iconst C dX12_cool_52 (v := 1) rfl ?_
          refine fw_iadd C dX12_cool_53 ?_
          obtain ⟨Y17, q16, h⟩ := bd1_some h
          refine fw_callVv C (ci := 10) (Cn := RX12) (Tc := TX12) (N := 19) (As := [.int a1, .int 19, .int (r13 + 1)]) (c_X12_set (gac (hG _ (List.mem_of_getElem? (i := 0) rfl)) ga0) q16) (cwV 3 (cx_ts C) gX12_cool_X12_set rfl rfl rfl (by decide +kernel) ⟨Nat.le_of_ble_eq_true rfl, Nat.le_of_ble_eq_true rfl⟩) rfl (hG _ (List.mem_of_getElem? (i := 0) rfl)) (of10_0 _) (ce10 T ad _ _) rfl (st := []) rfl (Nat.le_of_ble_eq_true rfl) ⟨Nat.le_refl 0, Nat.le_refl 0⟩ dX12_cool_54 (ppv ?_)
          refine fw_aload_n C dX12_cool_57 rfl 0 rfl ?_
          refine fw_iload_n C dX12_cool_58 rfl 1 rfl ?_
          refine fw_bipush C dX12_cool_59 (v := 19) rfl ?_
          obtain ⟨r18, q19, h⟩ := bd1_some h
          refine fw_callVi C (ci := 10) (Cn := RX12) (Tc := TX12) (N := 19) (As := [.int a1, .int 19]) (c_X12_of (gac (hG _ (List.mem_of_getElem? (i := 0) rfl)) ga0) q19) (cwV 2 (cx_ts C) gX12_cool_X12_of rfl rfl rfl (by decide +kernel) ⟨Nat.le_of_ble_eq_true rfl, Nat.le_of_ble_eq_true rfl⟩) rfl (hG _ (List.mem_of_getElem? (i := 0) rfl)) (of10_0 _) (ce10 T ad _ _) rfl (st := []) rfl (Nat.le_of_ble_eq_true rfl) ⟨Nat.le_refl 0, Nat.le_refl 0⟩ dX12_cool_61 (pp2 ?_)
          refine fw_aload_n C dX12_cool_64 rfl 0 rfl ?_
          refine fw_get C (ci := 10) (Cn := RX12) (Tc := TX12) (N := 19) (j := 0) ly_X12_cool_12 rfl (hG _ (List.mem_of_getElem? (i := 0) rfl)) (of10_0 _) (ce10 T ad _ _) (by decide) (cx_ts C _ fl_X12_cool_13) (fun _ h => h) (v := .ref (ad 10 0 1)) rfl dX12_cool_65 ?_
          refine fw_iconst C dX12_cool_68 (v := 1) rfl ?_
          obtain ⟨b20, h⟩ := gd_some h
          refine fw_iald2 C (hG _ (List.mem_of_getElem? (i := 0) rfl)) (of10_1 _) (ca10_1 T ad _ _) b20 (Nat.le_of_ble_eq_true rfl) dX12_cool_69 ?_
          refine fw_icmp_gt C dX12_cool_70 (tgt := 74) rfl (fun c21 => ?_) (fun c21 => ?_)
          · have h := ite_t c21 h
            refine fw_aload_n C dX12_cool_74 rfl 0 rfl ?_
            refine fw_iload_n C dX12_cool_75 rfl 1 rfl ?_
            refine fw_bipush C dX12_cool_76 (v := 17) rfl ?_
            refine fw_iconst C dX12_cool_78 (v := 3) rfl ?_
            obtain ⟨Y24, q23, h⟩ := bd1_some h
            refine fw_callVv C (ci := 10) (Cn := RX12) (Tc := TX12) (N := 19) (As := [.int a1, .int 17, .int 3]) (c_X12_set (gac (hG _ (List.mem_of_getElem? (i := 0) rfl)) ga0) q23) (cwV 3 (cx_ts C) gX12_cool_X12_set rfl rfl rfl (by decide +kernel) ⟨Nat.le_of_ble_eq_true rfl, Nat.le_of_ble_eq_true rfl⟩) rfl (hG _ (List.mem_of_getElem? (i := 0) rfl)) (of10_0 _) (ce10 T ad _ _) rfl (st := []) rfl (Nat.le_of_ble_eq_true rfl) ⟨Nat.le_refl 0, Nat.le_refl 0⟩ dX12_cool_79 (ppv ?_)
            refine fw_aload_n C dX12_cool_82 rfl 0 rfl ?_
            refine fw_iload_n C dX12_cool_83 rfl 1 rfl ?_
            refine fw_bipush C dX12_cool_84 (v := 19) rfl ?_
            refine fw_iconst C dX12_cool_86 (v := 0) rfl ?_
            obtain ⟨Y27, q26, h⟩ := bd1_some h
            refine fw_callVv C (ci := 10) (Cn := RX12) (Tc := TX12) (N := 19) (As := [.int a1, .int 19, .int 0]) (c_X12_set (gac (hG _ (List.mem_of_getElem? (i := 0) rfl)) ga0) q26) (cwV 3 (cx_ts C) gX12_cool_X12_set rfl rfl rfl (by decide +kernel) ⟨Nat.le_of_ble_eq_true rfl, Nat.le_of_ble_eq_true rfl⟩) rfl (hG _ (List.mem_of_getElem? (i := 0) rfl)) (of10_0 _) (ce10 T ad _ _) rfl (st := []) rfl (Nat.le_of_ble_eq_true rfl) ⟨Nat.le_refl 0, Nat.le_refl 0⟩ dX12_cool_87 (ppv ?_)
            refine fw_aload_n C dX12_cool_90 rfl 0 rfl ?_
            refine fw_iload_n C dX12_cool_91 rfl 1 rfl ?_
            refine fw_bipush C dX12_cool_92 (v := 22) rfl ?_
            refine fw_aload_n C dX12_cool_94 rfl 0 rfl ?_
            refine fw_iload_n C dX12_cool_95 rfl 1 rfl ?_
            refine fw_bipush C dX12_cool_96 (v := 22) rfl ?_
            obtain ⟨r28, q29, h⟩ := bd1_some h
            refine fw_callVi C (ci := 10) (Cn := RX12) (Tc := TX12) (N := 19) (As := [.int a1, .int 22]) (c_X12_of (gac (hG _ (List.mem_of_getElem? (i := 0) rfl)) ga0) q29) (cwV 2 (cx_ts C) gX12_cool_X12_of rfl rfl rfl (by decide +kernel) ⟨Nat.le_of_ble_eq_true rfl, Nat.le_of_ble_eq_true rfl⟩) rfl (hG _ (List.mem_of_getElem? (i := 0) rfl)) (of10_0 _) (ce10 T ad _ _) rfl (st := [.int 22, .int a1, .ref (ad 10 0 0)]) rfl (Nat.le_of_ble_eq_true rfl) ⟨Nat.le_refl 0, Nat.le_refl 0⟩ dX12_cool_98 (pp2 ?_)
            refine fw_iconst C dX12_cool_101 (v := 1) rfl ?_
            refine fw_iadd C dX12_cool_102 ?_
            obtain ⟨Y32, q31, h⟩ := bd1_some h
            refine fw_callVv C (ci := 10) (Cn := RX12) (Tc := TX12) (N := 19) (As := [.int a1, .int 22, .int (r28 + 1)]) (c_X12_set (gac (hG _ (List.mem_of_getElem? (i := 0) rfl)) ga0) q31) (cwV 3 (cx_ts C) gX12_cool_X12_set rfl rfl rfl (by decide +kernel) ⟨Nat.le_of_ble_eq_true rfl, Nat.le_of_ble_eq_true rfl⟩) rfl (hG _ (List.mem_of_getElem? (i := 0) rfl)) (of10_0 _) (ce10 T ad _ _) rfl (st := []) rfl (Nat.le_of_ble_eq_true rfl) ⟨Nat.le_refl 0, Nat.le_refl 0⟩ dX12_cool_103 (ppv ?_)
            refine fw_aload_n C dX12_cool_106 rfl 0 rfl ?_
            refine fw_get C (ci := 10) (Cn := RX12) (Tc := TX12) (N := 19) (j := 0) ly_X12_cool_12 rfl (hG _ (List.mem_of_getElem? (i := 0) rfl)) (of10_0 _) (ce10 T ad _ _) (by decide) (cx_ts C _ fl_X12_cool_13) (fun _ h => h) (v := .ref (ad 10 0 1)) rfl dX12_cool_107 ?_
            refine fw_bipush C dX12_cool_110 (v := 9) rfl ?_
            refine fw_dup2 C dX12_cool_112 rfl rfl ?_
            obtain ⟨b33, h⟩ := gd_some h
            refine fw_iald2 C (hG _ (List.mem_of_getElem? (i := 0) rfl)) (of10_1 _) (ca10_1 T ad _ _) b33 (Nat.le_of_ble_eq_true rfl) dX12_cool_113 ?_
            refine fw_iconst C dX12_cool_114 (v := 1) rfl ?_
            refine fw_iadd C dX12_cool_115 ?_
            obtain ⟨Y34, e35, h⟩ := lt_some h
            refine fw_iast2 C (hG _ (List.mem_of_getElem? (i := 0) rfl)) (of10_1 _) (ca10_1 T ad _) b33 (Nat.le_of_ble_eq_true rfl) dX12_cool_116 ?_
            refine fw_mem e35 ?_
            exact fw_vret C hrt Y34 (Option.some.inj h) (fun t ht => ht) dX12_cool_117
          · have h := ite_f c21 h
            exact fw_vret C hrt Y17 (Option.some.inj h) (fun t ht => ht) dX12_cool_73
        · have h := ite_f c12 h
          exact fw_vret C hrt Y (Option.some.inj h) (fun t ht => ht) dX12_cool_40
end
set_option maxRecDepth 100000 in
set_option maxHeartbeats 4000000 in
theorem c_X12_cool {l : Launch} {N0 : Nat} {T : Nat → ClassId} {D : va_G} {gr : List (Nat × Nat)} {ad : Nat → Nat → Nat → Nat} {Y : Mem} {a1 : Int32} {res : Mem} (hG : ∀ q ∈ [(10, 0)], q ∈ gr) (h : X12_cool Y a1 = some res) : CV l yX12_cool wsX12_cool (Rm 4) N0 T D gr ad Y [.ref (ad 10 0 0), .int a1] (fun Y1 => Y1 = res) :=
  fw_body (by decide +kernel) rfl (Nat.le_of_ble_eq_true rfl) (fun p e s m below meth c C hrt => w_X12_cool C hrt hG  h)
