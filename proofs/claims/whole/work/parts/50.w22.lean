section
variable {p : Program} {l : Launch} {e : Env} {s : State} {m : MethodId} {below : List Frame} {meth : Method} {c : Code} {N0 : Nat} {T : Nat → ClassId} {D : va_G} {gr : List (Nat × Nat)} {ad : Nat → Nat → Nat → Nat}
set_option maxRecDepth 100000 in
set_option maxHeartbeats 4000000 in
theorem w_X12_setDuration_b29 {a1 : Int32} {a2 : Int32} (C : Cx p s m [.ref (ad 10 0 0), .int a1, .int a2].toArray meth c cX12_setDuration 4 wsX12_setDuration RX12 N0 T D gr ad) (hrt : meth.sig.returnType = (some .int)) (hG : ∀ q ∈ [(10, 0)], q ∈ gr) {res : Int32 × Mem} (Y : Mem) (s0 : Int32) (s1 : Int32) (h : X12_setDuration_b29 a1 a2  Y s0 s1 = some res) : FW p l e (Rm 2) s m [.ref (ad 10 0 0), .int a1, .int a2].toArray below meth c 4 N0 T D gr ad 0 0 (MQ below (va_Qi (fun r Y1 => (r, Y1) = res) (WB T D gr ad) (fun q => N0 ≤ q)) [.ref (ad 10 0 0), .int a1, .int a2].toArray s 0 0 (fun q => N0 ≤ q)) Y 29 [(0, .ref (ad 10 0 0)), (1, .int a1), (2, .int a2)] [.int s0, .int s1, .ref (ad 10 0 0)] := by
  unfold X12_setDuration_b29 at h
  refine fw_iconst C dX12_setDuration_29 (v := 0) rfl ?_
  obtain ⟨r7, Y9, q8, h⟩ := bd2_some h
  refine fw_callVi C (ci := 10) (Cn := RX12) (Tc := TX12) (N := 19) (As := [.int s1, .int s0, .int 0]) (c_X12_fails (gac (hG _ (List.mem_of_getElem? (i := 0) rfl)) ga0) q8) (cwV 3 (cx_ts C) gX12_setDuration_X12_fails rfl rfl rfl (by decide +kernel) ⟨Nat.le_of_ble_eq_true rfl, Nat.le_of_ble_eq_true rfl⟩) rfl (hG _ (List.mem_of_getElem? (i := 0) rfl)) (of10_0 _) (ce10 T ad _ _) rfl (st := []) rfl (Nat.le_of_ble_eq_true rfl) ⟨Nat.le_refl 0, Nat.le_refl 0⟩ dX12_setDuration_30 (ppw ?_)
  refine fw_if_eq C dX12_setDuration_33 (tgt := 38) rfl (fun c10 => ?_) (fun c10 => ?_)
  · have h := ite_t c10 h
    refine fw_aload_n C dX12_setDuration_38 rfl 0 rfl ?_
    refine fw_iconst C dX12_setDuration_39 (v := 0) rfl ?_
    obtain ⟨Y13, q12, h⟩ := bd1_some h
    refine fw_callVv C (ci := 10) (Cn := RX12) (Tc := TX12) (N := 19) (As := [.int 0]) (c_X12_remember (gac (hG _ (List.mem_of_getElem? (i := 0) rfl)) ga0) q12) (cwV 1 (cx_ts C) gX12_setDuration_X12_remember rfl rfl rfl (by decide +kernel) ⟨Nat.le_of_ble_eq_true rfl, Nat.le_of_ble_eq_true rfl⟩) rfl (hG _ (List.mem_of_getElem? (i := 0) rfl)) (of10_0 _) (ce10 T ad _ _) rfl (st := []) rfl (Nat.le_of_ble_eq_true rfl) ⟨Nat.le_refl 0, Nat.le_refl 0⟩ dX12_setDuration_40 (ppv ?_)
    refine fw_aload_n C dX12_setDuration_43 rfl 0 rfl ?_
    refine fw_iload_n C dX12_setDuration_44 rfl 1 rfl ?_
    refine fw_bipush C dX12_setDuration_45 (v := 7) rfl ?_
    obtain ⟨r14, q15, h⟩ := bd1_some h
    refine fw_callVi C (ci := 10) (Cn := RX12) (Tc := TX12) (N := 19) (As := [.int a1, .int 7]) (c_X12_of (gac (hG _ (List.mem_of_getElem? (i := 0) rfl)) ga0) q15) (cwV 2 (cx_ts C) gX12_setDuration_X12_of rfl rfl rfl (by decide +kernel) ⟨Nat.le_of_ble_eq_true rfl, Nat.le_of_ble_eq_true rfl⟩) rfl (hG _ (List.mem_of_getElem? (i := 0) rfl)) (of10_0 _) (ce10 T ad _ _) rfl (st := []) rfl (Nat.le_of_ble_eq_true rfl) ⟨Nat.le_refl 0, Nat.le_refl 0⟩ dX12_setDuration_47 (pp2 ?_)
    refine fw_istore_n C dX12_setDuration_50 rfl (by decide) (L' := [(3, .int r14), (0, .ref (ad 10 0 0)), (1, .int a1), (2, .int a2)]) rfl ?_
    refine fw_aload_n C dX12_setDuration_51 rfl 1 rfl ?_
    refine fw_iload_n C dX12_setDuration_52 rfl 2 rfl ?_
    refine fw_bipush C dX12_setDuration_53 (v := 7) rfl ?_
    refine fw_iload_n C dX12_setDuration_55 rfl 3 rfl ?_
    obtain ⟨Y18, q17, h⟩ := bd1_some h
    refine fw_callVv C (ci := 10) (Cn := RX12) (Tc := TX12) (N := 19) (As := [.int a1, .int 7, .int a2]) (c_X12_set (gac (hG _ (List.mem_of_getElem? (i := 0) rfl)) ga0) q17) (cwV 3 (cx_ts C) gX12_setDuration_X12_set rfl rfl rfl (by decide +kernel) ⟨Nat.le_of_ble_eq_true rfl, Nat.le_of_ble_eq_true rfl⟩) rfl (hG _ (List.mem_of_getElem? (i := 0) rfl)) (of10_0 _) (ce10 T ad _ _) rfl (st := []) rfl (Nat.le_of_ble_eq_true rfl) ⟨Nat.le_refl 0, Nat.le_refl 0⟩ dX12_setDuration_56 (ppv ?_)
    refine fw_iload_n C dX12_setDuration_59 rfl 0 rfl ?_
    exact fw_iret C hrt Y18 (Option.some.inj h) (fun t ht => ht) dX12_setDuration_60
  · have h := ite_f c10 h
    refine fw_iconst C dX12_setDuration_36 (v := 0) rfl ?_
    exact fw_iret C hrt Y9 (Option.some.inj h) (fun t ht => ht) dX12_setDuration_37
set_option maxRecDepth 100000 in
set_option maxHeartbeats 4000000 in
theorem w_X12_setDuration_b14 {a1 : Int32} {a2 : Int32} (C : Cx p s m [.ref (ad 10 0 0), .int a1, .int a2].toArray meth c cX12_setDuration 4 wsX12_setDuration RX12 N0 T D gr ad) (hrt : meth.sig.returnType = (some .int)) (hG : ∀ q ∈ [(10, 0)], q ∈ gr) {res : Int32 × Mem} (Y : Mem) (s0 : Int32) (h : X12_setDuration_b14 a1 a2  Y s0 = some res) : FW p l e (Rm 2) s m [.ref (ad 10 0 0), .int a1, .int a2].toArray below meth c 4 N0 T D gr ad 0 0 (MQ below (va_Qi (fun r Y1 => (r, Y1) = res) (WB T D gr ad) (fun q => N0 ≤ q)) [.ref (ad 10 0 0), .int a1, .int a2].toArray s 0 0 (fun q => N0 ≤ q)) Y 14 [(0, .ref (ad 10 0 0)), (1, .int a1), (2, .int a2)] [.int s0, .ref (ad 10 0 0)] := by
  unfold X12_setDuration_b14 at h
  refine fw_iload_n C dX12_setDuration_14 rfl 2 rfl ?_
  refine fw_iconst C dX12_setDuration_15 (v := 1) rfl ?_
  refine fw_bipush C dX12_setDuration_16 (v := 60) rfl ?_
  obtain ⟨r4, q5, h⟩ := bd1_some h
  refine fw_callSi C (As := [.int a2, .int 1, .int 60]) (c_X12_in ga0 q5) (va_cwS 3 (cx_ts C) gX12_setDuration_X12_in rfl rfl rfl (by decide +kernel) ⟨Nat.le_of_ble_eq_true rfl, Nat.le_of_ble_eq_true rfl⟩) rfl (st := [.int s0, .ref (ad 10 0 0)]) rfl (Nat.le_of_ble_eq_true rfl) ⟨Nat.le_refl 0, Nat.le_refl 0⟩ dX12_setDuration_18 (pp2 ?_)
  refine fw_if_ne C dX12_setDuration_21 (tgt := 28) rfl (fun c6 => ?_) (fun c6 => ?_)
  · have h := ite_f c6 h
    refine fw_iconst C dX12_setDuration_28 (v := 0) rfl ?_
    exact w_X12_setDuration_b29 C hrt hG   _ _ _ h
  · have h := ite_t c6 h
    refine fw_iconst C dX12_setDuration_24 (v := 1) rfl ?_
    refine fw_goto C dX12_setDuration_25 (tgt := 29) rfl ?_
    exact w_X12_setDuration_b29 C hrt hG   _ _ _ h
set_option maxRecDepth 100000 in
set_option maxHeartbeats 4000000 in
theorem w_X12_setDuration {Y : Mem} {a1 : Int32} {a2 : Int32} (C : Cx p s m [.ref (ad 10 0 0), .int a1, .int a2].toArray meth c cX12_setDuration 4 wsX12_setDuration RX12 N0 T D gr ad) (hrt : meth.sig.returnType = (some .int)) (hG : ∀ q ∈ [(10, 0)], q ∈ gr) {res : Int32 × Mem} (h : X12_setDuration Y a1 a2 = some res) : FW p l e (Rm 2) s m [.ref (ad 10 0 0), .int a1, .int a2].toArray below meth c 4 N0 T D gr ad 0 0 (MQ below (va_Qi (fun r Y1 => (r, Y1) = res) (WB T D gr ad) (fun q => N0 ≤ q)) [.ref (ad 10 0 0), .int a1, .int a2].toArray s 0 0 (fun q => N0 ≤ q)) Y 0 [(0, .ref (ad 10 0 0)), (1, .int a1), (2, .int a2)] [] := by
  unfold X12_setDuration at h
  refine fw_aload_n C dX12_setDuration_0 rfl 0 rfl ?_
  refine fw_aload_n C dX12_setDuration_1 rfl 0 rfl ?_
  refine fw_iload_n C dX12_setDuration_2 rfl 1 rfl ?_
  obtain ⟨r1, q2, h⟩ := bd1_some h
  refine fw_callVi C (ci := 10) (Cn := RX12) (Tc := TX12) (N := 19) (As := [.int a1]) (c_X12_isStep (gac (hG _ (List.mem_of_getElem? (i := 0) rfl)) ga0) q2) (cwV 1 (cx_ts C) gX12_setDuration_X12_isStep rfl rfl rfl (by decide +kernel) ⟨Nat.le_of_ble_eq_true rfl, Nat.le_of_ble_eq_true rfl⟩) rfl (hG _ (List.mem_of_getElem? (i := 0) rfl)) (of10_0 _) (ce10 T ad _ _) rfl (st := [.ref (ad 10 0 0)]) rfl (Nat.le_of_ble_eq_true rfl) ⟨Nat.le_refl 0, Nat.le_refl 0⟩ dX12_setDuration_3 (pp2 ?_)
  refine fw_if_ne C dX12_setDuration_6 (tgt := 13) rfl (fun c3 => ?_) (fun c3 => ?_)
  · have h := ite_f c3 h
    refine fw_iconst C dX12_setDuration_13 (v := 0) rfl ?_
    exact w_X12_setDuration_b14 C hrt hG   _ _ h
  · have h := ite_t c3 h
    refine fw_iconst C dX12_setDuration_9 (v := 1) rfl ?_
    refine fw_goto C dX12_setDuration_10 (tgt := 14) rfl ?_
    exact w_X12_setDuration_b14 C hrt hG   _ _ h
end
set_option maxRecDepth 100000 in
set_option maxHeartbeats 4000000 in
theorem c_X12_setDuration {l : Launch} {N0 : Nat} {T : Nat → ClassId} {D : va_G} {gr : List (Nat × Nat)} {ad : Nat → Nat → Nat → Nat} {Y : Mem} {a1 : Int32} {a2 : Int32} {res : Int32 × Mem} (hG : ∀ q ∈ [(10, 0)], q ∈ gr) (h : X12_setDuration Y a1 a2 = some res) : CI l yX12_setDuration wsX12_setDuration (Rm 2) N0 T D gr ad Y [.ref (ad 10 0 0), .int a1, .int a2] (fun r Y1 => (r, Y1) = res) :=
  fw_body (by decide +kernel) rfl (Nat.le_of_ble_eq_true rfl) (fun p e s m below meth c C hrt => w_X12_setDuration C hrt hG  h)
theorem ly_X12_slack_12 : ∀ w ∈ u_ws RX12 TX12 19, w ∈ wsX12_slack := by decide +kernel
theorem fl_X12_slack_42 : Cond.fieldLink RX12 42 "RecipeSchedulerModel" "paths" "[I" ∈ wsX12_slack := by decide +kernel
theorem fl_X12_slack_45 : Cond.fieldLink RX12 45 "RecipeSchedulerModel" "heads" "[I" ∈ wsX12_slack := by decide +kernel
section
variable {p : Program} {l : Launch} {e : Env} {s : State} {m : MethodId} {below : List Frame} {meth : Method} {c : Code} {N0 : Nat} {T : Nat → ClassId} {D : va_G} {gr : List (Nat × Nat)} {ad : Nat → Nat → Nat → Nat}
set_option maxRecDepth 100000 in
set_option maxHeartbeats 4000000 in
theorem w_X12_slack_b14 {a1 : Int32} (C : Cx p s m [.ref (ad 10 0 0), .int a1].toArray meth c cX12_slack 2 wsX12_slack RX12 N0 T D gr ad) (hrt : meth.sig.returnType = (some .int)) (hG : ∀ q ∈ [(10, 0)], q ∈ gr) {res : Int32 × Mem} (Y : Mem) (s0 : Int32) (h : X12_slack_b14 a1  Y s0 = some res) : FW p l e (Rm 3) s m [.ref (ad 10 0 0), .int a1].toArray below meth c 2 N0 T D gr ad 0 0 (MQ below (va_Qi (fun r Y1 => (r, Y1) = res) (WB T D gr ad) (fun q => N0 ≤ q)) [.ref (ad 10 0 0), .int a1].toArray s 0 0 (fun q => N0 ≤ q)) Y 14 [(0, .ref (ad 10 0 0)), (1, .int a1)] [.int s0, .ref (ad 10 0 0)] := by
  unfold X12_slack_b14 at h
  refine fw_iconst C dX12_slack_14 (v := 0) rfl ?_
  refine fw_iconst C dX12_slack_15 (v := 0) rfl ?_
  obtain ⟨r4, Y6, q5, h⟩ := bd2_some h
  refine fw_callVi C (ci := 10) (Cn := RX12) (Tc := TX12) (N := 19) (As := [.int s0, .int 0, .int 0]) (c_X12_fails (gac (hG _ (List.mem_of_getElem? (i := 0) rfl)) ga0) q5) (cwV 3 (cx_ts C) gX12_slack_X12_fails rfl rfl rfl (by decide +kernel) ⟨Nat.le_of_ble_eq_true rfl, Nat.le_of_ble_eq_true rfl⟩) rfl (hG _ (List.mem_of_getElem? (i := 0) rfl)) (of10_0 _) (ce10 T ad _ _) rfl (st := []) rfl (Nat.le_of_ble_eq_true rfl) ⟨Nat.le_refl 0, Nat.le_refl 0⟩ dX12_slack_16 (ppw ?_)
  refine fw_if_eq C dX12_slack_19 (tgt := 24) rfl (fun c7 => ?_) (fun c7 => ?_)
  · have h := ite_t c7 h
    refine fw_aload_n C dX12_slack_24 rfl 0 rfl ?_
    obtain ⟨Y10, q9, h⟩ := bd1_some h
    refine fw_callVv C (ci := 10) (Cn := RX12) (Tc := TX12) (N := 19) (As := []) (c_X12_computePaths (gac (hG _ (List.mem_of_getElem? (i := 0) rfl)) ga0) q9) (cwV 0 (cx_ts C) gX12_slack_X12_computePaths rfl rfl rfl (by decide +kernel) ⟨Nat.le_of_ble_eq_true rfl, Nat.le_of_ble_eq_true rfl⟩) rfl (hG _ (List.mem_of_getElem? (i := 0) rfl)) (of10_0 _) (ce10 T ad _ _) rfl (st := []) rfl (Nat.le_of_ble_eq_true rfl) ⟨Nat.le_refl 0, Nat.le_refl 0⟩ dX12_slack_25 (ppv ?_)
    refine fw_aload_n C dX12_slack_28 rfl 0 rfl ?_
    obtain ⟨Y13, q12, h⟩ := bd1_some h
    refine fw_callVv C (ci := 10) (Cn := RX12) (Tc := TX12) (N := 19) (As := []) (c_X12_computeHeads (gac (hG _ (List.mem_of_getElem? (i := 0) rfl)) ga0) q12) (cwV 0 (cx_ts C) gX12_slack_X12_computeHeads rfl rfl rfl (by decide +kernel) ⟨Nat.le_of_ble_eq_true rfl, Nat.le_of_ble_eq_true rfl⟩) rfl (hG _ (List.mem_of_getElem? (i := 0) rfl)) (of10_0 _) (ce10 T ad _ _) rfl (st := []) rfl (Nat.le_of_ble_eq_true rfl) ⟨Nat.le_refl 0, Nat.le_refl 0⟩ dX12_slack_29 (ppv ?_)
    refine fw_aload_n C dX12_slack_32 rfl 0 rfl ?_
    obtain ⟨r14, q15, h⟩ := bd1_some h
    refine fw_callVi C (ci := 10) (Cn := RX12) (Tc := TX12) (N := 19) (As := []) (c_X12_longestPath (gac (hG _ (List.mem_of_getElem? (i := 0) rfl)) ga0) q15) (cwV 0 (cx_ts C) gX12_slack_X12_longestPath rfl rfl rfl (by decide +kernel) ⟨Nat.le_of_ble_eq_true rfl, Nat.le_of_ble_eq_true rfl⟩) rfl (hG _ (List.mem_of_getElem? (i := 0) rfl)) (of10_0 _) (ce10 T ad _ _) rfl (st := []) rfl (Nat.le_of_ble_eq_true rfl) ⟨Nat.le_refl 0, Nat.le_refl 0⟩ dX12_slack_33 (pp2 ?_)
    refine fw_aload_n C dX12_slack_36 rfl 0 rfl ?_
    refine fw_get C (ci := 10) (Cn := RX12) (Tc := TX12) (N := 19) (j := 10) ly_X12_slack_12 rfl (hG _ (List.mem_of_getElem? (i := 0) rfl)) (of10_0 _) (ce10 T ad _ _) (by decide) (cx_ts C _ fl_X12_slack_42) (fun _ h => h) (v := .ref (ad 10 0 5)) rfl dX12_slack_37 ?_
    refine fw_iload_n C dX12_slack_40 rfl 1 rfl ?_
    obtain ⟨b16, h⟩ := gd_some h
    refine fw_iald2 C (hG _ (List.mem_of_getElem? (i := 0) rfl)) (of10_5 _) (ca10_5 T ad _ _) b16 (Nat.le_of_ble_eq_true rfl) dX12_slack_41 ?_
    refine fw_isub C dX12_slack_42 ?_
    refine fw_aload_n C dX12_slack_43 rfl 0 rfl ?_
    refine fw_get C (ci := 10) (Cn := RX12) (Tc := TX12) (N := 19) (j := 11) ly_X12_slack_12 rfl (hG _ (List.mem_of_getElem? (i := 0) rfl)) (of10_0 _) (ce10 T ad _ _) (by decide) (cx_ts C _ fl_X12_slack_45) (fun _ h => h) (v := .ref (ad 10 0 6)) rfl dX12_slack_44 ?_
    refine fw_iload_n C dX12_slack_47 rfl 1 rfl ?_
    refine fw_iald2 C (hG _ (List.mem_of_getElem? (i := 0) rfl)) (of10_6 _) (ca10_6 T ad _ _) b16 (Nat.le_of_ble_eq_true rfl) dX12_slack_48 ?_
    refine fw_isub C dX12_slack_49 ?_
    exact fw_iret C hrt Y13 (Option.some.inj h) (fun t ht => ht) dX12_slack_50
  · have h := ite_f c7 h
    refine fw_iconst C dX12_slack_22 (v := 0) rfl ?_
    exact fw_iret C hrt Y6 (Option.some.inj h) (fun t ht => ht) dX12_slack_23
set_option maxRecDepth 100000 in
set_option maxHeartbeats 4000000 in
theorem w_X12_slack {Y : Mem} {a1 : Int32} (C : Cx p s m [.ref (ad 10 0 0), .int a1].toArray meth c cX12_slack 2 wsX12_slack RX12 N0 T D gr ad) (hrt : meth.sig.returnType = (some .int)) (hG : ∀ q ∈ [(10, 0)], q ∈ gr) {res : Int32 × Mem} (h : X12_slack Y a1 = some res) : FW p l e (Rm 3) s m [.ref (ad 10 0 0), .int a1].toArray below meth c 2 N0 T D gr ad 0 0 (MQ below (va_Qi (fun r Y1 => (r, Y1) = res) (WB T D gr ad) (fun q => N0 ≤ q)) [.ref (ad 10 0 0), .int a1].toArray s 0 0 (fun q => N0 ≤ q)) Y 0 [(0, .ref (ad 10 0 0)), (1, .int a1)] [] := by
  unfold X12_slack at h
  refine fw_aload_n C dX12_slack_0 rfl 0 rfl ?_
  refine fw_aload_n C dX12_slack_1 rfl 0 rfl ?_
  refine fw_iload_n C dX12_slack_2 rfl 1 rfl ?_
  obtain ⟨r1, q2, h⟩ := bd1_some h
  refine fw_callVi C (ci := 10) (Cn := RX12) (Tc := TX12) (N := 19) (As := [.int a1]) (c_X12_isStep (gac (hG _ (List.mem_of_getElem? (i := 0) rfl)) ga0) q2) (cwV 1 (cx_ts C) gX12_slack_X12_isStep rfl rfl rfl (by decide +kernel) ⟨Nat.le_of_ble_eq_true rfl, Nat.le_of_ble_eq_true rfl⟩) rfl (hG _ (List.mem_of_getElem? (i := 0) rfl)) (of10_0 _) (ce10 T ad _ _) rfl (st := [.ref (ad 10 0 0)]) rfl (Nat.le_of_ble_eq_true rfl) ⟨Nat.le_refl 0, Nat.le_refl 0⟩ dX12_slack_3 (pp2 ?_)
  refine fw_if_ne C dX12_slack_6 (tgt := 13) rfl (fun c3 => ?_) (fun c3 => ?_)
  · have h := ite_f c3 h
    refine fw_iconst C dX12_slack_13 (v := 0) rfl ?_
    exact w_X12_slack_b14 C hrt hG   _ _ h
  · have h := ite_t c3 h
    refine fw_iconst C dX12_slack_9 (v := 1) rfl ?_
    refine fw_goto C dX12_slack_10 (tgt := 14) rfl ?_
    exact w_X12_slack_b14 C hrt hG   _ _ h
end
set_option maxRecDepth 100000 in
set_option maxHeartbeats 4000000 in
theorem c_X12_slack {l : Launch} {N0 : Nat} {T : Nat → ClassId} {D : va_G} {gr : List (Nat × Nat)} {ad : Nat → Nat → Nat → Nat} {Y : Mem} {a1 : Int32} {res : Int32 × Mem} (hG : ∀ q ∈ [(10, 0)], q ∈ gr) (h : X12_slack Y a1 = some res) : CI l yX12_slack wsX12_slack (Rm 3) N0 T D gr ad Y [.ref (ad 10 0 0), .int a1] (fun r Y1 => (r, Y1) = res) :=
  fw_body (by decide +kernel) rfl (Nat.le_of_ble_eq_true rfl) (fun p e s m below meth c C hrt => w_X12_slack C hrt hG  h)
theorem ly_X12_starts_12 : ∀ w ∈ u_ws RX12 TX12 19, w ∈ wsX12_starts := by decide +kernel
theorem fl_X12_starts_13 : Cond.fieldLink RX12 13 "RecipeSchedulerModel" "m" "[I" ∈ wsX12_starts := by decide +kernel
section
variable {p : Program} {l : Launch} {e : Env} {s : State} {m : MethodId} {below : List Frame} {meth : Method} {c : Code} {N0 : Nat} {T : Nat → ClassId} {D : va_G} {gr : List (Nat × Nat)} {ad : Nat → Nat → Nat → Nat}
set_option maxRecDepth 100000 in
set_option maxHeartbeats 4000000 in
theorem w_X12_starts {Y : Mem} (C : Cx p s m [.ref (ad 10 0 0)].toArray meth c cX12_starts 1 wsX12_starts RX12 N0 T D gr ad) (hrt : meth.sig.returnType = (some .int)) (hG : ∀ q ∈ [(10, 0)], q ∈ gr) {res : Int32 × Mem} (h : X12_starts Y = some res) : FW p l e (Rm 1) s m [.ref (ad 10 0 0)].toArray below meth c 1 N0 T D gr ad 0 0 (MQ below (va_Qi (fun r Y1 => (r, Y1) = res) (WB T D gr ad) (fun q => N0 ≤ q)) [.ref (ad 10 0 0)].toArray s 0 0 (fun q => N0 ≤ q)) Y 0 [(0, .ref (ad 10 0 0))] [] := by
  unfold X12_starts at h
  refine fw_aload_n C dX12_starts_0 rfl 0 rfl ?_
  refine fw_aload_n C dX12_starts_1 rfl 0 rfl ?_
  refine fw_get C (ci := 10) (Cn := RX12) (Tc := TX12) (N := 19) (j := 0) ly_X12_starts_12 rfl (hG _ (List.mem_of_getElem? (i := 0) rfl)) (of10_0 _) (ce10 T ad _ _) (by decide) (cx_ts C _ fl_X12_starts_13) (fun _ h => h) (v := .ref (ad 10 0 1)) rfl dX12_starts_2 ?_
  refine fw_bipush C dX12_starts_5 (v := 7) rfl ?_
  obtain ⟨b1, h⟩ := gd_some h
  refine fw_iald2 C (hG _ (List.mem_of_getElem? (i := 0) rfl)) (of10_1 _) (ca10_1 T ad _ _) b1 (Nat.le_of_ble_eq_true rfl) dX12_starts_7 ?_
  obtain ⟨r2, Y4, q3, h⟩ := bd2_some h
  refine fw_callVi C (ci := 10) (Cn := RX12) (Tc := TX12) (N := 19) (As := [.int (Y 10 0 1 (ix 7))]) (c_X12_plain (gac (hG _ (List.mem_of_getElem? (i := 0) rfl)) ga0) q3) (cwV 1 (cx_ts C) gX12_starts_X12_plain rfl rfl rfl (by decide +kernel) ⟨Nat.le_of_ble_eq_true rfl, Nat.le_of_ble_eq_true rfl⟩) rfl (hG _ (List.mem_of_getElem? (i := 0) rfl)) (of10_0 _) (ce10 T ad _ _) rfl (st := []) rfl (Nat.le_of_ble_eq_true rfl) ⟨Nat.le_refl 0, Nat.le_refl 0⟩ dX12_starts_8 (ppw ?_)
  exact fw_iret C hrt Y4 (Option.some.inj h) (fun t ht => ht) dX12_starts_11
end
set_option maxRecDepth 100000 in
set_option maxHeartbeats 4000000 in
theorem c_X12_starts {l : Launch} {N0 : Nat} {T : Nat → ClassId} {D : va_G} {gr : List (Nat × Nat)} {ad : Nat → Nat → Nat → Nat} {Y : Mem} {res : Int32 × Mem} (hG : ∀ q ∈ [(10, 0)], q ∈ gr) (h : X12_starts Y = some res) : CI l yX12_starts wsX12_starts (Rm 1) N0 T D gr ad Y [.ref (ad 10 0 0)] (fun r Y1 => (r, Y1) = res) :=
  fw_body (by decide +kernel) rfl (Nat.le_of_ble_eq_true rfl) (fun p e s m below meth c C hrt => w_X12_starts C hrt hG  h)
section
variable {p : Program} {l : Launch} {e : Env} {s : State} {m : MethodId} {below : List Frame} {meth : Method} {c : Code} {N0 : Nat} {T : Nat → ClassId} {D : va_G} {gr : List (Nat × Nat)} {ad : Nat → Nat → Nat → Nat}
set_option maxRecDepth 100000 in
set_option maxHeartbeats 4000000 in
theorem w_X12_startsOf {Y : Mem} {a1 : Int32} (C : Cx p s m [.ref (ad 10 0 0), .int a1].toArray meth c cX12_startsOf 2 wsX12_startsOf RX12 N0 T D gr ad) (hrt : meth.sig.returnType = (some .int)) (hG : ∀ q ∈ [(10, 0)], q ∈ gr) {res : Int32 × Mem} (h : X12_startsOf Y a1 = some res) : FW p l e (Rm 3) s m [.ref (ad 10 0 0), .int a1].toArray below meth c 2 N0 T D gr ad 0 0 (MQ below (va_Qi (fun r Y1 => (r, Y1) = res) (WB T D gr ad) (fun q => N0 ≤ q)) [.ref (ad 10 0 0), .int a1].toArray s 0 0 (fun q => N0 ≤ q)) Y 0 [(0, .ref (ad 10 0 0)), (1, .int a1)] [] := by
  unfold X12_startsOf at h
  refine fw_aload_n C dX12_startsOf_0 rfl 0 rfl ?_
  refine fw_iload_n C dX12_startsOf_1 rfl 1 rfl ?_
  refine fw_bipush C dX12_startsOf_2 (v := 20) rfl ?_
  obtain ⟨r1, Y3, q2, h⟩ := bd2_some h
  refine fw_callVi C (ci := 10) (Cn := RX12) (Tc := TX12) (N := 19) (As := [.int a1, .int 20]) (c_X12_field (gac (hG _ (List.mem_of_getElem? (i := 0) rfl)) ga0) q2) (cwV 2 (cx_ts C) gX12_startsOf_X12_field rfl rfl rfl (by decide +kernel) ⟨Nat.le_of_ble_eq_true rfl, Nat.le_of_ble_eq_true rfl⟩) rfl (hG _ (List.mem_of_getElem? (i := 0) rfl)) (of10_0 _) (ce10 T ad _ _) rfl (st := []) rfl (Nat.le_of_ble_eq_true rfl) ⟨Nat.le_refl 0, Nat.le_refl 0⟩ dX12_startsOf_4 (ppw ?_)
  exact fw_iret C hrt Y3 (Option.some.inj h) (fun t ht => ht) dX12_startsOf_7
end
set_option maxRecDepth 100000 in
set_option maxHeartbeats 4000000 in
theorem c_X12_startsOf {l : Launch} {N0 : Nat} {T : Nat → ClassId} {D : va_G} {gr : List (Nat × Nat)} {ad : Nat → Nat → Nat → Nat} {Y : Mem} {a1 : Int32} {res : Int32 × Mem} (hG : ∀ q ∈ [(10, 0)], q ∈ gr) (h : X12_startsOf Y a1 = some res) : CI l yX12_startsOf wsX12_startsOf (Rm 3) N0 T D gr ad Y [.ref (ad 10 0 0), .int a1] (fun r Y1 => (r, Y1) = res) :=
  fw_body (by decide +kernel) rfl (Nat.le_of_ble_eq_true rfl) (fun p e s m below meth c C hrt => w_X12_startsOf C hrt hG  h)
section
variable {p : Program} {l : Launch} {e : Env} {s : State} {m : MethodId} {below : List Frame} {meth : Method} {c : Code} {N0 : Nat} {T : Nat → ClassId} {D : va_G} {gr : List (Nat × Nat)} {ad : Nat → Nat → Nat → Nat}
set_option maxRecDepth 100000 in
set_option maxHeartbeats 4000000 in
theorem w_X12_status {Y : Mem} {a1 : Int32} (C : Cx p s m [.ref (ad 10 0 0), .int a1].toArray meth c cX12_status 2 wsX12_status RX12 N0 T D gr ad) (hrt : meth.sig.returnType = (some .int)) (hG : ∀ q ∈ [(10, 0)], q ∈ gr) {res : Int32 × Mem} (h : X12_status Y a1 = some res) : FW p l e (Rm 3) s m [.ref (ad 10 0 0), .int a1].toArray below meth c 2 N0 T D gr ad 0 0 (MQ below (va_Qi (fun r Y1 => (r, Y1) = res) (WB T D gr ad) (fun q => N0 ≤ q)) [.ref (ad 10 0 0), .int a1].toArray s 0 0 (fun q => N0 ≤ q)) Y 0 [(0, .ref (ad 10 0 0)), (1, .int a1)] [] := by
  unfold X12_status at h
  refine fw_aload_n C dX12_status_0 rfl 0 rfl ?_
  refine fw_iload_n C dX12_status_1 rfl 1 rfl ?_
  refine fw_bipush C dX12_status_2 (v := 17) rfl ?_
  obtain ⟨r1, Y3, q2, h⟩ := bd2_some h
  refine fw_callVi C (ci := 10) (Cn := RX12) (Tc := TX12) (N := 19) (As := [.int a1, .int 17]) (c_X12_field (gac (hG _ (List.mem_of_getElem? (i := 0) rfl)) ga0) q2) (cwV 2 (cx_ts C) gX12_status_X12_field rfl rfl rfl (by decide +kernel) ⟨Nat.le_of_ble_eq_true rfl, Nat.le_of_ble_eq_true rfl⟩) rfl (hG _ (List.mem_of_getElem? (i := 0) rfl)) (of10_0 _) (ce10 T ad _ _) rfl (st := []) rfl (Nat.le_of_ble_eq_true rfl) ⟨Nat.le_refl 0, Nat.le_refl 0⟩ dX12_status_4 (ppw ?_)
  exact fw_iret C hrt Y3 (Option.some.inj h) (fun t ht => ht) dX12_status_7
end
set_option maxRecDepth 100000 in
set_option maxHeartbeats 4000000 in
theorem c_X12_status {l : Launch} {N0 : Nat} {T : Nat → ClassId} {D : va_G} {gr : List (Nat × Nat)} {ad : Nat → Nat → Nat → Nat} {Y : Mem} {a1 : Int32} {res : Int32 × Mem} (hG : ∀ q ∈ [(10, 0)], q ∈ gr) (h : X12_status Y a1 = some res) : CI l yX12_status wsX12_status (Rm 3) N0 T D gr ad Y [.ref (ad 10 0 0), .int a1] (fun r Y1 => (r, Y1) = res) :=
  fw_body (by decide +kernel) rfl (Nat.le_of_ble_eq_true rfl) (fun p e s m below meth c C hrt => w_X12_status C hrt hG  h)
section
variable {p : Program} {l : Launch} {e : Env} {s : State} {m : MethodId} {below : List Frame} {meth : Method} {c : Code} {N0 : Nat} {T : Nat → ClassId} {D : va_G} {gr : List (Nat × Nat)} {ad : Nat → Nat → Nat → Nat}
set_option maxRecDepth 100000 in
set_option maxHeartbeats 4000000 in
theorem w_X12_statusAfter_b30 {a1 : Int32} {a2 : Int32} (C : Cx p s m [.ref (ad 10 0 0), .int a1, .int a2].toArray meth c cX12_statusAfter 4 wsX12_statusAfter RX12 N0 T D gr ad) (hrt : meth.sig.returnType = (some .int)) (hG : ∀ q ∈ [(10, 0)], q ∈ gr) {res : Int32 × Mem} (Y : Mem) (s0 : Int32) (s1 : Int32) (h : X12_statusAfter_b30 a1 a2  Y s0 s1 = some res) : FW p l e (Rm 9) s m [.ref (ad 10 0 0), .int a1, .int a2].toArray below meth c 4 N0 T D gr ad 0 0 (MQ below (va_Qi (fun r Y1 => (r, Y1) = res) (WB T D gr ad) (fun q => N0 ≤ q)) [.ref (ad 10 0 0), .int a1, .int a2].toArray s 0 0 (fun q => N0 ≤ q)) Y 30 [(0, .ref (ad 10 0 0)), (1, .int a1), (2, .int a2)] [.int s0, .int s1, .ref (ad 10 0 0)] := by
  unfold X12_statusAfter_b30 at h
  refine fw_iconst C dX12_statusAfter_30 (v := 0) rfl ?_
  obtain ⟨r7, Y9, q8, h⟩ := bd2_some h
  refine fw_callVi C (ci := 10) (Cn := RX12) (Tc := TX12) (N := 19) (As := [.int s1, .int s0, .int 0]) (c_X12_fails (gac (hG _ (List.mem_of_getElem? (i := 0) rfl)) ga0) q8) (cwV 3 (cx_ts C) gX12_statusAfter_X12_fails rfl rfl rfl (by decide +kernel) ⟨Nat.le_of_ble_eq_true rfl, Nat.le_of_ble_eq_true rfl⟩) rfl (hG _ (List.mem_of_getElem? (i := 0) rfl)) (of10_0 _) (ce10 T ad _ _) rfl (st := []) rfl (Nat.le_of_ble_eq_true rfl) ⟨Nat.le_refl 0, Nat.le_refl 0⟩ dX12_statusAfter_31 (ppw ?_)
  refine fw_if_eq C dX12_statusAfter_34 (tgt := 39) rfl (fun c10 => ?_) (fun c10 => ?_)
  · have h := ite_t c10 h
    refine fw_aload_n C dX12_statusAfter_39 rfl 0 rfl ?_
    refine fw_iconst C dX12_statusAfter_40 (v := 0) rfl ?_
    refine fw_bipush C dX12_statusAfter_41 (v := 9) rfl ?_
    obtain ⟨Y13, q12, h⟩ := bd1_some h
    refine fw_callVv C (ci := 10) (Cn := RX12) (Tc := TX12) (N := 19) (As := [.int 0, .int 9]) (c_X12_copyBlock (gac (hG _ (List.mem_of_getElem? (i := 0) rfl)) ga0) q12) (cwV 2 (cx_ts C) gX12_statusAfter_X12_copyBlock rfl rfl rfl (by decide +kernel) ⟨Nat.le_of_ble_eq_true rfl, Nat.le_of_ble_eq_true rfl⟩) rfl (hG _ (List.mem_of_getElem? (i := 0) rfl)) (of10_0 _) (ce10 T ad _ _) rfl (st := []) rfl (Nat.le_of_ble_eq_true rfl) ⟨Nat.le_refl 0, Nat.le_refl 0⟩ dX12_statusAfter_43 (ppv ?_)
    refine fw_aload_n C dX12_statusAfter_46 rfl 0 rfl ?_
    refine fw_iload_n C dX12_statusAfter_47 rfl 2 rfl ?_
    obtain ⟨r14, Y16, q15, h⟩ := bd2_some h
    refine fw_callVi C (ci := 10) (Cn := RX12) (Tc := TX12) (N := 19) (As := [.int a2]) (c_X12_passMinutes (gac (hG _ (List.mem_of_getElem? (i := 0) rfl)) ga0) q15) (cwV 1 (cx_ts C) gX12_statusAfter_X12_passMinutes rfl rfl rfl (by decide +kernel) ⟨Nat.le_of_ble_eq_true rfl, Nat.le_of_ble_eq_true rfl⟩) rfl (hG _ (List.mem_of_getElem? (i := 0) rfl)) (of10_0 _) (ce10 T ad _ _) rfl (st := []) rfl (Nat.le_of_ble_eq_true rfl) ⟨Nat.le_refl 0, Nat.le_refl 0⟩ dX12_statusAfter_48 (ppw ?_)
    refine fw_pop C dX12_statusAfter_51 rfl ?_
    refine fw_aload_n C dX12_statusAfter_52 rfl 0 rfl ?_
    refine fw_iload_n C dX12_statusAfter_53 rfl 1 rfl ?_
    refine fw_bipush C dX12_statusAfter_54 (v := 17) rfl ?_
    obtain ⟨r17, q18, h⟩ := bd1_some h
    refine fw_callVi C (ci := 10) (Cn := RX12) (Tc := TX12) (N := 19) (As := [.int a1, .int 17]) (c_X12_of (gac (hG _ (List.mem_of_getElem? (i := 0) rfl)) ga0) q18) (cwV 2 (cx_ts C) gX12_statusAfter_X12_of rfl rfl rfl (by decide +kernel) ⟨Nat.le_of_ble_eq_true rfl, Nat.le_of_ble_eq_true rfl⟩) rfl (hG _ (List.mem_of_getElem? (i := 0) rfl)) (of10_0 _) (ce10 T ad _ _) rfl (st := []) rfl (Nat.le_of_ble_eq_true rfl) ⟨Nat.le_refl 0, Nat.le_refl 0⟩ dX12_statusAfter_56 (pp2 ?_)
    refine fw_istore_n C dX12_statusAfter_59 rfl (by decide) (L' := [(3, .int r17), (0, .ref (ad 10 0 0)), (1, .int a1), (2, .int a2)]) rfl ?_
    refine fw_aload_n C dX12_statusAfter_60 rfl 1 rfl ?_
    refine fw_bipush C dX12_statusAfter_61 (v := 9) rfl ?_
    refine fw_iconst C dX12_statusAfter_63 (v := 0) rfl ?_
    obtain ⟨Y21, q20, h⟩ := bd1_some h
    refine fw_callVv C (ci := 10) (Cn := RX12) (Tc := TX12) (N := 19) (As := [.int 9, .int 0]) (c_X12_copyBlock (gac (hG _ (List.mem_of_getElem? (i := 0) rfl)) ga0) q20) (cwV 2 (cx_ts C) gX12_statusAfter_X12_copyBlock rfl rfl rfl (by decide +kernel) ⟨Nat.le_of_ble_eq_true rfl, Nat.le_of_ble_eq_true rfl⟩) rfl (hG _ (List.mem_of_getElem? (i := 0) rfl)) (of10_0 _) (ce10 T ad _ _) rfl (st := []) rfl (Nat.le_of_ble_eq_true rfl) ⟨Nat.le_refl 0, Nat.le_refl 0⟩ dX12_statusAfter_64 (ppv ?_)
    refine fw_iload_n C dX12_statusAfter_67 rfl 0 rfl ?_
    exact fw_iret C hrt Y21 (Option.some.inj h) (fun t ht => ht) dX12_statusAfter_68
  · have h := ite_f c10 h
    refine fw_iconst C dX12_statusAfter_37 (v := 0) rfl ?_
    exact fw_iret C hrt Y9 (Option.some.inj h) (fun t ht => ht) dX12_statusAfter_38
set_option maxRecDepth 100000 in
set_option maxHeartbeats 4000000 in
theorem w_X12_statusAfter_b14 {a1 : Int32} {a2 : Int32} (C : Cx p s m [.ref (ad 10 0 0), .int a1, .int a2].toArray meth c cX12_statusAfter 4 wsX12_statusAfter RX12 N0 T D gr ad) (hrt : meth.sig.returnType = (some .int)) (hG : ∀ q ∈ [(10, 0)], q ∈ gr) {res : Int32 × Mem} (Y : Mem) (s0 : Int32) (h : X12_statusAfter_b14 a1 a2  Y s0 = some res) : FW p l e (Rm 9) s m [.ref (ad 10 0 0), .int a1, .int a2].toArray below meth c 4 N0 T D gr ad 0 0 (MQ below (va_Qi (fun r Y1 => (r, Y1) = res) (WB T D gr ad) (fun q => N0 ≤ q)) [.ref (ad 10 0 0), .int a1, .int a2].toArray s 0 0 (fun q => N0 ≤ q)) Y 14 [(0, .ref (ad 10 0 0)), (1, .int a1), (2, .int a2)] [.int s0, .ref (ad 10 0 0)] := by
  unfold X12_statusAfter_b14 at h
  refine fw_iload_n C dX12_statusAfter_14 rfl 2 rfl ?_
  refine fw_iconst C dX12_statusAfter_15 (v := 0) rfl ?_
  refine fw_sipush C dX12_statusAfter_16 (v := 500) rfl ?_
  obtain ⟨r4, q5, h⟩ := bd1_some h
  refine fw_callSi C (As := [.int a2, .int 0, .int 500]) (c_X12_in ga0 q5) (va_cwS 3 (cx_ts C) gX12_statusAfter_X12_in rfl rfl rfl (by decide +kernel) ⟨Nat.le_of_ble_eq_true rfl, Nat.le_of_ble_eq_true rfl⟩) rfl (st := [.int s0, .ref (ad 10 0 0)]) rfl (Nat.le_of_ble_eq_true rfl) ⟨Nat.le_refl 0, Nat.le_refl 0⟩ dX12_statusAfter_19 (pp2 ?_)
  refine fw_if_ne C dX12_statusAfter_22 (tgt := 29) rfl (fun c6 => ?_) (fun c6 => ?_)
  · have h := ite_f c6 h
    refine fw_iconst C dX12_statusAfter_29 (v := 0) rfl ?_
    exact w_X12_statusAfter_b30 C hrt hG   _ _ _ h
  · have h := ite_t c6 h
    refine fw_iconst C dX12_statusAfter_25 (v := 1) rfl ?_
    refine fw_goto C dX12_statusAfter_26 (tgt := 30) rfl ?_
    exact w_X12_statusAfter_b30 C hrt hG   _ _ _ h
set_option maxRecDepth 100000 in
set_option maxHeartbeats 4000000 in
theorem w_X12_statusAfter {Y : Mem} {a1 : Int32} {a2 : Int32} (C : Cx p s m [.ref (ad 10 0 0), .int a1, .int a2].toArray meth c cX12_statusAfter 4 wsX12_statusAfter RX12 N0 T D gr ad) (hrt : meth.sig.returnType = (some .int)) (hG : ∀ q ∈ [(10, 0)], q ∈ gr) {res : Int32 × Mem} (h : X12_statusAfter Y a1 a2 = some res) : FW p l e (Rm 9) s m [.ref (ad 10 0 0), .int a1, .int a2].toArray below meth c 4 N0 T D gr ad 0 0 (MQ below (va_Qi (fun r Y1 => (r, Y1) = res) (WB T D gr ad) (fun q => N0 ≤ q)) [.ref (ad 10 0 0), .int a1, .int a2].toArray s 0 0 (fun q => N0 ≤ q)) Y 0 [(0, .ref (ad 10 0 0)), (1, .int a1), (2, .int a2)] [] := by
  unfold X12_statusAfter at h
  refine fw_aload_n C dX12_statusAfter_0 rfl 0 rfl ?_
  refine fw_aload_n C dX12_statusAfter_1 rfl 0 rfl ?_
  refine fw_iload_n C dX12_statusAfter_2 rfl 1 rfl ?_
  obtain ⟨r1, q2, h⟩ := bd1_some h
  refine fw_callVi C (ci := 10) (Cn := RX12) (Tc := TX12) (N := 19) (As := [.int a1]) (c_X12_isStep (gac (hG _ (List.mem_of_getElem? (i := 0) rfl)) ga0) q2) (cwV 1 (cx_ts C) gX12_statusAfter_X12_isStep rfl rfl rfl (by decide +kernel) ⟨Nat.le_of_ble_eq_true rfl, Nat.le_of_ble_eq_true rfl⟩) rfl (hG _ (List.mem_of_getElem? (i := 0) rfl)) (of10_0 _) (ce10 T ad _ _) rfl (st := [.ref (ad 10 0 0)]) rfl (Nat.le_of_ble_eq_true rfl) ⟨Nat.le_refl 0, Nat.le_refl 0⟩ dX12_statusAfter_3 (pp2 ?_)
  refine fw_if_ne C dX12_statusAfter_6 (tgt := 13) rfl (fun c3 => ?_) (fun c3 => ?_)
  · have h := ite_f c3 h
    refine fw_iconst C dX12_statusAfter_13 (v := 0) rfl ?_
    exact w_X12_statusAfter_b14 C hrt hG   _ _ h
  · have h := ite_t c3 h
    refine fw_iconst C dX12_statusAfter_9 (v := 1) rfl ?_
    refine fw_goto C dX12_statusAfter_10 (tgt := 14) rfl ?_
    exact w_X12_statusAfter_b14 C hrt hG   _ _ h
end
set_option maxRecDepth 100000 in
set_option maxHeartbeats 4000000 in
theorem c_X12_statusAfter {l : Launch} {N0 : Nat} {T : Nat → ClassId} {D : va_G} {gr : List (Nat × Nat)} {ad : Nat → Nat → Nat → Nat} {Y : Mem} {a1 : Int32} {a2 : Int32} {res : Int32 × Mem} (hG : ∀ q ∈ [(10, 0)], q ∈ gr) (h : X12_statusAfter Y a1 a2 = some res) : CI l yX12_statusAfter wsX12_statusAfter (Rm 9) N0 T D gr ad Y [.ref (ad 10 0 0), .int a1, .int a2] (fun r Y1 => (r, Y1) = res) :=
  fw_body (by decide +kernel) rfl (Nat.le_of_ble_eq_true rfl) (fun p e s m below meth c C hrt => w_X12_statusAfter C hrt hG  h)
theorem ly_X12_stepCount_12 : ∀ w ∈ u_ws RX12 TX12 19, w ∈ wsX12_stepCount := by decide +kernel
theorem fl_X12_stepCount_13 : Cond.fieldLink RX12 13 "RecipeSchedulerModel" "m" "[I" ∈ wsX12_stepCount := by decide +kernel
section
variable {p : Program} {l : Launch} {e : Env} {s : State} {m : MethodId} {below : List Frame} {meth : Method} {c : Code} {N0 : Nat} {T : Nat → ClassId} {D : va_G} {gr : List (Nat × Nat)} {ad : Nat → Nat → Nat → Nat}
set_option maxRecDepth 100000 in
set_option maxHeartbeats 4000000 in
theorem w_X12_stepCount {Y : Mem} (C : Cx p s m [.ref (ad 10 0 0)].toArray meth c cX12_stepCount 1 wsX12_stepCount RX12 N0 T D gr ad) (hrt : meth.sig.returnType = (some .int)) (hG : ∀ q ∈ [(10, 0)], q ∈ gr) {res : Int32 × Mem} (h : X12_stepCount Y = some res) : FW p l e (Rm 1) s m [.ref (ad 10 0 0)].toArray below meth c 1 N0 T D gr ad 0 0 (MQ below (va_Qi (fun r Y1 => (r, Y1) = res) (WB T D gr ad) (fun q => N0 ≤ q)) [.ref (ad 10 0 0)].toArray s 0 0 (fun q => N0 ≤ q)) Y 0 [(0, .ref (ad 10 0 0))] [] := by
  unfold X12_stepCount at h
  refine fw_aload_n C dX12_stepCount_0 rfl 0 rfl ?_
  refine fw_aload_n C dX12_stepCount_1 rfl 0 rfl ?_
  refine fw_get C (ci := 10) (Cn := RX12) (Tc := TX12) (N := 19) (j := 0) ly_X12_stepCount_12 rfl (hG _ (List.mem_of_getElem? (i := 0) rfl)) (of10_0 _) (ce10 T ad _ _) (by decide) (cx_ts C _ fl_X12_stepCount_13) (fun _ h => h) (v := .ref (ad 10 0 1)) rfl dX12_stepCount_2 ?_
  refine fw_bipush C dX12_stepCount_5 (v := 13) rfl ?_
  obtain ⟨b1, h⟩ := gd_some h
  refine fw_iald2 C (hG _ (List.mem_of_getElem? (i := 0) rfl)) (of10_1 _) (ca10_1 T ad _ _) b1 (Nat.le_of_ble_eq_true rfl) dX12_stepCount_7 ?_
  obtain ⟨r2, Y4, q3, h⟩ := bd2_some h
  refine fw_callVi C (ci := 10) (Cn := RX12) (Tc := TX12) (N := 19) (As := [.int (Y 10 0 1 (ix 13))]) (c_X12_plain (gac (hG _ (List.mem_of_getElem? (i := 0) rfl)) ga0) q3) (cwV 1 (cx_ts C) gX12_stepCount_X12_plain rfl rfl rfl (by decide +kernel) ⟨Nat.le_of_ble_eq_true rfl, Nat.le_of_ble_eq_true rfl⟩) rfl (hG _ (List.mem_of_getElem? (i := 0) rfl)) (of10_0 _) (ce10 T ad _ _) rfl (st := []) rfl (Nat.le_of_ble_eq_true rfl) ⟨Nat.le_refl 0, Nat.le_refl 0⟩ dX12_stepCount_8 (ppw ?_)
  exact fw_iret C hrt Y4 (Option.some.inj h) (fun t ht => ht) dX12_stepCount_11
end
set_option maxRecDepth 100000 in
set_option maxHeartbeats 4000000 in
theorem c_X12_stepCount {l : Launch} {N0 : Nat} {T : Nat → ClassId} {D : va_G} {gr : List (Nat × Nat)} {ad : Nat → Nat → Nat → Nat} {Y : Mem} {res : Int32 × Mem} (hG : ∀ q ∈ [(10, 0)], q ∈ gr) (h : X12_stepCount Y = some res) : CI l yX12_stepCount wsX12_stepCount (Rm 1) N0 T D gr ad Y [.ref (ad 10 0 0)] (fun r Y1 => (r, Y1) = res) :=
  fw_body (by decide +kernel) rfl (Nat.le_of_ble_eq_true rfl) (fun p e s m below meth c C hrt => w_X12_stepCount C hrt hG  h)
section
variable {p : Program} {l : Launch} {e : Env} {s : State} {m : MethodId} {below : List Frame} {meth : Method} {c : Code} {N0 : Nat} {T : Nat → ClassId} {D : va_G} {gr : List (Nat × Nat)} {ad : Nat → Nat → Nat → Nat}
set_option maxRecDepth 100000 in
set_option maxHeartbeats 4000000 in
theorem w_X12_stepTaste {Y : Mem} {a1 : Int32} (C : Cx p s m [.ref (ad 10 0 0), .int a1].toArray meth c cX12_stepTaste 2 wsX12_stepTaste RX12 N0 T D gr ad) (hrt : meth.sig.returnType = (some .int)) (hG : ∀ q ∈ [(10, 0)], q ∈ gr) {res : Int32 × Mem} (h : X12_stepTaste Y a1 = some res) : FW p l e (Rm 3) s m [.ref (ad 10 0 0), .int a1].toArray below meth c 2 N0 T D gr ad 0 0 (MQ below (va_Qi (fun r Y1 => (r, Y1) = res) (WB T D gr ad) (fun q => N0 ≤ q)) [.ref (ad 10 0 0), .int a1].toArray s 0 0 (fun q => N0 ≤ q)) Y 0 [(0, .ref (ad 10 0 0)), (1, .int a1)] [] := by
  unfold X12_stepTaste at h
  refine fw_aload_n C dX12_stepTaste_0 rfl 0 rfl ?_
  refine fw_iload_n C dX12_stepTaste_1 rfl 1 rfl ?_
  refine fw_bipush C dX12_stepTaste_2 (v := 8) rfl ?_
  obtain ⟨r1, Y3, q2, h⟩ := bd2_some h
  refine fw_callVi C (ci := 10) (Cn := RX12) (Tc := TX12) (N := 19) (As := [.int a1, .int 8]) (c_X12_field (gac (hG _ (List.mem_of_getElem? (i := 0) rfl)) ga0) q2) (cwV 2 (cx_ts C) gX12_stepTaste_X12_field rfl rfl rfl (by decide +kernel) ⟨Nat.le_of_ble_eq_true rfl, Nat.le_of_ble_eq_true rfl⟩) rfl (hG _ (List.mem_of_getElem? (i := 0) rfl)) (of10_0 _) (ce10 T ad _ _) rfl (st := []) rfl (Nat.le_of_ble_eq_true rfl) ⟨Nat.le_refl 0, Nat.le_refl 0⟩ dX12_stepTaste_4 (ppw ?_)
  exact fw_iret C hrt Y3 (Option.some.inj h) (fun t ht => ht) dX12_stepTaste_7
end
set_option maxRecDepth 100000 in
set_option maxHeartbeats 4000000 in
theorem c_X12_stepTaste {l : Launch} {N0 : Nat} {T : Nat → ClassId} {D : va_G} {gr : List (Nat × Nat)} {ad : Nat → Nat → Nat → Nat} {Y : Mem} {a1 : Int32} {res : Int32 × Mem} (hG : ∀ q ∈ [(10, 0)], q ∈ gr) (h : X12_stepTaste Y a1 = some res) : CI l yX12_stepTaste wsX12_stepTaste (Rm 3) N0 T D gr ad Y [.ref (ad 10 0 0), .int a1] (fun r Y1 => (r, Y1) = res) :=
  fw_body (by decide +kernel) rfl (Nat.le_of_ble_eq_true rfl) (fun p e s m below meth c C hrt => w_X12_stepTaste C hrt hG  h)
