theorem ly_X12_isPan_12 : ∀ w ∈ u_ws RX12 TX12 19, w ∈ wsX12_isPan := by decide +kernel
theorem fl_X12_isPan_13 : Cond.fieldLink RX12 13 "RecipeSchedulerModel" "m" "[I" ∈ wsX12_isPan := by decide +kernel
section
variable {p : Program} {l : Launch} {e : Env} {s : State} {m : MethodId} {below : List Frame} {meth : Method} {c : Code} {N0 : Nat} {T : Nat → ClassId} {D : va_G} {gr : List (Nat × Nat)} {ad : Nat → Nat → Nat → Nat}
set_option maxRecDepth 100000 in
set_option maxHeartbeats 4000000 in
theorem w_X12_isPan {Y : Mem} {a1 : Int32} (C : Cx p s m [.ref (ad 10 0 0), .int a1].toArray meth c cX12_isPan 2 wsX12_isPan RX12 N0 T D gr ad) (hrt : meth.sig.returnType = (some .boolean)) (hG : ∀ q ∈ [(10, 0)], q ∈ gr) {res : Int32} (h : X12_isPan Y a1 = some res) : FW p l e (Rm 1) s m [.ref (ad 10 0 0), .int a1].toArray below meth c 2 N0 T D gr ad 0 0 (MQ below (va_Qi (fun r Y1 => r = res ∧ Y1 = Y) (WB T D gr ad) (fun q => N0 ≤ q)) [.ref (ad 10 0 0), .int a1].toArray s 0 0 (fun q => N0 ≤ q)) Y 0 [(0, .ref (ad 10 0 0)), (1, .int a1)] [] := by
  unfold X12_isPan at h
  refine fw_iload_n C dX12_isPan_0 rfl 1 rfl ?_
  refine fw_iconst C dX12_isPan_1 (v := 0) rfl ?_
  refine fw_aload_n C dX12_isPan_2 rfl 0 rfl ?_
  refine fw_get C (ci := 10) (Cn := RX12) (Tc := TX12) (N := 19) (j := 0) ly_X12_isPan_12 rfl (hG _ (List.mem_of_getElem? (i := 0) rfl)) (of10_0 _) (ce10 T ad _ _) (by decide) (cx_ts C _ fl_X12_isPan_13) (fun _ h => h) (v := .ref (ad 10 0 1)) rfl dX12_isPan_3 ?_
  refine fw_bipush C dX12_isPan_6 (v := 12) rfl ?_
  obtain ⟨b1, h⟩ := gd_some h
  refine fw_iald2 C (hG _ (List.mem_of_getElem? (i := 0) rfl)) (of10_1 _) (ca10_1 T ad _ _) b1 (Nat.le_of_ble_eq_true rfl) dX12_isPan_8 ?_
  refine fw_iconst C dX12_isPan_9 (v := 1) rfl ?_
  refine fw_isub C dX12_isPan_10 ?_
  obtain ⟨r2, q3, h⟩ := bd1_some h
  refine fw_callSi C (As := [.int a1, .int 0, .int ((Y 10 0 1 (ix 12)) - 1)]) (c_X12_in ga0 q3) (va_cwS 3 (cx_ts C) gX12_isPan_X12_in rfl rfl rfl (by decide +kernel) ⟨Nat.le_of_ble_eq_true rfl, Nat.le_of_ble_eq_true rfl⟩) rfl (st := []) rfl (Nat.le_of_ble_eq_true rfl) ⟨Nat.le_refl 0, Nat.le_refl 0⟩ dX12_isPan_11 (pp2 ?_)
  obtain ⟨b4, h⟩ := gd_some h
  exact fw_zret C hrt (of_decide_eq_true b4) Y ⟨Option.some.inj h, rfl⟩ (fun t ht => ht) dX12_isPan_14
end
set_option maxRecDepth 100000 in
set_option maxHeartbeats 4000000 in
theorem c_X12_isPan {l : Launch} {N0 : Nat} {T : Nat → ClassId} {D : va_G} {gr : List (Nat × Nat)} {ad : Nat → Nat → Nat → Nat} {Y : Mem} {a1 : Int32} {res : Int32} (hG : ∀ q ∈ [(10, 0)], q ∈ gr) (h : X12_isPan Y a1 = some res) : CI l yX12_isPan wsX12_isPan (Rm 1) N0 T D gr ad Y [.ref (ad 10 0 0), .int a1] (fun r Y1 => r = res ∧ Y1 = Y) :=
  fw_body (by decide +kernel) rfl (Nat.le_of_ble_eq_true rfl) (fun p e s m below meth c C hrt => w_X12_isPan C hrt hG  h)
theorem ly_X12_wrong_12 : ∀ w ∈ u_ws RX12 TX12 19, w ∈ wsX12_wrong := by decide +kernel
theorem fl_X12_wrong_30 : Cond.fieldLink RX12 30 "RecipeSchedulerModel" "errorCode" "I" ∈ wsX12_wrong := by decide +kernel
theorem fl_X12_wrong_60 : Cond.fieldLink RX12 60 "RecipeSchedulerModel" "from" "I" ∈ wsX12_wrong := by decide +kernel
theorem fl_X12_wrong_33 : Cond.fieldLink RX12 33 "RecipeSchedulerModel" "errorPosition" "I" ∈ wsX12_wrong := by decide +kernel
section
variable {p : Program} {l : Launch} {e : Env} {s : State} {m : MethodId} {below : List Frame} {meth : Method} {c : Code} {N0 : Nat} {T : Nat → ClassId} {D : va_G} {gr : List (Nat × Nat)} {ad : Nat → Nat → Nat → Nat}
set_option maxRecDepth 100000 in
set_option maxHeartbeats 4000000 in
theorem w_X12_wrong {Y : Mem} {a1 : Int32} (C : Cx p s m [.ref (ad 10 0 0), .int a1].toArray meth c cX12_wrong 2 wsX12_wrong RX12 N0 T D gr ad) (hrt : meth.sig.returnType = (some .boolean)) (hG : ∀ q ∈ [(10, 0)], q ∈ gr) {res : Int32 × Mem} (h : X12_wrong Y a1 = some res) : FW p l e (Rm 0) s m [.ref (ad 10 0 0), .int a1].toArray below meth c 2 N0 T D gr ad 0 0 (MQ below (va_Qi (fun r Y1 => (r, Y1) = res) (WB T D gr ad) (fun q => N0 ≤ q)) [.ref (ad 10 0 0), .int a1].toArray s 0 0 (fun q => N0 ≤ q)) Y 0 [(0, .ref (ad 10 0 0)), (1, .int a1)] [] := by
  unfold X12_wrong at h
  refine fw_aload_n C dX12_wrong_0 rfl 0 rfl ?_
  refine fw_iload_n C dX12_wrong_1 rfl 1 rfl ?_
  obtain ⟨Y1, e2, h⟩ := lt_some h
  refine fw_put C (ci := 10) (Cn := RX12) (Tc := TX12) (N := 19) (j := 5) (ty := .int) (upd (Y 10 0 0) 5 a1) ly_X12_wrong_12 rfl tyX12_ok nmX12 (hG _ (List.mem_of_getElem? (i := 0) rfl)) (of10_0 _) (ce10 T ad _ _) (by decide) (cx_ts C _ fl_X12_wrong_30) (fun _ h => h) rfl (by decide +kernel) rfl rfl (Nat.le_of_ble_eq_true rfl) (ce10_put5 T ad _ _ _) dX12_wrong_2 ?_
  refine fw_mem ((up_eq _ _ _ _ _ _).symm.trans e2) ?_
  refine fw_aload_n C dX12_wrong_5 rfl 0 rfl ?_
  refine fw_aload_n C dX12_wrong_6 rfl 0 rfl ?_
  refine fw_get C (ci := 10) (Cn := RX12) (Tc := TX12) (N := 19) (j := 16) ly_X12_wrong_12 rfl (hG _ (List.mem_of_getElem? (i := 0) rfl)) (of10_0 _) (ce10 T ad _ _) (by decide) (cx_ts C _ fl_X12_wrong_60) (fun _ h => h) (v := .int (Y1 10 0 0 16)) rfl dX12_wrong_7 ?_
  obtain ⟨Y3, e4, h⟩ := lt_some h
  refine fw_put C (ci := 10) (Cn := RX12) (Tc := TX12) (N := 19) (j := 6) (ty := .int) (upd (Y1 10 0 0) 6 (Y1 10 0 0 16)) ly_X12_wrong_12 rfl tyX12_ok nmX12 (hG _ (List.mem_of_getElem? (i := 0) rfl)) (of10_0 _) (ce10 T ad _ _) (by decide) (cx_ts C _ fl_X12_wrong_33) (fun _ h => h) rfl (by decide +kernel) rfl rfl (Nat.le_of_ble_eq_true rfl) (ce10_put6 T ad _ _ _) dX12_wrong_10 ?_
  refine fw_mem ((up_eq _ _ _ _ _ _).symm.trans e4) ?_
  refine fw_iconst C dX12_wrong_13 (v := 0) rfl ?_
  exact fw_zret C hrt (by decide) Y3 (Option.some.inj h) (fun t ht => ht) dX12_wrong_14
end
set_option maxRecDepth 100000 in
set_option maxHeartbeats 4000000 in
theorem c_X12_wrong {l : Launch} {N0 : Nat} {T : Nat → ClassId} {D : va_G} {gr : List (Nat × Nat)} {ad : Nat → Nat → Nat → Nat} {Y : Mem} {a1 : Int32} {res : Int32 × Mem} (hG : ∀ q ∈ [(10, 0)], q ∈ gr) (h : X12_wrong Y a1 = some res) : CI l yX12_wrong wsX12_wrong (Rm 0) N0 T D gr ad Y [.ref (ad 10 0 0), .int a1] (fun r Y1 => (r, Y1) = res) :=
  fw_body (by decide +kernel) rfl (Nat.le_of_ble_eq_true rfl) (fun p e s m below meth c C hrt => w_X12_wrong C hrt hG  h)
theorem ly_X12_isShortWord_12 : ∀ w ∈ u_ws RX12 TX12 19, w ∈ wsX12_isShortWord := by decide +kernel
theorem fl_X12_isShortWord_57 : Cond.fieldLink RX12 57 "RecipeSchedulerModel" "type" "I" ∈ wsX12_isShortWord := by decide +kernel
theorem fl_X12_isShortWord_54 : Cond.fieldLink RX12 54 "RecipeSchedulerModel" "ahead" "I" ∈ wsX12_isShortWord := by decide +kernel
theorem fl_X12_isShortWord_60 : Cond.fieldLink RX12 60 "RecipeSchedulerModel" "from" "I" ∈ wsX12_isShortWord := by decide +kernel
section
variable {p : Program} {l : Launch} {e : Env} {s : State} {m : MethodId} {below : List Frame} {meth : Method} {c : Code} {N0 : Nat} {T : Nat → ClassId} {D : va_G} {gr : List (Nat × Nat)} {ad : Nat → Nat → Nat → Nat}
set_option maxRecDepth 100000 in
set_option maxHeartbeats 4000000 in
theorem w_X12_isShortWord_b36  (C : Cx p s m [.ref (ad 10 0 0)].toArray meth c cX12_isShortWord 1 wsX12_isShortWord RX12 N0 T D gr ad) (hrt : meth.sig.returnType = (some .boolean)) (hG : ∀ q ∈ [(10, 0)], q ∈ gr) {res : Int32 × Mem} (Y : Mem) (h : X12_isShortWord_b36   Y = some res) : FW p l e (Rm 1) s m [.ref (ad 10 0 0)].toArray below meth c 1 N0 T D gr ad 0 0 (MQ below (va_Qi (fun r Y1 => (r, Y1) = res) (WB T D gr ad) (fun q => N0 ≤ q)) [.ref (ad 10 0 0)].toArray s 0 0 (fun q => N0 ≤ q)) Y 36 [] [] := by
  unfold X12_isShortWord_b36 at h
  refine fw_iconst C dX12_isShortWord_36 (v := 1) rfl ?_
  refine fw_goto C dX12_isShortWord_37 (tgt := 41) rfl ?_
  exact fw_zret C hrt (by decide) Y (Option.some.inj h) (fun t ht => ht) dX12_isShortWord_41
set_option maxRecDepth 100000 in
set_option maxHeartbeats 4000000 in
theorem w_X12_isShortWord {Y : Mem} (C : Cx p s m [.ref (ad 10 0 0)].toArray meth c cX12_isShortWord 1 wsX12_isShortWord RX12 N0 T D gr ad) (hrt : meth.sig.returnType = (some .boolean)) (hG : ∀ q ∈ [(10, 0)], q ∈ gr) {res : Int32 × Mem} (h : X12_isShortWord Y = some res) : FW p l e (Rm 1) s m [.ref (ad 10 0 0)].toArray below meth c 1 N0 T D gr ad 0 0 (MQ below (va_Qi (fun r Y1 => (r, Y1) = res) (WB T D gr ad) (fun q => N0 ≤ q)) [.ref (ad 10 0 0)].toArray s 0 0 (fun q => N0 ≤ q)) Y 0 [(0, .ref (ad 10 0 0))] [] := by
  unfold X12_isShortWord at h
  refine fw_aload_n C dX12_isShortWord_0 rfl 0 rfl ?_
  refine fw_get C (ci := 10) (Cn := RX12) (Tc := TX12) (N := 19) (j := 15) ly_X12_isShortWord_12 rfl (hG _ (List.mem_of_getElem? (i := 0) rfl)) (of10_0 _) (ce10 T ad _ _) (by decide) (cx_ts C _ fl_X12_isShortWord_57) (fun _ h => h) (v := .int (Y 10 0 0 15)) rfl dX12_isShortWord_1 ?_
  refine fw_iconst C dX12_isShortWord_4 (v := 1) rfl ?_
  refine fw_icmp_eq C dX12_isShortWord_5 (tgt := 14) rfl (fun c1 => ?_) (fun c1 => ?_)
  · have h := ite_t c1 h
    refine fw_aload_n C dX12_isShortWord_14 rfl 0 rfl ?_
    refine fw_get C (ci := 10) (Cn := RX12) (Tc := TX12) (N := 19) (j := 14) ly_X12_isShortWord_12 rfl (hG _ (List.mem_of_getElem? (i := 0) rfl)) (of10_0 _) (ce10 T ad _ _) (by decide) (cx_ts C _ fl_X12_isShortWord_54) (fun _ h => h) (v := .int (Y 10 0 0 14)) rfl dX12_isShortWord_15 ?_
    refine fw_aload_n C dX12_isShortWord_18 rfl 0 rfl ?_
    refine fw_get C (ci := 10) (Cn := RX12) (Tc := TX12) (N := 19) (j := 16) ly_X12_isShortWord_12 rfl (hG _ (List.mem_of_getElem? (i := 0) rfl)) (of10_0 _) (ce10 T ad _ _) (by decide) (cx_ts C _ fl_X12_isShortWord_60) (fun _ h => h) (v := .int (Y 10 0 0 16)) rfl dX12_isShortWord_19 ?_
    refine fw_isub C dX12_isShortWord_22 ?_
    refine fw_bipush C dX12_isShortWord_23 (v := 6) rfl ?_
    refine fw_icmp_le C dX12_isShortWord_25 (tgt := 36) rfl (fun c2 => ?_) (fun c2 => ?_)
    · have h := ite_t c2 h
      refine fw_sub [] (L' := []) rfl ?_
      exact w_X12_isShortWord_b36 C hrt hG   _ h
    · have h := ite_f c2 h
      refine fw_aload_n C dX12_isShortWord_28 rfl 0 rfl ?_
      refine fw_iconst C dX12_isShortWord_29 (v := 3) rfl ?_
      obtain ⟨r3, Y5, q4, h⟩ := bd2_some h
      refine fw_callVi C (ci := 10) (Cn := RX12) (Tc := TX12) (N := 19) (As := [.int 3]) (c_X12_wrong (gac (hG _ (List.mem_of_getElem? (i := 0) rfl)) ga0) q4) (cwV 1 (cx_ts C) gX12_isShortWord_X12_wrong rfl rfl rfl (by decide +kernel) ⟨Nat.le_of_ble_eq_true rfl, Nat.le_of_ble_eq_true rfl⟩) rfl (hG _ (List.mem_of_getElem? (i := 0) rfl)) (of10_0 _) (ce10 T ad _ _) rfl (st := []) rfl (Nat.le_of_ble_eq_true rfl) ⟨Nat.le_refl 0, Nat.le_refl 0⟩ dX12_isShortWord_30 (ppw ?_)
      refine fw_if_eq C dX12_isShortWord_33 (tgt := 40) rfl (fun c6 => ?_) (fun c6 => ?_)
      · have h := ite_t c6 h
        refine fw_iconst C dX12_isShortWord_40 (v := 0) rfl ?_
        exact fw_zret C hrt (by decide) Y5 (Option.some.inj h) (fun t ht => ht) dX12_isShortWord_41
      · have h := ite_f c6 h
        refine fw_sub [] (L' := []) rfl ?_
        exact w_X12_isShortWord_b36 C hrt hG   _ h
  · have h := ite_f c1 h
    refine fw_aload_n C dX12_isShortWord_8 rfl 0 rfl ?_
    refine fw_iconst C dX12_isShortWord_9 (v := 1) rfl ?_
    obtain ⟨r7, Y9, q8, h⟩ := bd2_some h
    refine fw_callVi C (ci := 10) (Cn := RX12) (Tc := TX12) (N := 19) (As := [.int 1]) (c_X12_wrong (gac (hG _ (List.mem_of_getElem? (i := 0) rfl)) ga0) q8) (cwV 1 (cx_ts C) gX12_isShortWord_X12_wrong rfl rfl rfl (by decide +kernel) ⟨Nat.le_of_ble_eq_true rfl, Nat.le_of_ble_eq_true rfl⟩) rfl (hG _ (List.mem_of_getElem? (i := 0) rfl)) (of10_0 _) (ce10 T ad _ _) rfl (st := []) rfl (Nat.le_of_ble_eq_true rfl) ⟨Nat.le_refl 0, Nat.le_refl 0⟩ dX12_isShortWord_10 (ppw ?_)
    obtain ⟨b10, h⟩ := gd_some h
    exact fw_zret C hrt (of_decide_eq_true b10) Y9 (Option.some.inj h) (fun t ht => ht) dX12_isShortWord_13
end
set_option maxRecDepth 100000 in
set_option maxHeartbeats 4000000 in
theorem c_X12_isShortWord {l : Launch} {N0 : Nat} {T : Nat → ClassId} {D : va_G} {gr : List (Nat × Nat)} {ad : Nat → Nat → Nat → Nat} {Y : Mem} {res : Int32 × Mem} (hG : ∀ q ∈ [(10, 0)], q ∈ gr) (h : X12_isShortWord Y = some res) : CI l yX12_isShortWord wsX12_isShortWord (Rm 1) N0 T D gr ad Y [.ref (ad 10 0 0)] (fun r Y1 => (r, Y1) = res) :=
  fw_body (by decide +kernel) rfl (Nat.le_of_ble_eq_true rfl) (fun p e s m below meth c C hrt => w_X12_isShortWord C hrt hG  h)
section
variable {p : Program} {l : Launch} {e : Env} {s : State} {m : MethodId} {below : List Frame} {meth : Method} {c : Code} {N0 : Nat} {T : Nat → ClassId} {D : va_G} {gr : List (Nat × Nat)} {ad : Nat → Nat → Nat → Nat}
set_option maxRecDepth 100000 in
set_option maxHeartbeats 4000000 in
theorem w_X12_isTakenUp_b14 {a1 : Int32} (C : Cx p s m [.ref (ad 10 0 0), .int a1].toArray meth c cX12_isTakenUp 2 wsX12_isTakenUp RX12 N0 T D gr ad) (hrt : meth.sig.returnType = (some .boolean)) (hG : ∀ q ∈ [(10, 0)], q ∈ gr) {res : Int32 × Mem} (Y : Mem) (s0 : Int32) (h : X12_isTakenUp_b14 a1  Y s0 = some res) : FW p l e (Rm 4) s m [.ref (ad 10 0 0), .int a1].toArray below meth c 2 N0 T D gr ad 0 0 (MQ below (va_Qi (fun r Y1 => (r, Y1) = res) (WB T D gr ad) (fun q => N0 ≤ q)) [.ref (ad 10 0 0), .int a1].toArray s 0 0 (fun q => N0 ≤ q)) Y 14 [(0, .ref (ad 10 0 0)), (1, .int a1)] [.int s0, .ref (ad 10 0 0)] := by
  unfold X12_isTakenUp_b14 at h
  refine fw_iconst C dX12_isTakenUp_14 (v := 0) rfl ?_
  refine fw_iconst C dX12_isTakenUp_15 (v := 0) rfl ?_
  obtain ⟨r4, Y6, q5, h⟩ := bd2_some h
  refine fw_callVi C (ci := 10) (Cn := RX12) (Tc := TX12) (N := 19) (As := [.int s0, .int 0, .int 0]) (c_X12_fails (gac (hG _ (List.mem_of_getElem? (i := 0) rfl)) ga0) q5) (cwV 3 (cx_ts C) gX12_isTakenUp_X12_fails rfl rfl rfl (by decide +kernel) ⟨Nat.le_of_ble_eq_true rfl, Nat.le_of_ble_eq_true rfl⟩) rfl (hG _ (List.mem_of_getElem? (i := 0) rfl)) (of10_0 _) (ce10 T ad _ _) rfl (st := []) rfl (Nat.le_of_ble_eq_true rfl) ⟨Nat.le_refl 0, Nat.le_refl 0⟩ dX12_isTakenUp_16 (ppw ?_)
  refine fw_if_eq C dX12_isTakenUp_19 (tgt := 24) rfl (fun c7 => ?_) (fun c7 => ?_)
  · have h := ite_t c7 h
    refine fw_aload_n C dX12_isTakenUp_24 rfl 0 rfl ?_
    refine fw_iload_n C dX12_isTakenUp_25 rfl 1 rfl ?_
    obtain ⟨r8, q9, h⟩ := bd1_some h
    refine fw_callVi C (ci := 10) (Cn := RX12) (Tc := TX12) (N := 19) (As := [.int a1]) (c_X12_isTaken (gac (hG _ (List.mem_of_getElem? (i := 0) rfl)) ga0) q9) (cwV 1 (cx_ts C) gX12_isTakenUp_X12_isTaken rfl rfl rfl (by decide +kernel) ⟨Nat.le_of_ble_eq_true rfl, Nat.le_of_ble_eq_true rfl⟩) rfl (hG _ (List.mem_of_getElem? (i := 0) rfl)) (of10_0 _) (ce10 T ad _ _) rfl (st := []) rfl (Nat.le_of_ble_eq_true rfl) ⟨Nat.le_refl 0, Nat.le_refl 0⟩ dX12_isTakenUp_26 (pp2 ?_)
    obtain ⟨b10, h⟩ := gd_some h
    exact fw_zret C hrt (of_decide_eq_true b10) Y6 (Option.some.inj h) (fun t ht => ht) dX12_isTakenUp_29
  · have h := ite_f c7 h
    refine fw_iconst C dX12_isTakenUp_22 (v := 0) rfl ?_
    exact fw_zret C hrt (by decide) Y6 (Option.some.inj h) (fun t ht => ht) dX12_isTakenUp_23
set_option maxRecDepth 100000 in
set_option maxHeartbeats 4000000 in
theorem w_X12_isTakenUp {Y : Mem} {a1 : Int32} (C : Cx p s m [.ref (ad 10 0 0), .int a1].toArray meth c cX12_isTakenUp 2 wsX12_isTakenUp RX12 N0 T D gr ad) (hrt : meth.sig.returnType = (some .boolean)) (hG : ∀ q ∈ [(10, 0)], q ∈ gr) {res : Int32 × Mem} (h : X12_isTakenUp Y a1 = some res) : FW p l e (Rm 4) s m [.ref (ad 10 0 0), .int a1].toArray below meth c 2 N0 T D gr ad 0 0 (MQ below (va_Qi (fun r Y1 => (r, Y1) = res) (WB T D gr ad) (fun q => N0 ≤ q)) [.ref (ad 10 0 0), .int a1].toArray s 0 0 (fun q => N0 ≤ q)) Y 0 [(0, .ref (ad 10 0 0)), (1, .int a1)] [] := by
  unfold X12_isTakenUp at h
  refine fw_aload_n C dX12_isTakenUp_0 rfl 0 rfl ?_
  refine fw_aload_n C dX12_isTakenUp_1 rfl 0 rfl ?_
  refine fw_iload_n C dX12_isTakenUp_2 rfl 1 rfl ?_
  obtain ⟨r1, q2, h⟩ := bd1_some h
  refine fw_callVi C (ci := 10) (Cn := RX12) (Tc := TX12) (N := 19) (As := [.int a1]) (c_X12_isStep (gac (hG _ (List.mem_of_getElem? (i := 0) rfl)) ga0) q2) (cwV 1 (cx_ts C) gX12_isTakenUp_X12_isStep rfl rfl rfl (by decide +kernel) ⟨Nat.le_of_ble_eq_true rfl, Nat.le_of_ble_eq_true rfl⟩) rfl (hG _ (List.mem_of_getElem? (i := 0) rfl)) (of10_0 _) (ce10 T ad _ _) rfl (st := [.ref (ad 10 0 0)]) rfl (Nat.le_of_ble_eq_true rfl) ⟨Nat.le_refl 0, Nat.le_refl 0⟩ dX12_isTakenUp_3 (pp2 ?_)
  refine fw_if_ne C dX12_isTakenUp_6 (tgt := 13) rfl (fun c3 => ?_) (fun c3 => ?_)
  · have h := ite_f c3 h
    refine fw_iconst C dX12_isTakenUp_13 (v := 0) rfl ?_
    exact w_X12_isTakenUp_b14 C hrt hG   _ _ h
  · have h := ite_t c3 h
    refine fw_iconst C dX12_isTakenUp_9 (v := 1) rfl ?_
    refine fw_goto C dX12_isTakenUp_10 (tgt := 14) rfl ?_
    exact w_X12_isTakenUp_b14 C hrt hG   _ _ h
end
set_option maxRecDepth 100000 in
set_option maxHeartbeats 4000000 in
theorem c_X12_isTakenUp {l : Launch} {N0 : Nat} {T : Nat → ClassId} {D : va_G} {gr : List (Nat × Nat)} {ad : Nat → Nat → Nat → Nat} {Y : Mem} {a1 : Int32} {res : Int32 × Mem} (hG : ∀ q ∈ [(10, 0)], q ∈ gr) (h : X12_isTakenUp Y a1 = some res) : CI l yX12_isTakenUp wsX12_isTakenUp (Rm 4) N0 T D gr ad Y [.ref (ad 10 0 0), .int a1] (fun r Y1 => (r, Y1) = res) :=
  fw_body (by decide +kernel) rfl (Nat.le_of_ble_eq_true rfl) (fun p e s m below meth c C hrt => w_X12_isTakenUp C hrt hG  h)
section
variable {p : Program} {l : Launch} {e : Env} {s : State} {m : MethodId} {below : List Frame} {meth : Method} {c : Code} {N0 : Nat} {T : Nat → ClassId} {D : va_G} {gr : List (Nat × Nat)} {ad : Nat → Nat → Nat → Nat}
set_option maxRecDepth 100000 in
set_option maxHeartbeats 4000000 in
theorem w_X12_isUnattended {Y : Mem} {a1 : Int32} (C : Cx p s m [.ref (ad 10 0 0), .int a1].toArray meth c cX12_isUnattended 2 wsX12_isUnattended RX12 N0 T D gr ad) (hrt : meth.sig.returnType = (some .boolean)) (hG : ∀ q ∈ [(10, 0)], q ∈ gr) {res : Int32 × Mem} (h : X12_isUnattended Y a1 = some res) : FW p l e (Rm 3) s m [.ref (ad 10 0 0), .int a1].toArray below meth c 2 N0 T D gr ad 0 0 (MQ below (va_Qi (fun r Y1 => (r, Y1) = res) (WB T D gr ad) (fun q => N0 ≤ q)) [.ref (ad 10 0 0), .int a1].toArray s 0 0 (fun q => N0 ≤ q)) Y 0 [(0, .ref (ad 10 0 0)), (1, .int a1)] [] := by
  unfold X12_isUnattended at h
  refine fw_aload_n C dX12_isUnattended_0 rfl 0 rfl ?_
  refine fw_iload_n C dX12_isUnattended_1 rfl 1 rfl ?_
  refine fw_bipush C dX12_isUnattended_2 (v := 11) rfl ?_
  obtain ⟨r1, Y3, q2, h⟩ := bd2_some h
  refine fw_callVi C (ci := 10) (Cn := RX12) (Tc := TX12) (N := 19) (As := [.int a1, .int 11]) (c_X12_field (gac (hG _ (List.mem_of_getElem? (i := 0) rfl)) ga0) q2) (cwV 2 (cx_ts C) gX12_isUnattended_X12_field rfl rfl rfl (by decide +kernel) ⟨Nat.le_of_ble_eq_true rfl, Nat.le_of_ble_eq_true rfl⟩) rfl (hG _ (List.mem_of_getElem? (i := 0) rfl)) (of10_0 _) (ce10 T ad _ _) rfl (st := []) rfl (Nat.le_of_ble_eq_true rfl) ⟨Nat.le_refl 0, Nat.le_refl 0⟩ dX12_isUnattended_4 (ppw ?_)
  refine fw_iconst C dX12_isUnattended_7 (v := 1) rfl ?_
  refine fw_icmp_ne C dX12_isUnattended_8 (tgt := 15) rfl (fun c4 => ?_) (fun c4 => ?_)
  · have h := ite_f c4 h
    refine fw_iconst C dX12_isUnattended_15 (v := 0) rfl ?_
    exact fw_zret C hrt (by decide) Y3 (Option.some.inj h) (fun t ht => ht) dX12_isUnattended_16
  · have h := ite_t c4 h
    refine fw_iconst C dX12_isUnattended_11 (v := 1) rfl ?_
    refine fw_goto C dX12_isUnattended_12 (tgt := 16) rfl ?_
    exact fw_zret C hrt (by decide) Y3 (Option.some.inj h) (fun t ht => ht) dX12_isUnattended_16
end
set_option maxRecDepth 100000 in
set_option maxHeartbeats 4000000 in
theorem c_X12_isUnattended {l : Launch} {N0 : Nat} {T : Nat → ClassId} {D : va_G} {gr : List (Nat × Nat)} {ad : Nat → Nat → Nat → Nat} {Y : Mem} {a1 : Int32} {res : Int32 × Mem} (hG : ∀ q ∈ [(10, 0)], q ∈ gr) (h : X12_isUnattended Y a1 = some res) : CI l yX12_isUnattended wsX12_isUnattended (Rm 3) N0 T D gr ad Y [.ref (ad 10 0 0), .int a1] (fun r Y1 => (r, Y1) = res) :=
  fw_body (by decide +kernel) rfl (Nat.le_of_ble_eq_true rfl) (fun p e s m below meth c C hrt => w_X12_isUnattended C hrt hG  h)
theorem ly_X12_parseRanged_12 : ∀ w ∈ u_ws RX12 TX12 19, w ∈ wsX12_parseRanged := by decide +kernel
theorem fl_X12_parseRanged_57 : Cond.fieldLink RX12 57 "RecipeSchedulerModel" "type" "I" ∈ wsX12_parseRanged := by decide +kernel
theorem fl_X12_parseRanged_63 : Cond.fieldLink RX12 63 "RecipeSchedulerModel" "value" "I" ∈ wsX12_parseRanged := by decide +kernel
theorem fl_X12_parseRanged_13 : Cond.fieldLink RX12 13 "RecipeSchedulerModel" "m" "[I" ∈ wsX12_parseRanged := by decide +kernel
section
variable {p : Program} {l : Launch} {e : Env} {s : State} {m : MethodId} {below : List Frame} {meth : Method} {c : Code} {N0 : Nat} {T : Nat → ClassId} {D : va_G} {gr : List (Nat × Nat)} {ad : Nat → Nat → Nat → Nat}
set_option maxRecDepth 100000 in
set_option maxHeartbeats 4000000 in
theorem w_X12_parseRanged {Y : Mem} {a1 : Int32} {a2 : Int32} {a3 : Int32} (C : Cx p s m [.ref (ad 10 0 0), .int a1, .int a2, .int a3].toArray meth c cX12_parseRanged 4 wsX12_parseRanged RX12 N0 T D gr ad) (hrt : meth.sig.returnType = (some .boolean)) (hG : ∀ q ∈ [(10, 0)], q ∈ gr) {res : Int32 × Mem} (h : X12_parseRanged Y a1 a2 a3 = some res) : FW p l e (Rm 2) s m [.ref (ad 10 0 0), .int a1, .int a2, .int a3].toArray below meth c 4 N0 T D gr ad 0 0 (MQ below (va_Qi (fun r Y1 => (r, Y1) = res) (WB T D gr ad) (fun q => N0 ≤ q)) [.ref (ad 10 0 0), .int a1, .int a2, .int a3].toArray s 0 0 (fun q => N0 ≤ q)) Y 0 [(0, .ref (ad 10 0 0)), (1, .int a1), (2, .int a2), (3, .int a3)] [] := by
  unfold X12_parseRanged at h
  refine fw_aload_n C dX12_parseRanged_0 rfl 0 rfl ?_
  refine fw_get C (ci := 10) (Cn := RX12) (Tc := TX12) (N := 19) (j := 15) ly_X12_parseRanged_12 rfl (hG _ (List.mem_of_getElem? (i := 0) rfl)) (of10_0 _) (ce10 T ad _ _) (by decide) (cx_ts C _ fl_X12_parseRanged_57) (fun _ h => h) (v := .int (Y 10 0 0 15)) rfl dX12_parseRanged_1 ?_
  refine fw_iconst C dX12_parseRanged_4 (v := 2) rfl ?_
  refine fw_icmp_eq C dX12_parseRanged_5 (tgt := 14) rfl (fun c1 => ?_) (fun c1 => ?_)
  · have h := ite_t c1 h
    refine fw_aload_n C dX12_parseRanged_14 rfl 0 rfl ?_
    refine fw_get C (ci := 10) (Cn := RX12) (Tc := TX12) (N := 19) (j := 17) ly_X12_parseRanged_12 rfl (hG _ (List.mem_of_getElem? (i := 0) rfl)) (of10_0 _) (ce10 T ad _ _) (by decide) (cx_ts C _ fl_X12_parseRanged_63) (fun _ h => h) (v := .int (Y 10 0 0 17)) rfl dX12_parseRanged_15 ?_
    refine fw_iload_n C dX12_parseRanged_18 rfl 2 rfl ?_
    refine fw_iload_n C dX12_parseRanged_19 rfl 3 rfl ?_
    obtain ⟨r2, q3, h⟩ := bd1_some h
    refine fw_callSi C (As := [.int (Y 10 0 0 17), .int a2, .int a3]) (c_X12_in ga0 q3) (va_cwS 3 (cx_ts C) gX12_parseRanged_X12_in rfl rfl rfl (by decide +kernel) ⟨Nat.le_of_ble_eq_true rfl, Nat.le_of_ble_eq_true rfl⟩) rfl (st := []) rfl (Nat.le_of_ble_eq_true rfl) ⟨Nat.le_refl 0, Nat.le_refl 0⟩ dX12_parseRanged_20 (pp2 ?_)
    refine fw_if_ne C dX12_parseRanged_23 (tgt := 32) rfl (fun c4 => ?_) (fun c4 => ?_)
    · have h := ite_f c4 h
      refine fw_aload_n C dX12_parseRanged_32 rfl 0 rfl ?_
      refine fw_get C (ci := 10) (Cn := RX12) (Tc := TX12) (N := 19) (j := 0) ly_X12_parseRanged_12 rfl (hG _ (List.mem_of_getElem? (i := 0) rfl)) (of10_0 _) (ce10 T ad _ _) (by decide) (cx_ts C _ fl_X12_parseRanged_13) (fun _ h => h) (v := .ref (ad 10 0 1)) rfl dX12_parseRanged_33 ?_
      refine fw_iload_n C dX12_parseRanged_36 rfl 1 rfl ?_
      refine fw_aload_n C dX12_parseRanged_37 rfl 0 rfl ?_
      refine fw_get C (ci := 10) (Cn := RX12) (Tc := TX12) (N := 19) (j := 17) ly_X12_parseRanged_12 rfl (hG _ (List.mem_of_getElem? (i := 0) rfl)) (of10_0 _) (ce10 T ad _ _) (by decide) (cx_ts C _ fl_X12_parseRanged_63) (fun _ h => h) (v := .int (Y 10 0 0 17)) rfl dX12_parseRanged_38 ?_
      obtain ⟨b5, h⟩ := gd_some h
      obtain ⟨Y6, e7, h⟩ := lt_some h
      refine fw_iast2 C (hG _ (List.mem_of_getElem? (i := 0) rfl)) (of10_1 _) (ca10_1 T ad _) b5 (Nat.le_of_ble_eq_true rfl) dX12_parseRanged_41 ?_
      refine fw_mem e7 ?_
      refine fw_aload_n C dX12_parseRanged_42 rfl 0 rfl ?_
      obtain ⟨Y10, q9, h⟩ := bd1_some h
      refine fw_callVv C (ci := 10) (Cn := RX12) (Tc := TX12) (N := 19) (As := []) (c_X12_token (gac (hG _ (List.mem_of_getElem? (i := 0) rfl)) ga0) q9) (cwV 0 (cx_ts C) gX12_parseRanged_X12_token rfl rfl rfl (by decide +kernel) ⟨Nat.le_of_ble_eq_true rfl, Nat.le_of_ble_eq_true rfl⟩) rfl (hG _ (List.mem_of_getElem? (i := 0) rfl)) (of10_0 _) (ce10 T ad _ _) rfl (st := []) rfl (Nat.le_of_ble_eq_true rfl) ⟨Nat.le_refl 0, Nat.le_refl 0⟩ dX12_parseRanged_43 (ppv ?_)
      refine fw_iconst C dX12_parseRanged_46 (v := 1) rfl ?_
      exact fw_zret C hrt (by decide) Y10 (Option.some.inj h) (fun t ht => ht) dX12_parseRanged_47
    · have h := ite_t c4 h
      refine fw_aload_n C dX12_parseRanged_26 rfl 0 rfl ?_
      refine fw_iconst C dX12_parseRanged_27 (v := 2) rfl ?_
      obtain ⟨r11, Y13, q12, h⟩ := bd2_some h
      refine fw_callVi C (ci := 10) (Cn := RX12) (Tc := TX12) (N := 19) (As := [.int 2]) (c_X12_wrong (gac (hG _ (List.mem_of_getElem? (i := 0) rfl)) ga0) q12) (cwV 1 (cx_ts C) gX12_parseRanged_X12_wrong rfl rfl rfl (by decide +kernel) ⟨Nat.le_of_ble_eq_true rfl, Nat.le_of_ble_eq_true rfl⟩) rfl (hG _ (List.mem_of_getElem? (i := 0) rfl)) (of10_0 _) (ce10 T ad _ _) rfl (st := []) rfl (Nat.le_of_ble_eq_true rfl) ⟨Nat.le_refl 0, Nat.le_refl 0⟩ dX12_parseRanged_28 (ppw ?_)
      obtain ⟨b14, h⟩ := gd_some h
      exact fw_zret C hrt (of_decide_eq_true b14) Y13 (Option.some.inj h) (fun t ht => ht) dX12_parseRanged_31
  · have h := ite_f c1 h
    refine fw_aload_n C dX12_parseRanged_8 rfl 0 rfl ?_
    refine fw_iconst C dX12_parseRanged_9 (v := 1) rfl ?_
    obtain ⟨r15, Y17, q16, h⟩ := bd2_some h
    refine fw_callVi C (ci := 10) (Cn := RX12) (Tc := TX12) (N := 19) (As := [.int 1]) (c_X12_wrong (gac (hG _ (List.mem_of_getElem? (i := 0) rfl)) ga0) q16) (cwV 1 (cx_ts C) gX12_parseRanged_X12_wrong rfl rfl rfl (by decide +kernel) ⟨Nat.le_of_ble_eq_true rfl, Nat.le_of_ble_eq_true rfl⟩) rfl (hG _ (List.mem_of_getElem? (i := 0) rfl)) (of10_0 _) (ce10 T ad _ _) rfl (st := []) rfl (Nat.le_of_ble_eq_true rfl) ⟨Nat.le_refl 0, Nat.le_refl 0⟩ dX12_parseRanged_10 (ppw ?_)
    obtain ⟨b18, h⟩ := gd_some h
    exact fw_zret C hrt (of_decide_eq_true b18) Y17 (Option.some.inj h) (fun t ht => ht) dX12_parseRanged_13
end
set_option maxRecDepth 100000 in
set_option maxHeartbeats 4000000 in
theorem c_X12_parseRanged {l : Launch} {N0 : Nat} {T : Nat → ClassId} {D : va_G} {gr : List (Nat × Nat)} {ad : Nat → Nat → Nat → Nat} {Y : Mem} {a1 : Int32} {a2 : Int32} {a3 : Int32} {res : Int32 × Mem} (hG : ∀ q ∈ [(10, 0)], q ∈ gr) (h : X12_parseRanged Y a1 a2 a3 = some res) : CI l yX12_parseRanged wsX12_parseRanged (Rm 2) N0 T D gr ad Y [.ref (ad 10 0 0), .int a1, .int a2, .int a3] (fun r Y1 => (r, Y1) = res) :=
  fw_body (by decide +kernel) rfl (Nat.le_of_ble_eq_true rfl) (fun p e s m below meth c C hrt => w_X12_parseRanged C hrt hG  h)
theorem ly_X12_semicolon_12 : ∀ w ∈ u_ws RX12 TX12 19, w ∈ wsX12_semicolon := by decide +kernel
theorem fl_X12_semicolon_57 : Cond.fieldLink RX12 57 "RecipeSchedulerModel" "type" "I" ∈ wsX12_semicolon := by decide +kernel
section
variable {p : Program} {l : Launch} {e : Env} {s : State} {m : MethodId} {below : List Frame} {meth : Method} {c : Code} {N0 : Nat} {T : Nat → ClassId} {D : va_G} {gr : List (Nat × Nat)} {ad : Nat → Nat → Nat → Nat}
set_option maxRecDepth 100000 in
set_option maxHeartbeats 4000000 in
theorem w_X12_semicolon {Y : Mem} (C : Cx p s m [.ref (ad 10 0 0)].toArray meth c cX12_semicolon 1 wsX12_semicolon RX12 N0 T D gr ad) (hrt : meth.sig.returnType = (some .boolean)) (hG : ∀ q ∈ [(10, 0)], q ∈ gr) {res : Int32 × Mem} (h : X12_semicolon Y = some res) : FW p l e (Rm 2) s m [.ref (ad 10 0 0)].toArray below meth c 1 N0 T D gr ad 0 0 (MQ below (va_Qi (fun r Y1 => (r, Y1) = res) (WB T D gr ad) (fun q => N0 ≤ q)) [.ref (ad 10 0 0)].toArray s 0 0 (fun q => N0 ≤ q)) Y 0 [(0, .ref (ad 10 0 0))] [] := by
  unfold X12_semicolon at h
  refine fw_aload_n C dX12_semicolon_0 rfl 0 rfl ?_
  refine fw_get C (ci := 10) (Cn := RX12) (Tc := TX12) (N := 19) (j := 15) ly_X12_semicolon_12 rfl (hG _ (List.mem_of_getElem? (i := 0) rfl)) (of10_0 _) (ce10 T ad _ _) (by decide) (cx_ts C _ fl_X12_semicolon_57) (fun _ h => h) (v := .int (Y 10 0 0 15)) rfl dX12_semicolon_1 ?_
  refine fw_iconst C dX12_semicolon_4 (v := 3) rfl ?_
  refine fw_icmp_eq C dX12_semicolon_5 (tgt := 14) rfl (fun c1 => ?_) (fun c1 => ?_)
  · have h := ite_t c1 h
    refine fw_aload_n C dX12_semicolon_14 rfl 0 rfl ?_
    obtain ⟨Y4, q3, h⟩ := bd1_some h
    refine fw_callVv C (ci := 10) (Cn := RX12) (Tc := TX12) (N := 19) (As := []) (c_X12_token (gac (hG _ (List.mem_of_getElem? (i := 0) rfl)) ga0) q3) (cwV 0 (cx_ts C) gX12_semicolon_X12_token rfl rfl rfl (by decide +kernel) ⟨Nat.le_of_ble_eq_true rfl, Nat.le_of_ble_eq_true rfl⟩) rfl (hG _ (List.mem_of_getElem? (i := 0) rfl)) (of10_0 _) (ce10 T ad _ _) rfl (st := []) rfl (Nat.le_of_ble_eq_true rfl) ⟨Nat.le_refl 0, Nat.le_refl 0⟩ dX12_semicolon_15 (ppv ?_)
    refine fw_iconst C dX12_semicolon_18 (v := 1) rfl ?_
    exact fw_zret C hrt (by decide) Y4 (Option.some.inj h) (fun t ht => ht) dX12_semicolon_19
  · have h := ite_f c1 h
    refine fw_aload_n C dX12_semicolon_8 rfl 0 rfl ?_
    refine fw_iconst C dX12_semicolon_9 (v := 1) rfl ?_
    obtain ⟨r5, Y7, q6, h⟩ := bd2_some h
    refine fw_callVi C (ci := 10) (Cn := RX12) (Tc := TX12) (N := 19) (As := [.int 1]) (c_X12_wrong (gac (hG _ (List.mem_of_getElem? (i := 0) rfl)) ga0) q6) (cwV 1 (cx_ts C) gX12_semicolon_X12_wrong rfl rfl rfl (by decide +kernel) ⟨Nat.le_of_ble_eq_true rfl, Nat.le_of_ble_eq_true rfl⟩) rfl (hG _ (List.mem_of_getElem? (i := 0) rfl)) (of10_0 _) (ce10 T ad _ _) rfl (st := []) rfl (Nat.le_of_ble_eq_true rfl) ⟨Nat.le_refl 0, Nat.le_refl 0⟩ dX12_semicolon_10 (ppw ?_)
    obtain ⟨b8, h⟩ := gd_some h
    exact fw_zret C hrt (of_decide_eq_true b8) Y7 (Option.some.inj h) (fun t ht => ht) dX12_semicolon_13
end
set_option maxRecDepth 100000 in
set_option maxHeartbeats 4000000 in
theorem c_X12_semicolon {l : Launch} {N0 : Nat} {T : Nat → ClassId} {D : va_G} {gr : List (Nat × Nat)} {ad : Nat → Nat → Nat → Nat} {Y : Mem} {res : Int32 × Mem} (hG : ∀ q ∈ [(10, 0)], q ∈ gr) (h : X12_semicolon Y = some res) : CI l yX12_semicolon wsX12_semicolon (Rm 2) N0 T D gr ad Y [.ref (ad 10 0 0)] (fun r Y1 => (r, Y1) = res) :=
  fw_body (by decide +kernel) rfl (Nat.le_of_ble_eq_true rfl) (fun p e s m below meth c C hrt => w_X12_semicolon C hrt hG  h)
theorem ly_X12_panNamed_12 : ∀ w ∈ u_ws RX12 TX12 19, w ∈ wsX12_panNamed := by decide +kernel
theorem fl_X12_panNamed_13 : Cond.fieldLink RX12 13 "RecipeSchedulerModel" "m" "[I" ∈ wsX12_panNamed := by decide +kernel
section
variable {p : Program} {l : Launch} {e : Env} {s : State} {m : MethodId} {below : List Frame} {meth : Method} {c : Code} {N0 : Nat} {T : Nat → ClassId} {D : va_G} {gr : List (Nat × Nat)} {ad : Nat → Nat → Nat → Nat}
set_option maxRecDepth 100000 in
set_option maxHeartbeats 4000000 in
theorem w_X12_panNamed_b2 {Y : Mem} {a1 : Int32} {a2 : Int32} (C : Cx p s m [.ref (ad 10 0 0), .int a1, .int a2].toArray meth c cX12_panNamed 4 wsX12_panNamed RX12 N0 T D gr ad) (hrt : meth.sig.returnType = (some .int)) (hG : ∀ q ∈ [(10, 0)], q ∈ gr) {res : Int32} : ∀ (n : Nat) (l3 : Int32), X12_panNamed_b2 Y a1 a2  n l3 = some res → FW p l e (Rm 1) s m [.ref (ad 10 0 0), .int a1, .int a2].toArray below meth c 4 N0 T D gr ad 0 0 (MQ below (va_Qi (fun r Y1 => r = res ∧ Y1 = Y) (WB T D gr ad) (fun q => N0 ≤ q)) [.ref (ad 10 0 0), .int a1, .int a2].toArray s 0 0 (fun q => N0 ≤ q)) Y 2 [(3, .int l3), (0, .ref (ad 10 0 0)), (1, .int a1), (2, .int a2)] [] := by
  intro n
  induction n with
  | zero =>
    intro l3 h
    unfold X12_panNamed_b2 at h
    cases h
  | succ n ih =>
    intro l3 h
    unfold X12_panNamed_b2 at h
    refine fw_iload_n C dX12_panNamed_2 rfl 0 rfl ?_
    refine fw_aload_n C dX12_panNamed_3 rfl 1 rfl ?_
    refine fw_get C (ci := 10) (Cn := RX12) (Tc := TX12) (N := 19) (j := 0) ly_X12_panNamed_12 rfl (hG _ (List.mem_of_getElem? (i := 0) rfl)) (of10_0 _) (ce10 T ad _ _) (by decide) (cx_ts C _ fl_X12_panNamed_13) (fun _ h => h) (v := .ref (ad 10 0 1)) rfl dX12_panNamed_4 ?_
    refine fw_bipush C dX12_panNamed_7 (v := 12) rfl ?_
    obtain ⟨b1, h⟩ := gd_some h
    refine fw_iald2 C (hG _ (List.mem_of_getElem? (i := 0) rfl)) (of10_1 _) (ca10_1 T ad _ _) b1 (Nat.le_of_ble_eq_true rfl) dX12_panNamed_9 ?_
    refine fw_icmp_ge C dX12_panNamed_10 (tgt := 37) rfl (fun c2 => ?_) (fun c2 => ?_)
    · have h := ite_t c2 h
      refine fw_iconst C dX12_panNamed_37 (v := (-1)) rfl ?_
      exact fw_iret C hrt Y ⟨Option.some.inj h, rfl⟩ (fun t ht => ht) dX12_panNamed_38
    · have h := ite_f c2 h
      refine fw_aload_n C dX12_panNamed_13 rfl 1 rfl ?_
      refine fw_bipush C dX12_panNamed_14 (v := 14) rfl ?_
      refine fw_iload_n C dX12_panNamed_16 rfl 0 rfl ?_
      refine fw_bipush C dX12_panNamed_17 (v := 8) rfl ?_
      refine fw_imul C dX12_panNamed_19 ?_
      refine fw_iadd C dX12_panNamed_20 ?_
      refine fw_iload_n C dX12_panNamed_21 rfl 2 rfl ?_
      refine fw_iload_n C dX12_panNamed_22 rfl 3 rfl ?_
      obtain ⟨r3, q4, h⟩ := bd1_some h
      refine fw_callVi C (ci := 10) (Cn := RX12) (Tc := TX12) (N := 19) (As := [.int (14 + (l3 * 8)), .int a1, .int a2]) (c_X12_isNamed (gac (hG _ (List.mem_of_getElem? (i := 0) rfl)) ga0) q4) (cwV 3 (cx_ts C) gX12_panNamed_X12_isNamed rfl rfl rfl (by decide +kernel) ⟨Nat.le_of_ble_eq_true rfl, Nat.le_of_ble_eq_true rfl⟩) rfl (hG _ (List.mem_of_getElem? (i := 0) rfl)) (of10_0 _) (ce10 T ad _ _) rfl (st := []) rfl (Nat.le_of_ble_eq_true rfl) ⟨Nat.le_refl 0, Nat.le_refl 0⟩ dX12_panNamed_23 (pp2 ?_)
      refine fw_if_eq C dX12_panNamed_26 (tgt := 31) rfl (fun c5 => ?_) (fun c5 => ?_)
      · have h := ite_t c5 h
        refine fw_iinc C dX12_panNamed_31 (kk := 0) (v := l3 + 1) rfl rfl (by decide) (L' := [(3, .int (l3 + 1)), (0, .ref (ad 10 0 0)), (1, .int a1), (2, .int a2)]) rfl ?_
        refine fw_goto C dX12_panNamed_34 (tgt := 2) rfl ?_
        exact ih _ h
      · have h := ite_f c5 h
        refine fw_iload_n C dX12_panNamed_29 rfl 0 rfl ?_
        exact fw_iret C hrt Y ⟨Option.some.inj h, rfl⟩ (fun t ht => ht) dX12_panNamed_30
set_option maxRecDepth 100000 in
set_option maxHeartbeats 4000000 in
theorem w_X12_panNamed {Y : Mem} {a1 : Int32} {a2 : Int32} (C : Cx p s m [.ref (ad 10 0 0), .int a1, .int a2].toArray meth c cX12_panNamed 4 wsX12_panNamed RX12 N0 T D gr ad) (hrt : meth.sig.returnType = (some .int)) (hG : ∀ q ∈ [(10, 0)], q ∈ gr) {res : Int32} (h : X12_panNamed Y a1 a2 = some res) : FW p l e (Rm 1) s m [.ref (ad 10 0 0), .int a1, .int a2].toArray below meth c 4 N0 T D gr ad 0 0 (MQ below (va_Qi (fun r Y1 => r = res ∧ Y1 = Y) (WB T D gr ad) (fun q => N0 ≤ q)) [.ref (ad 10 0 0), .int a1, .int a2].toArray s 0 0 (fun q => N0 ≤ q)) Y 0 [(0, .ref (ad 10 0 0)), (1, .int a1), (2, .int a2)] [] := by
  unfold X12_panNamed at h
  refine fw_iconst C dX12_panNamed_0 (v := 0) rfl ?_
  refine fw_istore_n C dX12_panNamed_1 rfl (by decide) (L' := [(3, .int 0), (0, .ref (ad 10 0 0)), (1, .int a1), (2, .int a2)]) rfl ?_
  exact w_X12_panNamed_b2 C hrt hG   _ _ h
end
set_option maxRecDepth 100000 in
set_option maxHeartbeats 4000000 in
theorem c_X12_panNamed {l : Launch} {N0 : Nat} {T : Nat → ClassId} {D : va_G} {gr : List (Nat × Nat)} {ad : Nat → Nat → Nat → Nat} {Y : Mem} {a1 : Int32} {a2 : Int32} {res : Int32} (hG : ∀ q ∈ [(10, 0)], q ∈ gr) (h : X12_panNamed Y a1 a2 = some res) : CI l yX12_panNamed wsX12_panNamed (Rm 1) N0 T D gr ad Y [.ref (ad 10 0 0), .int a1, .int a2] (fun r Y1 => r = res ∧ Y1 = Y) :=
  fw_body (by decide +kernel) rfl (Nat.le_of_ble_eq_true rfl) (fun p e s m below meth c C hrt => w_X12_panNamed C hrt hG  h)
theorem ly_X12_putName_12 : ∀ w ∈ u_ws RX12 TX12 19, w ∈ wsX12_putName := by decide +kernel
theorem fl_X12_putName_13 : Cond.fieldLink RX12 13 "RecipeSchedulerModel" "m" "[I" ∈ wsX12_putName := by decide +kernel
theorem fl_X12_putName_54 : Cond.fieldLink RX12 54 "RecipeSchedulerModel" "ahead" "I" ∈ wsX12_putName := by decide +kernel
theorem fl_X12_putName_60 : Cond.fieldLink RX12 60 "RecipeSchedulerModel" "from" "I" ∈ wsX12_putName := by decide +kernel
theorem fl_X12_putName_24 : Cond.fieldLink RX12 24 "RecipeSchedulerModel" "buffer" "[I" ∈ wsX12_putName := by decide +kernel
section
variable {p : Program} {l : Launch} {e : Env} {s : State} {m : MethodId} {below : List Frame} {meth : Method} {c : Code} {N0 : Nat} {T : Nat → ClassId} {D : va_G} {gr : List (Nat × Nat)} {ad : Nat → Nat → Nat → Nat}
set_option maxRecDepth 100000 in
set_option maxHeartbeats 4000000 in
theorem w_X12_putName_b20 {a1 : Int32} (C : Cx p s m [.ref (ad 10 0 0), .int a1].toArray meth c cX12_putName 3 wsX12_putName RX12 N0 T D gr ad) (hrt : meth.sig.returnType = none) (hG : ∀ q ∈ [(10, 0)], q ∈ gr) {res : Mem} : ∀ (n : Nat) (Y : Mem) (l2 : Int32), X12_putName_b20 a1  n Y l2 = some res → FW p l e (Rm 2) s m [.ref (ad 10 0 0), .int a1].toArray below meth c 3 N0 T D gr ad 0 0 (MQ below (va_Qv (fun Y1 => Y1 = res) (WB T D gr ad) (fun q => N0 ≤ q)) [.ref (ad 10 0 0), .int a1].toArray s 0 0 (fun q => N0 ≤ q)) Y 20 [(2, .int l2), (0, .ref (ad 10 0 0)), (1, .int a1)] [] := by
  intro n
  induction n with
  | zero =>
    intro Y l2 h
    unfold X12_putName_b20 at h
    cases h
  | succ n ih =>
    intro Y l2 h
    unfold X12_putName_b20 at h
    refine fw_iload_n C dX12_putName_20 rfl 0 rfl ?_
    refine fw_aload_n C dX12_putName_21 rfl 1 rfl ?_
    refine fw_get C (ci := 10) (Cn := RX12) (Tc := TX12) (N := 19) (j := 14) ly_X12_putName_12 rfl (hG _ (List.mem_of_getElem? (i := 0) rfl)) (of10_0 _) (ce10 T ad _ _) (by decide) (cx_ts C _ fl_X12_putName_54) (fun _ h => h) (v := .int (Y 10 0 0 14)) rfl dX12_putName_22 ?_
    refine fw_icmp_ge C dX12_putName_25 (tgt := 55) rfl (fun c6 => ?_) (fun c6 => ?_)
    · have h := ite_t c6 h
      refine fw_aload_n C dX12_putName_55 rfl 1 rfl ?_
      obtain ⟨Y9, q8, h⟩ := bd1_some h
      refine fw_callVv C (ci := 10) (Cn := RX12) (Tc := TX12) (N := 19) (As := []) (c_X12_token (gac (hG _ (List.mem_of_getElem? (i := 0) rfl)) ga0) q8) (cwV 0 (cx_ts C) gX12_putName_X12_token rfl rfl rfl (by decide +kernel) ⟨Nat.le_of_ble_eq_true rfl, Nat.le_of_ble_eq_true rfl⟩) rfl (hG _ (List.mem_of_getElem? (i := 0) rfl)) (of10_0 _) (ce10 T ad _ _) rfl (st := []) rfl (Nat.le_of_ble_eq_true rfl) ⟨Nat.le_refl 0, Nat.le_refl 0⟩ dX12_putName_56 (ppv ?_)
      exact fw_vret C hrt Y9 (Option.some.inj h) (fun t ht => ht) dX12_putName_59
    · have h := ite_f c6 h
      refine fw_aload_n C dX12_putName_28 rfl 1 rfl ?_
      refine fw_get C (ci := 10) (Cn := RX12) (Tc := TX12) (N := 19) (j := 0) ly_X12_putName_12 rfl (hG _ (List.mem_of_getElem? (i := 0) rfl)) (of10_0 _) (ce10 T ad _ _) (by decide) (cx_ts C _ fl_X12_putName_13) (fun _ h => h) (v := .ref (ad 10 0 1)) rfl dX12_putName_29 ?_
      refine fw_iload_n C dX12_putName_32 rfl 2 rfl ?_
      refine fw_iconst C dX12_putName_33 (v := 1) rfl ?_
      refine fw_iadd C dX12_putName_34 ?_
      refine fw_iload_n C dX12_putName_35 rfl 0 rfl ?_
      refine fw_iadd C dX12_putName_36 ?_
      refine fw_aload_n C dX12_putName_37 rfl 1 rfl ?_
      refine fw_get C (ci := 10) (Cn := RX12) (Tc := TX12) (N := 19) (j := 16) ly_X12_putName_12 rfl (hG _ (List.mem_of_getElem? (i := 0) rfl)) (of10_0 _) (ce10 T ad _ _) (by decide) (cx_ts C _ fl_X12_putName_60) (fun _ h => h) (v := .int (Y 10 0 0 16)) rfl dX12_putName_38 ?_
      refine fw_isub C dX12_putName_41 ?_
      refine fw_aload_n C dX12_putName_42 rfl 1 rfl ?_
      refine fw_get C (ci := 10) (Cn := RX12) (Tc := TX12) (N := 19) (j := 3) ly_X12_putName_12 rfl (hG _ (List.mem_of_getElem? (i := 0) rfl)) (of10_0 _) (ce10 T ad _ _) (by decide) (cx_ts C _ fl_X12_putName_24) (fun _ h => h) (v := .ref (ad 10 0 3)) rfl dX12_putName_43 ?_
      refine fw_iload_n C dX12_putName_46 rfl 0 rfl ?_
      obtain ⟨b10, h⟩ := gd_some h
      refine fw_iald2 C (hG _ (List.mem_of_getElem? (i := 0) rfl)) (of10_3 _) (ca10_3 T ad _ _) b10 (Nat.le_of_ble_eq_true rfl) dX12_putName_47 ?_
      obtain ⟨b11, h⟩ := gd_some h
      obtain ⟨Y12, e13, h⟩ := lt_some h
      refine fw_iast2 C (hG _ (List.mem_of_getElem? (i := 0) rfl)) (of10_1 _) (ca10_1 T ad _) b11 (Nat.le_of_ble_eq_true rfl) dX12_putName_48 ?_
      refine fw_mem e13 ?_
      refine fw_iinc C dX12_putName_49 (kk := 0) (v := l2 + 1) rfl rfl (by decide) (L' := [(2, .int (l2 + 1)), (0, .ref (ad 10 0 0)), (1, .int a1)]) rfl ?_
      refine fw_goto C dX12_putName_52 (tgt := 20) rfl ?_
      exact ih _ _ h
set_option maxRecDepth 100000 in
set_option maxHeartbeats 4000000 in
theorem w_X12_putName {Y : Mem} {a1 : Int32} (C : Cx p s m [.ref (ad 10 0 0), .int a1].toArray meth c cX12_putName 3 wsX12_putName RX12 N0 T D gr ad) (hrt : meth.sig.returnType = none) (hG : ∀ q ∈ [(10, 0)], q ∈ gr) {res : Mem} (h : X12_putName Y a1 = some res) : FW p l e (Rm 2) s m [.ref (ad 10 0 0), .int a1].toArray below meth c 3 N0 T D gr ad 0 0 (MQ below (va_Qv (fun Y1 => Y1 = res) (WB T D gr ad) (fun q => N0 ≤ q)) [.ref (ad 10 0 0), .int a1].toArray s 0 0 (fun q => N0 ≤ q)) Y 0 [(0, .ref (ad 10 0 0)), (1, .int a1)] [] := by
  unfold X12_putName at h
  refine fw_aload_n C dX12_putName_0 rfl 0 rfl ?_
  refine fw_get C (ci := 10) (Cn := RX12) (Tc := TX12) (N := 19) (j := 0) ly_X12_putName_12 rfl (hG _ (List.mem_of_getElem? (i := 0) rfl)) (of10_0 _) (ce10 T ad _ _) (by decide) (cx_ts C _ fl_X12_putName_13) (fun _ h => h) (v := .ref (ad 10 0 1)) rfl dX12_putName_1 ?_
  refine fw_iload_n C dX12_putName_4 rfl 1 rfl ?_
  refine fw_aload_n C dX12_putName_5 rfl 0 rfl ?_
  refine fw_get C (ci := 10) (Cn := RX12) (Tc := TX12) (N := 19) (j := 14) ly_X12_putName_12 rfl (hG _ (List.mem_of_getElem? (i := 0) rfl)) (of10_0 _) (ce10 T ad _ _) (by decide) (cx_ts C _ fl_X12_putName_54) (fun _ h => h) (v := .int (Y 10 0 0 14)) rfl dX12_putName_6 ?_
  refine fw_aload_n C dX12_putName_9 rfl 0 rfl ?_
  refine fw_get C (ci := 10) (Cn := RX12) (Tc := TX12) (N := 19) (j := 16) ly_X12_putName_12 rfl (hG _ (List.mem_of_getElem? (i := 0) rfl)) (of10_0 _) (ce10 T ad _ _) (by decide) (cx_ts C _ fl_X12_putName_60) (fun _ h => h) (v := .int (Y 10 0 0 16)) rfl dX12_putName_10 ?_
  refine fw_isub C dX12_putName_13 ?_
  obtain ⟨b1, h⟩ := gd_some h
  obtain ⟨Y2, e3, h⟩ := lt_some h
  refine fw_iast2 C (hG _ (List.mem_of_getElem? (i := 0) rfl)) (of10_1 _) (ca10_1 T ad _) b1 (Nat.le_of_ble_eq_true rfl) dX12_putName_14 ?_
  refine fw_mem e3 ?_
  refine fw_aload_n C dX12_putName_15 rfl 0 rfl ?_
  refine fw_get C (ci := 10) (Cn := RX12) (Tc := TX12) (N := 19) (j := 16) ly_X12_putName_12 rfl (hG _ (List.mem_of_getElem? (i := 0) rfl)) (of10_0 _) (ce10 T ad _ _) (by decide) (cx_ts C _ fl_X12_putName_60) (fun _ h => h) (v := .int (Y2 10 0 0 16)) rfl dX12_putName_16 ?_
  obtain ⟨v4, e5, h⟩ := lt_some h
  refine fw_top (v' := .int v4) (by rw [e5]) ?_
  refine fw_istore_n C dX12_putName_19 rfl (by decide) (L' := [(2, .int v4), (0, .ref (ad 10 0 0)), (1, .int a1)]) rfl ?_
  exact w_X12_putName_b20 C hrt hG   _ _ _ h
end
set_option maxRecDepth 100000 in
set_option maxHeartbeats 4000000 in
theorem c_X12_putName {l : Launch} {N0 : Nat} {T : Nat → ClassId} {D : va_G} {gr : List (Nat × Nat)} {ad : Nat → Nat → Nat → Nat} {Y : Mem} {a1 : Int32} {res : Mem} (hG : ∀ q ∈ [(10, 0)], q ∈ gr) (h : X12_putName Y a1 = some res) : CV l yX12_putName wsX12_putName (Rm 2) N0 T D gr ad Y [.ref (ad 10 0 0), .int a1] (fun Y1 => Y1 = res) :=
  fw_body (by decide +kernel) rfl (Nat.le_of_ble_eq_true rfl) (fun p e s m below meth c C hrt => w_X12_putName C hrt hG  h)
