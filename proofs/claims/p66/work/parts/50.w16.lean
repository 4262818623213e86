theorem ly_X11_setCooks_11 : ∀ w ∈ u_ws RX11 TX11 11, w ∈ wsX11_setCooks := by decide +kernel
theorem fl_X11_setCooks_77 : Cond.fieldLink RX11 77 "RecipeScheduler" "history" "LRecipeScheduler$History;" ∈ wsX11_setCooks := by decide +kernel
theorem fl_X11_setCooks_67 : Cond.fieldLink RX11 67 "RecipeScheduler" "now" "LRecipeScheduler$Kitchen;" ∈ wsX11_setCooks := by decide +kernel
theorem ly_X11_setCooks_3 : ∀ w ∈ u_ws RX3 TX3 5, w ∈ wsX11_setCooks := by decide +kernel
theorem ly_X11_setCooks_8 : ∀ w ∈ u_ws RX8 TX8 15, w ∈ wsX11_setCooks := by decide +kernel
section
variable {p : Program} {l : Launch} {e : Env} {s : State} {m : MethodId} {below : List Frame} {meth : Method} {c : Code} {N0 : Nat} {T : Nat → ClassId} {D : va_G} {gr : List (Nat × Nat)} {ad : Nat → Nat → Nat → Nat}
set_option maxRecDepth 100000 in
set_option maxHeartbeats 4000000 in
theorem w_X11_setCooks {Y : Mem} {a1 : Int32} (C : Cx p s m [.ref (ad 0 0 0), .int a1].toArray meth c cX11_setCooks 3 wsX11_setCooks RX11 N0 T D gr ad) (hrt : meth.sig.returnType = (some .int)) (hG : ∀ q ∈ ([(0, 0), (1, 0), (2, 0), (9, 0)] ++ allG), q ∈ gr) {res : Int32 × Mem} (h : X11_setCooks Y a1 = some res) : FW p l e (Rm 3) s m [.ref (ad 0 0 0), .int a1].toArray below meth c 3 N0 T D gr ad 0 0 (MQ below (va_Qi (fun r Y1 => (r, Y1) = res) (WB T D gr ad) (fun q => N0 ≤ q)) [.ref (ad 0 0 0), .int a1].toArray s 0 0 (fun q => N0 ≤ q)) Y 0 [(0, .ref (ad 0 0 0)), (1, .int a1)] [] := by
  unfold X11_setCooks at h
  refine fw_aload_n C dX11_setCooks_0 rfl 0 rfl ?_
  refine fw_iload_n C dX11_setCooks_1 rfl 1 rfl ?_
  obtain ⟨_, q2, h⟩ := bd1_some h
  refine fw_callVv C (ci := 11) (Cn := RX11) (Tc := TX11) (N := 11) (As := [.int a1]) (c_X11_requireCooks (gac (hG _ (List.mem_of_getElem? (i := 0) rfl)) ga0) q2) (cwV 1 (cx_ts C) gX11_setCooks_X11_requireCooks rfl rfl rfl (by decide +kernel) ⟨Nat.le_of_ble_eq_true rfl, Nat.le_of_ble_eq_true rfl⟩) rfl (hG _ (List.mem_of_getElem? (i := 0) rfl)) (of0_0 _) (ce0 T ad _ _) rfl (st := []) rfl (Nat.le_of_ble_eq_true rfl) ⟨Nat.le_refl 0, Nat.le_refl 0⟩ dX11_setCooks_2 (ppv ?_)
  refine fw_aload_n C dX11_setCooks_5 rfl 0 rfl ?_
  refine fw_get C (ci := 11) (Cn := RX11) (Tc := TX11) (N := 11) (j := 7) ly_X11_setCooks_11 rfl (hG _ (List.mem_of_getElem? (i := 0) rfl)) (of0_0 _) (ce0 T ad _ _) (by decide) (cx_ts C _ fl_X11_setCooks_77) (fun _ h => h) (v := .ref (ad 9 0 0)) rfl dX11_setCooks_6 ?_
  refine fw_aload_n C dX11_setCooks_9 rfl 0 rfl ?_
  refine fw_get C (ci := 11) (Cn := RX11) (Tc := TX11) (N := 11) (j := 5) ly_X11_setCooks_11 rfl (hG _ (List.mem_of_getElem? (i := 0) rfl)) (of0_0 _) (ce0 T ad _ _) (by decide) (cx_ts C _ fl_X11_setCooks_67) (fun _ h => h) (v := .ref (ad 1 0 0)) rfl dX11_setCooks_10 ?_
  refine fw_getN C (ci := 3) (Cn := RX3) (Tc := TX3) (N := 5) (j := 1) ly_X11_setCooks_3 rfl (hG _ (List.mem_of_getElem? (i := 1) rfl)) (of1_0 _) (ce1 T ad _ _) (by decide) (Nst_use (cx_nst C) (w := .fieldLinkNest RX11 139 "RecipeScheduler$Kitchen" "state" "LRecipeScheduler$State;" "RecipeScheduler") 509 (by decide +kernel) rfl) (fun _ h => h) (v := .ref (ad 2 0 0)) rfl dX11_setCooks_13 ?_
  obtain ⟨Y5, q4, h⟩ := bd1_some h
  refine fw_callVv C (ci := 2) (Cn := RX2) (Tc := TX2) (N := 3) (As := [.ref (ad 2 0 0)]) (c_X2_push (gac (hG _ (List.mem_of_getElem? (i := 3) rfl)) (gac (hG _ (List.mem_of_getElem? (i := 2) rfl)) (fun q hq => hG q (List.mem_append_right _ hq)))) q4) (cwV 1 (cx_ts C) gX11_setCooks_X2_push rfl rfl rfl (by decide +kernel) ⟨Nat.le_of_ble_eq_true rfl, Nat.le_of_ble_eq_true rfl⟩) rfl (hG _ (List.mem_of_getElem? (i := 3) rfl)) (of9_0 _) (ce9 T ad _ _) rfl (st := []) rfl (Nat.le_of_ble_eq_true rfl) ⟨Nat.le_refl 0, Nat.le_refl 0⟩ dX11_setCooks_16 (ppv ?_)
  refine fw_aload_n C dX11_setCooks_19 rfl 0 rfl ?_
  refine fw_get C (ci := 11) (Cn := RX11) (Tc := TX11) (N := 11) (j := 5) ly_X11_setCooks_11 rfl (hG _ (List.mem_of_getElem? (i := 0) rfl)) (of0_0 _) (ce0 T ad _ _) (by decide) (cx_ts C _ fl_X11_setCooks_67) (fun _ h => h) (v := .ref (ad 1 0 0)) rfl dX11_setCooks_20 ?_
  refine fw_getN C (ci := 3) (Cn := RX3) (Tc := TX3) (N := 5) (j := 1) ly_X11_setCooks_3 rfl (hG _ (List.mem_of_getElem? (i := 1) rfl)) (of1_0 _) (ce1 T ad _ _) (by decide) (Nst_use (cx_nst C) (w := .fieldLinkNest RX11 139 "RecipeScheduler$Kitchen" "state" "LRecipeScheduler$State;" "RecipeScheduler") 509 (by decide +kernel) rfl) (fun _ h => h) (v := .ref (ad 2 0 0)) rfl dX11_setCooks_23 ?_
  refine fw_getN C (ci := 8) (Cn := RX8) (Tc := TX8) (N := 15) (j := 0) ly_X11_setCooks_8 rfl (hG _ (List.mem_of_getElem? (i := 2) rfl)) (of2_0 _) (ce2 T ad _ _) (by decide) (Nst_use (cx_nst C) (w := .fieldLinkNest RX11 143 "RecipeScheduler$State" "cooks" "I" "RecipeScheduler") 427 (by decide +kernel) rfl) (fun _ h => h) (v := .int (Y5 2 0 0 0)) rfl dX11_setCooks_26 ?_
  obtain ⟨v6, e7, h⟩ := lt_some h
  refine fw_top (v' := .int v6) (by rw [e7]) ?_
  refine fw_istore_n C dX11_setCooks_29 rfl (by decide) (L' := [(2, .int v6), (0, .ref (ad 0 0 0)), (1, .int a1)]) rfl ?_
  refine fw_aload_n C dX11_setCooks_30 rfl 1 rfl ?_
  refine fw_get C (ci := 11) (Cn := RX11) (Tc := TX11) (N := 11) (j := 5) ly_X11_setCooks_11 rfl (hG _ (List.mem_of_getElem? (i := 0) rfl)) (of0_0 _) (ce0 T ad _ _) (by decide) (cx_ts C _ fl_X11_setCooks_67) (fun _ h => h) (v := .ref (ad 1 0 0)) rfl dX11_setCooks_31 ?_
  refine fw_getN C (ci := 3) (Cn := RX3) (Tc := TX3) (N := 5) (j := 1) ly_X11_setCooks_3 rfl (hG _ (List.mem_of_getElem? (i := 1) rfl)) (of1_0 _) (ce1 T ad _ _) (by decide) (Nst_use (cx_nst C) (w := .fieldLinkNest RX11 139 "RecipeScheduler$Kitchen" "state" "LRecipeScheduler$State;" "RecipeScheduler") 509 (by decide +kernel) rfl) (fun _ h => h) (v := .ref (ad 2 0 0)) rfl dX11_setCooks_34 ?_
  refine fw_iload_n C dX11_setCooks_37 rfl 2 rfl ?_
  obtain ⟨Y8, e9, h⟩ := lt_some h
  refine fw_putN C (ci := 8) (Cn := RX8) (Tc := TX8) (N := 15) (j := 0) (ty := .int) (upd (Y5 2 0 0) 0 a1) ly_X11_setCooks_8 rfl tyX8_ok nmX8 (hG _ (List.mem_of_getElem? (i := 2) rfl)) (of2_0 _) (ce2 T ad _ _) (by decide) (Nst_use (cx_nst C) (w := .fieldLinkNest RX11 143 "RecipeScheduler$State" "cooks" "I" "RecipeScheduler") 427 (by decide +kernel) rfl) (fun _ h => h) rfl (by decide +kernel) rfl rfl (Nat.le_of_ble_eq_true rfl) (ce2_put0 T ad _ _ _) dX11_setCooks_38 ?_
  refine fw_mem ((up_eq _ _ _ _ _ _).symm.trans e9) ?_
  refine fw_iload_n C dX11_setCooks_41 rfl 0 rfl ?_
  exact fw_iret C hrt Y8 (Option.some.inj h) (fun t ht => ht) dX11_setCooks_42
end
set_option maxRecDepth 100000 in
set_option maxHeartbeats 4000000 in
theorem c_X11_setCooks {l : Launch} {N0 : Nat} {T : Nat → ClassId} {D : va_G} {gr : List (Nat × Nat)} {ad : Nat → Nat → Nat → Nat} {Y : Mem} {a1 : Int32} {res : Int32 × Mem} (hG : ∀ q ∈ ([(0, 0), (1, 0), (2, 0), (9, 0)] ++ allG), q ∈ gr) (h : X11_setCooks Y a1 = some res) : CI l yX11_setCooks wsX11_setCooks (Rm 3) N0 T D gr ad Y [.ref (ad 0 0 0), .int a1] (fun r Y1 => (r, Y1) = res) :=
  fw_body (by decide +kernel) rfl (Nat.le_of_ble_eq_true rfl) (fun p e s m below meth c C hrt => w_X11_setCooks C hrt hG  h)
theorem ly_X11_setDuration_11 : ∀ w ∈ u_ws RX11 TX11 11, w ∈ wsX11_setDuration := by decide +kernel
theorem fl_X11_setDuration_77 : Cond.fieldLink RX11 77 "RecipeScheduler" "history" "LRecipeScheduler$History;" ∈ wsX11_setDuration := by decide +kernel
theorem fl_X11_setDuration_67 : Cond.fieldLink RX11 67 "RecipeScheduler" "now" "LRecipeScheduler$Kitchen;" ∈ wsX11_setDuration := by decide +kernel
theorem ly_X11_setDuration_3 : ∀ w ∈ u_ws RX3 TX3 5, w ∈ wsX11_setDuration := by decide +kernel
theorem ly_X11_setDuration_8 : ∀ w ∈ u_ws RX8 TX8 15, w ∈ wsX11_setDuration := by decide +kernel
section
variable {p : Program} {l : Launch} {e : Env} {s : State} {m : MethodId} {below : List Frame} {meth : Method} {c : Code} {N0 : Nat} {T : Nat → ClassId} {D : va_G} {gr : List (Nat × Nat)} {ad : Nat → Nat → Nat → Nat}
set_option maxRecDepth 100000 in
set_option maxHeartbeats 4000000 in
theorem w_X11_setDuration {Y : Mem} {a1 : Int32} {a2 : Int32} (C : Cx p s m [.ref (ad 0 0 0), .int a1, .int a2].toArray meth c cX11_setDuration 4 wsX11_setDuration RX11 N0 T D gr ad) (hrt : meth.sig.returnType = (some .int)) (hG : ∀ q ∈ ([(1, 0), (0, 0), (2, 0), (9, 0)] ++ allG), q ∈ gr) {res : Int32 × Mem} (h : X11_setDuration Y a1 a2 = some res) : FW p l e (Rm 3) s m [.ref (ad 0 0 0), .int a1, .int a2].toArray below meth c 4 N0 T D gr ad 0 0 (MQ below (va_Qi (fun r Y1 => (r, Y1) = res) (WB T D gr ad) (fun q => N0 ≤ q)) [.ref (ad 0 0 0), .int a1, .int a2].toArray s 0 0 (fun q => N0 ≤ q)) Y 0 [(0, .ref (ad 0 0 0)), (1, .int a1), (2, .int a2)] [] := by
  unfold X11_setDuration at h
  refine fw_aload_n C dX11_setDuration_0 rfl 0 rfl ?_
  refine fw_iload_n C dX11_setDuration_1 rfl 1 rfl ?_
  obtain ⟨_, q2, h⟩ := bd1_some h
  refine fw_callVv C (ci := 11) (Cn := RX11) (Tc := TX11) (N := 11) (As := [.int a1]) (c_X11_requireStep (gac (hG _ (List.mem_of_getElem? (i := 1) rfl)) (gac (hG _ (List.mem_of_getElem? (i := 0) rfl)) (fun q hq => hG q (List.mem_append_right _ hq)))) q2) (cwV 1 (cx_ts C) gX11_setDuration_X11_requireStep rfl rfl rfl (by decide +kernel) ⟨Nat.le_of_ble_eq_true rfl, Nat.le_of_ble_eq_true rfl⟩) rfl (hG _ (List.mem_of_getElem? (i := 1) rfl)) (of0_0 _) (ce0 T ad _ _) rfl (st := []) rfl (Nat.le_of_ble_eq_true rfl) ⟨Nat.le_refl 0, Nat.le_refl 0⟩ dX11_setDuration_2 (ppv ?_)
  refine fw_aload_n C dX11_setDuration_5 rfl 0 rfl ?_
  refine fw_iload_n C dX11_setDuration_6 rfl 2 rfl ?_
  obtain ⟨r3, q4, h⟩ := bd1_some h
  refine fw_callVi C (ci := 11) (Cn := RX11) (Tc := TX11) (N := 11) (As := [.int a2]) (c_X11_isDuration ga0 q4) (cwV 1 (cx_ts C) gX11_setDuration_X11_isDuration rfl rfl rfl (by decide +kernel) ⟨Nat.le_of_ble_eq_true rfl, Nat.le_of_ble_eq_true rfl⟩) rfl (hG _ (List.mem_of_getElem? (i := 1) rfl)) (of0_0 _) (ce0 T ad _ _) rfl (st := []) rfl (Nat.le_of_ble_eq_true rfl) ⟨Nat.le_refl 0, Nat.le_refl 0⟩ dX11_setDuration_7 (pp2 ?_)
  refine fw_if_ne C dX11_setDuration_10 (tgt := 24) rfl (fun c5 => ?_) (fun c5 => ?_)
  · have h := ite_f c5 h
    refine fw_aload_n C dX11_setDuration_24 rfl 0 rfl ?_
    refine fw_get C (ci := 11) (Cn := RX11) (Tc := TX11) (N := 11) (j := 7) ly_X11_setDuration_11 rfl (hG _ (List.mem_of_getElem? (i := 1) rfl)) (of0_0 _) (ce0 T ad _ _) (by decide) (cx_ts C _ fl_X11_setDuration_77) (fun _ h => h) (v := .ref (ad 9 0 0)) rfl dX11_setDuration_25 ?_
    refine fw_aload_n C dX11_setDuration_28 rfl 0 rfl ?_
    refine fw_get C (ci := 11) (Cn := RX11) (Tc := TX11) (N := 11) (j := 5) ly_X11_setDuration_11 rfl (hG _ (List.mem_of_getElem? (i := 1) rfl)) (of0_0 _) (ce0 T ad _ _) (by decide) (cx_ts C _ fl_X11_setDuration_67) (fun _ h => h) (v := .ref (ad 1 0 0)) rfl dX11_setDuration_29 ?_
    refine fw_getN C (ci := 3) (Cn := RX3) (Tc := TX3) (N := 5) (j := 1) ly_X11_setDuration_3 rfl (hG _ (List.mem_of_getElem? (i := 0) rfl)) (of1_0 _) (ce1 T ad _ _) (by decide) (Nst_use (cx_nst C) (w := .fieldLinkNest RX11 139 "RecipeScheduler$Kitchen" "state" "LRecipeScheduler$State;" "RecipeScheduler") 509 (by decide +kernel) rfl) (fun _ h => h) (v := .ref (ad 2 0 0)) rfl dX11_setDuration_32 ?_
    obtain ⟨Y8, q7, h⟩ := bd1_some h
    refine fw_callVv C (ci := 2) (Cn := RX2) (Tc := TX2) (N := 3) (As := [.ref (ad 2 0 0)]) (c_X2_push (gac (hG _ (List.mem_of_getElem? (i := 3) rfl)) (gac (hG _ (List.mem_of_getElem? (i := 2) rfl)) (fun q hq => hG q (List.mem_append_right _ hq)))) q7) (cwV 1 (cx_ts C) gX11_setDuration_X2_push rfl rfl rfl (by decide +kernel) ⟨Nat.le_of_ble_eq_true rfl, Nat.le_of_ble_eq_true rfl⟩) rfl (hG _ (List.mem_of_getElem? (i := 3) rfl)) (of9_0 _) (ce9 T ad _ _) rfl (st := []) rfl (Nat.le_of_ble_eq_true rfl) ⟨Nat.le_refl 0, Nat.le_refl 0⟩ dX11_setDuration_35 (ppv ?_)
    refine fw_aload_n C dX11_setDuration_38 rfl 0 rfl ?_
    refine fw_get C (ci := 11) (Cn := RX11) (Tc := TX11) (N := 11) (j := 5) ly_X11_setDuration_11 rfl (hG _ (List.mem_of_getElem? (i := 1) rfl)) (of0_0 _) (ce0 T ad _ _) (by decide) (cx_ts C _ fl_X11_setDuration_67) (fun _ h => h) (v := .ref (ad 1 0 0)) rfl dX11_setDuration_39 ?_
    refine fw_getN C (ci := 3) (Cn := RX3) (Tc := TX3) (N := 5) (j := 1) ly_X11_setDuration_3 rfl (hG _ (List.mem_of_getElem? (i := 0) rfl)) (of1_0 _) (ce1 T ad _ _) (by decide) (Nst_use (cx_nst C) (w := .fieldLinkNest RX11 139 "RecipeScheduler$Kitchen" "state" "LRecipeScheduler$State;" "RecipeScheduler") 509 (by decide +kernel) rfl) (fun _ h => h) (v := .ref (ad 2 0 0)) rfl dX11_setDuration_42 ?_
    refine fw_getN C (ci := 8) (Cn := RX8) (Tc := TX8) (N := 15) (j := 9) ly_X11_setDuration_8 rfl (hG _ (List.mem_of_getElem? (i := 2) rfl)) (of2_0 _) (ce2 T ad _ _) (by decide) (Nst_use (cx_nst C) (w := .fieldLinkNest RX11 196 "RecipeScheduler$State" "duration" "[I" "RecipeScheduler") 453 (by decide +kernel) rfl) (fun _ h => h) (v := .ref (ad 2 0 1)) rfl dX11_setDuration_45 ?_
    refine fw_iload_n C dX11_setDuration_48 rfl 1 rfl ?_
    obtain ⟨b9, h⟩ := gd_some h
    refine fw_iald2 C (hG _ (List.mem_of_getElem? (i := 2) rfl)) (of2_1 _) (ca2_1 T ad _ _) b9 (Nat.le_of_ble_eq_true rfl) dX11_setDuration_49 ?_
    obtain ⟨v10, e11, h⟩ := lt_some h
    refine fw_top (v' := .int v10) (by rw [e11]) ?_
    refine fw_istore_n C dX11_setDuration_50 rfl (by decide) (L' := [(3, .int v10), (0, .ref (ad 0 0 0)), (1, .int a1), (2, .int a2)]) rfl ?_
    refine fw_aload_n C dX11_setDuration_51 rfl 1 rfl ?_
    refine fw_get C (ci := 11) (Cn := RX11) (Tc := TX11) (N := 11) (j := 5) ly_X11_setDuration_11 rfl (hG _ (List.mem_of_getElem? (i := 1) rfl)) (of0_0 _) (ce0 T ad _ _) (by decide) (cx_ts C _ fl_X11_setDuration_67) (fun _ h => h) (v := .ref (ad 1 0 0)) rfl dX11_setDuration_52 ?_
    refine fw_getN C (ci := 3) (Cn := RX3) (Tc := TX3) (N := 5) (j := 1) ly_X11_setDuration_3 rfl (hG _ (List.mem_of_getElem? (i := 0) rfl)) (of1_0 _) (ce1 T ad _ _) (by decide) (Nst_use (cx_nst C) (w := .fieldLinkNest RX11 139 "RecipeScheduler$Kitchen" "state" "LRecipeScheduler$State;" "RecipeScheduler") 509 (by decide +kernel) rfl) (fun _ h => h) (v := .ref (ad 2 0 0)) rfl dX11_setDuration_55 ?_
    refine fw_getN C (ci := 8) (Cn := RX8) (Tc := TX8) (N := 15) (j := 9) ly_X11_setDuration_8 rfl (hG _ (List.mem_of_getElem? (i := 2) rfl)) (of2_0 _) (ce2 T ad _ _) (by decide) (Nst_use (cx_nst C) (w := .fieldLinkNest RX11 196 "RecipeScheduler$State" "duration" "[I" "RecipeScheduler") 453 (by decide +kernel) rfl) (fun _ h => h) (v := .ref (ad 2 0 1)) rfl dX11_setDuration_58 ?_
    refine fw_iload_n C dX11_setDuration_61 rfl 2 rfl ?_
    refine fw_iload_n C dX11_setDuration_62 rfl 3 rfl ?_
    obtain ⟨Y12, e13, h⟩ := lt_some h
    refine fw_iast2 C (hG _ (List.mem_of_getElem? (i := 2) rfl)) (of2_1 _) (ca2_1 T ad _) b9 (Nat.le_of_ble_eq_true rfl) dX11_setDuration_63 ?_
    refine fw_mem e13 ?_
    refine fw_iload_n C dX11_setDuration_64 rfl 0 rfl ?_
    exact fw_iret C hrt Y12 (Option.some.inj h) (fun t ht => ht) dX11_setDuration_65
  · have h := ite_t c5 h
    cases h
end
set_option maxRecDepth 100000 in
set_option maxHeartbeats 4000000 in
theorem c_X11_setDuration {l : Launch} {N0 : Nat} {T : Nat → ClassId} {D : va_G} {gr : List (Nat × Nat)} {ad : Nat → Nat → Nat → Nat} {Y : Mem} {a1 : Int32} {a2 : Int32} {res : Int32 × Mem} (hG : ∀ q ∈ ([(1, 0), (0, 0), (2, 0), (9, 0)] ++ allG), q ∈ gr) (h : X11_setDuration Y a1 a2 = some res) : CI l yX11_setDuration wsX11_setDuration (Rm 3) N0 T D gr ad Y [.ref (ad 0 0 0), .int a1, .int a2] (fun r Y1 => (r, Y1) = res) :=
  fw_body (by decide +kernel) rfl (Nat.le_of_ble_eq_true rfl) (fun p e s m below meth c C hrt => w_X11_setDuration C hrt hG  h)
theorem ly_X11_starts_11 : ∀ w ∈ u_ws RX11 TX11 11, w ∈ wsX11_starts := by decide +kernel
theorem fl_X11_starts_67 : Cond.fieldLink RX11 67 "RecipeScheduler" "now" "LRecipeScheduler$Kitchen;" ∈ wsX11_starts := by decide +kernel
theorem ly_X11_starts_3 : ∀ w ∈ u_ws RX3 TX3 5, w ∈ wsX11_starts := by decide +kernel
theorem ly_X11_starts_8 : ∀ w ∈ u_ws RX8 TX8 15, w ∈ wsX11_starts := by decide +kernel
theorem ly_X11_starts_5 : ∀ w ∈ u_ws RX5 TX5 17, w ∈ wsX11_starts := by decide +kernel
theorem ly_X11_starts_4 : ∀ w ∈ u_ws RX4 TX4 3, w ∈ wsX11_starts := by decide +kernel
section
variable {p : Program} {l : Launch} {e : Env} {s : State} {m : MethodId} {below : List Frame} {meth : Method} {c : Code} {N0 : Nat} {T : Nat → ClassId} {D : va_G} {gr : List (Nat × Nat)} {ad : Nat → Nat → Nat → Nat}
set_option maxRecDepth 100000 in
set_option maxHeartbeats 4000000 in
theorem w_X11_starts {Y : Mem} (C : Cx p s m [.ref (ad 0 0 0)].toArray meth c cX11_starts 1 wsX11_starts RX11 N0 T D gr ad) (hrt : meth.sig.returnType = (some .int)) (hG : ∀ q ∈ ([(0, 0), (1, 0), (2, 0)] ++ allG), q ∈ gr) {res : Int32} (h : X11_starts Y = some res) : FW p l e (Rm 1) s m [.ref (ad 0 0 0)].toArray below meth c 1 N0 T D gr ad 0 0 (MQ below (va_Qi (fun r Y1 => r = res ∧ Y1 = Y) (WB T D gr ad) (fun q => N0 ≤ q)) [.ref (ad 0 0 0)].toArray s 0 0 (fun q => N0 ≤ q)) Y 0 [(0, .ref (ad 0 0 0))] [] := by
  unfold X11_starts at h
  refine fw_aload_n C dX11_starts_0 rfl 0 rfl ?_
  refine fw_get C (ci := 11) (Cn := RX11) (Tc := TX11) (N := 11) (j := 5) ly_X11_starts_11 rfl (hG _ (List.mem_of_getElem? (i := 0) rfl)) (of0_0 _) (ce0 T ad _ _) (by decide) (cx_ts C _ fl_X11_starts_67) (fun _ h => h) (v := .ref (ad 1 0 0)) rfl dX11_starts_1 ?_
  refine fw_getN C (ci := 3) (Cn := RX3) (Tc := TX3) (N := 5) (j := 1) ly_X11_starts_3 rfl (hG _ (List.mem_of_getElem? (i := 1) rfl)) (of1_0 _) (ce1 T ad _ _) (by decide) (Nst_use (cx_nst C) (w := .fieldLinkNest RX11 139 "RecipeScheduler$Kitchen" "state" "LRecipeScheduler$State;" "RecipeScheduler") 509 (by decide +kernel) rfl) (fun _ h => h) (v := .ref (ad 2 0 0)) rfl dX11_starts_4 ?_
  refine fw_getN C (ci := 8) (Cn := RX8) (Tc := TX8) (N := 15) (j := 12) ly_X11_starts_8 rfl (hG _ (List.mem_of_getElem? (i := 2) rfl)) (of2_0 _) (ce2 T ad _ _) (by decide) (Nst_use (cx_nst C) (w := .fieldLinkNest RX11 162 "RecipeScheduler$State" "starts" "[I" "RecipeScheduler") 461 (by decide +kernel) rfl) (fun _ h => h) (v := .ref (ad 2 0 4)) rfl dX11_starts_7 ?_
  refine fw_aload_n C dX11_starts_10 rfl 0 rfl ?_
  refine fw_get C (ci := 11) (Cn := RX11) (Tc := TX11) (N := 11) (j := 5) ly_X11_starts_11 rfl (hG _ (List.mem_of_getElem? (i := 0) rfl)) (of0_0 _) (ce0 T ad _ _) (by decide) (cx_ts C _ fl_X11_starts_67) (fun _ h => h) (v := .ref (ad 1 0 0)) rfl dX11_starts_11 ?_
  refine fw_getN C (ci := 3) (Cn := RX3) (Tc := TX3) (N := 5) (j := 0) ly_X11_starts_3 rfl (hG _ (List.mem_of_getElem? (i := 1) rfl)) (of1_0 _) (ce1 T ad _ _) (by decide) (Nst_use (cx_nst C) (w := .fieldLinkNest RX11 117 "RecipeScheduler$Kitchen" "recipe" "LRecipeScheduler$Recipe;" "RecipeScheduler") 507 (by decide +kernel) rfl) (fun _ h => h) (v := .ref (ad 3 ((Y 1 0 0 0).toNatClampNeg) 0)) rfl dX11_starts_14 ?_
  obtain ⟨b1, h⟩ := gd_some h
  have b1 := of_decide_eq_true b1
  refine fw_getN C (ci := 5) (Cn := RX5) (Tc := TX5) (N := 17) (j := 7) ly_X11_starts_5 rfl ((fun q hq => hG q (List.mem_append_right _ hq)) _ (allG_3 b1)) (of3_0 _) (ce3 T ad _ _) (by decide) (Nst_use (cx_nst C) (w := .fieldLinkNest RX11 126 "RecipeScheduler$Recipe" "steps" "LRecipeScheduler$Names;" "RecipeScheduler") 144 (by decide +kernel) rfl) (fun _ h => h) (v := .ref (ad 4 (2*((Y 1 0 0 0).toNatClampNeg)+1) 0)) rfl dX11_starts_17 ?_
  obtain ⟨b2, h⟩ := gd_some h
  have b2 := of_decide_eq_true b2
  refine fw_getN C (ci := 4) (Cn := RX4) (Tc := TX4) (N := 3) (j := 2) ly_X11_starts_4 rfl ((fun q hq => hG q (List.mem_append_right _ hq)) _ (allG_4b b2)) (of4_0 _) (ce4 T ad _ _) (by decide) (Nst_use (cx_nst C) (w := .fieldLinkNest RX11 130 "RecipeScheduler$Names" "count" "I" "RecipeScheduler") 113 (by decide +kernel) rfl) (fun _ h => h) (v := .int (Y 4 (2*((Y 1 0 0 0).toNatClampNeg)+1) 0 2)) rfl dX11_starts_20 ?_
  obtain ⟨r3, q4, h⟩ := bd1_some h
  refine fw_callSi C (As := [.ref (ad 2 0 4), .int (Y 4 (2*((Y 1 0 0 0).toNatClampNeg)+1) 0 2)]) (c_X11_sum (gac (hG _ (List.mem_of_getElem? (i := 2) rfl)) ga0) (ca2_4 T ad _) (of2_4 _) (Nat.le_of_ble_eq_true rfl) q4) (va_cwS 2 (cx_ts C) gX11_starts_X11_sum rfl rfl rfl (by decide +kernel) ⟨Nat.le_of_ble_eq_true rfl, Nat.le_of_ble_eq_true rfl⟩) rfl (st := []) rfl (Nat.le_of_ble_eq_true rfl) ⟨Nat.le_refl 0, Nat.le_refl 0⟩ dX11_starts_23 (pp2 ?_)
  exact fw_iret C hrt Y ⟨Option.some.inj h, rfl⟩ (fun t ht => ht) dX11_starts_26
end
set_option maxRecDepth 100000 in
set_option maxHeartbeats 4000000 in
theorem c_X11_starts {l : Launch} {N0 : Nat} {T : Nat → ClassId} {D : va_G} {gr : List (Nat × Nat)} {ad : Nat → Nat → Nat → Nat} {Y : Mem} {res : Int32} (hG : ∀ q ∈ ([(0, 0), (1, 0), (2, 0)] ++ allG), q ∈ gr) (h : X11_starts Y = some res) : CI l yX11_starts wsX11_starts (Rm 1) N0 T D gr ad Y [.ref (ad 0 0 0)] (fun r Y1 => r = res ∧ Y1 = Y) :=
  fw_body (by decide +kernel) rfl (Nat.le_of_ble_eq_true rfl) (fun p e s m below meth c C hrt => w_X11_starts C hrt hG  h)
theorem ly_X8_statusOf_8 : ∀ w ∈ u_ws RX8 TX8 15, w ∈ wsX8_statusOf := by decide +kernel
theorem fl_X8_statusOf_53 : Cond.fieldLink RX8 53 "RecipeScheduler$State" "running" "I" ∈ wsX8_statusOf := by decide +kernel
theorem in_X8_statusOf_11 : Cond.initialized RX11 ∈ wsX8_statusOf := by decide +kernel
theorem sw_X8_statusOf_X11_contains : Cond.static yX11_contains ∈ wsX8_statusOf := by decide +kernel
theorem fl_X8_statusOf_56 : Cond.fieldLink RX8 56 "RecipeScheduler$State" "done" "I" ∈ wsX8_statusOf := by decide +kernel
theorem fl_X8_statusOf_59 : Cond.fieldLink RX8 59 "RecipeScheduler$State" "burnt" "I" ∈ wsX8_statusOf := by decide +kernel
section
variable {p : Program} {l : Launch} {e : Env} {s : State} {m : MethodId} {below : List Frame} {meth : Method} {c : Code} {N0 : Nat} {T : Nat → ClassId} {D : va_G} {gr : List (Nat × Nat)} {ad : Nat → Nat → Nat → Nat}
set_option maxRecDepth 100000 in
set_option maxHeartbeats 4000000 in
theorem w_X8_statusOf {Y : Mem} {g0 : Nat} {a1 : Int32} (C : Cx p s m [.ref (ad 2 g0 0), .int a1].toArray meth c cX8_statusOf 2 wsX8_statusOf RX8 N0 T D gr ad) (hrt : meth.sig.returnType = (some .int)) (hG : ∀ q ∈ [(2, g0)], q ∈ gr) {res : Int32} (h : X8_statusOf Y g0 a1 = some res) : FW p l e (Rm 1) s m [.ref (ad 2 g0 0), .int a1].toArray below meth c 2 N0 T D gr ad 0 0 (MQ below (va_Qi (fun r Y1 => r = res ∧ Y1 = Y) (WB T D gr ad) (fun q => N0 ≤ q)) [.ref (ad 2 g0 0), .int a1].toArray s 0 0 (fun q => N0 ≤ q)) Y 0 [(0, .ref (ad 2 g0 0)), (1, .int a1)] [] := by
  unfold X8_statusOf at h
  refine fw_aload_n C dX8_statusOf_0 rfl 0 rfl ?_
  refine fw_get C (ci := 8) (Cn := RX8) (Tc := TX8) (N := 15) (j := 6) ly_X8_statusOf_8 rfl (hG _ (List.mem_of_getElem? (i := 0) rfl)) (of2_0 _) (ce2 T ad _ _) (by decide) (cx_ts C _ fl_X8_statusOf_53) (fun _ h => h) (v := .int (Y 2 g0 0 6)) rfl dX8_statusOf_1 ?_
  refine fw_iload_n C dX8_statusOf_4 rfl 1 rfl ?_
  obtain ⟨r1, q2, h⟩ := bd1_some h
  refine fw_callSNi C (As := [.int (Y 2 g0 0 6), .int a1]) (c_X11_contains ga0 q2) ⟨(va_cnB 2 (cx_ts C) gX8_statusOf_X11_contains_n75 rfl rfl rfl (cx_nw C (w := .methodLinkNest RX8 75 yX11_contains "RecipeScheduler") 889 (by decide +kernel) rfl) (cx_ts C _ in_X8_statusOf_11) (by decide +kernel) ⟨Nat.le_of_ble_eq_true rfl, Nat.le_of_ble_eq_true rfl⟩), cx_ts C _ sw_X8_statusOf_X11_contains, trivial⟩ rfl (st := []) rfl (Nat.le_of_ble_eq_true rfl) ⟨Nat.le_refl 0, Nat.le_refl 0⟩ dX8_statusOf_5 (pp2 ?_)
  refine fw_if_eq C dX8_statusOf_8 (tgt := 13) rfl (fun c3 => ?_) (fun c3 => ?_)
  · have h := ite_t c3 h
    refine fw_aload_n C dX8_statusOf_13 rfl 0 rfl ?_
    refine fw_get C (ci := 8) (Cn := RX8) (Tc := TX8) (N := 15) (j := 7) ly_X8_statusOf_8 rfl (hG _ (List.mem_of_getElem? (i := 0) rfl)) (of2_0 _) (ce2 T ad _ _) (by decide) (cx_ts C _ fl_X8_statusOf_56) (fun _ h => h) (v := .int (Y 2 g0 0 7)) rfl dX8_statusOf_14 ?_
    refine fw_iload_n C dX8_statusOf_17 rfl 1 rfl ?_
    obtain ⟨r4, q5, h⟩ := bd1_some h
    refine fw_callSNi C (As := [.int (Y 2 g0 0 7), .int a1]) (c_X11_contains ga0 q5) ⟨(va_cnB 2 (cx_ts C) gX8_statusOf_X11_contains_n75 rfl rfl rfl (cx_nw C (w := .methodLinkNest RX8 75 yX11_contains "RecipeScheduler") 889 (by decide +kernel) rfl) (cx_ts C _ in_X8_statusOf_11) (by decide +kernel) ⟨Nat.le_of_ble_eq_true rfl, Nat.le_of_ble_eq_true rfl⟩), cx_ts C _ sw_X8_statusOf_X11_contains, trivial⟩ rfl (st := []) rfl (Nat.le_of_ble_eq_true rfl) ⟨Nat.le_refl 0, Nat.le_refl 0⟩ dX8_statusOf_18 (pp2 ?_)
    refine fw_if_eq C dX8_statusOf_21 (tgt := 26) rfl (fun c6 => ?_) (fun c6 => ?_)
    · have h := ite_t c6 h
      refine fw_aload_n C dX8_statusOf_26 rfl 0 rfl ?_
      refine fw_get C (ci := 8) (Cn := RX8) (Tc := TX8) (N := 15) (j := 8) ly_X8_statusOf_8 rfl (hG _ (List.mem_of_getElem? (i := 0) rfl)) (of2_0 _) (ce2 T ad _ _) (by decide) (cx_ts C _ fl_X8_statusOf_59) (fun _ h => h) (v := .int (Y 2 g0 0 8)) rfl dX8_statusOf_27 ?_
      refine fw_iload_n C dX8_statusOf_30 rfl 1 rfl ?_
      obtain ⟨r7, q8, h⟩ := bd1_some h
      refine fw_callSNi C (As := [.int (Y 2 g0 0 8), .int a1]) (c_X11_contains ga0 q8) ⟨(va_cnB 2 (cx_ts C) gX8_statusOf_X11_contains_n75 rfl rfl rfl (cx_nw C (w := .methodLinkNest RX8 75 yX11_contains "RecipeScheduler") 889 (by decide +kernel) rfl) (cx_ts C _ in_X8_statusOf_11) (by decide +kernel) ⟨Nat.le_of_ble_eq_true rfl, Nat.le_of_ble_eq_true rfl⟩), cx_ts C _ sw_X8_statusOf_X11_contains, trivial⟩ rfl (st := []) rfl (Nat.le_of_ble_eq_true rfl) ⟨Nat.le_refl 0, Nat.le_refl 0⟩ dX8_statusOf_31 (pp2 ?_)
      refine fw_if_eq C dX8_statusOf_34 (tgt := 41) rfl (fun c9 => ?_) (fun c9 => ?_)
      · have h := ite_t c9 h
        refine fw_iconst C dX8_statusOf_41 (v := 0) rfl ?_
        exact fw_iret C hrt Y ⟨Option.some.inj h, rfl⟩ (fun t ht => ht) dX8_statusOf_42
      · have h := ite_f c9 h
        refine fw_iconst C dX8_statusOf_37 (v := 3) rfl ?_
        refine fw_goto C dX8_statusOf_38 (tgt := 42) rfl ?_
        exact fw_iret C hrt Y ⟨Option.some.inj h, rfl⟩ (fun t ht => ht) dX8_statusOf_42
    · have h := ite_f c6 h
      refine fw_iconst C dX8_statusOf_24 (v := 2) rfl ?_
      exact fw_iret C hrt Y ⟨Option.some.inj h, rfl⟩ (fun t ht => ht) dX8_statusOf_25
  · have h := ite_f c3 h
    refine fw_iconst C dX8_statusOf_11 (v := 1) rfl ?_
    exact fw_iret C hrt Y ⟨Option.some.inj h, rfl⟩ (fun t ht => ht) dX8_statusOf_12
end
set_option maxRecDepth 100000 in
set_option maxHeartbeats 4000000 in
theorem c_X8_statusOf {l : Launch} {N0 : Nat} {T : Nat → ClassId} {D : va_G} {gr : List (Nat × Nat)} {ad : Nat → Nat → Nat → Nat} {Y : Mem} {g0 : Nat} {a1 : Int32} {res : Int32} (hG : ∀ q ∈ [(2, g0)], q ∈ gr) (h : X8_statusOf Y g0 a1 = some res) : CI l yX8_statusOf wsX8_statusOf (Rm 1) N0 T D gr ad Y [.ref (ad 2 g0 0), .int a1] (fun r Y1 => r = res ∧ Y1 = Y) :=
  fw_body (by decide +kernel) rfl (Nat.le_of_ble_eq_true rfl) (fun p e s m below meth c C hrt => w_X8_statusOf C hrt hG  h)
theorem ly_X11_status_11 : ∀ w ∈ u_ws RX11 TX11 11, w ∈ wsX11_status := by decide +kernel
theorem fl_X11_status_67 : Cond.fieldLink RX11 67 "RecipeScheduler" "now" "LRecipeScheduler$Kitchen;" ∈ wsX11_status := by decide +kernel
theorem ly_X11_status_3 : ∀ w ∈ u_ws RX3 TX3 5, w ∈ wsX11_status := by decide +kernel
section
variable {p : Program} {l : Launch} {e : Env} {s : State} {m : MethodId} {below : List Frame} {meth : Method} {c : Code} {N0 : Nat} {T : Nat → ClassId} {D : va_G} {gr : List (Nat × Nat)} {ad : Nat → Nat → Nat → Nat}
set_option maxRecDepth 100000 in
set_option maxHeartbeats 4000000 in
theorem w_X11_status {Y : Mem} {a1 : Int32} (C : Cx p s m [.ref (ad 0 0 0), .int a1].toArray meth c cX11_status 2 wsX11_status RX11 N0 T D gr ad) (hrt : meth.sig.returnType = (some .int)) (hG : ∀ q ∈ ([(1, 0), (0, 0), (2, 0)] ++ allG), q ∈ gr) {res : Int32} (h : X11_status Y a1 = some res) : FW p l e (Rm 2) s m [.ref (ad 0 0 0), .int a1].toArray below meth c 2 N0 T D gr ad 0 0 (MQ below (va_Qi (fun r Y1 => r = res ∧ Y1 = Y) (WB T D gr ad) (fun q => N0 ≤ q)) [.ref (ad 0 0 0), .int a1].toArray s 0 0 (fun q => N0 ≤ q)) Y 0 [(0, .ref (ad 0 0 0)), (1, .int a1)] [] := by
  unfold X11_status at h
  refine fw_aload_n C dX11_status_0 rfl 0 rfl ?_
  refine fw_iload_n C dX11_status_1 rfl 1 rfl ?_
  obtain ⟨_, q2, h⟩ := bd1_some h
  refine fw_callVv C (ci := 11) (Cn := RX11) (Tc := TX11) (N := 11) (As := [.int a1]) (c_X11_requireStep (gac (hG _ (List.mem_of_getElem? (i := 1) rfl)) (gac (hG _ (List.mem_of_getElem? (i := 0) rfl)) (fun q hq => hG q (List.mem_append_right _ hq)))) q2) (cwV 1 (cx_ts C) gX11_status_X11_requireStep rfl rfl rfl (by decide +kernel) ⟨Nat.le_of_ble_eq_true rfl, Nat.le_of_ble_eq_true rfl⟩) rfl (hG _ (List.mem_of_getElem? (i := 1) rfl)) (of0_0 _) (ce0 T ad _ _) rfl (st := []) rfl (Nat.le_of_ble_eq_true rfl) ⟨Nat.le_refl 0, Nat.le_refl 0⟩ dX11_status_2 (ppv ?_)
  refine fw_aload_n C dX11_status_5 rfl 0 rfl ?_
  refine fw_get C (ci := 11) (Cn := RX11) (Tc := TX11) (N := 11) (j := 5) ly_X11_status_11 rfl (hG _ (List.mem_of_getElem? (i := 1) rfl)) (of0_0 _) (ce0 T ad _ _) (by decide) (cx_ts C _ fl_X11_status_67) (fun _ h => h) (v := .ref (ad 1 0 0)) rfl dX11_status_6 ?_
  refine fw_getN C (ci := 3) (Cn := RX3) (Tc := TX3) (N := 5) (j := 1) ly_X11_status_3 rfl (hG _ (List.mem_of_getElem? (i := 0) rfl)) (of1_0 _) (ce1 T ad _ _) (by decide) (Nst_use (cx_nst C) (w := .fieldLinkNest RX11 139 "RecipeScheduler$Kitchen" "state" "LRecipeScheduler$State;" "RecipeScheduler") 509 (by decide +kernel) rfl) (fun _ h => h) (v := .ref (ad 2 0 0)) rfl dX11_status_9 ?_
  refine fw_iload_n C dX11_status_12 rfl 1 rfl ?_
  obtain ⟨r3, q4, h⟩ := bd1_some h
  refine fw_callVi C (ci := 8) (Cn := RX8) (Tc := TX8) (N := 15) (As := [.int a1]) (c_X8_statusOf (gac (hG _ (List.mem_of_getElem? (i := 2) rfl)) ga0) q4) (cwV 1 (cx_ts C) gX11_status_X8_statusOf rfl rfl rfl (by decide +kernel) ⟨Nat.le_of_ble_eq_true rfl, Nat.le_of_ble_eq_true rfl⟩) rfl (hG _ (List.mem_of_getElem? (i := 2) rfl)) (of2_0 _) (ce2 T ad _ _) rfl (st := []) rfl (Nat.le_of_ble_eq_true rfl) ⟨Nat.le_refl 0, Nat.le_refl 0⟩ dX11_status_13 (pp2 ?_)
  exact fw_iret C hrt Y ⟨Option.some.inj h, rfl⟩ (fun t ht => ht) dX11_status_16
end
set_option maxRecDepth 100000 in
set_option maxHeartbeats 4000000 in
theorem c_X11_status {l : Launch} {N0 : Nat} {T : Nat → ClassId} {D : va_G} {gr : List (Nat × Nat)} {ad : Nat → Nat → Nat → Nat} {Y : Mem} {a1 : Int32} {res : Int32} (hG : ∀ q ∈ ([(1, 0), (0, 0), (2, 0)] ++ allG), q ∈ gr) (h : X11_status Y a1 = some res) : CI l yX11_status wsX11_status (Rm 2) N0 T D gr ad Y [.ref (ad 0 0 0), .int a1] (fun r Y1 => r = res ∧ Y1 = Y) :=
  fw_body (by decide +kernel) rfl (Nat.le_of_ble_eq_true rfl) (fun p e s m below meth c C hrt => w_X11_status C hrt hG  h)
theorem ly_X11_stepCount_11 : ∀ w ∈ u_ws RX11 TX11 11, w ∈ wsX11_stepCount := by decide +kernel
theorem fl_X11_stepCount_67 : Cond.fieldLink RX11 67 "RecipeScheduler" "now" "LRecipeScheduler$Kitchen;" ∈ wsX11_stepCount := by decide +kernel
theorem ly_X11_stepCount_3 : ∀ w ∈ u_ws RX3 TX3 5, w ∈ wsX11_stepCount := by decide +kernel
theorem ly_X11_stepCount_5 : ∀ w ∈ u_ws RX5 TX5 17, w ∈ wsX11_stepCount := by decide +kernel
theorem ly_X11_stepCount_4 : ∀ w ∈ u_ws RX4 TX4 3, w ∈ wsX11_stepCount := by decide +kernel
section
variable {p : Program} {l : Launch} {e : Env} {s : State} {m : MethodId} {below : List Frame} {meth : Method} {c : Code} {N0 : Nat} {T : Nat → ClassId} {D : va_G} {gr : List (Nat × Nat)} {ad : Nat → Nat → Nat → Nat}
set_option maxRecDepth 100000 in
set_option maxHeartbeats 4000000 in
theorem w_X11_stepCount {Y : Mem} (C : Cx p s m [.ref (ad 0 0 0)].toArray meth c cX11_stepCount 1 wsX11_stepCount RX11 N0 T D gr ad) (hrt : meth.sig.returnType = (some .int)) (hG : ∀ q ∈ ([(0, 0), (1, 0)] ++ allG), q ∈ gr) {res : Int32} (h : X11_stepCount Y = some res) : FW p l e (Rm 0) s m [.ref (ad 0 0 0)].toArray below meth c 1 N0 T D gr ad 0 0 (MQ below (va_Qi (fun r Y1 => r = res ∧ Y1 = Y) (WB T D gr ad) (fun q => N0 ≤ q)) [.ref (ad 0 0 0)].toArray s 0 0 (fun q => N0 ≤ q)) Y 0 [(0, .ref (ad 0 0 0))] [] := by
  unfold X11_stepCount at h
  refine fw_aload_n C dX11_stepCount_0 rfl 0 rfl ?_
  refine fw_get C (ci := 11) (Cn := RX11) (Tc := TX11) (N := 11) (j := 5) ly_X11_stepCount_11 rfl (hG _ (List.mem_of_getElem? (i := 0) rfl)) (of0_0 _) (ce0 T ad _ _) (by decide) (cx_ts C _ fl_X11_stepCount_67) (fun _ h => h) (v := .ref (ad 1 0 0)) rfl dX11_stepCount_1 ?_
  refine fw_getN C (ci := 3) (Cn := RX3) (Tc := TX3) (N := 5) (j := 0) ly_X11_stepCount_3 rfl (hG _ (List.mem_of_getElem? (i := 1) rfl)) (of1_0 _) (ce1 T ad _ _) (by decide) (Nst_use (cx_nst C) (w := .fieldLinkNest RX11 117 "RecipeScheduler$Kitchen" "recipe" "LRecipeScheduler$Recipe;" "RecipeScheduler") 507 (by decide +kernel) rfl) (fun _ h => h) (v := .ref (ad 3 ((Y 1 0 0 0).toNatClampNeg) 0)) rfl dX11_stepCount_4 ?_
  obtain ⟨b1, h⟩ := gd_some h
  have b1 := of_decide_eq_true b1
  refine fw_getN C (ci := 5) (Cn := RX5) (Tc := TX5) (N := 17) (j := 7) ly_X11_stepCount_5 rfl ((fun q hq => hG q (List.mem_append_right _ hq)) _ (allG_3 b1)) (of3_0 _) (ce3 T ad _ _) (by decide) (Nst_use (cx_nst C) (w := .fieldLinkNest RX11 126 "RecipeScheduler$Recipe" "steps" "LRecipeScheduler$Names;" "RecipeScheduler") 144 (by decide +kernel) rfl) (fun _ h => h) (v := .ref (ad 4 (2*((Y 1 0 0 0).toNatClampNeg)+1) 0)) rfl dX11_stepCount_7 ?_
  obtain ⟨b2, h⟩ := gd_some h
  have b2 := of_decide_eq_true b2
  refine fw_getN C (ci := 4) (Cn := RX4) (Tc := TX4) (N := 3) (j := 2) ly_X11_stepCount_4 rfl ((fun q hq => hG q (List.mem_append_right _ hq)) _ (allG_4b b2)) (of4_0 _) (ce4 T ad _ _) (by decide) (Nst_use (cx_nst C) (w := .fieldLinkNest RX11 130 "RecipeScheduler$Names" "count" "I" "RecipeScheduler") 113 (by decide +kernel) rfl) (fun _ h => h) (v := .int (Y 4 (2*((Y 1 0 0 0).toNatClampNeg)+1) 0 2)) rfl dX11_stepCount_10 ?_
  exact fw_iret C hrt Y ⟨Option.some.inj h, rfl⟩ (fun t ht => ht) dX11_stepCount_13
end
set_option maxRecDepth 100000 in
set_option maxHeartbeats 4000000 in
theorem c_X11_stepCount {l : Launch} {N0 : Nat} {T : Nat → ClassId} {D : va_G} {gr : List (Nat × Nat)} {ad : Nat → Nat → Nat → Nat} {Y : Mem} {res : Int32} (hG : ∀ q ∈ ([(0, 0), (1, 0)] ++ allG), q ∈ gr) (h : X11_stepCount Y = some res) : CI l yX11_stepCount wsX11_stepCount (Rm 0) N0 T D gr ad Y [.ref (ad 0 0 0)] (fun r Y1 => r = res ∧ Y1 = Y) :=
  fw_body (by decide +kernel) rfl (Nat.le_of_ble_eq_true rfl) (fun p e s m below meth c C hrt => w_X11_stepCount C hrt hG  h)
theorem ly_X11_stepTaste_11 : ∀ w ∈ u_ws RX11 TX11 11, w ∈ wsX11_stepTaste := by decide +kernel
theorem fl_X11_stepTaste_67 : Cond.fieldLink RX11 67 "RecipeScheduler" "now" "LRecipeScheduler$Kitchen;" ∈ wsX11_stepTaste := by decide +kernel
theorem ly_X11_stepTaste_3 : ∀ w ∈ u_ws RX3 TX3 5, w ∈ wsX11_stepTaste := by decide +kernel
theorem ly_X11_stepTaste_5 : ∀ w ∈ u_ws RX5 TX5 17, w ∈ wsX11_stepTaste := by decide +kernel
section
variable {p : Program} {l : Launch} {e : Env} {s : State} {m : MethodId} {below : List Frame} {meth : Method} {c : Code} {N0 : Nat} {T : Nat → ClassId} {D : va_G} {gr : List (Nat × Nat)} {ad : Nat → Nat → Nat → Nat}
set_option maxRecDepth 100000 in
set_option maxHeartbeats 4000000 in
theorem w_X11_stepTaste {Y : Mem} {a1 : Int32} (C : Cx p s m [.ref (ad 0 0 0), .int a1].toArray meth c cX11_stepTaste 2 wsX11_stepTaste RX11 N0 T D gr ad) (hrt : meth.sig.returnType = (some .int)) (hG : ∀ q ∈ ([(1, 0), (0, 0)] ++ allG), q ∈ gr) {res : Int32} (h : X11_stepTaste Y a1 = some res) : FW p l e (Rm 2) s m [.ref (ad 0 0 0), .int a1].toArray below meth c 2 N0 T D gr ad 0 0 (MQ below (va_Qi (fun r Y1 => r = res ∧ Y1 = Y) (WB T D gr ad) (fun q => N0 ≤ q)) [.ref (ad 0 0 0), .int a1].toArray s 0 0 (fun q => N0 ≤ q)) Y 0 [(0, .ref (ad 0 0 0)), (1, .int a1)] [] := by
  unfold X11_stepTaste at h
  refine fw_aload_n C dX11_stepTaste_0 rfl 0 rfl ?_
  refine fw_iload_n C dX11_stepTaste_1 rfl 1 rfl ?_
  obtain ⟨_, q2, h⟩ := bd1_some h
  refine fw_callVv C (ci := 11) (Cn := RX11) (Tc := TX11) (N := 11) (As := [.int a1]) (c_X11_requireStep (gac (hG _ (List.mem_of_getElem? (i := 1) rfl)) (gac (hG _ (List.mem_of_getElem? (i := 0) rfl)) (fun q hq => hG q (List.mem_append_right _ hq)))) q2) (cwV 1 (cx_ts C) gX11_stepTaste_X11_requireStep rfl rfl rfl (by decide +kernel) ⟨Nat.le_of_ble_eq_true rfl, Nat.le_of_ble_eq_true rfl⟩) rfl (hG _ (List.mem_of_getElem? (i := 1) rfl)) (of0_0 _) (ce0 T ad _ _) rfl (st := []) rfl (Nat.le_of_ble_eq_true rfl) ⟨Nat.le_refl 0, Nat.le_refl 0⟩ dX11_stepTaste_2 (ppv ?_)
  refine fw_aload_n C dX11_stepTaste_5 rfl 0 rfl ?_
  refine fw_get C (ci := 11) (Cn := RX11) (Tc := TX11) (N := 11) (j := 5) ly_X11_stepTaste_11 rfl (hG _ (List.mem_of_getElem? (i := 1) rfl)) (of0_0 _) (ce0 T ad _ _) (by decide) (cx_ts C _ fl_X11_stepTaste_67) (fun _ h => h) (v := .ref (ad 1 0 0)) rfl dX11_stepTaste_6 ?_
  refine fw_getN C (ci := 3) (Cn := RX3) (Tc := TX3) (N := 5) (j := 0) ly_X11_stepTaste_3 rfl (hG _ (List.mem_of_getElem? (i := 0) rfl)) (of1_0 _) (ce1 T ad _ _) (by decide) (Nst_use (cx_nst C) (w := .fieldLinkNest RX11 117 "RecipeScheduler$Kitchen" "recipe" "LRecipeScheduler$Recipe;" "RecipeScheduler") 507 (by decide +kernel) rfl) (fun _ h => h) (v := .ref (ad 3 ((Y 1 0 0 0).toNatClampNeg) 0)) rfl dX11_stepTaste_9 ?_
  obtain ⟨b3, h⟩ := gd_some h
  have b3 := of_decide_eq_true b3
  refine fw_getN C (ci := 5) (Cn := RX5) (Tc := TX5) (N := 17) (j := 9) ly_X11_stepTaste_5 rfl ((fun q hq => hG q (List.mem_append_right _ hq)) _ (allG_3 b3)) (of3_0 _) (ce3 T ad _ _) (by decide) (Nst_use (cx_nst C) (w := .fieldLinkNest RX11 199 "RecipeScheduler$Recipe" "taste" "[I" "RecipeScheduler") 152 (by decide +kernel) rfl) (fun _ h => h) (v := .ref (ad 3 (((Y 1 0 0 0).toNatClampNeg)) 4)) rfl dX11_stepTaste_12 ?_
  refine fw_iload_n C dX11_stepTaste_15 rfl 1 rfl ?_
  obtain ⟨b4, h⟩ := gd_some h
  refine fw_iald2 C ((fun q hq => hG q (List.mem_append_right _ hq)) _ (allG_3 b3)) (of3_4 _) (ca3_4 T ad _ _) b4 (Nat.le_of_ble_eq_true rfl) dX11_stepTaste_16 ?_
  exact fw_iret C hrt Y ⟨Option.some.inj h, rfl⟩ (fun t ht => ht) dX11_stepTaste_17
end
set_option maxRecDepth 100000 in
set_option maxHeartbeats 4000000 in
theorem c_X11_stepTaste {l : Launch} {N0 : Nat} {T : Nat → ClassId} {D : va_G} {gr : List (Nat × Nat)} {ad : Nat → Nat → Nat → Nat} {Y : Mem} {a1 : Int32} {res : Int32} (hG : ∀ q ∈ ([(1, 0), (0, 0)] ++ allG), q ∈ gr) (h : X11_stepTaste Y a1 = some res) : CI l yX11_stepTaste wsX11_stepTaste (Rm 2) N0 T D gr ad Y [.ref (ad 0 0 0), .int a1] (fun r Y1 => r = res ∧ Y1 = Y) :=
  fw_body (by decide +kernel) rfl (Nat.le_of_ble_eq_true rfl) (fun p e s m below meth c C hrt => w_X11_stepTaste C hrt hG  h)
theorem ly_X8_halt_8 : ∀ w ∈ u_ws RX8 TX8 15, w ∈ wsX8_halt := by decide +kernel
theorem fl_X8_halt_15 : Cond.fieldLink RX8 15 "RecipeScheduler$State" "remaining" "[I" ∈ wsX8_halt := by decide +kernel
theorem fl_X8_halt_53 : Cond.fieldLink RX8 53 "RecipeScheduler$State" "running" "I" ∈ wsX8_halt := by decide +kernel
theorem fl_X8_halt_46 : Cond.fieldLink RX8 46 "RecipeScheduler$State" "stops" "I" ∈ wsX8_halt := by decide +kernel
section
variable {p : Program} {l : Launch} {e : Env} {s : State} {m : MethodId} {below : List Frame} {meth : Method} {c : Code} {N0 : Nat} {T : Nat → ClassId} {D : va_G} {gr : List (Nat × Nat)} {ad : Nat → Nat → Nat → Nat}
set_option maxRecDepth 100000 in
set_option maxHeartbeats 4000000 in
theorem w_X8_halt {Y : Mem} {g0 : Nat} {a1 : Int32} (C : Cx p s m [.ref (ad 2 g0 0), .int a1].toArray meth c cX8_halt 3 wsX8_halt RX8 N0 T D gr ad) (hrt : meth.sig.returnType = (some .int)) (hG : ∀ q ∈ [(2, g0)], q ∈ gr) {res : Int32 × Mem} (h : X8_halt Y g0 a1 = some res) : FW p l e (Rm 0) s m [.ref (ad 2 g0 0), .int a1].toArray below meth c 3 N0 T D gr ad 0 0 (MQ below (va_Qi (fun r Y1 => (r, Y1) = res) (WB T D gr ad) (fun q => N0 ≤ q)) [.ref (ad 2 g0 0), .int a1].toArray s 0 0 (fun q => N0 ≤ q)) Y 0 [(0, .ref (ad 2 g0 0)), (1, .int a1)] [] := by
  unfold X8_halt at h
  refine fw_aload_n C dX8_halt_0 rfl 0 rfl ?_
  refine fw_get C (ci := 8) (Cn := RX8) (Tc := TX8) (N := 15) (j := 10) ly_X8_halt_8 rfl (hG _ (List.mem_of_getElem? (i := 0) rfl)) (of2_0 _) (ce2 T ad _ _) (by decide) (cx_ts C _ fl_X8_halt_15) (fun _ h => h) (v := .ref (ad 2 g0 2)) rfl dX8_halt_1 ?_
  refine fw_iload_n C dX8_halt_4 rfl 1 rfl ?_
  obtain ⟨b1, h⟩ := gd_some h
  refine fw_iald2 C (hG _ (List.mem_of_getElem? (i := 0) rfl)) (of2_2 _) (ca2_2 T ad _ _) b1 (Nat.le_of_ble_eq_true rfl) dX8_halt_5 ?_
  obtain ⟨v2, e3, h⟩ := lt_some h
  refine fw_top (v' := .int v2) (by rw [e3]) ?_
  refine fw_istore_n C dX8_halt_6 rfl (by decide) (L' := [(2, .int v2), (0, .ref (ad 2 g0 0)), (1, .int a1)]) rfl ?_
  refine fw_aload_n C dX8_halt_7 rfl 1 rfl ?_
  refine fw_dup C dX8_halt_8 rfl ?_
  refine fw_get C (ci := 8) (Cn := RX8) (Tc := TX8) (N := 15) (j := 6) ly_X8_halt_8 rfl (hG _ (List.mem_of_getElem? (i := 0) rfl)) (of2_0 _) (ce2 T ad _ _) (by decide) (cx_ts C _ fl_X8_halt_53) (fun _ h => h) (v := .int (Y 2 g0 0 6)) rfl dX8_halt_9 ?_
  refine fw_iconst C dX8_halt_12 (v := 1) rfl ?_
  refine fw_iload_n C dX8_halt_13 rfl 2 rfl ?_
  refine fw_ishl C dX8_halt_14 ?_
  refine fw_iconst C dX8_halt_15 (v := (-1)) rfl ?_
  refine fw_ixor C dX8_halt_16 ?_
  refine fw_iand C dX8_halt_17 ?_
  obtain ⟨Y4, e5, h⟩ := lt_some h
  refine fw_put C (ci := 8) (Cn := RX8) (Tc := TX8) (N := 15) (j := 6) (ty := .int) (upd (Y 2 g0 0) 6 ((Y 2 g0 0 6) &&& ((1 <<< (a1 &&& 31)) ^^^ ((-1))))) ly_X8_halt_8 rfl tyX8_ok nmX8 (hG _ (List.mem_of_getElem? (i := 0) rfl)) (of2_0 _) (ce2 T ad _ _) (by decide) (cx_ts C _ fl_X8_halt_53) (fun _ h => h) rfl (by decide +kernel) rfl rfl (Nat.le_of_ble_eq_true rfl) (ce2_put6 T ad _ _ _) dX8_halt_18 ?_
  refine fw_mem ((up_eq _ _ _ _ _ _).symm.trans e5) ?_
  refine fw_aload_n C dX8_halt_21 rfl 1 rfl ?_
  refine fw_get C (ci := 8) (Cn := RX8) (Tc := TX8) (N := 15) (j := 10) ly_X8_halt_8 rfl (hG _ (List.mem_of_getElem? (i := 0) rfl)) (of2_0 _) (ce2 T ad _ _) (by decide) (cx_ts C _ fl_X8_halt_15) (fun _ h => h) (v := .ref (ad 2 g0 2)) rfl dX8_halt_22 ?_
  refine fw_iload_n C dX8_halt_25 rfl 2 rfl ?_
  refine fw_iconst C dX8_halt_26 (v := 0) rfl ?_
  obtain ⟨Y6, e7, h⟩ := lt_some h
  refine fw_iast2 C (hG _ (List.mem_of_getElem? (i := 0) rfl)) (of2_2 _) (ca2_2 T ad _) b1 (Nat.le_of_ble_eq_true rfl) dX8_halt_27 ?_
  refine fw_mem e7 ?_
  refine fw_aload_n C dX8_halt_28 rfl 1 rfl ?_
  refine fw_dup C dX8_halt_29 rfl ?_
  refine fw_get C (ci := 8) (Cn := RX8) (Tc := TX8) (N := 15) (j := 4) ly_X8_halt_8 rfl (hG _ (List.mem_of_getElem? (i := 0) rfl)) (of2_0 _) (ce2 T ad _ _) (by decide) (cx_ts C _ fl_X8_halt_46) (fun _ h => h) (v := .int (Y6 2 g0 0 4)) rfl dX8_halt_30 ?_
  refine fw_iconst C dX8_halt_33 (v := 1) rfl ?_
  refine fw_iadd C dX8_halt_34 ?_
  obtain ⟨Y8, e9, h⟩ := lt_some h
  refine fw_put C (ci := 8) (Cn := RX8) (Tc := TX8) (N := 15) (j := 4) (ty := .int) (upd (Y6 2 g0 0) 4 ((Y6 2 g0 0 4) + 1)) ly_X8_halt_8 rfl tyX8_ok nmX8 (hG _ (List.mem_of_getElem? (i := 0) rfl)) (of2_0 _) (ce2 T ad _ _) (by decide) (cx_ts C _ fl_X8_halt_46) (fun _ h => h) rfl (by decide +kernel) rfl rfl (Nat.le_of_ble_eq_true rfl) (ce2_put4 T ad _ _ _) dX8_halt_35 ?_
  refine fw_mem ((up_eq _ _ _ _ _ _).symm.trans e9) ?_
  refine fw_iload_n C dX8_halt_38 rfl 0 rfl ?_
  exact fw_iret C hrt Y8 (Option.some.inj h) (fun t ht => ht) dX8_halt_39
end
set_option maxRecDepth 100000 in
set_option maxHeartbeats 4000000 in
theorem c_X8_halt {l : Launch} {N0 : Nat} {T : Nat → ClassId} {D : va_G} {gr : List (Nat × Nat)} {ad : Nat → Nat → Nat → Nat} {Y : Mem} {g0 : Nat} {a1 : Int32} {res : Int32 × Mem} (hG : ∀ q ∈ [(2, g0)], q ∈ gr) (h : X8_halt Y g0 a1 = some res) : CI l yX8_halt wsX8_halt (Rm 0) N0 T D gr ad Y [.ref (ad 2 g0 0), .int a1] (fun r Y1 => (r, Y1) = res) :=
  fw_body (by decide +kernel) rfl (Nat.le_of_ble_eq_true rfl) (fun p e s m below meth c C hrt => w_X8_halt C hrt hG  h)
