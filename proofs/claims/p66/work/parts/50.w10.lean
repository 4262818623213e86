theorem ly_X8_begin_5 : ∀ w ∈ u_ws RX5 TX5 17, w ∈ wsX8_begin := by decide +kernel
theorem ly_X8_begin_8 : ∀ w ∈ u_ws RX8 TX8 15, w ∈ wsX8_begin := by decide +kernel
theorem fl_X8_begin_36 : Cond.fieldLink RX8 36 "RecipeScheduler$State" "cooks" "I" ∈ wsX8_begin := by decide +kernel
theorem fl_X8_begin_37 : Cond.fieldLink RX8 37 "RecipeScheduler$State" "minute" "I" ∈ wsX8_begin := by decide +kernel
theorem fl_X8_begin_40 : Cond.fieldLink RX8 40 "RecipeScheduler$State" "salt" "I" ∈ wsX8_begin := by decide +kernel
theorem fl_X8_begin_43 : Cond.fieldLink RX8 43 "RecipeScheduler$State" "cookMinutes" "I" ∈ wsX8_begin := by decide +kernel
theorem fl_X8_begin_46 : Cond.fieldLink RX8 46 "RecipeScheduler$State" "stops" "I" ∈ wsX8_begin := by decide +kernel
theorem fl_X8_begin_49 : Cond.fieldLink RX8 49 "RecipeScheduler$State" "served" "Z" ∈ wsX8_begin := by decide +kernel
theorem fl_X8_begin_53 : Cond.fieldLink RX8 53 "RecipeScheduler$State" "running" "I" ∈ wsX8_begin := by decide +kernel
theorem fl_X8_begin_56 : Cond.fieldLink RX8 56 "RecipeScheduler$State" "done" "I" ∈ wsX8_begin := by decide +kernel
theorem fl_X8_begin_59 : Cond.fieldLink RX8 59 "RecipeScheduler$State" "burnt" "I" ∈ wsX8_begin := by decide +kernel
theorem fl_X8_begin_9 : Cond.fieldLink RX8 9 "RecipeScheduler$State" "duration" "[I" ∈ wsX8_begin := by decide +kernel
theorem cw_X8_begin_copy : Cond.methodLink RX8 63 arraycopyName ∈ wsX8_begin ∧ Cond.native arraycopyName ∈ wsX8_begin ∧ Cond.static arraycopyName ∈ wsX8_begin ∧ Cond.initialized "java/lang/System" ∈ wsX8_begin := by decide +kernel
theorem fl_X8_begin_15 : Cond.fieldLink RX8 15 "RecipeScheduler$State" "remaining" "[I" ∈ wsX8_begin := by decide +kernel
theorem fl_X8_begin_18 : Cond.fieldLink RX8 18 "RecipeScheduler$State" "age" "[I" ∈ wsX8_begin := by decide +kernel
theorem fl_X8_begin_21 : Cond.fieldLink RX8 21 "RecipeScheduler$State" "starts" "[I" ∈ wsX8_begin := by decide +kernel
theorem fl_X8_begin_24 : Cond.fieldLink RX8 24 "RecipeScheduler$State" "completions" "[I" ∈ wsX8_begin := by decide +kernel
theorem fl_X8_begin_27 : Cond.fieldLink RX8 27 "RecipeScheduler$State" "burns" "[I" ∈ wsX8_begin := by decide +kernel
section
variable {p : Program} {l : Launch} {e : Env} {s : State} {m : MethodId} {below : List Frame} {meth : Method} {c : Code} {N0 : Nat} {T : Nat → ClassId} {D : va_G} {gr : List (Nat × Nat)} {ad : Nat → Nat → Nat → Nat}
set_option maxRecDepth 100000 in
set_option maxHeartbeats 4000000 in
theorem w_X8_begin {Y : Mem} {g0 : Nat} {g1 : Nat} (C : Cx p s m [.ref (ad 2 g0 0), .ref (ad 3 g1 0)].toArray meth c cX8_begin 2 wsX8_begin RX8 N0 T D gr ad) (hrt : meth.sig.returnType = none) (hG : ∀ q ∈ [(3, g1), (2, g0)], q ∈ gr) {res : Mem} (h : X8_begin Y g0 g1 = some res) : FW p l e (Rm 1) s m [.ref (ad 2 g0 0), .ref (ad 3 g1 0)].toArray below meth c 2 N0 T D gr ad 0 0 (MQ below (va_Qv (fun Y1 => Y1 = res) (WB T D gr ad) (fun q => N0 ≤ q)) [.ref (ad 2 g0 0), .ref (ad 3 g1 0)].toArray s 0 0 (fun q => N0 ≤ q)) Y 0 [(0, .ref (ad 2 g0 0)), (1, .ref (ad 3 g1 0))] [] := by
  unfold X8_begin at h
  refine fw_aload_n C dX8_begin_0 rfl 0 rfl ?_
  refine fw_aload_n C dX8_begin_1 rfl 1 rfl ?_
  refine fw_getN C (ci := 5) (Cn := RX5) (Tc := TX5) (N := 17) (j := 0) ly_X8_begin_5 rfl (hG _ (List.mem_of_getElem? (i := 0) rfl)) (of3_0 _) (ce3 T ad _ _) (by decide) (Nst_use (cx_nst C) (w := .fieldLinkNest RX8 30 "RecipeScheduler$Recipe" "cooks" "I" "RecipeScheduler") 125 (by decide +kernel) rfl) (fun _ h => h) (v := .int (Y 3 g1 0 0)) rfl dX8_begin_2 ?_
  obtain ⟨Y1, e2, h⟩ := lt_some h
  refine fw_put C (ci := 8) (Cn := RX8) (Tc := TX8) (N := 15) (j := 0) (ty := .int) (upd (Y 2 g0 0) 0 (Y 3 g1 0 0)) ly_X8_begin_8 rfl tyX8_ok nmX8 (hG _ (List.mem_of_getElem? (i := 1) rfl)) (of2_0 _) (ce2 T ad _ _) (by decide) (cx_ts C _ fl_X8_begin_36) (fun _ h => h) rfl (by decide +kernel) rfl rfl (Nat.le_of_ble_eq_true rfl) (ce2_put0 T ad _ _ _) dX8_begin_5 ?_
  refine fw_mem ((up_eq _ _ _ _ _ _).symm.trans e2) ?_
  refine fw_aload_n C dX8_begin_8 rfl 0 rfl ?_
  refine fw_iconst C dX8_begin_9 (v := 0) rfl ?_
  obtain ⟨Y3, e4, h⟩ := lt_some h
  refine fw_put C (ci := 8) (Cn := RX8) (Tc := TX8) (N := 15) (j := 1) (ty := .int) (upd (Y1 2 g0 0) 1 0) ly_X8_begin_8 rfl tyX8_ok nmX8 (hG _ (List.mem_of_getElem? (i := 1) rfl)) (of2_0 _) (ce2 T ad _ _) (by decide) (cx_ts C _ fl_X8_begin_37) (fun _ h => h) rfl (by decide +kernel) rfl rfl (Nat.le_of_ble_eq_true rfl) (ce2_put1 T ad _ _ _) dX8_begin_10 ?_
  refine fw_mem ((up_eq _ _ _ _ _ _).symm.trans e4) ?_
  refine fw_aload_n C dX8_begin_13 rfl 0 rfl ?_
  refine fw_iconst C dX8_begin_14 (v := 0) rfl ?_
  obtain ⟨Y5, e6, h⟩ := lt_some h
  refine fw_put C (ci := 8) (Cn := RX8) (Tc := TX8) (N := 15) (j := 2) (ty := .int) (upd (Y3 2 g0 0) 2 0) ly_X8_begin_8 rfl tyX8_ok nmX8 (hG _ (List.mem_of_getElem? (i := 1) rfl)) (of2_0 _) (ce2 T ad _ _) (by decide) (cx_ts C _ fl_X8_begin_40) (fun _ h => h) rfl (by decide +kernel) rfl rfl (Nat.le_of_ble_eq_true rfl) (ce2_put2 T ad _ _ _) dX8_begin_15 ?_
  refine fw_mem ((up_eq _ _ _ _ _ _).symm.trans e6) ?_
  refine fw_aload_n C dX8_begin_18 rfl 0 rfl ?_
  refine fw_iconst C dX8_begin_19 (v := 0) rfl ?_
  obtain ⟨Y7, e8, h⟩ := lt_some h
  refine fw_put C (ci := 8) (Cn := RX8) (Tc := TX8) (N := 15) (j := 3) (ty := .int) (upd (Y5 2 g0 0) 3 0) ly_X8_begin_8 rfl tyX8_ok nmX8 (hG _ (List.mem_of_getElem? (i := 1) rfl)) (of2_0 _) (ce2 T ad _ _) (by decide) (cx_ts C _ fl_X8_begin_43) (fun _ h => h) rfl (by decide +kernel) rfl rfl (Nat.le_of_ble_eq_true rfl) (ce2_put3 T ad _ _ _) dX8_begin_20 ?_
  refine fw_mem ((up_eq _ _ _ _ _ _).symm.trans e8) ?_
  refine fw_aload_n C dX8_begin_23 rfl 0 rfl ?_
  refine fw_iconst C dX8_begin_24 (v := 0) rfl ?_
  obtain ⟨Y9, e10, h⟩ := lt_some h
  refine fw_put C (ci := 8) (Cn := RX8) (Tc := TX8) (N := 15) (j := 4) (ty := .int) (upd (Y7 2 g0 0) 4 0) ly_X8_begin_8 rfl tyX8_ok nmX8 (hG _ (List.mem_of_getElem? (i := 1) rfl)) (of2_0 _) (ce2 T ad _ _) (by decide) (cx_ts C _ fl_X8_begin_46) (fun _ h => h) rfl (by decide +kernel) rfl rfl (Nat.le_of_ble_eq_true rfl) (ce2_put4 T ad _ _ _) dX8_begin_25 ?_
  refine fw_mem ((up_eq _ _ _ _ _ _).symm.trans e10) ?_
  refine fw_aload_n C dX8_begin_28 rfl 0 rfl ?_
  refine fw_iconst C dX8_begin_29 (v := 0) rfl ?_
  obtain ⟨Y11, e12, h⟩ := lt_some h
  refine fw_put C (ci := 8) (Cn := RX8) (Tc := TX8) (N := 15) (j := 5) (ty := .boolean) (upd (Y9 2 g0 0) 5 0) ly_X8_begin_8 rfl tyX8_ok nmX8 (hG _ (List.mem_of_getElem? (i := 1) rfl)) (of2_0 _) (ce2 T ad _ _) (by decide) (cx_ts C _ fl_X8_begin_49) (fun _ h => h) rfl (by decide +kernel) rfl rfl (Nat.le_of_ble_eq_true rfl) (ce2_put5 T ad _ _ _) dX8_begin_30 ?_
  refine fw_mem ((up_eq _ _ _ _ _ _).symm.trans e12) ?_
  refine fw_aload_n C dX8_begin_33 rfl 0 rfl ?_
  refine fw_iconst C dX8_begin_34 (v := 0) rfl ?_
  obtain ⟨Y13, e14, h⟩ := lt_some h
  refine fw_put C (ci := 8) (Cn := RX8) (Tc := TX8) (N := 15) (j := 6) (ty := .int) (upd (Y11 2 g0 0) 6 0) ly_X8_begin_8 rfl tyX8_ok nmX8 (hG _ (List.mem_of_getElem? (i := 1) rfl)) (of2_0 _) (ce2 T ad _ _) (by decide) (cx_ts C _ fl_X8_begin_53) (fun _ h => h) rfl (by decide +kernel) rfl rfl (Nat.le_of_ble_eq_true rfl) (ce2_put6 T ad _ _ _) dX8_begin_35 ?_
  refine fw_mem ((up_eq _ _ _ _ _ _).symm.trans e14) ?_
  refine fw_aload_n C dX8_begin_38 rfl 0 rfl ?_
  refine fw_iconst C dX8_begin_39 (v := 0) rfl ?_
  obtain ⟨Y15, e16, h⟩ := lt_some h
  refine fw_put C (ci := 8) (Cn := RX8) (Tc := TX8) (N := 15) (j := 7) (ty := .int) (upd (Y13 2 g0 0) 7 0) ly_X8_begin_8 rfl tyX8_ok nmX8 (hG _ (List.mem_of_getElem? (i := 1) rfl)) (of2_0 _) (ce2 T ad _ _) (by decide) (cx_ts C _ fl_X8_begin_56) (fun _ h => h) rfl (by decide +kernel) rfl rfl (Nat.le_of_ble_eq_true rfl) (ce2_put7 T ad _ _ _) dX8_begin_40 ?_
  refine fw_mem ((up_eq _ _ _ _ _ _).symm.trans e16) ?_
  refine fw_aload_n C dX8_begin_43 rfl 0 rfl ?_
  refine fw_iconst C dX8_begin_44 (v := 0) rfl ?_
  obtain ⟨Y17, e18, h⟩ := lt_some h
  refine fw_put C (ci := 8) (Cn := RX8) (Tc := TX8) (N := 15) (j := 8) (ty := .int) (upd (Y15 2 g0 0) 8 0) ly_X8_begin_8 rfl tyX8_ok nmX8 (hG _ (List.mem_of_getElem? (i := 1) rfl)) (of2_0 _) (ce2 T ad _ _) (by decide) (cx_ts C _ fl_X8_begin_59) (fun _ h => h) rfl (by decide +kernel) rfl rfl (Nat.le_of_ble_eq_true rfl) (ce2_put8 T ad _ _ _) dX8_begin_45 ?_
  refine fw_mem ((up_eq _ _ _ _ _ _).symm.trans e18) ?_
  refine fw_aload_n C dX8_begin_48 rfl 1 rfl ?_
  refine fw_getN C (ci := 5) (Cn := RX5) (Tc := TX5) (N := 17) (j := 8) ly_X8_begin_5 rfl (hG _ (List.mem_of_getElem? (i := 0) rfl)) (of3_0 _) (ce3 T ad _ _) (by decide) (Nst_use (cx_nst C) (w := .fieldLinkNest RX8 62 "RecipeScheduler$Recipe" "duration" "[I" "RecipeScheduler") 148 (by decide +kernel) rfl) (fun _ h => h) (v := .ref (ad 3 g1 3)) rfl dX8_begin_49 ?_
  refine fw_iconst C dX8_begin_52 (v := 0) rfl ?_
  refine fw_aload_n C dX8_begin_53 rfl 0 rfl ?_
  refine fw_get C (ci := 8) (Cn := RX8) (Tc := TX8) (N := 15) (j := 9) ly_X8_begin_8 rfl (hG _ (List.mem_of_getElem? (i := 1) rfl)) (of2_0 _) (ce2 T ad _ _) (by decide) (cx_ts C _ fl_X8_begin_9) (fun _ h => h) (v := .ref (ad 2 g0 1)) rfl dX8_begin_54 ?_
  refine fw_iconst C dX8_begin_57 (v := 0) rfl ?_
  refine fw_bipush C dX8_begin_58 (v := 14) rfl ?_
  obtain ⟨Y19, e20, h⟩ := lt_some h
  refine fw_copyi C (st := []) (hG _ (List.mem_of_getElem? (i := 0) rfl)) (of3_3 _) (hG _ (List.mem_of_getElem? (i := 1) rfl)) (of2_1 _) (ca3_3 T ad _ _) (ca2_1 T ad _) (cx_ts C _ cw_X8_begin_copy.1) (cx_ts C _ cw_X8_begin_copy.2.1) (cx_ts C _ cw_X8_begin_copy.2.2.1) (cx_ts C _ cw_X8_begin_copy.2.2.2) (Nat.le_of_ble_eq_true rfl) (Nat.le_of_ble_eq_true rfl) dX8_begin_60 ?_
  refine fw_mem e20 ?_
  refine fw_aload_n C dX8_begin_63 rfl 0 rfl ?_
  refine fw_get C (ci := 8) (Cn := RX8) (Tc := TX8) (N := 15) (j := 10) ly_X8_begin_8 rfl (hG _ (List.mem_of_getElem? (i := 1) rfl)) (of2_0 _) (ce2 T ad _ _) (by decide) (cx_ts C _ fl_X8_begin_15) (fun _ h => h) (v := .ref (ad 2 g0 2)) rfl dX8_begin_64 ?_
  refine fw_iconst C dX8_begin_67 (v := 0) rfl ?_
  obtain ⟨Y23, q22, h⟩ := bd1_some h
  refine fw_callSv C (As := [.ref (ad 2 g0 2), .int 0]) (c_J7_fill_53178 (gac (hG _ (List.mem_of_getElem? (i := 1) rfl)) ga0) (ca2_2 T ad _) (of2_2 _) (Nat.le_of_ble_eq_true rfl) q22) (va_cwS 2 (cx_ts C) gX8_begin_J7_fill_53178 rfl rfl rfl (by decide +kernel) ⟨Nat.le_of_ble_eq_true rfl, Nat.le_of_ble_eq_true rfl⟩) rfl (st := []) rfl (Nat.le_of_ble_eq_true rfl) ⟨Nat.le_refl 0, Nat.le_refl 0⟩ dX8_begin_68 (ppv ?_)
  refine fw_aload_n C dX8_begin_71 rfl 0 rfl ?_
  refine fw_get C (ci := 8) (Cn := RX8) (Tc := TX8) (N := 15) (j := 11) ly_X8_begin_8 rfl (hG _ (List.mem_of_getElem? (i := 1) rfl)) (of2_0 _) (ce2 T ad _ _) (by decide) (cx_ts C _ fl_X8_begin_18) (fun _ h => h) (v := .ref (ad 2 g0 3)) rfl dX8_begin_72 ?_
  refine fw_iconst C dX8_begin_75 (v := 0) rfl ?_
  obtain ⟨Y26, q25, h⟩ := bd1_some h
  refine fw_callSv C (As := [.ref (ad 2 g0 3), .int 0]) (c_J7_fill_53178 (gac (hG _ (List.mem_of_getElem? (i := 1) rfl)) ga0) (ca2_3 T ad _) (of2_3 _) (Nat.le_of_ble_eq_true rfl) q25) (va_cwS 2 (cx_ts C) gX8_begin_J7_fill_53178 rfl rfl rfl (by decide +kernel) ⟨Nat.le_of_ble_eq_true rfl, Nat.le_of_ble_eq_true rfl⟩) rfl (st := []) rfl (Nat.le_of_ble_eq_true rfl) ⟨Nat.le_refl 0, Nat.le_refl 0⟩ dX8_begin_76 (ppv ?_)
  refine fw_aload_n C dX8_begin_79 rfl 0 rfl ?_
  refine fw_get C (ci := 8) (Cn := RX8) (Tc := TX8) (N := 15) (j := 12) ly_X8_begin_8 rfl (hG _ (List.mem_of_getElem? (i := 1) rfl)) (of2_0 _) (ce2 T ad _ _) (by decide) (cx_ts C _ fl_X8_begin_21) (fun _ h => h) (v := .ref (ad 2 g0 4)) rfl dX8_begin_80 ?_
  refine fw_iconst C dX8_begin_83 (v := 0) rfl ?_
  obtain ⟨Y29, q28, h⟩ := bd1_some h
  refine fw_callSv C (As := [.ref (ad 2 g0 4), .int 0]) (c_J7_fill_53178 (gac (hG _ (List.mem_of_getElem? (i := 1) rfl)) ga0) (ca2_4 T ad _) (of2_4 _) (Nat.le_of_ble_eq_true rfl) q28) (va_cwS 2 (cx_ts C) gX8_begin_J7_fill_53178 rfl rfl rfl (by decide +kernel) ⟨Nat.le_of_ble_eq_true rfl, Nat.le_of_ble_eq_true rfl⟩) rfl (st := []) rfl (Nat.le_of_ble_eq_true rfl) ⟨Nat.le_refl 0, Nat.le_refl 0⟩ dX8_begin_84 (ppv ?_)
  refine fw_aload_n C dX8_begin_87 rfl 0 rfl ?_
  refine fw_get C (ci := 8) (Cn := RX8) (Tc := TX8) (N := 15) (j := 13) ly_X8_begin_8 rfl (hG _ (List.mem_of_getElem? (i := 1) rfl)) (of2_0 _) (ce2 T ad _ _) (by decide) (cx_ts C _ fl_X8_begin_24) (fun _ h => h) (v := .ref (ad 2 g0 5)) rfl dX8_begin_88 ?_
  refine fw_iconst C dX8_begin_91 (v := 0) rfl ?_
  obtain ⟨Y32, q31, h⟩ := bd1_some h
  refine fw_callSv C (As := [.ref (ad 2 g0 5), .int 0]) (c_J7_fill_53178 (gac (hG _ (List.mem_of_getElem? (i := 1) rfl)) ga0) (ca2_5 T ad _) (of2_5 _) (Nat.le_of_ble_eq_true rfl) q31) (va_cwS 2 (cx_ts C) gX8_begin_J7_fill_53178 rfl rfl rfl (by decide +kernel) ⟨Nat.le_of_ble_eq_true rfl, Nat.le_of_ble_eq_true rfl⟩) rfl (st := []) rfl (Nat.le_of_ble_eq_true rfl) ⟨Nat.le_refl 0, Nat.le_refl 0⟩ dX8_begin_92 (ppv ?_)
  refine fw_aload_n C dX8_begin_95 rfl 0 rfl ?_
  refine fw_get C (ci := 8) (Cn := RX8) (Tc := TX8) (N := 15) (j := 14) ly_X8_begin_8 rfl (hG _ (List.mem_of_getElem? (i := 1) rfl)) (of2_0 _) (ce2 T ad _ _) (by decide) (cx_ts C _ fl_X8_begin_27) (fun _ h => h) (v := .ref (ad 2 g0 6)) rfl dX8_begin_96 ?_
  refine fw_iconst C dX8_begin_99 (v := 0) rfl ?_
  obtain ⟨Y35, q34, h⟩ := bd1_some h
  refine fw_callSv C (As := [.ref (ad 2 g0 6), .int 0]) (c_J7_fill_53178 (gac (hG _ (List.mem_of_getElem? (i := 1) rfl)) ga0) (ca2_6 T ad _) (of2_6 _) (Nat.le_of_ble_eq_true rfl) q34) (va_cwS 2 (cx_ts C) gX8_begin_J7_fill_53178 rfl rfl rfl (by decide +kernel) ⟨Nat.le_of_ble_eq_true rfl, Nat.le_of_ble_eq_true rfl⟩) rfl (st := []) rfl (Nat.le_of_ble_eq_true rfl) ⟨Nat.le_refl 0, Nat.le_refl 0⟩ dX8_begin_100 (ppv ?_)
  exact fw_vret C hrt Y35 (Option.some.inj h) (fun t ht => ht) dX8_begin_103
end
set_option maxRecDepth 100000 in
set_option maxHeartbeats 4000000 in
theorem c_X8_begin {l : Launch} {N0 : Nat} {T : Nat → ClassId} {D : va_G} {gr : List (Nat × Nat)} {ad : Nat → Nat → Nat → Nat} {Y : Mem} {g0 : Nat} {g1 : Nat} {res : Mem} (hG : ∀ q ∈ [(3, g1), (2, g0)], q ∈ gr) (h : X8_begin Y g0 g1 = some res) : CV l yX8_begin wsX8_begin (Rm 1) N0 T D gr ad Y [.ref (ad 2 g0 0), .ref (ad 3 g1 0)] (fun Y1 => Y1 = res) :=
  fw_body (by decide +kernel) rfl (Nat.le_of_ble_eq_true rfl) (fun p e s m below meth c C hrt => w_X8_begin C hrt hG  h)
theorem ly_X3_open_3 : ∀ w ∈ u_ws RX3 TX3 5, w ∈ wsX3_open := by decide +kernel
theorem fl_X3_open_28 : Cond.fieldLink RX3 28 "RecipeScheduler$Kitchen" "recipe" "LRecipeScheduler$Recipe;" ∈ wsX3_open := by decide +kernel
theorem fl_X3_open_12 : Cond.fieldLink RX3 12 "RecipeScheduler$Kitchen" "state" "LRecipeScheduler$State;" ∈ wsX3_open := by decide +kernel
section
variable {p : Program} {l : Launch} {e : Env} {s : State} {m : MethodId} {below : List Frame} {meth : Method} {c : Code} {N0 : Nat} {T : Nat → ClassId} {D : va_G} {gr : List (Nat × Nat)} {ad : Nat → Nat → Nat → Nat}
set_option maxRecDepth 100000 in
set_option maxHeartbeats 4000000 in
theorem w_X3_open {Y : Mem} {g0 : Nat} {g1 : Nat} (C : Cx p s m [.ref (ad 1 g0 0), .ref (ad 3 g1 0)].toArray meth c cX3_open 2 wsX3_open RX3 N0 T D gr ad) (hrt : meth.sig.returnType = none) (hG : ∀ q ∈ [(1, g0), (3, g1), (2, g0)], q ∈ gr) {res : Mem} (h : X3_open Y g0 g1 = some res) : FW p l e (Rm 2) s m [.ref (ad 1 g0 0), .ref (ad 3 g1 0)].toArray below meth c 2 N0 T D gr ad 0 0 (MQ below (va_Qv (fun Y1 => Y1 = res) (WB T D gr ad) (fun q => N0 ≤ q)) [.ref (ad 1 g0 0), .ref (ad 3 g1 0)].toArray s 0 0 (fun q => N0 ≤ q)) Y 0 [(0, .ref (ad 1 g0 0)), (1, .ref (ad 3 g1 0))] [] := by
  unfold X3_open at h
  refine fw_aload_n C dX3_open_0 rfl 0 rfl ?_
  refine fw_aload_n C dX3_open_1 rfl 1 rfl ?_
  obtain ⟨b3, h⟩ := gd_some h
  have b3 := of_decide_eq_true b3
  obtain ⟨Y1, e2, h⟩ := lt_some h
  refine fw_put C (ci := 3) (Cn := RX3) (Tc := TX3) (N := 5) (j := 0) (ty := (.object RX5)) (upd (Y 1 g0 0) 0 (Int32.ofNat g1)) ly_X3_open_3 rfl tyX3_ok nmX3 (hG _ (List.mem_of_getElem? (i := 0) rfl)) (of1_0 _) (ce1 T ad _ _) (by decide) (cx_ts C _ fl_X3_open_28) (fun _ h => h) rfl (by decide +kernel) rfl rfl (Nat.le_of_ble_eq_true rfl) (ce1_put0 T ad _ _ _ b3) dX3_open_2 ?_
  refine fw_mem ((up_eq _ _ _ _ _ _).symm.trans e2) ?_
  refine fw_aload_n C dX3_open_5 rfl 0 rfl ?_
  refine fw_get C (ci := 3) (Cn := RX3) (Tc := TX3) (N := 5) (j := 1) ly_X3_open_3 rfl (hG _ (List.mem_of_getElem? (i := 0) rfl)) (of1_0 _) (ce1 T ad _ _) (by decide) (cx_ts C _ fl_X3_open_12) (fun _ h => h) (v := .ref (ad 2 g0 0)) rfl dX3_open_6 ?_
  refine fw_aload_n C dX3_open_9 rfl 1 rfl ?_
  obtain ⟨Y6, q5, h⟩ := bd1_some h
  refine fw_callVv C (ci := 8) (Cn := RX8) (Tc := TX8) (N := 15) (As := [.ref (ad 3 g1 0)]) (c_X8_begin (gac (hG _ (List.mem_of_getElem? (i := 1) rfl)) (gac (hG _ (List.mem_of_getElem? (i := 2) rfl)) ga0)) q5) (cwV 1 (cx_ts C) gX3_open_X8_begin rfl rfl rfl (by decide +kernel) ⟨Nat.le_of_ble_eq_true rfl, Nat.le_of_ble_eq_true rfl⟩) rfl (hG _ (List.mem_of_getElem? (i := 2) rfl)) (of2_0 _) (ce2 T ad _ _) rfl (st := []) rfl (Nat.le_of_ble_eq_true rfl) ⟨Nat.le_refl 0, Nat.le_refl 0⟩ dX3_open_10 (ppv ?_)
  exact fw_vret C hrt Y6 (Option.some.inj h) (fun t ht => ht) dX3_open_13
end
set_option maxRecDepth 100000 in
set_option maxHeartbeats 4000000 in
theorem c_X3_open {l : Launch} {N0 : Nat} {T : Nat → ClassId} {D : va_G} {gr : List (Nat × Nat)} {ad : Nat → Nat → Nat → Nat} {Y : Mem} {g0 : Nat} {g1 : Nat} {res : Mem} (hG : ∀ q ∈ [(1, g0), (3, g1), (2, g0)], q ∈ gr) (h : X3_open Y g0 g1 = some res) : CV l yX3_open wsX3_open (Rm 2) N0 T D gr ad Y [.ref (ad 1 g0 0), .ref (ad 3 g1 0)] (fun Y1 => Y1 = res) :=
  fw_body (by decide +kernel) rfl (Nat.le_of_ble_eq_true rfl) (fun p e s m below meth c C hrt => w_X3_open C hrt hG  h)
theorem ly_X11_load_11 : ∀ w ∈ u_ws RX11 TX11 11, w ∈ wsX11_load := by decide +kernel
theorem fl_X11_load_52 : Cond.fieldLink RX11 52 "RecipeScheduler" "setupReader" "LRecipeScheduler$SetupReader;" ∈ wsX11_load := by decide +kernel
theorem fl_X11_load_92 : Cond.fieldLink RX11 92 "RecipeScheduler" "spare" "LRecipeScheduler$Recipe;" ∈ wsX11_load := by decide +kernel
theorem fl_X11_load_41 : Cond.fieldLink RX11 41 "RecipeScheduler" "input" "LRecipeScheduler$Text;" ∈ wsX11_load := by decide +kernel
theorem ly_X11_load_9 : ∀ w ∈ u_ws RX9 TX9 2, w ∈ wsX11_load := by decide +kernel
theorem fl_X11_load_67 : Cond.fieldLink RX11 67 "RecipeScheduler" "now" "LRecipeScheduler$Kitchen;" ∈ wsX11_load := by decide +kernel
theorem ly_X11_load_3 : ∀ w ∈ u_ws RX3 TX3 5, w ∈ wsX11_load := by decide +kernel
theorem fl_X11_load_77 : Cond.fieldLink RX11 77 "RecipeScheduler" "history" "LRecipeScheduler$History;" ∈ wsX11_load := by decide +kernel
theorem ly_X11_load_2 : ∀ w ∈ u_ws RX2 TX2 3, w ∈ wsX11_load := by decide +kernel
theorem ly_X11_load_5 : ∀ w ∈ u_ws RX5 TX5 17, w ∈ wsX11_load := by decide +kernel
theorem ly_X11_load_4 : ∀ w ∈ u_ws RX4 TX4 3, w ∈ wsX11_load := by decide +kernel
theorem fl_X11_load_88 : Cond.fieldLink RX11 88 "RecipeScheduler" "isSaved" "[Z" ∈ wsX11_load := by decide +kernel
section
variable {p : Program} {l : Launch} {e : Env} {s : State} {m : MethodId} {below : List Frame} {meth : Method} {c : Code} {N0 : Nat} {T : Nat → ClassId} {D : va_G} {gr : List (Nat × Nat)} {ad : Nat → Nat → Nat → Nat}
set_option maxRecDepth 100000 in
set_option maxHeartbeats 4000000 in
theorem w_X11_load_b49  (C : Cx p s m [.ref (ad 0 0 0)].toArray meth c cX11_load 3 wsX11_load RX11 N0 T D gr ad) (hrt : meth.sig.returnType = (some .int)) (hG : ∀ q ∈ ([(0, 0), (6, 0), (5, 0), (7, 0), (1, 0), (2, 0), (9, 0)] ++ allG), q ∈ gr) {res : Int32 × Mem} : ∀ (n : Nat) (Y : Mem) (l2 : Int32), X11_load_b49   n Y l2 = some res → FW p l e (Rm 9) s m [.ref (ad 0 0 0)].toArray below meth c 3 N0 T D gr ad 0 0 (MQ below (va_Qi (fun r Y1 => (r, Y1) = res) (WB T D gr ad) (fun q => N0 ≤ q)) [.ref (ad 0 0 0)].toArray s 0 0 (fun q => N0 ≤ q)) Y 49 [(2, .int l2), (0, .ref (ad 0 0 0))] [] := by
  intro n
  induction n with
  | zero =>
    intro Y l2 h
    unfold X11_load_b49 at h
    cases h
  | succ n ih =>
    intro Y l2 h
    unfold X11_load_b49 at h
    refine fw_iload_n C dX11_load_49 rfl 0 rfl ?_
    refine fw_iconst C dX11_load_50 (v := 2) rfl ?_
    refine fw_icmp_ge C dX11_load_51 (tgt := 67) rfl (fun c17 => ?_) (fun c17 => ?_)
    · have h := ite_t c17 h
      refine fw_aload_n C dX11_load_67 rfl 1 rfl ?_
      refine fw_get C (ci := 11) (Cn := RX11) (Tc := TX11) (N := 11) (j := 7) ly_X11_load_11 rfl (hG _ (List.mem_of_getElem? (i := 0) rfl)) (of0_0 _) (ce0 T ad _ _) (by decide) (cx_ts C _ fl_X11_load_77) (fun _ h => h) (v := .ref (ad 9 0 0)) rfl dX11_load_68 ?_
      refine fw_iconst C dX11_load_71 (v := 0) rfl ?_
      obtain ⟨Y18, e19, h⟩ := lt_some h
      refine fw_putN C (ci := 2) (Cn := RX2) (Tc := TX2) (N := 3) (j := 2) (ty := .int) (upd (Y 9 0 0) 2 0) ly_X11_load_2 rfl tyX2_ok nmX2 (hG _ (List.mem_of_getElem? (i := 6) rfl)) (of9_0 _) (ce9 T ad _ _) (by decide) (Nst_use (cx_nst C) (w := .fieldLinkNest RX11 123 "RecipeScheduler$History" "count" "I" "RecipeScheduler") 536 (by decide +kernel) rfl) (fun _ h => h) rfl (by decide +kernel) rfl rfl (Nat.le_of_ble_eq_true rfl) (ce9_put2 T ad _ _ _) dX11_load_72 ?_
      refine fw_mem ((up_eq _ _ _ _ _ _).symm.trans e19) ?_
      refine fw_aload_n C dX11_load_75 rfl 1 rfl ?_
      refine fw_get C (ci := 11) (Cn := RX11) (Tc := TX11) (N := 11) (j := 5) ly_X11_load_11 rfl (hG _ (List.mem_of_getElem? (i := 0) rfl)) (of0_0 _) (ce0 T ad _ _) (by decide) (cx_ts C _ fl_X11_load_67) (fun _ h => h) (v := .ref (ad 1 0 0)) rfl dX11_load_76 ?_
      refine fw_getN C (ci := 3) (Cn := RX3) (Tc := TX3) (N := 5) (j := 0) ly_X11_load_3 rfl (hG _ (List.mem_of_getElem? (i := 4) rfl)) (of1_0 _) (ce1 T ad _ _) (by decide) (Nst_use (cx_nst C) (w := .fieldLinkNest RX11 117 "RecipeScheduler$Kitchen" "recipe" "LRecipeScheduler$Recipe;" "RecipeScheduler") 507 (by decide +kernel) rfl) (fun _ h => h) (v := .ref (ad 3 ((Y18 1 0 0 0).toNatClampNeg) 0)) rfl dX11_load_79 ?_
      obtain ⟨b20, h⟩ := gd_some h
      have b20 := of_decide_eq_true b20
      refine fw_getN C (ci := 5) (Cn := RX5) (Tc := TX5) (N := 17) (j := 7) ly_X11_load_5 rfl ((fun q hq => hG q (List.mem_append_right _ hq)) _ (allG_3 b20)) (of3_0 _) (ce3 T ad _ _) (by decide) (Nst_use (cx_nst C) (w := .fieldLinkNest RX11 126 "RecipeScheduler$Recipe" "steps" "LRecipeScheduler$Names;" "RecipeScheduler") 144 (by decide +kernel) rfl) (fun _ h => h) (v := .ref (ad 4 (2*((Y18 1 0 0 0).toNatClampNeg)+1) 0)) rfl dX11_load_82 ?_
      obtain ⟨b21, h⟩ := gd_some h
      have b21 := of_decide_eq_true b21
      refine fw_getN C (ci := 4) (Cn := RX4) (Tc := TX4) (N := 3) (j := 2) ly_X11_load_4 rfl ((fun q hq => hG q (List.mem_append_right _ hq)) _ (allG_4b b21)) (of4_0 _) (ce4 T ad _ _) (by decide) (Nst_use (cx_nst C) (w := .fieldLinkNest RX11 130 "RecipeScheduler$Names" "count" "I" "RecipeScheduler") 113 (by decide +kernel) rfl) (fun _ h => h) (v := .int (Y18 4 (2*((Y18 1 0 0 0).toNatClampNeg)+1) 0 2)) rfl dX11_load_85 ?_
      exact fw_iret C hrt Y18 (Option.some.inj h) (fun t ht => ht) dX11_load_88
    · have h := ite_f c17 h
      refine fw_aload_n C dX11_load_54 rfl 1 rfl ?_
      refine fw_get C (ci := 11) (Cn := RX11) (Tc := TX11) (N := 11) (j := 9) ly_X11_load_11 rfl (hG _ (List.mem_of_getElem? (i := 0) rfl)) (of0_0 _) (ce0 T ad _ _) (by decide) (cx_ts C _ fl_X11_load_88) (fun _ h => h) (v := .ref (ad 0 0 2)) rfl dX11_load_55 ?_
      refine fw_iload_n C dX11_load_58 rfl 0 rfl ?_
      refine fw_iconst C dX11_load_59 (v := 0) rfl ?_
      obtain ⟨b22, h⟩ := gd_some h
      obtain ⟨Y23, e24, h⟩ := lt_some h
      refine fw_zast2 C (hG _ (List.mem_of_getElem? (i := 0) rfl)) (of0_2 _) (ca0_2 T ad _) b22 (Nat.le_of_ble_eq_true rfl) dX11_load_60 ?_
      refine fw_mem e24 ?_
      refine fw_iinc C dX11_load_61 (kk := 0) (v := l2 + 1) rfl rfl (by decide) (L' := [(2, .int (l2 + 1)), (0, .ref (ad 0 0 0))]) rfl ?_
      refine fw_goto C dX11_load_64 (tgt := 49) rfl ?_
      exact ih _ _ h
set_option maxRecDepth 100000 in
set_option maxHeartbeats 4000000 in
theorem w_X11_load {Y : Mem} (C : Cx p s m [.ref (ad 0 0 0)].toArray meth c cX11_load 3 wsX11_load RX11 N0 T D gr ad) (hrt : meth.sig.returnType = (some .int)) (hG : ∀ q ∈ ([(0, 0), (6, 0), (5, 0), (7, 0), (1, 0), (2, 0), (9, 0)] ++ allG), q ∈ gr) {res : Int32 × Mem} (h : X11_load Y = some res) : FW p l e (Rm 9) s m [.ref (ad 0 0 0)].toArray below meth c 3 N0 T D gr ad 0 0 (MQ below (va_Qi (fun r Y1 => (r, Y1) = res) (WB T D gr ad) (fun q => N0 ≤ q)) [.ref (ad 0 0 0)].toArray s 0 0 (fun q => N0 ≤ q)) Y 0 [(0, .ref (ad 0 0 0))] [] := by
  unfold X11_load at h
  refine fw_aload_n C dX11_load_0 rfl 0 rfl ?_
  refine fw_get C (ci := 11) (Cn := RX11) (Tc := TX11) (N := 11) (j := 3) ly_X11_load_11 rfl (hG _ (List.mem_of_getElem? (i := 0) rfl)) (of0_0 _) (ce0 T ad _ _) (by decide) (cx_ts C _ fl_X11_load_52) (fun _ h => h) (v := .ref (ad 7 0 0)) rfl dX11_load_1 ?_
  refine fw_aload_n C dX11_load_4 rfl 0 rfl ?_
  refine fw_get C (ci := 11) (Cn := RX11) (Tc := TX11) (N := 11) (j := 10) ly_X11_load_11 rfl (hG _ (List.mem_of_getElem? (i := 0) rfl)) (of0_0 _) (ce0 T ad _ _) (by decide) (cx_ts C _ fl_X11_load_92) (fun _ h => h) (v := .ref (ad 3 ((Y 0 0 0 10).toNatClampNeg) 0)) rfl dX11_load_5 ?_
  obtain ⟨b1, h⟩ := gd_some h
  have b1 := of_decide_eq_true b1
  obtain ⟨b2, h⟩ := gd_some h
  have b2 := of_decide_eq_true b2
  obtain ⟨Y5, q4, h⟩ := bd1_some h
  refine fw_callVv C (ci := 7) (Cn := RX7) (Tc := TX7) (N := 1) (As := [.ref (ad 3 ((Y 0 0 0 10).toNatClampNeg) 0)]) (c_X7_readInto (gac ((fun q hq => hG q (List.mem_append_right _ hq)) _ (allG_4b b2)) (gac ((fun q hq => hG q (List.mem_append_right _ hq)) _ (allG_4a b2)) (gac ((fun q hq => hG q (List.mem_append_right _ hq)) _ (allG_3 b1)) (gac (hG _ (List.mem_of_getElem? (i := 3) rfl)) (gac (hG _ (List.mem_of_getElem? (i := 2) rfl)) (gac (hG _ (List.mem_of_getElem? (i := 1) rfl)) ga0)))))) q4) (cwV 1 (cx_ts C) gX11_load_X7_readInto rfl rfl rfl (by decide +kernel) ⟨Nat.le_of_ble_eq_true rfl, Nat.le_of_ble_eq_true rfl⟩) rfl (hG _ (List.mem_of_getElem? (i := 3) rfl)) (of7_0 _) (ce7 T ad _ _) rfl (st := []) rfl (Nat.le_of_ble_eq_true rfl) ⟨Nat.le_refl 0, Nat.le_refl 0⟩ dX11_load_8 (ppv ?_)
  refine fw_aload_n C dX11_load_11 rfl 0 rfl ?_
  refine fw_get C (ci := 11) (Cn := RX11) (Tc := TX11) (N := 11) (j := 0) ly_X11_load_11 rfl (hG _ (List.mem_of_getElem? (i := 0) rfl)) (of0_0 _) (ce0 T ad _ _) (by decide) (cx_ts C _ fl_X11_load_41) (fun _ h => h) (v := .ref (ad 5 0 0)) rfl dX11_load_12 ?_
  refine fw_iconst C dX11_load_15 (v := 0) rfl ?_
  obtain ⟨Y6, e7, h⟩ := lt_some h
  refine fw_putN C (ci := 9) (Cn := RX9) (Tc := TX9) (N := 2) (j := 1) (ty := .int) (upd (Y5 5 0 0) 1 0) ly_X11_load_9 rfl tyX9_ok nmX9 (hG _ (List.mem_of_getElem? (i := 2) rfl)) (of5_0 _) (ce5 T ad _ _) (by decide) (Nst_use (cx_nst C) (w := .fieldLinkNest RX11 37 "RecipeScheduler$Text" "length" "I" "RecipeScheduler") 49 (by decide +kernel) rfl) (fun _ h => h) rfl (by decide +kernel) rfl rfl (Nat.le_of_ble_eq_true rfl) (ce5_put1 T ad _ _ _) dX11_load_16 ?_
  refine fw_mem ((up_eq _ _ _ _ _ _).symm.trans e7) ?_
  refine fw_aload_n C dX11_load_19 rfl 0 rfl ?_
  obtain ⟨_, q9, h⟩ := bd1_some h
  refine fw_callVv C (ci := 11) (Cn := RX11) (Tc := TX11) (N := 11) (As := []) (c_X11_requireNoError (gac (hG _ (List.mem_of_getElem? (i := 0) rfl)) (gac (hG _ (List.mem_of_getElem? (i := 1) rfl)) ga0)) q9) (cwV 0 (cx_ts C) gX11_load_X11_requireNoError rfl rfl rfl (by decide +kernel) ⟨Nat.le_of_ble_eq_true rfl, Nat.le_of_ble_eq_true rfl⟩) rfl (hG _ (List.mem_of_getElem? (i := 0) rfl)) (of0_0 _) (ce0 T ad _ _) rfl (st := []) rfl (Nat.le_of_ble_eq_true rfl) ⟨Nat.le_refl 0, Nat.le_refl 0⟩ dX11_load_20 (ppv ?_)
  refine fw_aload_n C dX11_load_23 rfl 0 rfl ?_
  refine fw_get C (ci := 11) (Cn := RX11) (Tc := TX11) (N := 11) (j := 5) ly_X11_load_11 rfl (hG _ (List.mem_of_getElem? (i := 0) rfl)) (of0_0 _) (ce0 T ad _ _) (by decide) (cx_ts C _ fl_X11_load_67) (fun _ h => h) (v := .ref (ad 1 0 0)) rfl dX11_load_24 ?_
  refine fw_getN C (ci := 3) (Cn := RX3) (Tc := TX3) (N := 5) (j := 0) ly_X11_load_3 rfl (hG _ (List.mem_of_getElem? (i := 4) rfl)) (of1_0 _) (ce1 T ad _ _) (by decide) (Nst_use (cx_nst C) (w := .fieldLinkNest RX11 117 "RecipeScheduler$Kitchen" "recipe" "LRecipeScheduler$Recipe;" "RecipeScheduler") 507 (by decide +kernel) rfl) (fun _ h => h) (v := .ref (ad 3 ((Y6 1 0 0 0).toNatClampNeg) 0)) rfl dX11_load_27 ?_
  refine fw_astore_n C dX11_load_30 rfl (by decide) (L' := [(1, .ref (ad 3 ((Y6 1 0 0 0).toNatClampNeg) 0)), (0, .ref (ad 0 0 0))]) rfl ?_
  refine fw_aload_n C dX11_load_31 rfl 1 rfl ?_
  refine fw_get C (ci := 11) (Cn := RX11) (Tc := TX11) (N := 11) (j := 5) ly_X11_load_11 rfl (hG _ (List.mem_of_getElem? (i := 0) rfl)) (of0_0 _) (ce0 T ad _ _) (by decide) (cx_ts C _ fl_X11_load_67) (fun _ h => h) (v := .ref (ad 1 0 0)) rfl dX11_load_32 ?_
  refine fw_aload_n C dX11_load_35 rfl 1 rfl ?_
  refine fw_get C (ci := 11) (Cn := RX11) (Tc := TX11) (N := 11) (j := 10) ly_X11_load_11 rfl (hG _ (List.mem_of_getElem? (i := 0) rfl)) (of0_0 _) (ce0 T ad _ _) (by decide) (cx_ts C _ fl_X11_load_92) (fun _ h => h) (v := .ref (ad 3 ((Y6 0 0 0 10).toNatClampNeg) 0)) rfl dX11_load_36 ?_
  obtain ⟨b10, h⟩ := gd_some h
  have b10 := of_decide_eq_true b10
  obtain ⟨Y13, q12, h⟩ := bd1_some h
  refine fw_callVv C (ci := 3) (Cn := RX3) (Tc := TX3) (N := 5) (As := [.ref (ad 3 ((Y6 0 0 0 10).toNatClampNeg) 0)]) (c_X3_open (gac (hG _ (List.mem_of_getElem? (i := 4) rfl)) (gac ((fun q hq => hG q (List.mem_append_right _ hq)) _ (allG_3 b10)) (gac (hG _ (List.mem_of_getElem? (i := 5) rfl)) ga0))) q12) (cwV 1 (cx_ts C) gX11_load_X3_open rfl rfl rfl (by decide +kernel) ⟨Nat.le_of_ble_eq_true rfl, Nat.le_of_ble_eq_true rfl⟩) rfl (hG _ (List.mem_of_getElem? (i := 4) rfl)) (of1_0 _) (ce1 T ad _ _) rfl (st := []) rfl (Nat.le_of_ble_eq_true rfl) ⟨Nat.le_refl 0, Nat.le_refl 0⟩ dX11_load_39 (ppv ?_)
  refine fw_aload_n C dX11_load_42 rfl 1 rfl ?_
  refine fw_aload_n C dX11_load_43 rfl 0 rfl ?_
  obtain ⟨b16, h⟩ := gd_some h
  have b16 := of_decide_eq_true b16
  obtain ⟨Y14, e15, h⟩ := lt_some h
  refine fw_put C (ci := 11) (Cn := RX11) (Tc := TX11) (N := 11) (j := 10) (ty := (.object RX5)) (upd (Y13 0 0 0) 10 (Int32.ofNat ((Y6 1 0 0 0).toNatClampNeg))) ly_X11_load_11 rfl tyX11_ok nmX11 (hG _ (List.mem_of_getElem? (i := 0) rfl)) (of0_0 _) (ce0 T ad _ _) (by decide) (cx_ts C _ fl_X11_load_92) (fun _ h => h) rfl (by decide +kernel) rfl rfl (Nat.le_of_ble_eq_true rfl) (ce0_put10 T ad _ _ _ b16) dX11_load_44 ?_
  refine fw_mem ((up_eq _ _ _ _ _ _).symm.trans e15) ?_
  refine fw_iconst C dX11_load_47 (v := 0) rfl ?_
  refine fw_istore_n C dX11_load_48 rfl (by decide) (L' := [(2, .int 0), (1, .ref (ad 3 ((Y6 1 0 0 0).toNatClampNeg) 0)), (0, .ref (ad 0 0 0))]) rfl ?_
  refine fw_sub [0, 2] (L' := [(2, .int 0), (0, .ref (ad 0 0 0))]) rfl ?_
  exact w_X11_load_b49 C hrt hG   _ _ _ h
end
set_option maxRecDepth 100000 in
set_option maxHeartbeats 4000000 in
theorem c_X11_load {l : Launch} {N0 : Nat} {T : Nat → ClassId} {D : va_G} {gr : List (Nat × Nat)} {ad : Nat → Nat → Nat → Nat} {Y : Mem} {res : Int32 × Mem} (hG : ∀ q ∈ ([(0, 0), (6, 0), (5, 0), (7, 0), (1, 0), (2, 0), (9, 0)] ++ allG), q ∈ gr) (h : X11_load Y = some res) : CI l yX11_load wsX11_load (Rm 9) N0 T D gr ad Y [.ref (ad 0 0 0)] (fun r Y1 => (r, Y1) = res) :=
  fw_body (by decide +kernel) rfl (Nat.le_of_ble_eq_true rfl) (fun p e s m below meth c C hrt => w_X11_load C hrt hG  h)
theorem ly_X11_minute_11 : ∀ w ∈ u_ws RX11 TX11 11, w ∈ wsX11_minute := by decide +kernel
theorem fl_X11_minute_67 : Cond.fieldLink RX11 67 "RecipeScheduler" "now" "LRecipeScheduler$Kitchen;" ∈ wsX11_minute := by decide +kernel
theorem ly_X11_minute_3 : ∀ w ∈ u_ws RX3 TX3 5, w ∈ wsX11_minute := by decide +kernel
theorem ly_X11_minute_8 : ∀ w ∈ u_ws RX8 TX8 15, w ∈ wsX11_minute := by decide +kernel
section
variable {p : Program} {l : Launch} {e : Env} {s : State} {m : MethodId} {below : List Frame} {meth : Method} {c : Code} {N0 : Nat} {T : Nat → ClassId} {D : va_G} {gr : List (Nat × Nat)} {ad : Nat → Nat → Nat → Nat}
set_option maxRecDepth 100000 in
set_option maxHeartbeats 4000000 in
theorem w_X11_minute {Y : Mem} (C : Cx p s m [.ref (ad 0 0 0)].toArray meth c cX11_minute 1 wsX11_minute RX11 N0 T D gr ad) (hrt : meth.sig.returnType = (some .int)) (hG : ∀ q ∈ [(0, 0), (1, 0), (2, 0)], q ∈ gr) {res : Int32} (h : X11_minute Y = some res) : FW p l e (Rm 0) s m [.ref (ad 0 0 0)].toArray below meth c 1 N0 T D gr ad 0 0 (MQ below (va_Qi (fun r Y1 => r = res ∧ Y1 = Y) (WB T D gr ad) (fun q => N0 ≤ q)) [.ref (ad 0 0 0)].toArray s 0 0 (fun q => N0 ≤ q)) Y 0 [(0, .ref (ad 0 0 0))] [] := by
  unfold X11_minute at h
  refine fw_aload_n C dX11_minute_0 rfl 0 rfl ?_
  refine fw_get C (ci := 11) (Cn := RX11) (Tc := TX11) (N := 11) (j := 5) ly_X11_minute_11 rfl (hG _ (List.mem_of_getElem? (i := 0) rfl)) (of0_0 _) (ce0 T ad _ _) (by decide) (cx_ts C _ fl_X11_minute_67) (fun _ h => h) (v := .ref (ad 1 0 0)) rfl dX11_minute_1 ?_
  refine fw_getN C (ci := 3) (Cn := RX3) (Tc := TX3) (N := 5) (j := 1) ly_X11_minute_3 rfl (hG _ (List.mem_of_getElem? (i := 1) rfl)) (of1_0 _) (ce1 T ad _ _) (by decide) (Nst_use (cx_nst C) (w := .fieldLinkNest RX11 139 "RecipeScheduler$Kitchen" "state" "LRecipeScheduler$State;" "RecipeScheduler") 509 (by decide +kernel) rfl) (fun _ h => h) (v := .ref (ad 2 0 0)) rfl dX11_minute_4 ?_
  refine fw_getN C (ci := 8) (Cn := RX8) (Tc := TX8) (N := 15) (j := 1) ly_X11_minute_8 rfl (hG _ (List.mem_of_getElem? (i := 2) rfl)) (of2_0 _) (ce2 T ad _ _) (by decide) (Nst_use (cx_nst C) (w := .fieldLinkNest RX11 146 "RecipeScheduler$State" "minute" "I" "RecipeScheduler") 431 (by decide +kernel) rfl) (fun _ h => h) (v := .int (Y 2 0 0 1)) rfl dX11_minute_7 ?_
  exact fw_iret C hrt Y ⟨Option.some.inj h, rfl⟩ (fun t ht => ht) dX11_minute_10
end
set_option maxRecDepth 100000 in
set_option maxHeartbeats 4000000 in
theorem c_X11_minute {l : Launch} {N0 : Nat} {T : Nat → ClassId} {D : va_G} {gr : List (Nat × Nat)} {ad : Nat → Nat → Nat → Nat} {Y : Mem} {res : Int32} (hG : ∀ q ∈ [(0, 0), (1, 0), (2, 0)], q ∈ gr) (h : X11_minute Y = some res) : CI l yX11_minute wsX11_minute (Rm 0) N0 T D gr ad Y [.ref (ad 0 0 0)] (fun r Y1 => r = res ∧ Y1 = Y) :=
  fw_body (by decide +kernel) rfl (Nat.le_of_ble_eq_true rfl) (fun p e s m below meth c C hrt => w_X11_minute C hrt hG  h)
theorem ly_X11_requirePan_11 : ∀ w ∈ u_ws RX11 TX11 11, w ∈ wsX11_requirePan := by decide +kernel
theorem fl_X11_requirePan_67 : Cond.fieldLink RX11 67 "RecipeScheduler" "now" "LRecipeScheduler$Kitchen;" ∈ wsX11_requirePan := by decide +kernel
theorem ly_X11_requirePan_3 : ∀ w ∈ u_ws RX3 TX3 5, w ∈ wsX11_requirePan := by decide +kernel
theorem ly_X11_requirePan_5 : ∀ w ∈ u_ws RX5 TX5 17, w ∈ wsX11_requirePan := by decide +kernel
theorem ly_X11_requirePan_4 : ∀ w ∈ u_ws RX4 TX4 3, w ∈ wsX11_requirePan := by decide +kernel
section
variable {p : Program} {l : Launch} {e : Env} {s : State} {m : MethodId} {below : List Frame} {meth : Method} {c : Code} {N0 : Nat} {T : Nat → ClassId} {D : va_G} {gr : List (Nat × Nat)} {ad : Nat → Nat → Nat → Nat}
set_option maxRecDepth 100000 in
set_option maxHeartbeats 4000000 in
theorem w_X11_requirePan {Y : Mem} {a1 : Int32} (C : Cx p s m [.ref (ad 0 0 0), .int a1].toArray meth c cX11_requirePan 2 wsX11_requirePan RX11 N0 T D gr ad) (hrt : meth.sig.returnType = none) (hG : ∀ q ∈ ([(0, 0), (1, 0)] ++ allG), q ∈ gr) {res : Unit} (h : X11_requirePan Y a1 = some res) : FW p l e (Rm 1) s m [.ref (ad 0 0 0), .int a1].toArray below meth c 2 N0 T D gr ad 0 0 (MQ below (va_Qv (fun Y1 => Y1 = Y) (WB T D gr ad) (fun q => N0 ≤ q)) [.ref (ad 0 0 0), .int a1].toArray s 0 0 (fun q => N0 ≤ q)) Y 0 [(0, .ref (ad 0 0 0)), (1, .int a1)] [] := by
  unfold X11_requirePan at h
  refine fw_iload_n C dX11_requirePan_0 rfl 1 rfl ?_
  refine fw_iconst C dX11_requirePan_1 (v := 0) rfl ?_
  refine fw_aload_n C dX11_requirePan_2 rfl 0 rfl ?_
  refine fw_get C (ci := 11) (Cn := RX11) (Tc := TX11) (N := 11) (j := 5) ly_X11_requirePan_11 rfl (hG _ (List.mem_of_getElem? (i := 0) rfl)) (of0_0 _) (ce0 T ad _ _) (by decide) (cx_ts C _ fl_X11_requirePan_67) (fun _ h => h) (v := .ref (ad 1 0 0)) rfl dX11_requirePan_3 ?_
  refine fw_getN C (ci := 3) (Cn := RX3) (Tc := TX3) (N := 5) (j := 0) ly_X11_requirePan_3 rfl (hG _ (List.mem_of_getElem? (i := 1) rfl)) (of1_0 _) (ce1 T ad _ _) (by decide) (Nst_use (cx_nst C) (w := .fieldLinkNest RX11 117 "RecipeScheduler$Kitchen" "recipe" "LRecipeScheduler$Recipe;" "RecipeScheduler") 507 (by decide +kernel) rfl) (fun _ h => h) (v := .ref (ad 3 ((Y 1 0 0 0).toNatClampNeg) 0)) rfl dX11_requirePan_6 ?_
  obtain ⟨b1, h⟩ := gd_some h
  have b1 := of_decide_eq_true b1
  refine fw_getN C (ci := 5) (Cn := RX5) (Tc := TX5) (N := 17) (j := 4) ly_X11_requirePan_5 rfl ((fun q hq => hG q (List.mem_append_right _ hq)) _ (allG_3 b1)) (of3_0 _) (ce3 T ad _ _) (by decide) (Nst_use (cx_nst C) (w := .fieldLinkNest RX11 428 "RecipeScheduler$Recipe" "pans" "LRecipeScheduler$Names;" "RecipeScheduler") 135 (by decide +kernel) rfl) (fun _ h => h) (v := .ref (ad 4 (2*((Y 1 0 0 0).toNatClampNeg)) 0)) rfl dX11_requirePan_9 ?_
  obtain ⟨b2, h⟩ := gd_some h
  have b2 := of_decide_eq_true b2
  refine fw_getN C (ci := 4) (Cn := RX4) (Tc := TX4) (N := 3) (j := 2) ly_X11_requirePan_4 rfl ((fun q hq => hG q (List.mem_append_right _ hq)) _ (allG_4a b2)) (of4_0 _) (ce4 T ad _ _) (by decide) (Nst_use (cx_nst C) (w := .fieldLinkNest RX11 130 "RecipeScheduler$Names" "count" "I" "RecipeScheduler") 113 (by decide +kernel) rfl) (fun _ h => h) (v := .int (Y 4 (2*((Y 1 0 0 0).toNatClampNeg)) 0 2)) rfl dX11_requirePan_12 ?_
  refine fw_iconst C dX11_requirePan_15 (v := 1) rfl ?_
  refine fw_isub C dX11_requirePan_16 ?_
  obtain ⟨r3, q4, h⟩ := bd1_some h
  refine fw_callSi C (As := [.int a1, .int 0, .int ((Y 4 (2*((Y 1 0 0 0).toNatClampNeg)) 0 2) - 1)]) (c_X11_isWithin ga0 q4) (va_cwS 3 (cx_ts C) gX11_requirePan_X11_isWithin rfl rfl rfl (by decide +kernel) ⟨Nat.le_of_ble_eq_true rfl, Nat.le_of_ble_eq_true rfl⟩) rfl (st := []) rfl (Nat.le_of_ble_eq_true rfl) ⟨Nat.le_refl 0, Nat.le_refl 0⟩ dX11_requirePan_17 (pp2 ?_)
  refine fw_if_ne C dX11_requirePan_20 (tgt := 34) rfl (fun c5 => ?_) (fun c5 => ?_)
  · have h := ite_f c5 h
    exact fw_vret C hrt Y rfl (fun t ht => ht) dX11_requirePan_34
  · have h := ite_t c5 h
    cases h
end
set_option maxRecDepth 100000 in
set_option maxHeartbeats 4000000 in
theorem c_X11_requirePan {l : Launch} {N0 : Nat} {T : Nat → ClassId} {D : va_G} {gr : List (Nat × Nat)} {ad : Nat → Nat → Nat → Nat} {Y : Mem} {a1 : Int32} {res : Unit} (hG : ∀ q ∈ ([(0, 0), (1, 0)] ++ allG), q ∈ gr) (h : X11_requirePan Y a1 = some res) : CV l yX11_requirePan wsX11_requirePan (Rm 1) N0 T D gr ad Y [.ref (ad 0 0 0), .int a1] (fun Y1 => Y1 = Y) :=
  fw_body (by decide +kernel) rfl (Nat.le_of_ble_eq_true rfl) (fun p e s m below meth c C hrt => w_X11_requirePan C hrt hG  h)
theorem ly_X11_panCapacity_11 : ∀ w ∈ u_ws RX11 TX11 11, w ∈ wsX11_panCapacity := by decide +kernel
theorem fl_X11_panCapacity_67 : Cond.fieldLink RX11 67 "RecipeScheduler" "now" "LRecipeScheduler$Kitchen;" ∈ wsX11_panCapacity := by decide +kernel
theorem ly_X11_panCapacity_3 : ∀ w ∈ u_ws RX3 TX3 5, w ∈ wsX11_panCapacity := by decide +kernel
theorem ly_X11_panCapacity_5 : ∀ w ∈ u_ws RX5 TX5 17, w ∈ wsX11_panCapacity := by decide +kernel
section
variable {p : Program} {l : Launch} {e : Env} {s : State} {m : MethodId} {below : List Frame} {meth : Method} {c : Code} {N0 : Nat} {T : Nat → ClassId} {D : va_G} {gr : List (Nat × Nat)} {ad : Nat → Nat → Nat → Nat}
set_option maxRecDepth 100000 in
set_option maxHeartbeats 4000000 in
theorem w_X11_panCapacity {Y : Mem} {a1 : Int32} (C : Cx p s m [.ref (ad 0 0 0), .int a1].toArray meth c cX11_panCapacity 2 wsX11_panCapacity RX11 N0 T D gr ad) (hrt : meth.sig.returnType = (some .int)) (hG : ∀ q ∈ ([(1, 0), (0, 0)] ++ allG), q ∈ gr) {res : Int32} (h : X11_panCapacity Y a1 = some res) : FW p l e (Rm 2) s m [.ref (ad 0 0 0), .int a1].toArray below meth c 2 N0 T D gr ad 0 0 (MQ below (va_Qi (fun r Y1 => r = res ∧ Y1 = Y) (WB T D gr ad) (fun q => N0 ≤ q)) [.ref (ad 0 0 0), .int a1].toArray s 0 0 (fun q => N0 ≤ q)) Y 0 [(0, .ref (ad 0 0 0)), (1, .int a1)] [] := by
  unfold X11_panCapacity at h
  refine fw_aload_n C dX11_panCapacity_0 rfl 0 rfl ?_
  refine fw_iload_n C dX11_panCapacity_1 rfl 1 rfl ?_
  obtain ⟨_, q2, h⟩ := bd1_some h
  refine fw_callVv C (ci := 11) (Cn := RX11) (Tc := TX11) (N := 11) (As := [.int a1]) (c_X11_requirePan (gac (hG _ (List.mem_of_getElem? (i := 1) rfl)) (gac (hG _ (List.mem_of_getElem? (i := 0) rfl)) (fun q hq => hG q (List.mem_append_right _ hq)))) q2) (cwV 1 (cx_ts C) gX11_panCapacity_X11_requirePan rfl rfl rfl (by decide +kernel) ⟨Nat.le_of_ble_eq_true rfl, Nat.le_of_ble_eq_true rfl⟩) rfl (hG _ (List.mem_of_getElem? (i := 1) rfl)) (of0_0 _) (ce0 T ad _ _) rfl (st := []) rfl (Nat.le_of_ble_eq_true rfl) ⟨Nat.le_refl 0, Nat.le_refl 0⟩ dX11_panCapacity_2 (ppv ?_)
  refine fw_aload_n C dX11_panCapacity_5 rfl 0 rfl ?_
  refine fw_get C (ci := 11) (Cn := RX11) (Tc := TX11) (N := 11) (j := 5) ly_X11_panCapacity_11 rfl (hG _ (List.mem_of_getElem? (i := 1) rfl)) (of0_0 _) (ce0 T ad _ _) (by decide) (cx_ts C _ fl_X11_panCapacity_67) (fun _ h => h) (v := .ref (ad 1 0 0)) rfl dX11_panCapacity_6 ?_
  refine fw_getN C (ci := 3) (Cn := RX3) (Tc := TX3) (N := 5) (j := 0) ly_X11_panCapacity_3 rfl (hG _ (List.mem_of_getElem? (i := 0) rfl)) (of1_0 _) (ce1 T ad _ _) (by decide) (Nst_use (cx_nst C) (w := .fieldLinkNest RX11 117 "RecipeScheduler$Kitchen" "recipe" "LRecipeScheduler$Recipe;" "RecipeScheduler") 507 (by decide +kernel) rfl) (fun _ h => h) (v := .ref (ad 3 ((Y 1 0 0 0).toNatClampNeg) 0)) rfl dX11_panCapacity_9 ?_
  obtain ⟨b3, h⟩ := gd_some h
  have b3 := of_decide_eq_true b3
  refine fw_getN C (ci := 5) (Cn := RX5) (Tc := TX5) (N := 17) (j := 5) ly_X11_panCapacity_5 rfl ((fun q hq => hG q (List.mem_append_right _ hq)) _ (allG_3 b3)) (of3_0 _) (ce3 T ad _ _) (by decide) (Nst_use (cx_nst C) (w := .fieldLinkNest RX11 182 "RecipeScheduler$Recipe" "capacity" "[I" "RecipeScheduler") 139 (by decide +kernel) rfl) (fun _ h => h) (v := .ref (ad 3 (((Y 1 0 0 0).toNatClampNeg)) 1)) rfl dX11_panCapacity_12 ?_
  refine fw_iload_n C dX11_panCapacity_15 rfl 1 rfl ?_
  obtain ⟨b4, h⟩ := gd_some h
  refine fw_iald2 C ((fun q hq => hG q (List.mem_append_right _ hq)) _ (allG_3 b3)) (of3_1 _) (ca3_1 T ad _ _) b4 (Nat.le_of_ble_eq_true rfl) dX11_panCapacity_16 ?_
  exact fw_iret C hrt Y ⟨Option.some.inj h, rfl⟩ (fun t ht => ht) dX11_panCapacity_17
end
set_option maxRecDepth 100000 in
set_option maxHeartbeats 4000000 in
theorem c_X11_panCapacity {l : Launch} {N0 : Nat} {T : Nat → ClassId} {D : va_G} {gr : List (Nat × Nat)} {ad : Nat → Nat → Nat → Nat} {Y : Mem} {a1 : Int32} {res : Int32} (hG : ∀ q ∈ ([(1, 0), (0, 0)] ++ allG), q ∈ gr) (h : X11_panCapacity Y a1 = some res) : CI l yX11_panCapacity wsX11_panCapacity (Rm 2) N0 T D gr ad Y [.ref (ad 0 0 0), .int a1] (fun r Y1 => r = res ∧ Y1 = Y) :=
  fw_body (by decide +kernel) rfl (Nat.le_of_ble_eq_true rfl) (fun p e s m below meth c C hrt => w_X11_panCapacity C hrt hG  h)
