theorem ly_X11_stop_11 : ∀ w ∈ u_ws RX11 TX11 11, w ∈ wsX11_stop := by decide +kernel
theorem fl_X11_stop_67 : Cond.fieldLink RX11 67 "RecipeScheduler" "now" "LRecipeScheduler$Kitchen;" ∈ wsX11_stop := by decide +kernel
theorem ly_X11_stop_3 : ∀ w ∈ u_ws RX3 TX3 5, w ∈ wsX11_stop := by decide +kernel
theorem ly_X11_stop_8 : ∀ w ∈ u_ws RX8 TX8 15, w ∈ wsX11_stop := by decide +kernel
theorem fl_X11_stop_77 : Cond.fieldLink RX11 77 "RecipeScheduler" "history" "LRecipeScheduler$History;" ∈ wsX11_stop := by decide +kernel
section
variable {p : Program} {l : Launch} {e : Env} {s : State} {m : MethodId} {below : List Frame} {meth : Method} {c : Code} {N0 : Nat} {T : Nat → ClassId} {D : va_G} {gr : List (Nat × Nat)} {ad : Nat → Nat → Nat → Nat}
set_option maxRecDepth 100000 in
set_option maxHeartbeats 4000000 in
theorem w_X11_stop {Y : Mem} {a1 : Int32} (C : Cx p s m [.ref (ad 0 0 0), .int a1].toArray meth c cX11_stop 2 wsX11_stop RX11 N0 T D gr ad) (hrt : meth.sig.returnType = (some .int)) (hG : ∀ q ∈ ([(1, 0), (0, 0), (2, 0), (9, 0)] ++ allG), q ∈ gr) {res : Int32 × Mem} (h : X11_stop Y a1 = some res) : FW p l e (Rm 3) s m [.ref (ad 0 0 0), .int a1].toArray below meth c 2 N0 T D gr ad 0 0 (MQ below (va_Qi (fun r Y1 => (r, Y1) = res) (WB T D gr ad) (fun q => N0 ≤ q)) [.ref (ad 0 0 0), .int a1].toArray s 0 0 (fun q => N0 ≤ q)) Y 0 [(0, .ref (ad 0 0 0)), (1, .int a1)] [] := by
  unfold X11_stop at h
  refine fw_aload_n C dX11_stop_0 rfl 0 rfl ?_
  refine fw_iload_n C dX11_stop_1 rfl 1 rfl ?_
  obtain ⟨_, q2, h⟩ := bd1_some h
  refine fw_callVv C (ci := 11) (Cn := RX11) (Tc := TX11) (N := 11) (As := [.int a1]) (c_X11_requireStep (gac (hG _ (List.mem_of_getElem? (i := 1) rfl)) (gac (hG _ (List.mem_of_getElem? (i := 0) rfl)) (fun q hq => hG q (List.mem_append_right _ hq)))) q2) (cwV 1 (cx_ts C) gX11_stop_X11_requireStep rfl rfl rfl (by decide +kernel) ⟨Nat.le_of_ble_eq_true rfl, Nat.le_of_ble_eq_true rfl⟩) rfl (hG _ (List.mem_of_getElem? (i := 1) rfl)) (of0_0 _) (ce0 T ad _ _) rfl (st := []) rfl (Nat.le_of_ble_eq_true rfl) ⟨Nat.le_refl 0, Nat.le_refl 0⟩ dX11_stop_2 (ppv ?_)
  refine fw_aload_n C dX11_stop_5 rfl 0 rfl ?_
  refine fw_get C (ci := 11) (Cn := RX11) (Tc := TX11) (N := 11) (j := 5) ly_X11_stop_11 rfl (hG _ (List.mem_of_getElem? (i := 1) rfl)) (of0_0 _) (ce0 T ad _ _) (by decide) (cx_ts C _ fl_X11_stop_67) (fun _ h => h) (v := .ref (ad 1 0 0)) rfl dX11_stop_6 ?_
  refine fw_getN C (ci := 3) (Cn := RX3) (Tc := TX3) (N := 5) (j := 1) ly_X11_stop_3 rfl (hG _ (List.mem_of_getElem? (i := 0) rfl)) (of1_0 _) (ce1 T ad _ _) (by decide) (Nst_use (cx_nst C) (w := .fieldLinkNest RX11 139 "RecipeScheduler$Kitchen" "state" "LRecipeScheduler$State;" "RecipeScheduler") 509 (by decide +kernel) rfl) (fun _ h => h) (v := .ref (ad 2 0 0)) rfl dX11_stop_9 ?_
  refine fw_getN C (ci := 8) (Cn := RX8) (Tc := TX8) (N := 15) (j := 6) ly_X11_stop_8 rfl (hG _ (List.mem_of_getElem? (i := 2) rfl)) (of2_0 _) (ce2 T ad _ _) (by decide) (Nst_use (cx_nst C) (w := .fieldLinkNest RX11 324 "RecipeScheduler$State" "running" "I" "RecipeScheduler") 445 (by decide +kernel) rfl) (fun _ h => h) (v := .int (Y 2 0 0 6)) rfl dX11_stop_12 ?_
  refine fw_iload_n C dX11_stop_15 rfl 1 rfl ?_
  obtain ⟨r3, q4, h⟩ := bd1_some h
  refine fw_callSi C (As := [.int (Y 2 0 0 6), .int a1]) (c_X11_contains ga0 q4) (va_cwS 2 (cx_ts C) gX11_stop_X11_contains rfl rfl rfl (by decide +kernel) ⟨Nat.le_of_ble_eq_true rfl, Nat.le_of_ble_eq_true rfl⟩) rfl (st := []) rfl (Nat.le_of_ble_eq_true rfl) ⟨Nat.le_refl 0, Nat.le_refl 0⟩ dX11_stop_16 (pp2 ?_)
  refine fw_if_ne C dX11_stop_19 (tgt := 33) rfl (fun c5 => ?_) (fun c5 => ?_)
  · have h := ite_f c5 h
    refine fw_aload_n C dX11_stop_33 rfl 0 rfl ?_
    refine fw_get C (ci := 11) (Cn := RX11) (Tc := TX11) (N := 11) (j := 7) ly_X11_stop_11 rfl (hG _ (List.mem_of_getElem? (i := 1) rfl)) (of0_0 _) (ce0 T ad _ _) (by decide) (cx_ts C _ fl_X11_stop_77) (fun _ h => h) (v := .ref (ad 9 0 0)) rfl dX11_stop_34 ?_
    refine fw_aload_n C dX11_stop_37 rfl 0 rfl ?_
    refine fw_get C (ci := 11) (Cn := RX11) (Tc := TX11) (N := 11) (j := 5) ly_X11_stop_11 rfl (hG _ (List.mem_of_getElem? (i := 1) rfl)) (of0_0 _) (ce0 T ad _ _) (by decide) (cx_ts C _ fl_X11_stop_67) (fun _ h => h) (v := .ref (ad 1 0 0)) rfl dX11_stop_38 ?_
    refine fw_getN C (ci := 3) (Cn := RX3) (Tc := TX3) (N := 5) (j := 1) ly_X11_stop_3 rfl (hG _ (List.mem_of_getElem? (i := 0) rfl)) (of1_0 _) (ce1 T ad _ _) (by decide) (Nst_use (cx_nst C) (w := .fieldLinkNest RX11 139 "RecipeScheduler$Kitchen" "state" "LRecipeScheduler$State;" "RecipeScheduler") 509 (by decide +kernel) rfl) (fun _ h => h) (v := .ref (ad 2 0 0)) rfl dX11_stop_41 ?_
    obtain ⟨Y8, q7, h⟩ := bd1_some h
    refine fw_callVv C (ci := 2) (Cn := RX2) (Tc := TX2) (N := 3) (As := [.ref (ad 2 0 0)]) (c_X2_push (gac (hG _ (List.mem_of_getElem? (i := 3) rfl)) (gac (hG _ (List.mem_of_getElem? (i := 2) rfl)) (fun q hq => hG q (List.mem_append_right _ hq)))) q7) (cwV 1 (cx_ts C) gX11_stop_X2_push rfl rfl rfl (by decide +kernel) ⟨Nat.le_of_ble_eq_true rfl, Nat.le_of_ble_eq_true rfl⟩) rfl (hG _ (List.mem_of_getElem? (i := 3) rfl)) (of9_0 _) (ce9 T ad _ _) rfl (st := []) rfl (Nat.le_of_ble_eq_true rfl) ⟨Nat.le_refl 0, Nat.le_refl 0⟩ dX11_stop_44 (ppv ?_)
    refine fw_aload_n C dX11_stop_47 rfl 0 rfl ?_
    refine fw_get C (ci := 11) (Cn := RX11) (Tc := TX11) (N := 11) (j := 5) ly_X11_stop_11 rfl (hG _ (List.mem_of_getElem? (i := 1) rfl)) (of0_0 _) (ce0 T ad _ _) (by decide) (cx_ts C _ fl_X11_stop_67) (fun _ h => h) (v := .ref (ad 1 0 0)) rfl dX11_stop_48 ?_
    refine fw_getN C (ci := 3) (Cn := RX3) (Tc := TX3) (N := 5) (j := 1) ly_X11_stop_3 rfl (hG _ (List.mem_of_getElem? (i := 0) rfl)) (of1_0 _) (ce1 T ad _ _) (by decide) (Nst_use (cx_nst C) (w := .fieldLinkNest RX11 139 "RecipeScheduler$Kitchen" "state" "LRecipeScheduler$State;" "RecipeScheduler") 509 (by decide +kernel) rfl) (fun _ h => h) (v := .ref (ad 2 0 0)) rfl dX11_stop_51 ?_
    refine fw_iload_n C dX11_stop_54 rfl 1 rfl ?_
    obtain ⟨r9, Y11, q10, h⟩ := bd2_some h
    refine fw_callVi C (ci := 8) (Cn := RX8) (Tc := TX8) (N := 15) (As := [.int a1]) (c_X8_halt (gac (hG _ (List.mem_of_getElem? (i := 2) rfl)) ga0) q10) (cwV 1 (cx_ts C) gX11_stop_X8_halt rfl rfl rfl (by decide +kernel) ⟨Nat.le_of_ble_eq_true rfl, Nat.le_of_ble_eq_true rfl⟩) rfl (hG _ (List.mem_of_getElem? (i := 2) rfl)) (of2_0 _) (ce2 T ad _ _) rfl (st := []) rfl (Nat.le_of_ble_eq_true rfl) ⟨Nat.le_refl 0, Nat.le_refl 0⟩ dX11_stop_55 (ppw ?_)
    exact fw_iret C hrt Y11 (Option.some.inj h) (fun t ht => ht) dX11_stop_58
  · have h := ite_t c5 h
    cases h
end
set_option maxRecDepth 100000 in
set_option maxHeartbeats 4000000 in
theorem c_X11_stop {l : Launch} {N0 : Nat} {T : Nat → ClassId} {D : va_G} {gr : List (Nat × Nat)} {ad : Nat → Nat → Nat → Nat} {Y : Mem} {a1 : Int32} {res : Int32 × Mem} (hG : ∀ q ∈ ([(1, 0), (0, 0), (2, 0), (9, 0)] ++ allG), q ∈ gr) (h : X11_stop Y a1 = some res) : CI l yX11_stop wsX11_stop (Rm 3) N0 T D gr ad Y [.ref (ad 0 0 0), .int a1] (fun r Y1 => (r, Y1) = res) :=
  fw_body (by decide +kernel) rfl (Nat.le_of_ble_eq_true rfl) (fun p e s m below meth c C hrt => w_X11_stop C hrt hG  h)
theorem ly_X11_taste_11 : ∀ w ∈ u_ws RX11 TX11 11, w ∈ wsX11_taste := by decide +kernel
theorem fl_X11_taste_67 : Cond.fieldLink RX11 67 "RecipeScheduler" "now" "LRecipeScheduler$Kitchen;" ∈ wsX11_taste := by decide +kernel
section
variable {p : Program} {l : Launch} {e : Env} {s : State} {m : MethodId} {below : List Frame} {meth : Method} {c : Code} {N0 : Nat} {T : Nat → ClassId} {D : va_G} {gr : List (Nat × Nat)} {ad : Nat → Nat → Nat → Nat}
set_option maxRecDepth 100000 in
set_option maxHeartbeats 4000000 in
theorem w_X11_taste {Y : Mem} (C : Cx p s m [.ref (ad 0 0 0)].toArray meth c cX11_taste 1 wsX11_taste RX11 N0 T D gr ad) (hrt : meth.sig.returnType = (some .int)) (hG : ∀ q ∈ ([(0, 0), (2, 0), (1, 0)] ++ allG), q ∈ gr) {res : Int32} (h : X11_taste Y = some res) : FW p l e (Rm 2) s m [.ref (ad 0 0 0)].toArray below meth c 1 N0 T D gr ad 0 0 (MQ below (va_Qi (fun r Y1 => r = res ∧ Y1 = Y) (WB T D gr ad) (fun q => N0 ≤ q)) [.ref (ad 0 0 0)].toArray s 0 0 (fun q => N0 ≤ q)) Y 0 [(0, .ref (ad 0 0 0))] [] := by
  unfold X11_taste at h
  refine fw_aload_n C dX11_taste_0 rfl 0 rfl ?_
  refine fw_get C (ci := 11) (Cn := RX11) (Tc := TX11) (N := 11) (j := 5) ly_X11_taste_11 rfl (hG _ (List.mem_of_getElem? (i := 0) rfl)) (of0_0 _) (ce0 T ad _ _) (by decide) (cx_ts C _ fl_X11_taste_67) (fun _ h => h) (v := .ref (ad 1 0 0)) rfl dX11_taste_1 ?_
  obtain ⟨r1, q2, h⟩ := bd1_some h
  refine fw_callVi C (ci := 3) (Cn := RX3) (Tc := TX3) (N := 5) (As := []) (c_X3_dishTaste (gac (hG _ (List.mem_of_getElem? (i := 2) rfl)) (gac (hG _ (List.mem_of_getElem? (i := 1) rfl)) (fun q hq => hG q (List.mem_append_right _ hq)))) q2) (cwV 0 (cx_ts C) gX11_taste_X3_dishTaste rfl rfl rfl (by decide +kernel) ⟨Nat.le_of_ble_eq_true rfl, Nat.le_of_ble_eq_true rfl⟩) rfl (hG _ (List.mem_of_getElem? (i := 2) rfl)) (of1_0 _) (ce1 T ad _ _) rfl (st := []) rfl (Nat.le_of_ble_eq_true rfl) ⟨Nat.le_refl 0, Nat.le_refl 0⟩ dX11_taste_4 (pp2 ?_)
  exact fw_iret C hrt Y ⟨Option.some.inj h, rfl⟩ (fun t ht => ht) dX11_taste_7
end
set_option maxRecDepth 100000 in
set_option maxHeartbeats 4000000 in
theorem c_X11_taste {l : Launch} {N0 : Nat} {T : Nat → ClassId} {D : va_G} {gr : List (Nat × Nat)} {ad : Nat → Nat → Nat → Nat} {Y : Mem} {res : Int32} (hG : ∀ q ∈ ([(0, 0), (2, 0), (1, 0)] ++ allG), q ∈ gr) (h : X11_taste Y = some res) : CI l yX11_taste wsX11_taste (Rm 2) N0 T D gr ad Y [.ref (ad 0 0 0)] (fun r Y1 => r = res ∧ Y1 = Y) :=
  fw_body (by decide +kernel) rfl (Nat.le_of_ble_eq_true rfl) (fun p e s m below meth c C hrt => w_X11_taste C hrt hG  h)
theorem ly_X11_truncate_11 : ∀ w ∈ u_ws RX11 TX11 11, w ∈ wsX11_truncate := by decide +kernel
theorem fl_X11_truncate_41 : Cond.fieldLink RX11 41 "RecipeScheduler" "input" "LRecipeScheduler$Text;" ∈ wsX11_truncate := by decide +kernel
theorem ly_X11_truncate_9 : ∀ w ∈ u_ws RX9 TX9 2, w ∈ wsX11_truncate := by decide +kernel
section
variable {p : Program} {l : Launch} {e : Env} {s : State} {m : MethodId} {below : List Frame} {meth : Method} {c : Code} {N0 : Nat} {T : Nat → ClassId} {D : va_G} {gr : List (Nat × Nat)} {ad : Nat → Nat → Nat → Nat}
set_option maxRecDepth 100000 in
set_option maxHeartbeats 4000000 in
theorem w_X11_truncate {Y : Mem} {a1 : Int32} (C : Cx p s m [.ref (ad 0 0 0), .int a1].toArray meth c cX11_truncate 2 wsX11_truncate RX11 N0 T D gr ad) (hrt : meth.sig.returnType = (some .int)) (hG : ∀ q ∈ [(0, 0), (5, 0)], q ∈ gr) {res : Int32 × Mem} (h : X11_truncate Y a1 = some res) : FW p l e (Rm 1) s m [.ref (ad 0 0 0), .int a1].toArray below meth c 2 N0 T D gr ad 0 0 (MQ below (va_Qi (fun r Y1 => (r, Y1) = res) (WB T D gr ad) (fun q => N0 ≤ q)) [.ref (ad 0 0 0), .int a1].toArray s 0 0 (fun q => N0 ≤ q)) Y 0 [(0, .ref (ad 0 0 0)), (1, .int a1)] [] := by
  unfold X11_truncate at h
  refine fw_iload_n C dX11_truncate_0 rfl 1 rfl ?_
  refine fw_iconst C dX11_truncate_1 (v := 0) rfl ?_
  refine fw_aload_n C dX11_truncate_2 rfl 0 rfl ?_
  refine fw_get C (ci := 11) (Cn := RX11) (Tc := TX11) (N := 11) (j := 0) ly_X11_truncate_11 rfl (hG _ (List.mem_of_getElem? (i := 0) rfl)) (of0_0 _) (ce0 T ad _ _) (by decide) (cx_ts C _ fl_X11_truncate_41) (fun _ h => h) (v := .ref (ad 5 0 0)) rfl dX11_truncate_3 ?_
  refine fw_getN C (ci := 9) (Cn := RX9) (Tc := TX9) (N := 2) (j := 1) ly_X11_truncate_9 rfl (hG _ (List.mem_of_getElem? (i := 1) rfl)) (of5_0 _) (ce5 T ad _ _) (by decide) (Nst_use (cx_nst C) (w := .fieldLinkNest RX11 37 "RecipeScheduler$Text" "length" "I" "RecipeScheduler") 49 (by decide +kernel) rfl) (fun _ h => h) (v := .int (Y 5 0 0 1)) rfl dX11_truncate_6 ?_
  obtain ⟨r1, q2, h⟩ := bd1_some h
  refine fw_callSi C (As := [.int a1, .int 0, .int (Y 5 0 0 1)]) (c_X11_isWithin ga0 q2) (va_cwS 3 (cx_ts C) gX11_truncate_X11_isWithin rfl rfl rfl (by decide +kernel) ⟨Nat.le_of_ble_eq_true rfl, Nat.le_of_ble_eq_true rfl⟩) rfl (st := []) rfl (Nat.le_of_ble_eq_true rfl) ⟨Nat.le_refl 0, Nat.le_refl 0⟩ dX11_truncate_9 (pp2 ?_)
  refine fw_if_ne C dX11_truncate_12 (tgt := 25) rfl (fun c3 => ?_) (fun c3 => ?_)
  · have h := ite_f c3 h
    refine fw_aload_n C dX11_truncate_25 rfl 0 rfl ?_
    refine fw_get C (ci := 11) (Cn := RX11) (Tc := TX11) (N := 11) (j := 0) ly_X11_truncate_11 rfl (hG _ (List.mem_of_getElem? (i := 0) rfl)) (of0_0 _) (ce0 T ad _ _) (by decide) (cx_ts C _ fl_X11_truncate_41) (fun _ h => h) (v := .ref (ad 5 0 0)) rfl dX11_truncate_26 ?_
    refine fw_iload_n C dX11_truncate_29 rfl 1 rfl ?_
    obtain ⟨Y4, e5, h⟩ := lt_some h
    refine fw_putN C (ci := 9) (Cn := RX9) (Tc := TX9) (N := 2) (j := 1) (ty := .int) (upd (Y 5 0 0) 1 a1) ly_X11_truncate_9 rfl tyX9_ok nmX9 (hG _ (List.mem_of_getElem? (i := 1) rfl)) (of5_0 _) (ce5 T ad _ _) (by decide) (Nst_use (cx_nst C) (w := .fieldLinkNest RX11 37 "RecipeScheduler$Text" "length" "I" "RecipeScheduler") 49 (by decide +kernel) rfl) (fun _ h => h) rfl (by decide +kernel) rfl rfl (Nat.le_of_ble_eq_true rfl) (ce5_put1 T ad _ _ _) dX11_truncate_30 ?_
    refine fw_mem ((up_eq _ _ _ _ _ _).symm.trans e5) ?_
    refine fw_iload_n C dX11_truncate_33 rfl 1 rfl ?_
    exact fw_iret C hrt Y4 (Option.some.inj h) (fun t ht => ht) dX11_truncate_34
  · have h := ite_t c3 h
    cases h
end
set_option maxRecDepth 100000 in
set_option maxHeartbeats 4000000 in
theorem c_X11_truncate {l : Launch} {N0 : Nat} {T : Nat → ClassId} {D : va_G} {gr : List (Nat × Nat)} {ad : Nat → Nat → Nat → Nat} {Y : Mem} {a1 : Int32} {res : Int32 × Mem} (hG : ∀ q ∈ [(0, 0), (5, 0)], q ∈ gr) (h : X11_truncate Y a1 = some res) : CI l yX11_truncate wsX11_truncate (Rm 1) N0 T D gr ad Y [.ref (ad 0 0 0), .int a1] (fun r Y1 => (r, Y1) = res) :=
  fw_body (by decide +kernel) rfl (Nat.le_of_ble_eq_true rfl) (fun p e s m below meth c C hrt => w_X11_truncate C hrt hG  h)
theorem ly_X11_whyNotServed_11 : ∀ w ∈ u_ws RX11 TX11 11, w ∈ wsX11_whyNotServed := by decide +kernel
theorem fl_X11_whyNotServed_67 : Cond.fieldLink RX11 67 "RecipeScheduler" "now" "LRecipeScheduler$Kitchen;" ∈ wsX11_whyNotServed := by decide +kernel
section
variable {p : Program} {l : Launch} {e : Env} {s : State} {m : MethodId} {below : List Frame} {meth : Method} {c : Code} {N0 : Nat} {T : Nat → ClassId} {D : va_G} {gr : List (Nat × Nat)} {ad : Nat → Nat → Nat → Nat}
set_option maxRecDepth 100000 in
set_option maxHeartbeats 4000000 in
theorem w_X11_whyNotServed {Y : Mem} (C : Cx p s m [.ref (ad 0 0 0)].toArray meth c cX11_whyNotServed 1 wsX11_whyNotServed RX11 N0 T D gr ad) (hrt : meth.sig.returnType = (some .int)) (hG : ∀ q ∈ ([(0, 0), (2, 0), (1, 0)] ++ allG), q ∈ gr) {res : Int32} (h : X11_whyNotServed Y = some res) : FW p l e (Rm 3) s m [.ref (ad 0 0 0)].toArray below meth c 1 N0 T D gr ad 0 0 (MQ below (va_Qi (fun r Y1 => r = res ∧ Y1 = Y) (WB T D gr ad) (fun q => N0 ≤ q)) [.ref (ad 0 0 0)].toArray s 0 0 (fun q => N0 ≤ q)) Y 0 [(0, .ref (ad 0 0 0))] [] := by
  unfold X11_whyNotServed at h
  refine fw_aload_n C dX11_whyNotServed_0 rfl 0 rfl ?_
  refine fw_get C (ci := 11) (Cn := RX11) (Tc := TX11) (N := 11) (j := 5) ly_X11_whyNotServed_11 rfl (hG _ (List.mem_of_getElem? (i := 0) rfl)) (of0_0 _) (ce0 T ad _ _) (by decide) (cx_ts C _ fl_X11_whyNotServed_67) (fun _ h => h) (v := .ref (ad 1 0 0)) rfl dX11_whyNotServed_1 ?_
  obtain ⟨r1, q2, h⟩ := bd1_some h
  refine fw_callVi C (ci := 3) (Cn := RX3) (Tc := TX3) (N := 5) (As := []) (c_X3_servingObstacle (gac (hG _ (List.mem_of_getElem? (i := 2) rfl)) (gac (hG _ (List.mem_of_getElem? (i := 1) rfl)) (fun q hq => hG q (List.mem_append_right _ hq)))) q2) (cwV 0 (cx_ts C) gX11_whyNotServed_X3_servingObstacle rfl rfl rfl (by decide +kernel) ⟨Nat.le_of_ble_eq_true rfl, Nat.le_of_ble_eq_true rfl⟩) rfl (hG _ (List.mem_of_getElem? (i := 2) rfl)) (of1_0 _) (ce1 T ad _ _) rfl (st := []) rfl (Nat.le_of_ble_eq_true rfl) ⟨Nat.le_refl 0, Nat.le_refl 0⟩ dX11_whyNotServed_4 (pp2 ?_)
  exact fw_iret C hrt Y ⟨Option.some.inj h, rfl⟩ (fun t ht => ht) dX11_whyNotServed_7
end
set_option maxRecDepth 100000 in
set_option maxHeartbeats 4000000 in
theorem c_X11_whyNotServed {l : Launch} {N0 : Nat} {T : Nat → ClassId} {D : va_G} {gr : List (Nat × Nat)} {ad : Nat → Nat → Nat → Nat} {Y : Mem} {res : Int32} (hG : ∀ q ∈ ([(0, 0), (2, 0), (1, 0)] ++ allG), q ∈ gr) (h : X11_whyNotServed Y = some res) : CI l yX11_whyNotServed wsX11_whyNotServed (Rm 3) N0 T D gr ad Y [.ref (ad 0 0 0)] (fun r Y1 => r = res ∧ Y1 = Y) :=
  fw_body (by decide +kernel) rfl (Nat.le_of_ble_eq_true rfl) (fun p e s m below meth c C hrt => w_X11_whyNotServed C hrt hG  h)
section
variable {p : Program} {l : Launch} {e : Env} {s : State} {m : MethodId} {below : List Frame} {meth : Method} {c : Code} {N0 : Nat} {T : Nat → ClassId} {D : va_G} {gr : List (Nat × Nat)} {ad : Nat → Nat → Nat → Nat}
set_option maxRecDepth 100000 in
set_option maxHeartbeats 4000000 in
theorem w_X9_addString_b2 {g0 : Nat} {w1 : Nat} (C : Cx p s m [.ref (ad 5 g0 0), .ref (ad 21 w1 0)].toArray meth c cX9_addString 3 wsX9_addString RX9 N0 T D gr ad) (hrt : meth.sig.returnType = none) (hG : ∀ q ∈ [(5, g0)], q ∈ gr) {res : Mem} : ∀ (n : Nat) (Y : Mem) (l2 : Int32), X9_addString_b2 g0 w1  n Y l2 = some res → FW p l e (Rm 4) s m [.ref (ad 5 g0 0), .ref (ad 21 w1 0)].toArray below meth c 3 N0 T D gr ad 0 0 (MQ below (va_Qv (fun Y1 => Y1 = res) (WB T D gr ad) (fun q => N0 ≤ q)) [.ref (ad 5 g0 0), .ref (ad 21 w1 0)].toArray s 0 0 (fun q => N0 ≤ q)) Y 2 [(2, .int l2), (0, .ref (ad 5 g0 0)), (1, .ref (ad 21 w1 0))] [] := by
  intro n
  induction n with
  | zero =>
    intro Y l2 h
    unfold X9_addString_b2 at h
    cases h
  | succ n ih =>
    intro Y l2 h
    unfold X9_addString_b2 at h
    refine fw_iload_n C dX9_addString_2 rfl 0 rfl ?_
    refine fw_aload_n C dX9_addString_3 rfl 2 rfl ?_
    obtain ⟨b1, h⟩ := gd_some h
    have b1 := of_decide_eq_true b1
    obtain ⟨r2, q3, h⟩ := bd1_some h
    refine fw_callOi C (Cn := RJ0) (As := []) (c_J0_length_8abf5 ga0 q3) (cwV 0 (cx_ts C) gX9_addString_J0_length_8abf5 rfl rfl rfl (by decide +kernel) ⟨Nat.le_of_ble_eq_true rfl, Nat.le_of_ble_eq_true rfl⟩) ((cx_st C).1 _ (lt17 b1)).1 rfl (st := [.int l2]) rfl (Nat.le_of_ble_eq_true rfl) ⟨Nat.le_refl 0, Nat.le_refl 0⟩ dX9_addString_4 (pp2 ?_)
    refine fw_icmp_ge C dX9_addString_7 (tgt := 25) rfl (fun c4 => ?_) (fun c4 => ?_)
    · have h := ite_t c4 h
      exact fw_vret C hrt Y (Option.some.inj h) (fun t ht => ht) dX9_addString_25
    · have h := ite_f c4 h
      refine fw_aload_n C dX9_addString_10 rfl 1 rfl ?_
      refine fw_aload_n C dX9_addString_11 rfl 2 rfl ?_
      refine fw_iload_n C dX9_addString_12 rfl 0 rfl ?_
      obtain ⟨r5, q6, h⟩ := bd1_some h
      refine fw_callOi C (Cn := RJ0) (As := [.int l2]) (c_J0_charAt_5068e ga0 q6) (cwV 1 (cx_ts C) gX9_addString_J0_charAt_5068e rfl rfl rfl (by decide +kernel) ⟨Nat.le_of_ble_eq_true rfl, Nat.le_of_ble_eq_true rfl⟩) ((cx_st C).1 _ (lt17 b1)).1 rfl (st := [.ref (ad 5 g0 0)]) rfl (Nat.le_of_ble_eq_true rfl) ⟨Nat.le_refl 0, Nat.le_refl 0⟩ dX9_addString_13 (pp2 ?_)
      obtain ⟨Y9, q8, h⟩ := bd1_some h
      refine fw_callVv C (ci := 9) (Cn := RX9) (Tc := TX9) (N := 2) (As := [.int r5]) (c_X9_addByte (gac (hG _ (List.mem_of_getElem? (i := 0) rfl)) ga0) q8) (cwV 1 (cx_ts C) gX9_addString_X9_addByte rfl rfl rfl (by decide +kernel) ⟨Nat.le_of_ble_eq_true rfl, Nat.le_of_ble_eq_true rfl⟩) rfl (hG _ (List.mem_of_getElem? (i := 0) rfl)) (of5_0 _) (ce5 T ad _ _) rfl (st := []) rfl (Nat.le_of_ble_eq_true rfl) ⟨Nat.le_refl 0, Nat.le_refl 0⟩ dX9_addString_16 (ppv ?_)
      refine fw_iinc C dX9_addString_19 (kk := 0) (v := l2 + 1) rfl rfl (by decide) (L' := [(2, .int (l2 + 1)), (0, .ref (ad 5 g0 0)), (1, .ref (ad 21 w1 0))]) rfl ?_
      refine fw_goto C dX9_addString_22 (tgt := 2) rfl ?_
      exact ih _ _ h
set_option maxRecDepth 100000 in
set_option maxHeartbeats 4000000 in
theorem w_X9_addString {Y : Mem} {g0 : Nat} {w1 : Nat} (C : Cx p s m [.ref (ad 5 g0 0), .ref (ad 21 w1 0)].toArray meth c cX9_addString 3 wsX9_addString RX9 N0 T D gr ad) (hrt : meth.sig.returnType = none) (hG : ∀ q ∈ [(5, g0)], q ∈ gr) {res : Mem} (h : X9_addString Y g0 w1 = some res) : FW p l e (Rm 4) s m [.ref (ad 5 g0 0), .ref (ad 21 w1 0)].toArray below meth c 3 N0 T D gr ad 0 0 (MQ below (va_Qv (fun Y1 => Y1 = res) (WB T D gr ad) (fun q => N0 ≤ q)) [.ref (ad 5 g0 0), .ref (ad 21 w1 0)].toArray s 0 0 (fun q => N0 ≤ q)) Y 0 [(0, .ref (ad 5 g0 0)), (1, .ref (ad 21 w1 0))] [] := by
  unfold X9_addString at h
  refine fw_iconst C dX9_addString_0 (v := 0) rfl ?_
  refine fw_istore_n C dX9_addString_1 rfl (by decide) (L' := [(2, .int 0), (0, .ref (ad 5 g0 0)), (1, .ref (ad 21 w1 0))]) rfl ?_
  exact w_X9_addString_b2 C hrt hG   _ _ _ h
end
set_option maxRecDepth 100000 in
set_option maxHeartbeats 4000000 in
theorem c_X9_addString {l : Launch} {N0 : Nat} {T : Nat → ClassId} {D : va_G} {gr : List (Nat × Nat)} {ad : Nat → Nat → Nat → Nat} {Y : Mem} {g0 : Nat} {w1 : Nat} {res : Mem} (hG : ∀ q ∈ [(5, g0)], q ∈ gr) (h : X9_addString Y g0 w1 = some res) : CV l yX9_addString wsX9_addString (Rm 4) N0 T D gr ad Y [.ref (ad 5 g0 0), .ref (ad 21 w1 0)] (fun Y1 => Y1 = res) :=
  fw_body (by decide +kernel) rfl (Nat.le_of_ble_eq_true rfl) (fun p e s m below meth c C hrt => w_X9_addString C hrt hG  h)
theorem ly_X12_isReady_12 : ∀ w ∈ u_ws RX12 TX12 12, w ∈ wsX12_isReady := by decide +kernel
theorem fl_X12_isReady_7 : Cond.fieldLink RX12 7 "RecipeSchedulerLaw$Kitchen" "status" "[I" ∈ wsX12_isReady := by decide +kernel
theorem fl_X12_isReady_22 : Cond.fieldLink RX12 22 "RecipeSchedulerLaw$Kitchen" "x" "LRecipeScheduler;" ∈ wsX12_isReady := by decide +kernel
section
variable {p : Program} {l : Launch} {e : Env} {s : State} {m : MethodId} {below : List Frame} {meth : Method} {c : Code} {N0 : Nat} {T : Nat → ClassId} {D : va_G} {gr : List (Nat × Nat)} {ad : Nat → Nat → Nat → Nat}
set_option maxRecDepth 100000 in
set_option maxHeartbeats 4000000 in
theorem w_X12_isReady_b55 {Y : Mem} {a1 : Int32} (C : Cx p s m [.ref (ad 12 0 0), .int a1].toArray meth c cX12_isReady 4 wsX12_isReady RX12 N0 T D gr ad) (hrt : meth.sig.returnType = (some .boolean)) (hG : ∀ q ∈ ([(12, 0), (0, 0), (1, 0)] ++ allG), q ∈ gr) {res : Int32} {k24 : Int32 → Option (Int32)} (hk24 : ∀ (l2 : Int32), k24 l2 = some res → FW p l e (Rm 3) s m [.ref (ad 12 0 0), .int a1].toArray below meth c 4 N0 T D gr ad 0 0 (MQ below (va_Qi (fun r Y1 => r = res ∧ Y1 = Y) (WB T D gr ad) (fun q => N0 ≤ q)) [.ref (ad 12 0 0), .int a1].toArray s 0 0 (fun q => N0 ≤ q)) Y 24 [(2, .int l2), (0, .ref (ad 12 0 0)), (1, .int a1)] []) (l2 : Int32) (h : X12_isReady_b55 Y a1 k24 l2 = some res) : FW p l e (Rm 3) s m [.ref (ad 12 0 0), .int a1].toArray below meth c 4 N0 T D gr ad 0 0 (MQ below (va_Qi (fun r Y1 => r = res ∧ Y1 = Y) (WB T D gr ad) (fun q => N0 ≤ q)) [.ref (ad 12 0 0), .int a1].toArray s 0 0 (fun q => N0 ≤ q)) Y 55 [(2, .int l2), (0, .ref (ad 12 0 0)), (1, .int a1)] [] := by
  unfold X12_isReady_b55 at h
  refine fw_iinc C dX12_isReady_55 (kk := 0) (v := l2 + 1) rfl rfl (by decide) (L' := [(2, .int (l2 + 1)), (0, .ref (ad 12 0 0)), (1, .int a1)]) rfl ?_
  refine fw_goto C dX12_isReady_58 (tgt := 24) rfl ?_
  exact hk24 _ h
set_option maxRecDepth 100000 in
set_option maxHeartbeats 4000000 in
theorem w_X12_isReady_b24 {Y : Mem} {a1 : Int32} (C : Cx p s m [.ref (ad 12 0 0), .int a1].toArray meth c cX12_isReady 4 wsX12_isReady RX12 N0 T D gr ad) (hrt : meth.sig.returnType = (some .boolean)) (hG : ∀ q ∈ ([(12, 0), (0, 0), (1, 0)] ++ allG), q ∈ gr) {res : Int32} : ∀ (n : Nat) (l2 : Int32), X12_isReady_b24 Y a1  n l2 = some res → FW p l e (Rm 3) s m [.ref (ad 12 0 0), .int a1].toArray below meth c 4 N0 T D gr ad 0 0 (MQ below (va_Qi (fun r Y1 => r = res ∧ Y1 = Y) (WB T D gr ad) (fun q => N0 ≤ q)) [.ref (ad 12 0 0), .int a1].toArray s 0 0 (fun q => N0 ≤ q)) Y 24 [(2, .int l2), (0, .ref (ad 12 0 0)), (1, .int a1)] [] := by
  intro n
  induction n with
  | zero =>
    intro l2 h
    unfold X12_isReady_b24 at h
    cases h
  | succ n ih =>
    intro l2 h
    unfold X12_isReady_b24 at h
    refine fw_iload_n C dX12_isReady_24 rfl 0 rfl ?_
    refine fw_iconst C dX12_isReady_25 (v := 4) rfl ?_
    refine fw_icmp_ge C dX12_isReady_26 (tgt := 61) rfl (fun c4 => ?_) (fun c4 => ?_)
    · have h := ite_t c4 h
      refine fw_iconst C dX12_isReady_61 (v := 1) rfl ?_
      exact fw_zret C hrt (by decide) Y ⟨Option.some.inj h, rfl⟩ (fun t ht => ht) dX12_isReady_62
    · have h := ite_f c4 h
      refine fw_aload_n C dX12_isReady_29 rfl 1 rfl ?_
      refine fw_get C (ci := 12) (Cn := RX12) (Tc := TX12) (N := 12) (j := 0) ly_X12_isReady_12 rfl (hG _ (List.mem_of_getElem? (i := 0) rfl)) (of12_0 _) (ce12 T ad _ _) (by decide) (cx_ts C _ fl_X12_isReady_22) (fun _ h => h) (v := .ref (ad 0 0 0)) rfl dX12_isReady_30 ?_
      refine fw_iload_n C dX12_isReady_33 rfl 2 rfl ?_
      refine fw_iload_n C dX12_isReady_34 rfl 0 rfl ?_
      obtain ⟨r5, q6, h⟩ := bd1_some h
      refine fw_callVi C (ci := 11) (Cn := RX11) (Tc := TX11) (N := 11) (As := [.int a1, .int l2]) (c_X11_predecessor (gac (hG _ (List.mem_of_getElem? (i := 2) rfl)) (gac (hG _ (List.mem_of_getElem? (i := 1) rfl)) (fun q hq => hG q (List.mem_append_right _ hq)))) q6) (cwV 2 (cx_ts C) gX12_isReady_X11_predecessor rfl rfl rfl (by decide +kernel) ⟨Nat.le_of_ble_eq_true rfl, Nat.le_of_ble_eq_true rfl⟩) rfl (hG _ (List.mem_of_getElem? (i := 1) rfl)) (of0_0 _) (ce0 T ad _ _) rfl (st := []) rfl (Nat.le_of_ble_eq_true rfl) ⟨Nat.le_refl 0, Nat.le_refl 0⟩ dX12_isReady_35 (pp2 ?_)
      refine fw_istore_n C dX12_isReady_38 rfl (by decide) (L' := [(3, .int r5), (2, .int l2), (0, .ref (ad 12 0 0)), (1, .int a1)]) rfl ?_
      refine fw_iload_n C dX12_isReady_39 rfl 0 rfl ?_
      refine fw_if_lt C dX12_isReady_40 (tgt := 55) rfl (fun c7 => ?_) (fun c7 => ?_)
      · have h := ite_t c7 h
        refine fw_sub [1, 2, 3] (L' := [(2, .int l2), (0, .ref (ad 12 0 0)), (1, .int a1)]) rfl ?_
        exact w_X12_isReady_b55 C hrt hG  ih _ h
      · have h := ite_f c7 h
        refine fw_aload_n C dX12_isReady_43 rfl 2 rfl ?_
        refine fw_get C (ci := 12) (Cn := RX12) (Tc := TX12) (N := 12) (j := 3) ly_X12_isReady_12 rfl (hG _ (List.mem_of_getElem? (i := 0) rfl)) (of12_0 _) (ce12 T ad _ _) (by decide) (cx_ts C _ fl_X12_isReady_7) (fun _ h => h) (v := .ref (ad 12 0 1)) rfl dX12_isReady_44 ?_
        refine fw_iload_n C dX12_isReady_47 rfl 0 rfl ?_
        obtain ⟨b8, h⟩ := gd_some h
        refine fw_iald2 C (hG _ (List.mem_of_getElem? (i := 0) rfl)) (of12_1 _) (ca12_1 T ad _ _) b8 (Nat.le_of_ble_eq_true rfl) dX12_isReady_48 ?_
        refine fw_iconst C dX12_isReady_49 (v := 2) rfl ?_
        refine fw_icmp_eq C dX12_isReady_50 (tgt := 55) rfl (fun c9 => ?_) (fun c9 => ?_)
        · have h := ite_t c9 h
          refine fw_sub [1, 2, 3] (L' := [(2, .int l2), (0, .ref (ad 12 0 0)), (1, .int a1)]) rfl ?_
          exact w_X12_isReady_b55 C hrt hG  ih _ h
        · have h := ite_f c9 h
          refine fw_iconst C dX12_isReady_53 (v := 0) rfl ?_
          exact fw_zret C hrt (by decide) Y ⟨Option.some.inj h, rfl⟩ (fun t ht => ht) dX12_isReady_54
set_option maxRecDepth 100000 in
set_option maxHeartbeats 4000000 in
theorem w_X12_isReady {Y : Mem} {a1 : Int32} (C : Cx p s m [.ref (ad 12 0 0), .int a1].toArray meth c cX12_isReady 4 wsX12_isReady RX12 N0 T D gr ad) (hrt : meth.sig.returnType = (some .boolean)) (hG : ∀ q ∈ ([(12, 0), (0, 0), (1, 0)] ++ allG), q ∈ gr) {res : Int32} (h : X12_isReady Y a1 = some res) : FW p l e (Rm 3) s m [.ref (ad 12 0 0), .int a1].toArray below meth c 4 N0 T D gr ad 0 0 (MQ below (va_Qi (fun r Y1 => r = res ∧ Y1 = Y) (WB T D gr ad) (fun q => N0 ≤ q)) [.ref (ad 12 0 0), .int a1].toArray s 0 0 (fun q => N0 ≤ q)) Y 0 [(0, .ref (ad 12 0 0)), (1, .int a1)] [] := by
  unfold X12_isReady at h
  refine fw_aload_n C dX12_isReady_0 rfl 0 rfl ?_
  refine fw_get C (ci := 12) (Cn := RX12) (Tc := TX12) (N := 12) (j := 3) ly_X12_isReady_12 rfl (hG _ (List.mem_of_getElem? (i := 0) rfl)) (of12_0 _) (ce12 T ad _ _) (by decide) (cx_ts C _ fl_X12_isReady_7) (fun _ h => h) (v := .ref (ad 12 0 1)) rfl dX12_isReady_1 ?_
  refine fw_iload_n C dX12_isReady_4 rfl 1 rfl ?_
  obtain ⟨b1, h⟩ := gd_some h
  refine fw_iald2 C (hG _ (List.mem_of_getElem? (i := 0) rfl)) (of12_1 _) (ca12_1 T ad _ _) b1 (Nat.le_of_ble_eq_true rfl) dX12_isReady_5 ?_
  refine fw_iconst C dX12_isReady_6 (v := 1) rfl ?_
  refine fw_icmp_eq C dX12_isReady_7 (tgt := 20) rfl (fun c2 => ?_) (fun c2 => ?_)
  · have h := ite_t c2 h
    refine fw_iconst C dX12_isReady_20 (v := 0) rfl ?_
    exact fw_zret C hrt (by decide) Y ⟨Option.some.inj h, rfl⟩ (fun t ht => ht) dX12_isReady_21
  · have h := ite_f c2 h
    refine fw_aload_n C dX12_isReady_10 rfl 0 rfl ?_
    refine fw_get C (ci := 12) (Cn := RX12) (Tc := TX12) (N := 12) (j := 3) ly_X12_isReady_12 rfl (hG _ (List.mem_of_getElem? (i := 0) rfl)) (of12_0 _) (ce12 T ad _ _) (by decide) (cx_ts C _ fl_X12_isReady_7) (fun _ h => h) (v := .ref (ad 12 0 1)) rfl dX12_isReady_11 ?_
    refine fw_iload_n C dX12_isReady_14 rfl 1 rfl ?_
    refine fw_iald2 C (hG _ (List.mem_of_getElem? (i := 0) rfl)) (of12_1 _) (ca12_1 T ad _ _) b1 (Nat.le_of_ble_eq_true rfl) dX12_isReady_15 ?_
    refine fw_iconst C dX12_isReady_16 (v := 2) rfl ?_
    refine fw_icmp_ne C dX12_isReady_17 (tgt := 22) rfl (fun c3 => ?_) (fun c3 => ?_)
    · have h := ite_f c3 h
      refine fw_iconst C dX12_isReady_22 (v := 0) rfl ?_
      refine fw_istore_n C dX12_isReady_23 rfl (by decide) (L' := [(2, .int 0), (0, .ref (ad 12 0 0)), (1, .int a1)]) rfl ?_
      exact w_X12_isReady_b24 C hrt hG   _ _ h
    · have h := ite_t c3 h
      refine fw_iconst C dX12_isReady_20 (v := 0) rfl ?_
      exact fw_zret C hrt (by decide) Y ⟨Option.some.inj h, rfl⟩ (fun t ht => ht) dX12_isReady_21
end
set_option maxRecDepth 100000 in
set_option maxHeartbeats 4000000 in
theorem c_X12_isReady {l : Launch} {N0 : Nat} {T : Nat → ClassId} {D : va_G} {gr : List (Nat × Nat)} {ad : Nat → Nat → Nat → Nat} {Y : Mem} {a1 : Int32} {res : Int32} (hG : ∀ q ∈ ([(12, 0), (0, 0), (1, 0)] ++ allG), q ∈ gr) (h : X12_isReady Y a1 = some res) : CI l yX12_isReady wsX12_isReady (Rm 3) N0 T D gr ad Y [.ref (ad 12 0 0), .int a1] (fun r Y1 => r = res ∧ Y1 = Y) :=
  fw_body (by decide +kernel) rfl (Nat.le_of_ble_eq_true rfl) (fun p e s m below meth c C hrt => w_X12_isReady C hrt hG  h)
