theorem ly_X11_save_11 : ∀ w ∈ u_ws RX11 TX11 11, w ∈ wsX11_save := by decide +kernel
theorem fl_X11_save_83 : Cond.fieldLink RX11 83 "RecipeScheduler" "saved" "[LRecipeScheduler$State;" ∈ wsX11_save := by decide +kernel
theorem fl_X11_save_67 : Cond.fieldLink RX11 67 "RecipeScheduler" "now" "LRecipeScheduler$Kitchen;" ∈ wsX11_save := by decide +kernel
theorem ly_X11_save_3 : ∀ w ∈ u_ws RX3 TX3 5, w ∈ wsX11_save := by decide +kernel
theorem fl_X11_save_88 : Cond.fieldLink RX11 88 "RecipeScheduler" "isSaved" "[Z" ∈ wsX11_save := by decide +kernel
theorem ly_X11_save_8 : ∀ w ∈ u_ws RX8 TX8 15, w ∈ wsX11_save := by decide +kernel
section
variable {p : Program} {l : Launch} {e : Env} {s : State} {m : MethodId} {below : List Frame} {meth : Method} {c : Code} {N0 : Nat} {T : Nat → ClassId} {D : va_G} {gr : List (Nat × Nat)} {ad : Nat → Nat → Nat → Nat}
set_option maxRecDepth 100000 in
set_option maxHeartbeats 4000000 in
theorem w_X11_save {Y : Mem} {a1 : Int32} (C : Cx p s m [.ref (ad 0 0 0), .int a1].toArray meth c cX11_save 2 wsX11_save RX11 N0 T D gr ad) (hrt : meth.sig.returnType = (some .int)) (hG : ∀ q ∈ ([(0, 0), (1, 0), (2, 0)] ++ allG), q ∈ gr) (hl : l.stackTraces = false) (hX : ∀ x ∈ c.exceptionTable.toList, False) {res : (Nat × Mem) ⊕ (Int32 × Mem)} (h : X11_save Y a1 = some res) : FW p l e (Rx 7 1) s m [.ref (ad 0 0 0), .int a1].toArray below meth c 2 N0 T D gr ad 0 0 (vx_MQ below (va_Qi (fun r Y1 => Sum.inr (r, Y1) = res) (WB T D gr ad) (fun q => N0 ≤ q)) (vx_X (fun u => Sum.inl u = res) (XB T D gr ad) (fun q => N0 ≤ q)) [.ref (ad 0 0 0), .int a1].toArray s 1 6 (fun q => N0 ≤ q)) Y 0 [(0, .ref (ad 0 0 0)), (1, .int a1)] [] := by
  unfold X11_save at h
  refine fw_aload_n C dX11_save_0 rfl 0 rfl ?_
  refine fw_iload_n C dX11_save_1 rfl 1 rfl ?_
  rcases bdxv_some h with ⟨x5, q2, e6⟩ | ⟨Y4, q2, h⟩
  · exact fw_callXVv_l C (ci := 9) (Cn := RX11) (Tc := TX11) (N := 11) (As := [.int a1]) (c_X11_requireSlot hl ga0 q2) (cwV 1 (cx_ts C) gX11_save_X11_requireSlot rfl rfl rfl (by decide +kernel) ⟨Nat.le_of_ble_eq_true rfl, Nat.le_of_ble_eq_true rfl⟩) rfl (hG _ (List.mem_of_getElem? (i := 0) rfl)) (of0_0 _) (ce0 T ad _ _) rfl (st := []) rfl (Nat.le_of_ble_eq_true rfl) ⟨Nat.le_of_ble_eq_true rfl, Nat.le_of_ble_eq_true rfl⟩ dX11_save_2 hX e6 (Nat.le_of_ble_eq_true rfl) (Nat.le_of_ble_eq_true rfl)
  refine fw_callXVv_r C (ci := 9) (Cn := RX11) (Tc := TX11) (N := 11) (As := [.int a1]) (c_X11_requireSlot hl ga0 q2) (cwV 1 (cx_ts C) gX11_save_X11_requireSlot rfl rfl rfl (by decide +kernel) ⟨Nat.le_of_ble_eq_true rfl, Nat.le_of_ble_eq_true rfl⟩) rfl (hG _ (List.mem_of_getElem? (i := 0) rfl)) (of0_0 _) (ce0 T ad _ _) rfl (st := []) rfl (Nat.le_of_ble_eq_true rfl) ⟨Nat.le_of_ble_eq_true rfl, Nat.le_of_ble_eq_true rfl⟩ dX11_save_2 ?_
  refine fw_aload_n C dX11_save_5 rfl 0 rfl ?_
  refine fw_get C (ci := 9) (Cn := RX11) (Tc := TX11) (N := 11) (j := 8) ly_X11_save_11 rfl (hG _ (List.mem_of_getElem? (i := 0) rfl)) (of0_0 _) (ce0 T ad _ _) (by decide) (cx_ts C _ fl_X11_save_83) (fun _ h => h) (v := .ref (ad 0 0 1)) rfl dX11_save_6 ?_
  refine fw_iload_n C dX11_save_9 rfl 1 rfl ?_
  obtain ⟨b7, h⟩ := gd_some h
  refine fw_aald2 C 3 (hG _ (List.mem_of_getElem? (i := 0) rfl)) (of0_1 _) (ca0_1 T ad _ _) rfl rfl b7 (Nat.le_of_ble_eq_true rfl) (v := .ref (ad 2 (8+ix (a1)) 0)) rfl dX11_save_10 ?_
  refine fw_aload_n C dX11_save_11 rfl 0 rfl ?_
  refine fw_get C (ci := 9) (Cn := RX11) (Tc := TX11) (N := 11) (j := 5) ly_X11_save_11 rfl (hG _ (List.mem_of_getElem? (i := 0) rfl)) (of0_0 _) (ce0 T ad _ _) (by decide) (cx_ts C _ fl_X11_save_67) (fun _ h => h) (v := .ref (ad 1 0 0)) rfl dX11_save_12 ?_
  refine fw_getN C (ci := 1) (Cn := RX3) (Tc := TX3) (N := 5) (j := 1) ly_X11_save_3 rfl (hG _ (List.mem_of_getElem? (i := 1) rfl)) (of1_0 _) (ce1 T ad _ _) (by decide) (Nst_use (cx_nst C) (w := .fieldLinkNest RX11 139 "RecipeScheduler$Kitchen" "state" "LRecipeScheduler$State;" "RecipeScheduler") 522 (by decide +kernel) rfl) (fun _ h => h) (v := .ref (ad 2 0 0)) rfl dX11_save_15 ?_
  obtain ⟨Y10, q9, h⟩ := bd1_some h
  refine fw_callVv C (ci := 6) (Cn := RX8) (Tc := TX8) (N := 15) (As := [.ref (ad 2 0 0)]) (c_X8_copyFrom (gac (hG _ (List.mem_of_getElem? (i := 2) rfl)) (gac ((fun q hq => hG q (List.mem_append_right _ hq)) _ (allG_2 (by have q := inb_lt b7; omega))) ga0)) q9) (cwV 1 (cx_ts C) gX11_save_X8_copyFrom rfl rfl rfl (by decide +kernel) ⟨Nat.le_of_ble_eq_true rfl, Nat.le_of_ble_eq_true rfl⟩) rfl ((fun q hq => hG q (List.mem_append_right _ hq)) _ (allG_2 (by have q := inb_lt b7; omega))) (of2_0 _) (ce2 T ad _ _) rfl (st := []) rfl (Nat.le_of_ble_eq_true rfl) ⟨Nat.le_of_ble_eq_true rfl, Nat.le_of_ble_eq_true rfl⟩ dX11_save_18 (ppv ?_)
  refine fw_aload_n C dX11_save_21 rfl 0 rfl ?_
  refine fw_get C (ci := 9) (Cn := RX11) (Tc := TX11) (N := 11) (j := 9) ly_X11_save_11 rfl (hG _ (List.mem_of_getElem? (i := 0) rfl)) (of0_0 _) (ce0 T ad _ _) (by decide) (cx_ts C _ fl_X11_save_88) (fun _ h => h) (v := .ref (ad 0 0 2)) rfl dX11_save_22 ?_
  refine fw_iload_n C dX11_save_25 rfl 1 rfl ?_
  refine fw_iconst C dX11_save_26 (v := 1) rfl ?_
  obtain ⟨Y11, e12, h⟩ := lt_some h
  refine fw_zast2 C (hG _ (List.mem_of_getElem? (i := 0) rfl)) (of0_2 _) (ca0_2 T ad _) b7 (Nat.le_of_ble_eq_true rfl) dX11_save_27 ?_
  refine fw_mem e12 ?_
  refine fw_aload_n C dX11_save_28 rfl 0 rfl ?_
  refine fw_get C (ci := 9) (Cn := RX11) (Tc := TX11) (N := 11) (j := 5) ly_X11_save_11 rfl (hG _ (List.mem_of_getElem? (i := 0) rfl)) (of0_0 _) (ce0 T ad _ _) (by decide) (cx_ts C _ fl_X11_save_67) (fun _ h => h) (v := .ref (ad 1 0 0)) rfl dX11_save_29 ?_
  refine fw_getN C (ci := 1) (Cn := RX3) (Tc := TX3) (N := 5) (j := 1) ly_X11_save_3 rfl (hG _ (List.mem_of_getElem? (i := 1) rfl)) (of1_0 _) (ce1 T ad _ _) (by decide) (Nst_use (cx_nst C) (w := .fieldLinkNest RX11 139 "RecipeScheduler$Kitchen" "state" "LRecipeScheduler$State;" "RecipeScheduler") 522 (by decide +kernel) rfl) (fun _ h => h) (v := .ref (ad 2 0 0)) rfl dX11_save_32 ?_
  refine fw_getN C (ci := 6) (Cn := RX8) (Tc := TX8) (N := 15) (j := 1) ly_X11_save_8 rfl (hG _ (List.mem_of_getElem? (i := 2) rfl)) (of2_0 _) (ce2 T ad _ _) (by decide) (Nst_use (cx_nst C) (w := .fieldLinkNest RX11 146 "RecipeScheduler$State" "minute" "I" "RecipeScheduler") 443 (by decide +kernel) rfl) (fun _ h => h) (v := .int (Y11 2 0 0 1)) rfl dX11_save_35 ?_
  refine fw_xr (Nat.le_of_ble_eq_true rfl) (Nat.le_of_ble_eq_true rfl) ?_
  exact fw_iret C hrt Y11 (Option.some.inj h) (fun t ht => ht) dX11_save_38
end
set_option maxRecDepth 100000 in
set_option maxHeartbeats 4000000 in
theorem c_X11_save {l : Launch} {N0 : Nat} {T : Nat → ClassId} {D : va_G} {gr : List (Nat × Nat)} {ad : Nat → Nat → Nat → Nat} {Y : Mem} {a1 : Int32} {res : (Nat × Mem) ⊕ (Int32 × Mem)} (hl : l.stackTraces = false) (hG : ∀ q ∈ ([(0, 0), (1, 0), (2, 0)] ++ allG), q ∈ gr) (h : X11_save Y a1 = some res) : CXi l yX11_save wsX11_save (Rx 7 1) N0 T D gr ad Y [.ref (ad 0 0 0), .int a1] 1 res :=
  fw_xbody (by decide +kernel) rfl (Nat.le_of_ble_eq_true rfl) (fun p e s m below meth c C hrt hX => w_X11_save C hrt hG hl hX h)
theorem ly_X11_serve_11 : ∀ w ∈ u_ws RX11 TX11 11, w ∈ wsX11_serve := by decide +kernel
theorem fl_X11_serve_67 : Cond.fieldLink RX11 67 "RecipeScheduler" "now" "LRecipeScheduler$Kitchen;" ∈ wsX11_serve := by decide +kernel
theorem fl_X11_serve_77 : Cond.fieldLink RX11 77 "RecipeScheduler" "history" "LRecipeScheduler$History;" ∈ wsX11_serve := by decide +kernel
theorem ly_X11_serve_3 : ∀ w ∈ u_ws RX3 TX3 5, w ∈ wsX11_serve := by decide +kernel
theorem ly_X11_serve_8 : ∀ w ∈ u_ws RX8 TX8 15, w ∈ wsX11_serve := by decide +kernel
theorem th_X11_serve_10 : Cond.classLink RX11 96 "java/lang/IllegalStateException" ∈ wsX11_serve ∧ Cond.initialized "java/lang/IllegalStateException" ∈ wsX11_serve ∧ ∀ w ∈ (vx_atS RX11 100 "java/lang/IllegalStateException" ["java/lang/RuntimeException", "java/lang/Exception"]).filter goodWord, w ∈ wsX11_serve := by decide +kernel
section
variable {p : Program} {l : Launch} {e : Env} {s : State} {m : MethodId} {below : List Frame} {meth : Method} {c : Code} {N0 : Nat} {T : Nat → ClassId} {D : va_G} {gr : List (Nat × Nat)} {ad : Nat → Nat → Nat → Nat}
set_option maxRecDepth 100000 in
set_option maxHeartbeats 4000000 in
theorem w_X11_serve {Y : Mem} (C : Cx p s m [.ref (ad 0 0 0)].toArray meth c cX11_serve 1 wsX11_serve RX11 N0 T D gr ad) (hrt : meth.sig.returnType = (some .int)) (hG : ∀ q ∈ ([(0, 0), (2, 0), (1, 0), (9, 0)] ++ allG), q ∈ gr) (hl : l.stackTraces = false) (hX : ∀ x ∈ c.exceptionTable.toList, False) {res : (Nat × Mem) ⊕ (Int32 × Mem)} (h : X11_serve Y = some res) : FW p l e (Rx 6 1) s m [.ref (ad 0 0 0)].toArray below meth c 1 N0 T D gr ad 0 0 (vx_MQ below (va_Qi (fun r Y1 => Sum.inr (r, Y1) = res) (WB T D gr ad) (fun q => N0 ≤ q)) (vx_X (fun u => Sum.inl u = res) (XB T D gr ad) (fun q => N0 ≤ q)) [.ref (ad 0 0 0)].toArray s 1 6 (fun q => N0 ≤ q)) Y 0 [(0, .ref (ad 0 0 0))] [] := by
  unfold X11_serve at h
  refine fw_aload_n C dX11_serve_0 rfl 0 rfl ?_
  refine fw_get C (ci := 9) (Cn := RX11) (Tc := TX11) (N := 11) (j := 5) ly_X11_serve_11 rfl (hG _ (List.mem_of_getElem? (i := 0) rfl)) (of0_0 _) (ce0 T ad _ _) (by decide) (cx_ts C _ fl_X11_serve_67) (fun _ h => h) (v := .ref (ad 1 0 0)) rfl dX11_serve_1 ?_
  obtain ⟨r1, q2, h⟩ := bd1_some h
  refine fw_callVi C (ci := 1) (Cn := RX3) (Tc := TX3) (N := 5) (As := []) (c_X3_servingObstacle (gac (hG _ (List.mem_of_getElem? (i := 2) rfl)) (gac (hG _ (List.mem_of_getElem? (i := 1) rfl)) (fun q hq => hG q (List.mem_append_right _ hq)))) q2) (cwV 0 (cx_ts C) gX11_serve_X3_servingObstacle rfl rfl rfl (by decide +kernel) ⟨Nat.le_of_ble_eq_true rfl, Nat.le_of_ble_eq_true rfl⟩) rfl (hG _ (List.mem_of_getElem? (i := 2) rfl)) (of1_0 _) (ce1 T ad _ _) rfl (st := []) rfl (Nat.le_of_ble_eq_true rfl) ⟨Nat.le_of_ble_eq_true rfl, Nat.le_of_ble_eq_true rfl⟩ dX11_serve_4 (pp2 ?_)
  refine fw_if_eq C dX11_serve_7 (tgt := 21) rfl (fun c3 => ?_) (fun c3 => ?_)
  · have h := ite_t c3 h
    refine fw_aload_n C dX11_serve_21 rfl 0 rfl ?_
    refine fw_get C (ci := 9) (Cn := RX11) (Tc := TX11) (N := 11) (j := 7) ly_X11_serve_11 rfl (hG _ (List.mem_of_getElem? (i := 0) rfl)) (of0_0 _) (ce0 T ad _ _) (by decide) (cx_ts C _ fl_X11_serve_77) (fun _ h => h) (v := .ref (ad 9 0 0)) rfl dX11_serve_22 ?_
    refine fw_aload_n C dX11_serve_25 rfl 0 rfl ?_
    refine fw_get C (ci := 9) (Cn := RX11) (Tc := TX11) (N := 11) (j := 5) ly_X11_serve_11 rfl (hG _ (List.mem_of_getElem? (i := 0) rfl)) (of0_0 _) (ce0 T ad _ _) (by decide) (cx_ts C _ fl_X11_serve_67) (fun _ h => h) (v := .ref (ad 1 0 0)) rfl dX11_serve_26 ?_
    refine fw_getN C (ci := 1) (Cn := RX3) (Tc := TX3) (N := 5) (j := 1) ly_X11_serve_3 rfl (hG _ (List.mem_of_getElem? (i := 2) rfl)) (of1_0 _) (ce1 T ad _ _) (by decide) (Nst_use (cx_nst C) (w := .fieldLinkNest RX11 139 "RecipeScheduler$Kitchen" "state" "LRecipeScheduler$State;" "RecipeScheduler") 522 (by decide +kernel) rfl) (fun _ h => h) (v := .ref (ad 2 0 0)) rfl dX11_serve_29 ?_
    obtain ⟨Y6, q5, h⟩ := bd1_some h
    refine fw_callVv C (ci := 0) (Cn := RX2) (Tc := TX2) (N := 3) (As := [.ref (ad 2 0 0)]) (c_X2_push (gac (hG _ (List.mem_of_getElem? (i := 3) rfl)) (gac (hG _ (List.mem_of_getElem? (i := 1) rfl)) (fun q hq => hG q (List.mem_append_right _ hq)))) q5) (cwV 1 (cx_ts C) gX11_serve_X2_push rfl rfl rfl (by decide +kernel) ⟨Nat.le_of_ble_eq_true rfl, Nat.le_of_ble_eq_true rfl⟩) rfl (hG _ (List.mem_of_getElem? (i := 3) rfl)) (of9_0 _) (ce9 T ad _ _) rfl (st := []) rfl (Nat.le_of_ble_eq_true rfl) ⟨Nat.le_of_ble_eq_true rfl, Nat.le_of_ble_eq_true rfl⟩ dX11_serve_32 (ppv ?_)
    refine fw_aload_n C dX11_serve_35 rfl 0 rfl ?_
    refine fw_get C (ci := 9) (Cn := RX11) (Tc := TX11) (N := 11) (j := 5) ly_X11_serve_11 rfl (hG _ (List.mem_of_getElem? (i := 0) rfl)) (of0_0 _) (ce0 T ad _ _) (by decide) (cx_ts C _ fl_X11_serve_67) (fun _ h => h) (v := .ref (ad 1 0 0)) rfl dX11_serve_36 ?_
    refine fw_getN C (ci := 1) (Cn := RX3) (Tc := TX3) (N := 5) (j := 1) ly_X11_serve_3 rfl (hG _ (List.mem_of_getElem? (i := 2) rfl)) (of1_0 _) (ce1 T ad _ _) (by decide) (Nst_use (cx_nst C) (w := .fieldLinkNest RX11 139 "RecipeScheduler$Kitchen" "state" "LRecipeScheduler$State;" "RecipeScheduler") 522 (by decide +kernel) rfl) (fun _ h => h) (v := .ref (ad 2 0 0)) rfl dX11_serve_39 ?_
    refine fw_iconst C dX11_serve_42 (v := 1) rfl ?_
    obtain ⟨Y7, e8, h⟩ := lt_some h
    refine fw_putN C (ci := 6) (Cn := RX8) (Tc := TX8) (N := 15) (j := 5) (ty := .boolean) (upd (Y6 2 0 0) 5 1) ly_X11_serve_8 rfl tyX8_ok nmX8 (hG _ (List.mem_of_getElem? (i := 1) rfl)) (of2_0 _) (ce2 T ad _ _) (by decide) (Nst_use (cx_nst C) (w := .fieldLinkNest RX11 350 "RecipeScheduler$State" "served" "Z" "RecipeScheduler") 454 (by decide +kernel) rfl) (fun _ h => h) rfl (by decide +kernel) rfl rfl (Nat.le_of_ble_eq_true rfl) (ce2_put5 T ad _ _ _) dX11_serve_43 ?_
    refine fw_mem ((up_eq _ _ _ _ _ _).symm.trans e8) ?_
    refine fw_aload_n C dX11_serve_46 rfl 0 rfl ?_
    refine fw_get C (ci := 9) (Cn := RX11) (Tc := TX11) (N := 11) (j := 5) ly_X11_serve_11 rfl (hG _ (List.mem_of_getElem? (i := 0) rfl)) (of0_0 _) (ce0 T ad _ _) (by decide) (cx_ts C _ fl_X11_serve_67) (fun _ h => h) (v := .ref (ad 1 0 0)) rfl dX11_serve_47 ?_
    obtain ⟨r9, q10, h⟩ := bd1_some h
    refine fw_callVi C (ci := 1) (Cn := RX3) (Tc := TX3) (N := 5) (As := []) (c_X3_dishTaste (gac (hG _ (List.mem_of_getElem? (i := 2) rfl)) (gac (hG _ (List.mem_of_getElem? (i := 1) rfl)) (fun q hq => hG q (List.mem_append_right _ hq)))) q10) (cwV 0 (cx_ts C) gX11_serve_X3_dishTaste rfl rfl rfl (by decide +kernel) ⟨Nat.le_of_ble_eq_true rfl, Nat.le_of_ble_eq_true rfl⟩) rfl (hG _ (List.mem_of_getElem? (i := 2) rfl)) (of1_0 _) (ce1 T ad _ _) rfl (st := []) rfl (Nat.le_of_ble_eq_true rfl) ⟨Nat.le_of_ble_eq_true rfl, Nat.le_of_ble_eq_true rfl⟩ dX11_serve_50 (pp2 ?_)
    refine fw_xr (Nat.le_of_ble_eq_true rfl) (Nat.le_of_ble_eq_true rfl) ?_
    exact fw_iret C hrt Y7 (Option.some.inj h) (fun t ht => ht) dX11_serve_53
  · have h := ite_f c3 h
    exact fw_throwSW C hl hX (cls := "java/lang/IllegalStateException") (names := ["java/lang/RuntimeException", "java/lang/Exception"]) 1 rfl (by decide +kernel) (by decide +kernel) (cx_ts C _ th_X11_serve_10.1) (cx_ts C _ th_X11_serve_10.2.1) (sr_25 (cx_st C)) (vx_hat (fun w hw => cx_ts C _ (th_X11_serve_10.2.2 w hw)) tg_1_100_96b (vx_c (Nst_use (cx_nst C) (w := .castable "java/lang/IllegalStateException" "java/lang/IllegalStateException") 824 (by decide +kernel) rfl) (vx_c (Nst_use (cx_nst C) 826 (by decide +kernel) rfl) (vx_c (Nst_use (cx_nst C) 828 (by decide +kernel) rfl) (vx_c (Nst_use (cx_nst C) 830 (by decide +kernel) rfl) vx_n))))) tg_1_100_96 dX11_serve_10 dX11_serve_13 dX11_serve_14 dX11_serve_17 dX11_serve_20 (Nat.le_of_ble_eq_true rfl) (Nat.le_of_ble_eq_true rfl) (Nat.le_of_ble_eq_true rfl) (Nat.le_of_ble_eq_true rfl) (Nat.le_of_ble_eq_true rfl) (Nat.le_of_ble_eq_true rfl) (Option.some.inj h)
end
set_option maxRecDepth 100000 in
set_option maxHeartbeats 4000000 in
theorem c_X11_serve {l : Launch} {N0 : Nat} {T : Nat → ClassId} {D : va_G} {gr : List (Nat × Nat)} {ad : Nat → Nat → Nat → Nat} {Y : Mem} {res : (Nat × Mem) ⊕ (Int32 × Mem)} (hl : l.stackTraces = false) (hG : ∀ q ∈ ([(0, 0), (2, 0), (1, 0), (9, 0)] ++ allG), q ∈ gr) (h : X11_serve Y = some res) : CXi l yX11_serve wsX11_serve (Rx 6 1) N0 T D gr ad Y [.ref (ad 0 0 0)] 1 res :=
  fw_xbody (by decide +kernel) rfl (Nat.le_of_ble_eq_true rfl) (fun p e s m below meth c C hrt hX => w_X11_serve C hrt hG hl hX h)
theorem ly_X11_setCooks_11 : ∀ w ∈ u_ws RX11 TX11 11, w ∈ wsX11_setCooks := by decide +kernel
theorem fl_X11_setCooks_77 : Cond.fieldLink RX11 77 "RecipeScheduler" "history" "LRecipeScheduler$History;" ∈ wsX11_setCooks := by decide +kernel
theorem fl_X11_setCooks_67 : Cond.fieldLink RX11 67 "RecipeScheduler" "now" "LRecipeScheduler$Kitchen;" ∈ wsX11_setCooks := by decide +kernel
theorem ly_X11_setCooks_3 : ∀ w ∈ u_ws RX3 TX3 5, w ∈ wsX11_setCooks := by decide +kernel
theorem ly_X11_setCooks_8 : ∀ w ∈ u_ws RX8 TX8 15, w ∈ wsX11_setCooks := by decide +kernel
section
variable {p : Program} {l : Launch} {e : Env} {s : State} {m : MethodId} {below : List Frame} {meth : Method} {c : Code} {N0 : Nat} {T : Nat → ClassId} {D : va_G} {gr : List (Nat × Nat)} {ad : Nat → Nat → Nat → Nat}
set_option maxRecDepth 100000 in
set_option maxHeartbeats 4000000 in
theorem w_X11_setCooks {Y : Mem} {a1 : Int32} (C : Cx p s m [.ref (ad 0 0 0), .int a1].toArray meth c cX11_setCooks 3 wsX11_setCooks RX11 N0 T D gr ad) (hrt : meth.sig.returnType = (some .int)) (hG : ∀ q ∈ ([(0, 0), (1, 0), (2, 0), (9, 0)] ++ allG), q ∈ gr) (hl : l.stackTraces = false) (hX : ∀ x ∈ c.exceptionTable.toList, False) {res : (Nat × Mem) ⊕ (Int32 × Mem)} (h : X11_setCooks Y a1 = some res) : FW p l e (Rx 7 1) s m [.ref (ad 0 0 0), .int a1].toArray below meth c 3 N0 T D gr ad 0 0 (vx_MQ below (va_Qi (fun r Y1 => Sum.inr (r, Y1) = res) (WB T D gr ad) (fun q => N0 ≤ q)) (vx_X (fun u => Sum.inl u = res) (XB T D gr ad) (fun q => N0 ≤ q)) [.ref (ad 0 0 0), .int a1].toArray s 1 6 (fun q => N0 ≤ q)) Y 0 [(0, .ref (ad 0 0 0)), (1, .int a1)] [] := by
  unfold X11_setCooks at h
  refine fw_aload_n C dX11_setCooks_0 rfl 0 rfl ?_
  refine fw_iload_n C dX11_setCooks_1 rfl 1 rfl ?_
  rcases bdxv_some h with ⟨x5, q2, e6⟩ | ⟨Y4, q2, h⟩
  · exact fw_callXVv_l C (ci := 9) (Cn := RX11) (Tc := TX11) (N := 11) (As := [.int a1]) (c_X11_requireCooks hl (gac (hG _ (List.mem_of_getElem? (i := 0) rfl)) ga0) q2) (cwV 1 (cx_ts C) gX11_setCooks_X11_requireCooks rfl rfl rfl (by decide +kernel) ⟨Nat.le_of_ble_eq_true rfl, Nat.le_of_ble_eq_true rfl⟩) rfl (hG _ (List.mem_of_getElem? (i := 0) rfl)) (of0_0 _) (ce0 T ad _ _) rfl (st := []) rfl (Nat.le_of_ble_eq_true rfl) ⟨Nat.le_of_ble_eq_true rfl, Nat.le_of_ble_eq_true rfl⟩ dX11_setCooks_2 hX e6 (Nat.le_of_ble_eq_true rfl) (Nat.le_of_ble_eq_true rfl)
  refine fw_callXVv_r C (ci := 9) (Cn := RX11) (Tc := TX11) (N := 11) (As := [.int a1]) (c_X11_requireCooks hl (gac (hG _ (List.mem_of_getElem? (i := 0) rfl)) ga0) q2) (cwV 1 (cx_ts C) gX11_setCooks_X11_requireCooks rfl rfl rfl (by decide +kernel) ⟨Nat.le_of_ble_eq_true rfl, Nat.le_of_ble_eq_true rfl⟩) rfl (hG _ (List.mem_of_getElem? (i := 0) rfl)) (of0_0 _) (ce0 T ad _ _) rfl (st := []) rfl (Nat.le_of_ble_eq_true rfl) ⟨Nat.le_of_ble_eq_true rfl, Nat.le_of_ble_eq_true rfl⟩ dX11_setCooks_2 ?_
  refine fw_aload_n C dX11_setCooks_5 rfl 0 rfl ?_
  refine fw_get C (ci := 9) (Cn := RX11) (Tc := TX11) (N := 11) (j := 7) ly_X11_setCooks_11 rfl (hG _ (List.mem_of_getElem? (i := 0) rfl)) (of0_0 _) (ce0 T ad _ _) (by decide) (cx_ts C _ fl_X11_setCooks_77) (fun _ h => h) (v := .ref (ad 9 0 0)) rfl dX11_setCooks_6 ?_
  refine fw_aload_n C dX11_setCooks_9 rfl 0 rfl ?_
  refine fw_get C (ci := 9) (Cn := RX11) (Tc := TX11) (N := 11) (j := 5) ly_X11_setCooks_11 rfl (hG _ (List.mem_of_getElem? (i := 0) rfl)) (of0_0 _) (ce0 T ad _ _) (by decide) (cx_ts C _ fl_X11_setCooks_67) (fun _ h => h) (v := .ref (ad 1 0 0)) rfl dX11_setCooks_10 ?_
  refine fw_getN C (ci := 1) (Cn := RX3) (Tc := TX3) (N := 5) (j := 1) ly_X11_setCooks_3 rfl (hG _ (List.mem_of_getElem? (i := 1) rfl)) (of1_0 _) (ce1 T ad _ _) (by decide) (Nst_use (cx_nst C) (w := .fieldLinkNest RX11 139 "RecipeScheduler$Kitchen" "state" "LRecipeScheduler$State;" "RecipeScheduler") 522 (by decide +kernel) rfl) (fun _ h => h) (v := .ref (ad 2 0 0)) rfl dX11_setCooks_13 ?_
  obtain ⟨Y9, q8, h⟩ := bd1_some h
  refine fw_callVv C (ci := 0) (Cn := RX2) (Tc := TX2) (N := 3) (As := [.ref (ad 2 0 0)]) (c_X2_push (gac (hG _ (List.mem_of_getElem? (i := 3) rfl)) (gac (hG _ (List.mem_of_getElem? (i := 2) rfl)) (fun q hq => hG q (List.mem_append_right _ hq)))) q8) (cwV 1 (cx_ts C) gX11_setCooks_X2_push rfl rfl rfl (by decide +kernel) ⟨Nat.le_of_ble_eq_true rfl, Nat.le_of_ble_eq_true rfl⟩) rfl (hG _ (List.mem_of_getElem? (i := 3) rfl)) (of9_0 _) (ce9 T ad _ _) rfl (st := []) rfl (Nat.le_of_ble_eq_true rfl) ⟨Nat.le_of_ble_eq_true rfl, Nat.le_of_ble_eq_true rfl⟩ dX11_setCooks_16 (ppv ?_)
  refine fw_aload_n C dX11_setCooks_19 rfl 0 rfl ?_
  refine fw_get C (ci := 9) (Cn := RX11) (Tc := TX11) (N := 11) (j := 5) ly_X11_setCooks_11 rfl (hG _ (List.mem_of_getElem? (i := 0) rfl)) (of0_0 _) (ce0 T ad _ _) (by decide) (cx_ts C _ fl_X11_setCooks_67) (fun _ h => h) (v := .ref (ad 1 0 0)) rfl dX11_setCooks_20 ?_
  refine fw_getN C (ci := 1) (Cn := RX3) (Tc := TX3) (N := 5) (j := 1) ly_X11_setCooks_3 rfl (hG _ (List.mem_of_getElem? (i := 1) rfl)) (of1_0 _) (ce1 T ad _ _) (by decide) (Nst_use (cx_nst C) (w := .fieldLinkNest RX11 139 "RecipeScheduler$Kitchen" "state" "LRecipeScheduler$State;" "RecipeScheduler") 522 (by decide +kernel) rfl) (fun _ h => h) (v := .ref (ad 2 0 0)) rfl dX11_setCooks_23 ?_
  refine fw_getN C (ci := 6) (Cn := RX8) (Tc := TX8) (N := 15) (j := 0) ly_X11_setCooks_8 rfl (hG _ (List.mem_of_getElem? (i := 2) rfl)) (of2_0 _) (ce2 T ad _ _) (by decide) (Nst_use (cx_nst C) (w := .fieldLinkNest RX11 143 "RecipeScheduler$State" "cooks" "I" "RecipeScheduler") 439 (by decide +kernel) rfl) (fun _ h => h) (v := .int (Y9 2 0 0 0)) rfl dX11_setCooks_26 ?_
  obtain ⟨v10, e11, h⟩ := lt_some h
  refine fw_top (v' := .int v10) (by rw [e11]) ?_
  refine fw_istore_n C dX11_setCooks_29 rfl (by decide) (L' := [(2, .int v10), (0, .ref (ad 0 0 0)), (1, .int a1)]) rfl ?_
  refine fw_aload_n C dX11_setCooks_30 rfl 1 rfl ?_
  refine fw_get C (ci := 9) (Cn := RX11) (Tc := TX11) (N := 11) (j := 5) ly_X11_setCooks_11 rfl (hG _ (List.mem_of_getElem? (i := 0) rfl)) (of0_0 _) (ce0 T ad _ _) (by decide) (cx_ts C _ fl_X11_setCooks_67) (fun _ h => h) (v := .ref (ad 1 0 0)) rfl dX11_setCooks_31 ?_
  refine fw_getN C (ci := 1) (Cn := RX3) (Tc := TX3) (N := 5) (j := 1) ly_X11_setCooks_3 rfl (hG _ (List.mem_of_getElem? (i := 1) rfl)) (of1_0 _) (ce1 T ad _ _) (by decide) (Nst_use (cx_nst C) (w := .fieldLinkNest RX11 139 "RecipeScheduler$Kitchen" "state" "LRecipeScheduler$State;" "RecipeScheduler") 522 (by decide +kernel) rfl) (fun _ h => h) (v := .ref (ad 2 0 0)) rfl dX11_setCooks_34 ?_
  refine fw_iload_n C dX11_setCooks_37 rfl 2 rfl ?_
  obtain ⟨Y12, e13, h⟩ := lt_some h
  refine fw_putN C (ci := 6) (Cn := RX8) (Tc := TX8) (N := 15) (j := 0) (ty := .int) (upd (Y9 2 0 0) 0 a1) ly_X11_setCooks_8 rfl tyX8_ok nmX8 (hG _ (List.mem_of_getElem? (i := 2) rfl)) (of2_0 _) (ce2 T ad _ _) (by decide) (Nst_use (cx_nst C) (w := .fieldLinkNest RX11 143 "RecipeScheduler$State" "cooks" "I" "RecipeScheduler") 439 (by decide +kernel) rfl) (fun _ h => h) rfl (by decide +kernel) rfl rfl (Nat.le_of_ble_eq_true rfl) (ce2_put0 T ad _ _ _) dX11_setCooks_38 ?_
  refine fw_mem ((up_eq _ _ _ _ _ _).symm.trans e13) ?_
  refine fw_iload_n C dX11_setCooks_41 rfl 0 rfl ?_
  refine fw_xr (Nat.le_of_ble_eq_true rfl) (Nat.le_of_ble_eq_true rfl) ?_
  exact fw_iret C hrt Y12 (Option.some.inj h) (fun t ht => ht) dX11_setCooks_42
end
set_option maxRecDepth 100000 in
set_option maxHeartbeats 4000000 in
theorem c_X11_setCooks {l : Launch} {N0 : Nat} {T : Nat → ClassId} {D : va_G} {gr : List (Nat × Nat)} {ad : Nat → Nat → Nat → Nat} {Y : Mem} {a1 : Int32} {res : (Nat × Mem) ⊕ (Int32 × Mem)} (hl : l.stackTraces = false) (hG : ∀ q ∈ ([(0, 0), (1, 0), (2, 0), (9, 0)] ++ allG), q ∈ gr) (h : X11_setCooks Y a1 = some res) : CXi l yX11_setCooks wsX11_setCooks (Rx 7 1) N0 T D gr ad Y [.ref (ad 0 0 0), .int a1] 1 res :=
  fw_xbody (by decide +kernel) rfl (Nat.le_of_ble_eq_true rfl) (fun p e s m below meth c C hrt hX => w_X11_setCooks C hrt hG hl hX h)
theorem ly_X11_setDuration_11 : ∀ w ∈ u_ws RX11 TX11 11, w ∈ wsX11_setDuration := by decide +kernel
theorem fl_X11_setDuration_77 : Cond.fieldLink RX11 77 "RecipeScheduler" "history" "LRecipeScheduler$History;" ∈ wsX11_setDuration := by decide +kernel
theorem fl_X11_setDuration_67 : Cond.fieldLink RX11 67 "RecipeScheduler" "now" "LRecipeScheduler$Kitchen;" ∈ wsX11_setDuration := by decide +kernel
theorem ly_X11_setDuration_3 : ∀ w ∈ u_ws RX3 TX3 5, w ∈ wsX11_setDuration := by decide +kernel
theorem ly_X11_setDuration_8 : ∀ w ∈ u_ws RX8 TX8 15, w ∈ wsX11_setDuration := by decide +kernel
theorem th_X11_setDuration_13 : Cond.classLink RX11 109 "java/lang/IllegalArgumentException" ∈ wsX11_setDuration ∧ Cond.initialized "java/lang/IllegalArgumentException" ∈ wsX11_setDuration ∧ ∀ w ∈ (vx_atS RX11 113 "java/lang/IllegalArgumentException" ["java/lang/RuntimeException", "java/lang/Exception"]).filter goodWord, w ∈ wsX11_setDuration := by decide +kernel
section
variable {p : Program} {l : Launch} {e : Env} {s : State} {m : MethodId} {below : List Frame} {meth : Method} {c : Code} {N0 : Nat} {T : Nat → ClassId} {D : va_G} {gr : List (Nat × Nat)} {ad : Nat → Nat → Nat → Nat}
set_option maxRecDepth 100000 in
set_option maxHeartbeats 4000000 in
theorem w_X11_setDuration {Y : Mem} {a1 : Int32} {a2 : Int32} (C : Cx p s m [.ref (ad 0 0 0), .int a1, .int a2].toArray meth c cX11_setDuration 4 wsX11_setDuration RX11 N0 T D gr ad) (hrt : meth.sig.returnType = (some .int)) (hG : ∀ q ∈ ([(1, 0), (0, 0), (2, 0), (9, 0)] ++ allG), q ∈ gr) (hl : l.stackTraces = false) (hX : ∀ x ∈ c.exceptionTable.toList, False) {res : (Nat × Mem) ⊕ (Int32 × Mem)} (h : X11_setDuration Y a1 a2 = some res) : FW p l e (Rx 7 2) s m [.ref (ad 0 0 0), .int a1, .int a2].toArray below meth c 4 N0 T D gr ad 0 0 (vx_MQ below (va_Qi (fun r Y1 => Sum.inr (r, Y1) = res) (WB T D gr ad) (fun q => N0 ≤ q)) (vx_X (fun u => Sum.inl u = res) (XB T D gr ad) (fun q => N0 ≤ q)) [.ref (ad 0 0 0), .int a1, .int a2].toArray s 2 12 (fun q => N0 ≤ q)) Y 0 [(0, .ref (ad 0 0 0)), (1, .int a1), (2, .int a2)] [] := by
  unfold X11_setDuration at h
  refine fw_aload_n C dX11_setDuration_0 rfl 0 rfl ?_
  refine fw_iload_n C dX11_setDuration_1 rfl 1 rfl ?_
  rcases bdxv_some h with ⟨x5, q2, e6⟩ | ⟨Y4, q2, h⟩
  · exact fw_callXVv_l C (ci := 9) (Cn := RX11) (Tc := TX11) (N := 11) (As := [.int a1]) (c_X11_requireStep hl (gac (hG _ (List.mem_of_getElem? (i := 1) rfl)) (gac (hG _ (List.mem_of_getElem? (i := 0) rfl)) (fun q hq => hG q (List.mem_append_right _ hq)))) q2) (cwV 1 (cx_ts C) gX11_setDuration_X11_requireStep rfl rfl rfl (by decide +kernel) ⟨Nat.le_of_ble_eq_true rfl, Nat.le_of_ble_eq_true rfl⟩) rfl (hG _ (List.mem_of_getElem? (i := 1) rfl)) (of0_0 _) (ce0 T ad _ _) rfl (st := []) rfl (Nat.le_of_ble_eq_true rfl) ⟨Nat.le_of_ble_eq_true rfl, Nat.le_of_ble_eq_true rfl⟩ dX11_setDuration_2 hX e6 (Nat.le_of_ble_eq_true rfl) (Nat.le_of_ble_eq_true rfl)
  refine fw_callXVv_r C (ci := 9) (Cn := RX11) (Tc := TX11) (N := 11) (As := [.int a1]) (c_X11_requireStep hl (gac (hG _ (List.mem_of_getElem? (i := 1) rfl)) (gac (hG _ (List.mem_of_getElem? (i := 0) rfl)) (fun q hq => hG q (List.mem_append_right _ hq)))) q2) (cwV 1 (cx_ts C) gX11_setDuration_X11_requireStep rfl rfl rfl (by decide +kernel) ⟨Nat.le_of_ble_eq_true rfl, Nat.le_of_ble_eq_true rfl⟩) rfl (hG _ (List.mem_of_getElem? (i := 1) rfl)) (of0_0 _) (ce0 T ad _ _) rfl (st := []) rfl (Nat.le_of_ble_eq_true rfl) ⟨Nat.le_of_ble_eq_true rfl, Nat.le_of_ble_eq_true rfl⟩ dX11_setDuration_2 ?_
  refine fw_aload_n C dX11_setDuration_5 rfl 0 rfl ?_
  refine fw_iload_n C dX11_setDuration_6 rfl 2 rfl ?_
  obtain ⟨r7, q8, h⟩ := bd1_some h
  refine fw_callVi C (ci := 9) (Cn := RX11) (Tc := TX11) (N := 11) (As := [.int a2]) (c_X11_isDuration ga0 q8) (cwV 1 (cx_ts C) gX11_setDuration_X11_isDuration rfl rfl rfl (by decide +kernel) ⟨Nat.le_of_ble_eq_true rfl, Nat.le_of_ble_eq_true rfl⟩) rfl (hG _ (List.mem_of_getElem? (i := 1) rfl)) (of0_0 _) (ce0 T ad _ _) rfl (st := []) rfl (Nat.le_of_ble_eq_true rfl) ⟨Nat.le_of_ble_eq_true rfl, Nat.le_of_ble_eq_true rfl⟩ dX11_setDuration_7 (pp2 ?_)
  refine fw_if_ne C dX11_setDuration_10 (tgt := 24) rfl (fun c9 => ?_) (fun c9 => ?_)
  · have h := ite_f c9 h
    refine fw_aload_n C dX11_setDuration_24 rfl 0 rfl ?_
    refine fw_get C (ci := 9) (Cn := RX11) (Tc := TX11) (N := 11) (j := 7) ly_X11_setDuration_11 rfl (hG _ (List.mem_of_getElem? (i := 1) rfl)) (of0_0 _) (ce0 T ad _ _) (by decide) (cx_ts C _ fl_X11_setDuration_77) (fun _ h => h) (v := .ref (ad 9 0 0)) rfl dX11_setDuration_25 ?_
    refine fw_aload_n C dX11_setDuration_28 rfl 0 rfl ?_
    refine fw_get C (ci := 9) (Cn := RX11) (Tc := TX11) (N := 11) (j := 5) ly_X11_setDuration_11 rfl (hG _ (List.mem_of_getElem? (i := 1) rfl)) (of0_0 _) (ce0 T ad _ _) (by decide) (cx_ts C _ fl_X11_setDuration_67) (fun _ h => h) (v := .ref (ad 1 0 0)) rfl dX11_setDuration_29 ?_
    refine fw_getN C (ci := 1) (Cn := RX3) (Tc := TX3) (N := 5) (j := 1) ly_X11_setDuration_3 rfl (hG _ (List.mem_of_getElem? (i := 0) rfl)) (of1_0 _) (ce1 T ad _ _) (by decide) (Nst_use (cx_nst C) (w := .fieldLinkNest RX11 139 "RecipeScheduler$Kitchen" "state" "LRecipeScheduler$State;" "RecipeScheduler") 522 (by decide +kernel) rfl) (fun _ h => h) (v := .ref (ad 2 0 0)) rfl dX11_setDuration_32 ?_
    obtain ⟨Y12, q11, h⟩ := bd1_some h
    refine fw_callVv C (ci := 0) (Cn := RX2) (Tc := TX2) (N := 3) (As := [.ref (ad 2 0 0)]) (c_X2_push (gac (hG _ (List.mem_of_getElem? (i := 3) rfl)) (gac (hG _ (List.mem_of_getElem? (i := 2) rfl)) (fun q hq => hG q (List.mem_append_right _ hq)))) q11) (cwV 1 (cx_ts C) gX11_setDuration_X2_push rfl rfl rfl (by decide +kernel) ⟨Nat.le_of_ble_eq_true rfl, Nat.le_of_ble_eq_true rfl⟩) rfl (hG _ (List.mem_of_getElem? (i := 3) rfl)) (of9_0 _) (ce9 T ad _ _) rfl (st := []) rfl (Nat.le_of_ble_eq_true rfl) ⟨Nat.le_of_ble_eq_true rfl, Nat.le_of_ble_eq_true rfl⟩ dX11_setDuration_35 (ppv ?_)
    refine fw_aload_n C dX11_setDuration_38 rfl 0 rfl ?_
    refine fw_get C (ci := 9) (Cn := RX11) (Tc := TX11) (N := 11) (j := 5) ly_X11_setDuration_11 rfl (hG _ (List.mem_of_getElem? (i := 1) rfl)) (of0_0 _) (ce0 T ad _ _) (by decide) (cx_ts C _ fl_X11_setDuration_67) (fun _ h => h) (v := .ref (ad 1 0 0)) rfl dX11_setDuration_39 ?_
    refine fw_getN C (ci := 1) (Cn := RX3) (Tc := TX3) (N := 5) (j := 1) ly_X11_setDuration_3 rfl (hG _ (List.mem_of_getElem? (i := 0) rfl)) (of1_0 _) (ce1 T ad _ _) (by decide) (Nst_use (cx_nst C) (w := .fieldLinkNest RX11 139 "RecipeScheduler$Kitchen" "state" "LRecipeScheduler$State;" "RecipeScheduler") 522 (by decide +kernel) rfl) (fun _ h => h) (v := .ref (ad 2 0 0)) rfl dX11_setDuration_42 ?_
    refine fw_getN C (ci := 6) (Cn := RX8) (Tc := TX8) (N := 15) (j := 9) ly_X11_setDuration_8 rfl (hG _ (List.mem_of_getElem? (i := 2) rfl)) (of2_0 _) (ce2 T ad _ _) (by decide) (Nst_use (cx_nst C) (w := .fieldLinkNest RX11 196 "RecipeScheduler$State" "duration" "[I" "RecipeScheduler") 465 (by decide +kernel) rfl) (fun _ h => h) (v := .ref (ad 2 0 1)) rfl dX11_setDuration_45 ?_
    refine fw_iload_n C dX11_setDuration_48 rfl 1 rfl ?_
    obtain ⟨b13, h⟩ := gd_some h
    refine fw_iald2 C (hG _ (List.mem_of_getElem? (i := 2) rfl)) (of2_1 _) (ca2_1 T ad _ _) b13 (Nat.le_of_ble_eq_true rfl) dX11_setDuration_49 ?_
    obtain ⟨v14, e15, h⟩ := lt_some h
    refine fw_top (v' := .int v14) (by rw [e15]) ?_
    refine fw_istore_n C dX11_setDuration_50 rfl (by decide) (L' := [(3, .int v14), (0, .ref (ad 0 0 0)), (1, .int a1), (2, .int a2)]) rfl ?_
    refine fw_aload_n C dX11_setDuration_51 rfl 1 rfl ?_
    refine fw_get C (ci := 9) (Cn := RX11) (Tc := TX11) (N := 11) (j := 5) ly_X11_setDuration_11 rfl (hG _ (List.mem_of_getElem? (i := 1) rfl)) (of0_0 _) (ce0 T ad _ _) (by decide) (cx_ts C _ fl_X11_setDuration_67) (fun _ h => h) (v := .ref (ad 1 0 0)) rfl dX11_setDuration_52 ?_
    refine fw_getN C (ci := 1) (Cn := RX3) (Tc := TX3) (N := 5) (j := 1) ly_X11_setDuration_3 rfl (hG _ (List.mem_of_getElem? (i := 0) rfl)) (of1_0 _) (ce1 T ad _ _) (by decide) (Nst_use (cx_nst C) (w := .fieldLinkNest RX11 139 "RecipeScheduler$Kitchen" "state" "LRecipeScheduler$State;" "RecipeScheduler") 522 (by decide +kernel) rfl) (fun _ h => h) (v := .ref (ad 2 0 0)) rfl dX11_setDuration_55 ?_
    refine fw_getN C (ci := 6) (Cn := RX8) (Tc := TX8) (N := 15) (j := 9) ly_X11_setDuration_8 rfl (hG _ (List.mem_of_getElem? (i := 2) rfl)) (of2_0 _) (ce2 T ad _ _) (by decide) (Nst_use (cx_nst C) (w := .fieldLinkNest RX11 196 "RecipeScheduler$State" "duration" "[I" "RecipeScheduler") 465 (by decide +kernel) rfl) (fun _ h => h) (v := .ref (ad 2 0 1)) rfl dX11_setDuration_58 ?_
    refine fw_iload_n C dX11_setDuration_61 rfl 2 rfl ?_
    refine fw_iload_n C dX11_setDuration_62 rfl 3 rfl ?_
    obtain ⟨Y16, e17, h⟩ := lt_some h
    refine fw_iast2 C (hG _ (List.mem_of_getElem? (i := 2) rfl)) (of2_1 _) (ca2_1 T ad _) b13 (Nat.le_of_ble_eq_true rfl) dX11_setDuration_63 ?_
    refine fw_mem e17 ?_
    refine fw_iload_n C dX11_setDuration_64 rfl 0 rfl ?_
    refine fw_xr (Nat.le_of_ble_eq_true rfl) (Nat.le_of_ble_eq_true rfl) ?_
    exact fw_iret C hrt Y16 (Option.some.inj h) (fun t ht => ht) dX11_setDuration_65
  · have h := ite_t c9 h
    exact fw_throwSW C hl hX (cls := "java/lang/IllegalArgumentException") (names := ["java/lang/RuntimeException", "java/lang/Exception"]) 2 rfl (by decide +kernel) (by decide +kernel) (cx_ts C _ th_X11_setDuration_13.1) (cx_ts C _ th_X11_setDuration_13.2.1) (sr_24 (cx_st C)) (vx_hat (fun w hw => cx_ts C _ (th_X11_setDuration_13.2.2 w hw)) tg_2_113_109b (vx_c (Nst_use (cx_nst C) (w := .castable "java/lang/IllegalArgumentException" "java/lang/IllegalArgumentException") 905 (by decide +kernel) rfl) (vx_c (Nst_use (cx_nst C) 826 (by decide +kernel) rfl) (vx_c (Nst_use (cx_nst C) 828 (by decide +kernel) rfl) (vx_c (Nst_use (cx_nst C) 830 (by decide +kernel) rfl) vx_n))))) tg_2_113_109 dX11_setDuration_13 dX11_setDuration_16 dX11_setDuration_17 dX11_setDuration_20 dX11_setDuration_23 (Nat.le_of_ble_eq_true rfl) (Nat.le_of_ble_eq_true rfl) (Nat.le_of_ble_eq_true rfl) (Nat.le_of_ble_eq_true rfl) (Nat.le_of_ble_eq_true rfl) (Nat.le_of_ble_eq_true rfl) (Option.some.inj h)
end
set_option maxRecDepth 100000 in
set_option maxHeartbeats 4000000 in
theorem c_X11_setDuration {l : Launch} {N0 : Nat} {T : Nat → ClassId} {D : va_G} {gr : List (Nat × Nat)} {ad : Nat → Nat → Nat → Nat} {Y : Mem} {a1 : Int32} {a2 : Int32} {res : (Nat × Mem) ⊕ (Int32 × Mem)} (hl : l.stackTraces = false) (hG : ∀ q ∈ ([(1, 0), (0, 0), (2, 0), (9, 0)] ++ allG), q ∈ gr) (h : X11_setDuration Y a1 a2 = some res) : CXi l yX11_setDuration wsX11_setDuration (Rx 7 2) N0 T D gr ad Y [.ref (ad 0 0 0), .int a1, .int a2] 2 res :=
  fw_xbody (by decide +kernel) rfl (Nat.le_of_ble_eq_true rfl) (fun p e s m below meth c C hrt hX => w_X11_setDuration C hrt hG hl hX h)
