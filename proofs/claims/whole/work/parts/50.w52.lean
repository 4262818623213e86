theorem ly_X2_popInto_2 : ∀ w ∈ u_ws RX2 TX2 3, w ∈ wsX2_popInto := by decide +kernel
theorem fl_X2_popInto_18 : Cond.fieldLink RX2 18 "RecipeScheduler$History" "next" "I" ∈ wsX2_popInto := by decide +kernel
theorem fl_X2_popInto_11 : Cond.fieldLink RX2 11 "RecipeScheduler$History" "states" "[LRecipeScheduler$State;" ∈ wsX2_popInto := by decide +kernel
theorem fl_X2_popInto_26 : Cond.fieldLink RX2 26 "RecipeScheduler$History" "count" "I" ∈ wsX2_popInto := by decide +kernel
section
variable {p : Program} {l : Launch} {e : Env} {s : State} {m : MethodId} {below : List Frame} {meth : Method} {c : Code} {N0 : Nat} {T : Nat → ClassId} {D : va_G} {gr : List (Nat × Nat)} {ad : Nat → Nat → Nat → Nat}
set_option maxRecDepth 100000 in
set_option maxHeartbeats 4000000 in
theorem w_X2_popInto {Y : Mem} {g1 : Nat} (C : Cx p s m [.ref (ad 9 0 0), .ref (ad 2 g1 0)].toArray meth c cX2_popInto 2 wsX2_popInto RX2 N0 T D gr ad) (hrt : meth.sig.returnType = none) (hG : ∀ q ∈ ([(9, 0), (2, g1)] ++ allG), q ∈ gr) {res : Mem} (h : X2_popInto Y g1 = some res) : FW p l e (Rm 2) s m [.ref (ad 9 0 0), .ref (ad 2 g1 0)].toArray below meth c 2 N0 T D gr ad 0 0 (MQ below (va_Qv (fun Y1 => Y1 = res) (WB T D gr ad) (fun q => N0 ≤ q)) [.ref (ad 9 0 0), .ref (ad 2 g1 0)].toArray s 0 0 (fun q => N0 ≤ q)) Y 0 [(0, .ref (ad 9 0 0)), (1, .ref (ad 2 g1 0))] [] := by
  unfold X2_popInto at h
  refine fw_aload_n C dX2_popInto_0 rfl 0 rfl ?_
  refine fw_aload_n C dX2_popInto_1 rfl 0 rfl ?_
  refine fw_get C (ci := 0) (Cn := RX2) (Tc := TX2) (N := 3) (j := 1) ly_X2_popInto_2 rfl (hG _ (List.mem_of_getElem? (i := 0) rfl)) (of9_0 _) (ce9 T ad _ _) (by decide) (cx_ts C _ fl_X2_popInto_18) (fun _ h => h) (v := .int (Y 9 0 0 1)) rfl dX2_popInto_2 ?_
  refine fw_bipush C dX2_popInto_5 (v := 6) rfl ?_
  refine fw_iadd C dX2_popInto_7 ?_
  refine fw_iconst C dX2_popInto_8 (v := 1) rfl ?_
  refine fw_isub C dX2_popInto_9 ?_
  refine fw_bipush C dX2_popInto_10 (v := 6) rfl ?_
  refine fw_irem C dX2_popInto_12 (by decide) ?_
  obtain ⟨Y1, e2, h⟩ := lt_some h
  refine fw_put C (ci := 0) (Cn := RX2) (Tc := TX2) (N := 3) (j := 1) (ty := .int) (upd (Y 9 0 0) 1 ((((Y 9 0 0 1) + 6) - 1) - (((Y 9 0 0 1) + 6) - 1) / 6 * 6)) ly_X2_popInto_2 rfl tyX2_ok nmX2 (hG _ (List.mem_of_getElem? (i := 0) rfl)) (of9_0 _) (ce9 T ad _ _) (by decide) (cx_ts C _ fl_X2_popInto_18) (fun _ h => h) rfl (by decide +kernel) rfl rfl (Nat.le_of_ble_eq_true rfl) (ce9_put1 T ad _ _ _) dX2_popInto_13 ?_
  refine fw_mem ((up_eq _ _ _ _ _ _).symm.trans e2) ?_
  refine fw_aload_n C dX2_popInto_16 rfl 1 rfl ?_
  refine fw_aload_n C dX2_popInto_17 rfl 0 rfl ?_
  refine fw_get C (ci := 0) (Cn := RX2) (Tc := TX2) (N := 3) (j := 0) ly_X2_popInto_2 rfl (hG _ (List.mem_of_getElem? (i := 0) rfl)) (of9_0 _) (ce9 T ad _ _) (by decide) (cx_ts C _ fl_X2_popInto_11) (fun _ h => h) (v := .ref (ad 9 0 1)) rfl dX2_popInto_18 ?_
  refine fw_aload_n C dX2_popInto_21 rfl 0 rfl ?_
  refine fw_get C (ci := 0) (Cn := RX2) (Tc := TX2) (N := 3) (j := 1) ly_X2_popInto_2 rfl (hG _ (List.mem_of_getElem? (i := 0) rfl)) (of9_0 _) (ce9 T ad _ _) (by decide) (cx_ts C _ fl_X2_popInto_18) (fun _ h => h) (v := .int (Y1 9 0 0 1)) rfl dX2_popInto_22 ?_
  obtain ⟨b3, h⟩ := gd_some h
  refine fw_aald2 C 3 (hG _ (List.mem_of_getElem? (i := 0) rfl)) (of9_1 _) (ca9_1 T ad _ _) rfl rfl b3 (Nat.le_of_ble_eq_true rfl) (v := .ref (ad 2 (2+ix (Y1 9 0 0 1)) 0)) rfl dX2_popInto_25 ?_
  obtain ⟨Y6, q5, h⟩ := bd1_some h
  refine fw_callVv C (ci := 6) (Cn := RX8) (Tc := TX8) (N := 15) (As := [.ref (ad 2 (2+ix (Y1 9 0 0 1)) 0)]) (c_X8_copyFrom (gac ((fun q hq => hG q (List.mem_append_right _ hq)) _ (allG_2 (by have q := inb_lt b3; omega))) (gac (hG _ (List.mem_of_getElem? (i := 1) rfl)) ga0)) q5) (cwV 1 (cx_ts C) gX2_popInto_X8_copyFrom rfl rfl rfl (by decide +kernel) ⟨Nat.le_of_ble_eq_true rfl, Nat.le_of_ble_eq_true rfl⟩) rfl (hG _ (List.mem_of_getElem? (i := 1) rfl)) (of2_0 _) (ce2 T ad _ _) rfl (st := []) rfl (Nat.le_of_ble_eq_true rfl) ⟨Nat.le_refl 0, Nat.le_refl 0⟩ dX2_popInto_26 (ppv ?_)
  refine fw_aload_n C dX2_popInto_29 rfl 0 rfl ?_
  refine fw_dup C dX2_popInto_30 rfl ?_
  refine fw_get C (ci := 0) (Cn := RX2) (Tc := TX2) (N := 3) (j := 2) ly_X2_popInto_2 rfl (hG _ (List.mem_of_getElem? (i := 0) rfl)) (of9_0 _) (ce9 T ad _ _) (by decide) (cx_ts C _ fl_X2_popInto_26) (fun _ h => h) (v := .int (Y6 9 0 0 2)) rfl dX2_popInto_31 ?_
  refine fw_iconst C dX2_popInto_34 (v := 1) rfl ?_
  refine fw_isub C dX2_popInto_35 ?_
  obtain ⟨Y7, e8, h⟩ := lt_some h
  refine fw_put C (ci := 0) (Cn := RX2) (Tc := TX2) (N := 3) (j := 2) (ty := .int) (upd (Y6 9 0 0) 2 ((Y6 9 0 0 2) - 1)) ly_X2_popInto_2 rfl tyX2_ok nmX2 (hG _ (List.mem_of_getElem? (i := 0) rfl)) (of9_0 _) (ce9 T ad _ _) (by decide) (cx_ts C _ fl_X2_popInto_26) (fun _ h => h) rfl (by decide +kernel) rfl rfl (Nat.le_of_ble_eq_true rfl) (ce9_put2 T ad _ _ _) dX2_popInto_36 ?_
  refine fw_mem ((up_eq _ _ _ _ _ _).symm.trans e8) ?_
  exact fw_vret C hrt Y7 (Option.some.inj h) (fun t ht => ht) dX2_popInto_39
end
set_option maxRecDepth 100000 in
set_option maxHeartbeats 4000000 in
theorem c_X2_popInto {l : Launch} {N0 : Nat} {T : Nat → ClassId} {D : va_G} {gr : List (Nat × Nat)} {ad : Nat → Nat → Nat → Nat} {Y : Mem} {g1 : Nat} {res : Mem} (hG : ∀ q ∈ ([(9, 0), (2, g1)] ++ allG), q ∈ gr) (h : X2_popInto Y g1 = some res) : CV l yX2_popInto wsX2_popInto (Rm 2) N0 T D gr ad Y [.ref (ad 9 0 0), .ref (ad 2 g1 0)] (fun Y1 => Y1 = res) :=
  fw_body (by decide +kernel) rfl (Nat.le_of_ble_eq_true rfl) (fun p e s m below meth c C hrt => w_X2_popInto C hrt hG  h)
theorem ly_X11_undo_11 : ∀ w ∈ u_ws RX11 TX11 11, w ∈ wsX11_undo := by decide +kernel
theorem fl_X11_undo_77 : Cond.fieldLink RX11 77 "RecipeScheduler" "history" "LRecipeScheduler$History;" ∈ wsX11_undo := by decide +kernel
theorem ly_X11_undo_2 : ∀ w ∈ u_ws RX2 TX2 3, w ∈ wsX11_undo := by decide +kernel
theorem fl_X11_undo_67 : Cond.fieldLink RX11 67 "RecipeScheduler" "now" "LRecipeScheduler$Kitchen;" ∈ wsX11_undo := by decide +kernel
theorem ly_X11_undo_3 : ∀ w ∈ u_ws RX3 TX3 5, w ∈ wsX11_undo := by decide +kernel
theorem th_X11_undo_10 : Cond.classLink RX11 96 "java/lang/IllegalStateException" ∈ wsX11_undo ∧ Cond.initialized "java/lang/IllegalStateException" ∈ wsX11_undo ∧ ∀ w ∈ (vx_atS RX11 100 "java/lang/IllegalStateException" ["java/lang/RuntimeException", "java/lang/Exception"]).filter goodWord, w ∈ wsX11_undo := by decide +kernel
section
variable {p : Program} {l : Launch} {e : Env} {s : State} {m : MethodId} {below : List Frame} {meth : Method} {c : Code} {N0 : Nat} {T : Nat → ClassId} {D : va_G} {gr : List (Nat × Nat)} {ad : Nat → Nat → Nat → Nat}
set_option maxRecDepth 100000 in
set_option maxHeartbeats 4000000 in
theorem w_X11_undo {Y : Mem} (C : Cx p s m [.ref (ad 0 0 0)].toArray meth c cX11_undo 1 wsX11_undo RX11 N0 T D gr ad) (hrt : meth.sig.returnType = (some .int)) (hG : ∀ q ∈ ([(0, 0), (9, 0), (1, 0), (2, 0)] ++ allG), q ∈ gr) (hl : l.stackTraces = false) (hX : ∀ x ∈ c.exceptionTable.toList, False) {res : (Nat × Mem) ⊕ (Int32 × Mem)} (h : X11_undo Y = some res) : FW p l e (Rx 6 1) s m [.ref (ad 0 0 0)].toArray below meth c 1 N0 T D gr ad 0 0 (vx_MQ below (va_Qi (fun r Y1 => Sum.inr (r, Y1) = res) (WB T D gr ad) (fun q => N0 ≤ q)) (vx_X (fun u => Sum.inl u = res) (XB T D gr ad) (fun q => N0 ≤ q)) [.ref (ad 0 0 0)].toArray s 1 6 (fun q => N0 ≤ q)) Y 0 [(0, .ref (ad 0 0 0))] [] := by
  unfold X11_undo at h
  refine fw_aload_n C dX11_undo_0 rfl 0 rfl ?_
  refine fw_get C (ci := 9) (Cn := RX11) (Tc := TX11) (N := 11) (j := 7) ly_X11_undo_11 rfl (hG _ (List.mem_of_getElem? (i := 0) rfl)) (of0_0 _) (ce0 T ad _ _) (by decide) (cx_ts C _ fl_X11_undo_77) (fun _ h => h) (v := .ref (ad 9 0 0)) rfl dX11_undo_1 ?_
  refine fw_getN C (ci := 0) (Cn := RX2) (Tc := TX2) (N := 3) (j := 2) ly_X11_undo_2 rfl (hG _ (List.mem_of_getElem? (i := 1) rfl)) (of9_0 _) (ce9 T ad _ _) (by decide) (Nst_use (cx_nst C) (w := .fieldLinkNest RX11 123 "RecipeScheduler$History" "count" "I" "RecipeScheduler") 550 (by decide +kernel) rfl) (fun _ h => h) (v := .int (Y 9 0 0 2)) rfl dX11_undo_4 ?_
  refine fw_if_ne C dX11_undo_7 (tgt := 21) rfl (fun c1 => ?_) (fun c1 => ?_)
  · have h := ite_f c1 h
    refine fw_aload_n C dX11_undo_21 rfl 0 rfl ?_
    refine fw_get C (ci := 9) (Cn := RX11) (Tc := TX11) (N := 11) (j := 7) ly_X11_undo_11 rfl (hG _ (List.mem_of_getElem? (i := 0) rfl)) (of0_0 _) (ce0 T ad _ _) (by decide) (cx_ts C _ fl_X11_undo_77) (fun _ h => h) (v := .ref (ad 9 0 0)) rfl dX11_undo_22 ?_
    refine fw_aload_n C dX11_undo_25 rfl 0 rfl ?_
    refine fw_get C (ci := 9) (Cn := RX11) (Tc := TX11) (N := 11) (j := 5) ly_X11_undo_11 rfl (hG _ (List.mem_of_getElem? (i := 0) rfl)) (of0_0 _) (ce0 T ad _ _) (by decide) (cx_ts C _ fl_X11_undo_67) (fun _ h => h) (v := .ref (ad 1 0 0)) rfl dX11_undo_26 ?_
    refine fw_getN C (ci := 1) (Cn := RX3) (Tc := TX3) (N := 5) (j := 1) ly_X11_undo_3 rfl (hG _ (List.mem_of_getElem? (i := 2) rfl)) (of1_0 _) (ce1 T ad _ _) (by decide) (Nst_use (cx_nst C) (w := .fieldLinkNest RX11 139 "RecipeScheduler$Kitchen" "state" "LRecipeScheduler$State;" "RecipeScheduler") 522 (by decide +kernel) rfl) (fun _ h => h) (v := .ref (ad 2 0 0)) rfl dX11_undo_29 ?_
    obtain ⟨Y4, q3, h⟩ := bd1_some h
    refine fw_callVv C (ci := 0) (Cn := RX2) (Tc := TX2) (N := 3) (As := [.ref (ad 2 0 0)]) (c_X2_popInto (gac (hG _ (List.mem_of_getElem? (i := 1) rfl)) (gac (hG _ (List.mem_of_getElem? (i := 3) rfl)) (fun q hq => hG q (List.mem_append_right _ hq)))) q3) (cwV 1 (cx_ts C) gX11_undo_X2_popInto rfl rfl rfl (by decide +kernel) ⟨Nat.le_of_ble_eq_true rfl, Nat.le_of_ble_eq_true rfl⟩) rfl (hG _ (List.mem_of_getElem? (i := 1) rfl)) (of9_0 _) (ce9 T ad _ _) rfl (st := []) rfl (Nat.le_of_ble_eq_true rfl) ⟨Nat.le_of_ble_eq_true rfl, Nat.le_of_ble_eq_true rfl⟩ dX11_undo_32 (ppv ?_)
    refine fw_aload_n C dX11_undo_35 rfl 0 rfl ?_
    refine fw_get C (ci := 9) (Cn := RX11) (Tc := TX11) (N := 11) (j := 7) ly_X11_undo_11 rfl (hG _ (List.mem_of_getElem? (i := 0) rfl)) (of0_0 _) (ce0 T ad _ _) (by decide) (cx_ts C _ fl_X11_undo_77) (fun _ h => h) (v := .ref (ad 9 0 0)) rfl dX11_undo_36 ?_
    refine fw_getN C (ci := 0) (Cn := RX2) (Tc := TX2) (N := 3) (j := 2) ly_X11_undo_2 rfl (hG _ (List.mem_of_getElem? (i := 1) rfl)) (of9_0 _) (ce9 T ad _ _) (by decide) (Nst_use (cx_nst C) (w := .fieldLinkNest RX11 123 "RecipeScheduler$History" "count" "I" "RecipeScheduler") 550 (by decide +kernel) rfl) (fun _ h => h) (v := .int (Y4 9 0 0 2)) rfl dX11_undo_39 ?_
    refine fw_xr (Nat.le_of_ble_eq_true rfl) (Nat.le_of_ble_eq_true rfl) ?_
    exact fw_iret C hrt Y4 (Option.some.inj h) (fun t ht => ht) dX11_undo_42
  · have h := ite_t c1 h
    exact fw_throwSW C hl hX (cls := "java/lang/IllegalStateException") (names := ["java/lang/RuntimeException", "java/lang/Exception"]) 1 rfl (by decide +kernel) (by decide +kernel) (cx_ts C _ th_X11_undo_10.1) (cx_ts C _ th_X11_undo_10.2.1) (sr_26 (cx_st C)) (vx_hat (fun w hw => cx_ts C _ (th_X11_undo_10.2.2 w hw)) tg_1_100_96b (vx_c (Nst_use (cx_nst C) (w := .castable "java/lang/IllegalStateException" "java/lang/IllegalStateException") 824 (by decide +kernel) rfl) (vx_c (Nst_use (cx_nst C) 826 (by decide +kernel) rfl) (vx_c (Nst_use (cx_nst C) 828 (by decide +kernel) rfl) (vx_c (Nst_use (cx_nst C) 830 (by decide +kernel) rfl) vx_n))))) tg_1_100_96 dX11_undo_10 dX11_undo_13 dX11_undo_14 dX11_undo_17 dX11_undo_20 (Nat.le_of_ble_eq_true rfl) (Nat.le_of_ble_eq_true rfl) (Nat.le_of_ble_eq_true rfl) (Nat.le_of_ble_eq_true rfl) (Nat.le_of_ble_eq_true rfl) (Nat.le_of_ble_eq_true rfl) (Option.some.inj h)
end
set_option maxRecDepth 100000 in
set_option maxHeartbeats 4000000 in
theorem c_X11_undo {l : Launch} {N0 : Nat} {T : Nat → ClassId} {D : va_G} {gr : List (Nat × Nat)} {ad : Nat → Nat → Nat → Nat} {Y : Mem} {res : (Nat × Mem) ⊕ (Int32 × Mem)} (hl : l.stackTraces = false) (hG : ∀ q ∈ ([(0, 0), (9, 0), (1, 0), (2, 0)] ++ allG), q ∈ gr) (h : X11_undo Y = some res) : CXi l yX11_undo wsX11_undo (Rx 6 1) N0 T D gr ad Y [.ref (ad 0 0 0)] 1 res :=
  fw_xbody (by decide +kernel) rfl (Nat.le_of_ble_eq_true rfl) (fun p e s m below meth c C hrt hX => w_X11_undo C hrt hG hl hX h)
theorem ly_X11_whyNotRunning_11 : ∀ w ∈ u_ws RX11 TX11 11, w ∈ wsX11_whyNotRunning := by decide +kernel
theorem fl_X11_whyNotRunning_67 : Cond.fieldLink RX11 67 "RecipeScheduler" "now" "LRecipeScheduler$Kitchen;" ∈ wsX11_whyNotRunning := by decide +kernel
section
variable {p : Program} {l : Launch} {e : Env} {s : State} {m : MethodId} {below : List Frame} {meth : Method} {c : Code} {N0 : Nat} {T : Nat → ClassId} {D : va_G} {gr : List (Nat × Nat)} {ad : Nat → Nat → Nat → Nat}
set_option maxRecDepth 100000 in
set_option maxHeartbeats 4000000 in
theorem w_X11_whyNotRunning {Y : Mem} {a1 : Int32} (C : Cx p s m [.ref (ad 0 0 0), .int a1].toArray meth c cX11_whyNotRunning 2 wsX11_whyNotRunning RX11 N0 T D gr ad) (hrt : meth.sig.returnType = (some .int)) (hG : ∀ q ∈ ([(1, 0), (0, 0), (2, 0)] ++ allG), q ∈ gr) (hl : l.stackTraces = false) (hX : ∀ x ∈ c.exceptionTable.toList, False) {res : (Nat × Mem) ⊕ (Int32 × Mem)} (h : X11_whyNotRunning Y a1 = some res) : FW p l e (Rx 7 1) s m [.ref (ad 0 0 0), .int a1].toArray below meth c 2 N0 T D gr ad 0 0 (vx_MQ below (va_Qi (fun r Y1 => Sum.inr (r, Y1) = res) (WB T D gr ad) (fun q => N0 ≤ q)) (vx_X (fun u => Sum.inl u = res) (XB T D gr ad) (fun q => N0 ≤ q)) [.ref (ad 0 0 0), .int a1].toArray s 1 6 (fun q => N0 ≤ q)) Y 0 [(0, .ref (ad 0 0 0)), (1, .int a1)] [] := by
  unfold X11_whyNotRunning at h
  refine fw_aload_n C dX11_whyNotRunning_0 rfl 0 rfl ?_
  refine fw_iload_n C dX11_whyNotRunning_1 rfl 1 rfl ?_
  rcases bdxv_some h with ⟨x5, q2, e6⟩ | ⟨Y4, q2, h⟩
  · exact fw_callXVv_l C (ci := 9) (Cn := RX11) (Tc := TX11) (N := 11) (As := [.int a1]) (c_X11_requireStep hl (gac (hG _ (List.mem_of_getElem? (i := 1) rfl)) (gac (hG _ (List.mem_of_getElem? (i := 0) rfl)) (fun q hq => hG q (List.mem_append_right _ hq)))) q2) (cwV 1 (cx_ts C) gX11_whyNotRunning_X11_requireStep rfl rfl rfl (by decide +kernel) ⟨Nat.le_of_ble_eq_true rfl, Nat.le_of_ble_eq_true rfl⟩) rfl (hG _ (List.mem_of_getElem? (i := 1) rfl)) (of0_0 _) (ce0 T ad _ _) rfl (st := []) rfl (Nat.le_of_ble_eq_true rfl) ⟨Nat.le_of_ble_eq_true rfl, Nat.le_of_ble_eq_true rfl⟩ dX11_whyNotRunning_2 hX e6 (Nat.le_of_ble_eq_true rfl) (Nat.le_of_ble_eq_true rfl)
  refine fw_callXVv_r C (ci := 9) (Cn := RX11) (Tc := TX11) (N := 11) (As := [.int a1]) (c_X11_requireStep hl (gac (hG _ (List.mem_of_getElem? (i := 1) rfl)) (gac (hG _ (List.mem_of_getElem? (i := 0) rfl)) (fun q hq => hG q (List.mem_append_right _ hq)))) q2) (cwV 1 (cx_ts C) gX11_whyNotRunning_X11_requireStep rfl rfl rfl (by decide +kernel) ⟨Nat.le_of_ble_eq_true rfl, Nat.le_of_ble_eq_true rfl⟩) rfl (hG _ (List.mem_of_getElem? (i := 1) rfl)) (of0_0 _) (ce0 T ad _ _) rfl (st := []) rfl (Nat.le_of_ble_eq_true rfl) ⟨Nat.le_of_ble_eq_true rfl, Nat.le_of_ble_eq_true rfl⟩ dX11_whyNotRunning_2 ?_
  refine fw_aload_n C dX11_whyNotRunning_5 rfl 0 rfl ?_
  refine fw_get C (ci := 9) (Cn := RX11) (Tc := TX11) (N := 11) (j := 5) ly_X11_whyNotRunning_11 rfl (hG _ (List.mem_of_getElem? (i := 1) rfl)) (of0_0 _) (ce0 T ad _ _) (by decide) (cx_ts C _ fl_X11_whyNotRunning_67) (fun _ h => h) (v := .ref (ad 1 0 0)) rfl dX11_whyNotRunning_6 ?_
  refine fw_iload_n C dX11_whyNotRunning_9 rfl 1 rfl ?_
  obtain ⟨r7, q8, h⟩ := bd1_some h
  refine fw_callVi C (ci := 1) (Cn := RX3) (Tc := TX3) (N := 5) (As := [.int a1]) (c_X3_obstacle (gac (hG _ (List.mem_of_getElem? (i := 0) rfl)) (gac (hG _ (List.mem_of_getElem? (i := 2) rfl)) (fun q hq => hG q (List.mem_append_right _ hq)))) q8) (cwV 1 (cx_ts C) gX11_whyNotRunning_X3_obstacle rfl rfl rfl (by decide +kernel) ⟨Nat.le_of_ble_eq_true rfl, Nat.le_of_ble_eq_true rfl⟩) rfl (hG _ (List.mem_of_getElem? (i := 0) rfl)) (of1_0 _) (ce1 T ad _ _) rfl (st := []) rfl (Nat.le_of_ble_eq_true rfl) ⟨Nat.le_of_ble_eq_true rfl, Nat.le_of_ble_eq_true rfl⟩ dX11_whyNotRunning_10 (pp2 ?_)
  refine fw_xr (Nat.le_of_ble_eq_true rfl) (Nat.le_of_ble_eq_true rfl) ?_
  exact fw_iret C hrt Y4 (Option.some.inj h) (fun t ht => ht) dX11_whyNotRunning_13
end
set_option maxRecDepth 100000 in
set_option maxHeartbeats 4000000 in
theorem c_X11_whyNotRunning {l : Launch} {N0 : Nat} {T : Nat → ClassId} {D : va_G} {gr : List (Nat × Nat)} {ad : Nat → Nat → Nat → Nat} {Y : Mem} {a1 : Int32} {res : (Nat × Mem) ⊕ (Int32 × Mem)} (hl : l.stackTraces = false) (hG : ∀ q ∈ ([(1, 0), (0, 0), (2, 0)] ++ allG), q ∈ gr) (h : X11_whyNotRunning Y a1 = some res) : CXi l yX11_whyNotRunning wsX11_whyNotRunning (Rx 7 1) N0 T D gr ad Y [.ref (ad 0 0 0), .int a1] 1 res :=
  fw_xbody (by decide +kernel) rfl (Nat.le_of_ble_eq_true rfl) (fun p e s m below meth c C hrt hX => w_X11_whyNotRunning C hrt hG hl hX h)
theorem ly_X11_whyNotServed_11 : ∀ w ∈ u_ws RX11 TX11 11, w ∈ wsX11_whyNotServed := by decide +kernel
theorem fl_X11_whyNotServed_67 : Cond.fieldLink RX11 67 "RecipeScheduler" "now" "LRecipeScheduler$Kitchen;" ∈ wsX11_whyNotServed := by decide +kernel
section
variable {p : Program} {l : Launch} {e : Env} {s : State} {m : MethodId} {below : List Frame} {meth : Method} {c : Code} {N0 : Nat} {T : Nat → ClassId} {D : va_G} {gr : List (Nat × Nat)} {ad : Nat → Nat → Nat → Nat}
set_option maxRecDepth 100000 in
set_option maxHeartbeats 4000000 in
theorem w_X11_whyNotServed {Y : Mem} (C : Cx p s m [.ref (ad 0 0 0)].toArray meth c cX11_whyNotServed 1 wsX11_whyNotServed RX11 N0 T D gr ad) (hrt : meth.sig.returnType = (some .int)) (hG : ∀ q ∈ ([(0, 0), (2, 0), (1, 0)] ++ allG), q ∈ gr) {res : Int32} (h : X11_whyNotServed Y = some res) : FW p l e (Rm 3) s m [.ref (ad 0 0 0)].toArray below meth c 1 N0 T D gr ad 0 0 (MQ below (va_Qi (fun r Y1 => r = res ∧ Y1 = Y) (WB T D gr ad) (fun q => N0 ≤ q)) [.ref (ad 0 0 0)].toArray s 0 0 (fun q => N0 ≤ q)) Y 0 [(0, .ref (ad 0 0 0))] [] := by
  unfold X11_whyNotServed at h
  refine fw_aload_n C dX11_whyNotServed_0 rfl 0 rfl ?_
  refine fw_get C (ci := 9) (Cn := RX11) (Tc := TX11) (N := 11) (j := 5) ly_X11_whyNotServed_11 rfl (hG _ (List.mem_of_getElem? (i := 0) rfl)) (of0_0 _) (ce0 T ad _ _) (by decide) (cx_ts C _ fl_X11_whyNotServed_67) (fun _ h => h) (v := .ref (ad 1 0 0)) rfl dX11_whyNotServed_1 ?_
  obtain ⟨r1, q2, h⟩ := bd1_some h
  refine fw_callVi C (ci := 1) (Cn := RX3) (Tc := TX3) (N := 5) (As := []) (c_X3_servingObstacle (gac (hG _ (List.mem_of_getElem? (i := 2) rfl)) (gac (hG _ (List.mem_of_getElem? (i := 1) rfl)) (fun q hq => hG q (List.mem_append_right _ hq)))) q2) (cwV 0 (cx_ts C) gX11_whyNotServed_X3_servingObstacle rfl rfl rfl (by decide +kernel) ⟨Nat.le_of_ble_eq_true rfl, Nat.le_of_ble_eq_true rfl⟩) rfl (hG _ (List.mem_of_getElem? (i := 2) rfl)) (of1_0 _) (ce1 T ad _ _) rfl (st := []) rfl (Nat.le_of_ble_eq_true rfl) ⟨Nat.le_refl 0, Nat.le_refl 0⟩ dX11_whyNotServed_4 (pp2 ?_)
  exact fw_iret C hrt Y ⟨Option.some.inj h, rfl⟩ (fun t ht => ht) dX11_whyNotServed_7
end
set_option maxRecDepth 100000 in
set_option maxHeartbeats 4000000 in
theorem c_X11_whyNotServed {l : Launch} {N0 : Nat} {T : Nat → ClassId} {D : va_G} {gr : List (Nat × Nat)} {ad : Nat → Nat → Nat → Nat} {Y : Mem} {res : Int32} (hG : ∀ q ∈ ([(0, 0), (2, 0), (1, 0)] ++ allG), q ∈ gr) (h : X11_whyNotServed Y = some res) : CI l yX11_whyNotServed wsX11_whyNotServed (Rm 3) N0 T D gr ad Y [.ref (ad 0 0 0)] (fun r Y1 => r = res ∧ Y1 = Y) :=
  fw_body (by decide +kernel) rfl (Nat.le_of_ble_eq_true rfl) (fun p e s m below meth c C hrt => w_X11_whyNotServed C hrt hG  h)
section
variable {p : Program} {l : Launch} {e : Env} {s : State} {m : MethodId} {below : List Frame} {meth : Method} {c : Code} {N0 : Nat} {T : Nat → ClassId} {D : va_G} {gr : List (Nat × Nat)} {ad : Nat → Nat → Nat → Nat}
set_option maxRecDepth 100000 in
set_option maxHeartbeats 4000000 in
theorem w_X9_addTwoDigits_b17 {g0 : Nat} {a1 : Int32} (C : Cx p s m [.ref (ad 5 g0 0), .int a1].toArray meth c cX9_addTwoDigits 2 wsX9_addTwoDigits RX9 N0 T D gr ad) (hrt : meth.sig.returnType = none) (hG : ∀ q ∈ [(5, g0)], q ∈ gr) {res : Mem} (Y : Mem) (h : X9_addTwoDigits_b17 g0 a1  Y = some res) : FW p l e (Rm 1) s m [.ref (ad 5 g0 0), .int a1].toArray below meth c 2 N0 T D gr ad 0 0 (MQ below (va_Qv (fun Y1 => Y1 = res) (WB T D gr ad) (fun q => N0 ≤ q)) [.ref (ad 5 g0 0), .int a1].toArray s 0 0 (fun q => N0 ≤ q)) Y 17 [(0, .ref (ad 5 g0 0)), (1, .int a1)] [] := by
  unfold X9_addTwoDigits_b17 at h
  refine fw_aload_n C dX9_addTwoDigits_17 rfl 0 rfl ?_
  refine fw_bipush C dX9_addTwoDigits_18 (v := 48) rfl ?_
  refine fw_iload_n C dX9_addTwoDigits_20 rfl 1 rfl ?_
  refine fw_bipush C dX9_addTwoDigits_21 (v := 10) rfl ?_
  refine fw_irem C dX9_addTwoDigits_23 (by decide) ?_
  refine fw_iadd C dX9_addTwoDigits_24 ?_
  obtain ⟨Y4, q3, h⟩ := bd1_some h
  refine fw_callVv C (ci := 7) (Cn := RX9) (Tc := TX9) (N := 2) (As := [.int (48 + (a1 - a1 / 10 * 10))]) (c_X9_addByte (gac (hG _ (List.mem_of_getElem? (i := 0) rfl)) ga0) q3) (cwV 1 (cx_ts C) gX9_addTwoDigits_X9_addByte rfl rfl rfl (by decide +kernel) ⟨Nat.le_of_ble_eq_true rfl, Nat.le_of_ble_eq_true rfl⟩) rfl (hG _ (List.mem_of_getElem? (i := 0) rfl)) (of5_0 _) (ce5 T ad _ _) rfl (st := []) rfl (Nat.le_of_ble_eq_true rfl) ⟨Nat.le_refl 0, Nat.le_refl 0⟩ dX9_addTwoDigits_25 (ppv ?_)
  exact fw_vret C hrt Y4 (Option.some.inj h) (fun t ht => ht) dX9_addTwoDigits_28
set_option maxRecDepth 100000 in
set_option maxHeartbeats 4000000 in
theorem w_X9_addTwoDigits {Y : Mem} {g0 : Nat} {a1 : Int32} (C : Cx p s m [.ref (ad 5 g0 0), .int a1].toArray meth c cX9_addTwoDigits 2 wsX9_addTwoDigits RX9 N0 T D gr ad) (hrt : meth.sig.returnType = none) (hG : ∀ q ∈ [(5, g0)], q ∈ gr) {res : Mem} (h : X9_addTwoDigits Y g0 a1 = some res) : FW p l e (Rm 1) s m [.ref (ad 5 g0 0), .int a1].toArray below meth c 2 N0 T D gr ad 0 0 (MQ below (va_Qv (fun Y1 => Y1 = res) (WB T D gr ad) (fun q => N0 ≤ q)) [.ref (ad 5 g0 0), .int a1].toArray s 0 0 (fun q => N0 ≤ q)) Y 0 [(0, .ref (ad 5 g0 0)), (1, .int a1)] [] := by
  unfold X9_addTwoDigits at h
  refine fw_iload_n C dX9_addTwoDigits_0 rfl 1 rfl ?_
  refine fw_bipush C dX9_addTwoDigits_1 (v := 10) rfl ?_
  refine fw_icmp_lt C dX9_addTwoDigits_3 (tgt := 17) rfl (fun c1 => ?_) (fun c1 => ?_)
  · have h := ite_t c1 h
    exact w_X9_addTwoDigits_b17 C hrt hG   _ h
  · have h := ite_f c1 h
    refine fw_aload_n C dX9_addTwoDigits_6 rfl 0 rfl ?_
    refine fw_bipush C dX9_addTwoDigits_7 (v := 48) rfl ?_
    refine fw_iload_n C dX9_addTwoDigits_9 rfl 1 rfl ?_
    refine fw_bipush C dX9_addTwoDigits_10 (v := 10) rfl ?_
    refine fw_idiv C dX9_addTwoDigits_12 (by decide) ?_
    refine fw_iadd C dX9_addTwoDigits_13 ?_
    obtain ⟨Y7, q6, h⟩ := bd1_some h
    refine fw_callVv C (ci := 7) (Cn := RX9) (Tc := TX9) (N := 2) (As := [.int (48 + (a1 / 10))]) (c_X9_addByte (gac (hG _ (List.mem_of_getElem? (i := 0) rfl)) ga0) q6) (cwV 1 (cx_ts C) gX9_addTwoDigits_X9_addByte rfl rfl rfl (by decide +kernel) ⟨Nat.le_of_ble_eq_true rfl, Nat.le_of_ble_eq_true rfl⟩) rfl (hG _ (List.mem_of_getElem? (i := 0) rfl)) (of5_0 _) (ce5 T ad _ _) rfl (st := []) rfl (Nat.le_of_ble_eq_true rfl) ⟨Nat.le_refl 0, Nat.le_refl 0⟩ dX9_addTwoDigits_14 (ppv ?_)
    exact w_X9_addTwoDigits_b17 C hrt hG   _ h
end
set_option maxRecDepth 100000 in
set_option maxHeartbeats 4000000 in
theorem c_X9_addTwoDigits {l : Launch} {N0 : Nat} {T : Nat → ClassId} {D : va_G} {gr : List (Nat × Nat)} {ad : Nat → Nat → Nat → Nat} {Y : Mem} {g0 : Nat} {a1 : Int32} {res : Mem} (hG : ∀ q ∈ [(5, g0)], q ∈ gr) (h : X9_addTwoDigits Y g0 a1 = some res) : CV l yX9_addTwoDigits wsX9_addTwoDigits (Rm 1) N0 T D gr ad Y [.ref (ad 5 g0 0), .int a1] (fun Y1 => Y1 = res) :=
  fw_body (by decide +kernel) rfl (Nat.le_of_ble_eq_true rfl) (fun p e s m below meth c C hrt => w_X9_addTwoDigits C hrt hG  h)
theorem ly_X11_writeProgress_11 : ∀ w ∈ u_ws RX11 TX11 11, w ∈ wsX11_writeProgress := by decide +kernel
theorem fl_X11_writeProgress_67 : Cond.fieldLink RX11 67 "RecipeScheduler" "now" "LRecipeScheduler$Kitchen;" ∈ wsX11_writeProgress := by decide +kernel
theorem ly_X11_writeProgress_3 : ∀ w ∈ u_ws RX3 TX3 5, w ∈ wsX11_writeProgress := by decide +kernel
theorem fl_X11_writeProgress_45 : Cond.fieldLink RX11 45 "RecipeScheduler" "output" "LRecipeScheduler$Text;" ∈ wsX11_writeProgress := by decide +kernel
theorem ly_X11_writeProgress_8 : ∀ w ∈ u_ws RX8 TX8 15, w ∈ wsX11_writeProgress := by decide +kernel
section
variable {p : Program} {l : Launch} {e : Env} {s : State} {m : MethodId} {below : List Frame} {meth : Method} {c : Code} {N0 : Nat} {T : Nat → ClassId} {D : va_G} {gr : List (Nat × Nat)} {ad : Nat → Nat → Nat → Nat}
set_option maxRecDepth 100000 in
set_option maxHeartbeats 4000000 in
theorem w_X11_writeProgress {Y : Mem} {a1 : Int32} (C : Cx p s m [.ref (ad 0 0 0), .int a1].toArray meth c cX11_writeProgress 2 wsX11_writeProgress RX11 N0 T D gr ad) (hrt : meth.sig.returnType = none) (hG : ∀ q ∈ [(0, 0), (1, 0), (2, 0), (5, 1)], q ∈ gr) {res : Mem} (h : X11_writeProgress Y a1 = some res) : FW p l e (Rm 2) s m [.ref (ad 0 0 0), .int a1].toArray below meth c 2 N0 T D gr ad 0 0 (MQ below (va_Qv (fun Y1 => Y1 = res) (WB T D gr ad) (fun q => N0 ≤ q)) [.ref (ad 0 0 0), .int a1].toArray s 0 0 (fun q => N0 ≤ q)) Y 0 [(0, .ref (ad 0 0 0)), (1, .int a1)] [] := by
  unfold X11_writeProgress at h
  refine fw_aload_n C dX11_writeProgress_0 rfl 0 rfl ?_
  refine fw_get C (ci := 9) (Cn := RX11) (Tc := TX11) (N := 11) (j := 5) ly_X11_writeProgress_11 rfl (hG _ (List.mem_of_getElem? (i := 0) rfl)) (of0_0 _) (ce0 T ad _ _) (by decide) (cx_ts C _ fl_X11_writeProgress_67) (fun _ h => h) (v := .ref (ad 1 0 0)) rfl dX11_writeProgress_1 ?_
  refine fw_getN C (ci := 1) (Cn := RX3) (Tc := TX3) (N := 5) (j := 1) ly_X11_writeProgress_3 rfl (hG _ (List.mem_of_getElem? (i := 1) rfl)) (of1_0 _) (ce1 T ad _ _) (by decide) (Nst_use (cx_nst C) (w := .fieldLinkNest RX11 139 "RecipeScheduler$Kitchen" "state" "LRecipeScheduler$State;" "RecipeScheduler") 522 (by decide +kernel) rfl) (fun _ h => h) (v := .ref (ad 2 0 0)) rfl dX11_writeProgress_4 ?_
  refine fw_iload_n C dX11_writeProgress_7 rfl 1 rfl ?_
  obtain ⟨r1, q2, h⟩ := bd1_some h
  refine fw_callVi C (ci := 6) (Cn := RX8) (Tc := TX8) (N := 15) (As := [.int a1]) (c_X8_statusOf (gac (hG _ (List.mem_of_getElem? (i := 2) rfl)) ga0) q2) (cwV 1 (cx_ts C) gX11_writeProgress_X8_statusOf rfl rfl rfl (by decide +kernel) ⟨Nat.le_of_ble_eq_true rfl, Nat.le_of_ble_eq_true rfl⟩) rfl (hG _ (List.mem_of_getElem? (i := 2) rfl)) (of2_0 _) (ce2 T ad _ _) rfl (st := []) rfl (Nat.le_of_ble_eq_true rfl) ⟨Nat.le_refl 0, Nat.le_refl 0⟩ dX11_writeProgress_8 (pp2 ?_)
  by_cases c3 : r1 = 0
  · have h := ite_t c3 h
    refine fw_tableIn C dX11_writeProgress_11 (by rw [c3]; decide +kernel) (by rw [c3]; decide +kernel) (off := 25) (by rw [c3]; decide +kernel) (tgt := 36) rfl ?_
    refine fw_aload_n C dX11_writeProgress_36 rfl 0 rfl ?_
    refine fw_get C (ci := 9) (Cn := RX11) (Tc := TX11) (N := 11) (j := 1) ly_X11_writeProgress_11 rfl (hG _ (List.mem_of_getElem? (i := 0) rfl)) (of0_0 _) (ce0 T ad _ _) (by decide) (cx_ts C _ fl_X11_writeProgress_45) (fun _ h => h) (v := .ref (ad 5 1 0)) rfl dX11_writeProgress_37 ?_
    refine fw_bipush C dX11_writeProgress_40 (v := 46) rfl ?_
    obtain ⟨Y6, q5, h⟩ := bd1_some h
    refine fw_callVv C (ci := 7) (Cn := RX9) (Tc := TX9) (N := 2) (As := [.int 46]) (c_X9_addByte (gac (hG _ (List.mem_of_getElem? (i := 3) rfl)) ga0) q5) (cwV 1 (cx_ts C) gX11_writeProgress_X9_addByte rfl rfl rfl (by decide +kernel) ⟨Nat.le_of_ble_eq_true rfl, Nat.le_of_ble_eq_true rfl⟩) rfl (hG _ (List.mem_of_getElem? (i := 3) rfl)) (of5_0 _) (ce5 T ad _ _) rfl (st := []) rfl (Nat.le_of_ble_eq_true rfl) ⟨Nat.le_refl 0, Nat.le_refl 0⟩ dX11_writeProgress_42 (ppv ?_)
    refine fw_goto C dX11_writeProgress_45 (tgt := 91) rfl ?_
    exact fw_vret C hrt Y6 (Option.some.inj h) (fun t ht => ht) dX11_writeProgress_91
  · have h := ite_f c3 h
    by_cases c7 : r1 = 1
    · have h := ite_t c7 h
      refine fw_tableIn C dX11_writeProgress_11 (by rw [c7]; decide +kernel) (by rw [c7]; decide +kernel) (off := 37) (by rw [c7]; decide +kernel) (tgt := 48) rfl ?_
      refine fw_aload_n C dX11_writeProgress_48 rfl 0 rfl ?_
      refine fw_get C (ci := 9) (Cn := RX11) (Tc := TX11) (N := 11) (j := 1) ly_X11_writeProgress_11 rfl (hG _ (List.mem_of_getElem? (i := 0) rfl)) (of0_0 _) (ce0 T ad _ _) (by decide) (cx_ts C _ fl_X11_writeProgress_45) (fun _ h => h) (v := .ref (ad 5 1 0)) rfl dX11_writeProgress_49 ?_
      refine fw_aload_n C dX11_writeProgress_52 rfl 0 rfl ?_
      refine fw_get C (ci := 9) (Cn := RX11) (Tc := TX11) (N := 11) (j := 5) ly_X11_writeProgress_11 rfl (hG _ (List.mem_of_getElem? (i := 0) rfl)) (of0_0 _) (ce0 T ad _ _) (by decide) (cx_ts C _ fl_X11_writeProgress_67) (fun _ h => h) (v := .ref (ad 1 0 0)) rfl dX11_writeProgress_53 ?_
      refine fw_getN C (ci := 1) (Cn := RX3) (Tc := TX3) (N := 5) (j := 1) ly_X11_writeProgress_3 rfl (hG _ (List.mem_of_getElem? (i := 1) rfl)) (of1_0 _) (ce1 T ad _ _) (by decide) (Nst_use (cx_nst C) (w := .fieldLinkNest RX11 139 "RecipeScheduler$Kitchen" "state" "LRecipeScheduler$State;" "RecipeScheduler") 522 (by decide +kernel) rfl) (fun _ h => h) (v := .ref (ad 2 0 0)) rfl dX11_writeProgress_56 ?_
      refine fw_getN C (ci := 6) (Cn := RX8) (Tc := TX8) (N := 15) (j := 10) ly_X11_writeProgress_8 rfl (hG _ (List.mem_of_getElem? (i := 2) rfl)) (of2_0 _) (ce2 T ad _ _) (by decide) (Nst_use (cx_nst C) (w := .fieldLinkNest RX11 255 "RecipeScheduler$State" "remaining" "[I" "RecipeScheduler") 468 (by decide +kernel) rfl) (fun _ h => h) (v := .ref (ad 2 0 2)) rfl dX11_writeProgress_59 ?_
      refine fw_iload_n C dX11_writeProgress_62 rfl 1 rfl ?_
      obtain ⟨b8, h⟩ := gd_some h
      refine fw_iald2 C (hG _ (List.mem_of_getElem? (i := 2) rfl)) (of2_2 _) (ca2_2 T ad _ _) b8 (Nat.le_of_ble_eq_true rfl) dX11_writeProgress_63 ?_
      obtain ⟨Y11, q10, h⟩ := bd1_some h
      refine fw_callVv C (ci := 7) (Cn := RX9) (Tc := TX9) (N := 2) (As := [.int (Y 2 0 2 (ix a1))]) (c_X9_addTwoDigits (gac (hG _ (List.mem_of_getElem? (i := 3) rfl)) ga0) q10) (cwV 1 (cx_ts C) gX11_writeProgress_X9_addTwoDigits rfl rfl rfl (by decide +kernel) ⟨Nat.le_of_ble_eq_true rfl, Nat.le_of_ble_eq_true rfl⟩) rfl (hG _ (List.mem_of_getElem? (i := 3) rfl)) (of5_0 _) (ce5 T ad _ _) rfl (st := []) rfl (Nat.le_of_ble_eq_true rfl) ⟨Nat.le_refl 0, Nat.le_refl 0⟩ dX11_writeProgress_64 (ppv ?_)
      refine fw_goto C dX11_writeProgress_67 (tgt := 91) rfl ?_
      exact fw_vret C hrt Y11 (Option.some.inj h) (fun t ht => ht) dX11_writeProgress_91
    · have h := ite_f c7 h
      by_cases c12 : r1 = 2
      · have h := ite_t c12 h
        refine fw_tableIn C dX11_writeProgress_11 (by rw [c12]; decide +kernel) (by rw [c12]; decide +kernel) (off := 59) (by rw [c12]; decide +kernel) (tgt := 70) rfl ?_
        refine fw_aload_n C dX11_writeProgress_70 rfl 0 rfl ?_
        refine fw_get C (ci := 9) (Cn := RX11) (Tc := TX11) (N := 11) (j := 1) ly_X11_writeProgress_11 rfl (hG _ (List.mem_of_getElem? (i := 0) rfl)) (of0_0 _) (ce0 T ad _ _) (by decide) (cx_ts C _ fl_X11_writeProgress_45) (fun _ h => h) (v := .ref (ad 5 1 0)) rfl dX11_writeProgress_71 ?_
        refine fw_bipush C dX11_writeProgress_74 (v := 61) rfl ?_
        obtain ⟨Y15, q14, h⟩ := bd1_some h
        refine fw_callVv C (ci := 7) (Cn := RX9) (Tc := TX9) (N := 2) (As := [.int 61]) (c_X9_addByte (gac (hG _ (List.mem_of_getElem? (i := 3) rfl)) ga0) q14) (cwV 1 (cx_ts C) gX11_writeProgress_X9_addByte rfl rfl rfl (by decide +kernel) ⟨Nat.le_of_ble_eq_true rfl, Nat.le_of_ble_eq_true rfl⟩) rfl (hG _ (List.mem_of_getElem? (i := 3) rfl)) (of5_0 _) (ce5 T ad _ _) rfl (st := []) rfl (Nat.le_of_ble_eq_true rfl) ⟨Nat.le_refl 0, Nat.le_refl 0⟩ dX11_writeProgress_76 (ppv ?_)
        refine fw_goto C dX11_writeProgress_79 (tgt := 91) rfl ?_
        exact fw_vret C hrt Y15 (Option.some.inj h) (fun t ht => ht) dX11_writeProgress_91
      · have h := ite_f c12 h
        have c3 : ¬ (r1).toInt = 0 := fun q => c3 (Int32.toInt_inj.mp (by rw [q]; decide +kernel))
        have c7 : ¬ (r1).toInt = 1 := fun q => c7 (Int32.toInt_inj.mp (by rw [q]; decide +kernel))
        have c12 : ¬ (r1).toInt = 2 := fun q => c12 (Int32.toInt_inj.mp (by rw [q]; decide +kernel))
        refine fw_tableOut C dX11_writeProgress_11 (by omega) (tgt := 82) rfl ?_
        refine fw_aload_n C dX11_writeProgress_82 rfl 0 rfl ?_
        refine fw_get C (ci := 9) (Cn := RX11) (Tc := TX11) (N := 11) (j := 1) ly_X11_writeProgress_11 rfl (hG _ (List.mem_of_getElem? (i := 0) rfl)) (of0_0 _) (ce0 T ad _ _) (by decide) (cx_ts C _ fl_X11_writeProgress_45) (fun _ h => h) (v := .ref (ad 5 1 0)) rfl dX11_writeProgress_83 ?_
        refine fw_bipush C dX11_writeProgress_86 (v := 42) rfl ?_
        obtain ⟨Y18, q17, h⟩ := bd1_some h
        refine fw_callVv C (ci := 7) (Cn := RX9) (Tc := TX9) (N := 2) (As := [.int 42]) (c_X9_addByte (gac (hG _ (List.mem_of_getElem? (i := 3) rfl)) ga0) q17) (cwV 1 (cx_ts C) gX11_writeProgress_X9_addByte rfl rfl rfl (by decide +kernel) ⟨Nat.le_of_ble_eq_true rfl, Nat.le_of_ble_eq_true rfl⟩) rfl (hG _ (List.mem_of_getElem? (i := 3) rfl)) (of5_0 _) (ce5 T ad _ _) rfl (st := []) rfl (Nat.le_of_ble_eq_true rfl) ⟨Nat.le_refl 0, Nat.le_refl 0⟩ dX11_writeProgress_88 (ppv ?_)
        exact fw_vret C hrt Y18 (Option.some.inj h) (fun t ht => ht) dX11_writeProgress_91
end
set_option maxRecDepth 100000 in
set_option maxHeartbeats 4000000 in
theorem c_X11_writeProgress {l : Launch} {N0 : Nat} {T : Nat → ClassId} {D : va_G} {gr : List (Nat × Nat)} {ad : Nat → Nat → Nat → Nat} {Y : Mem} {a1 : Int32} {res : Mem} (hG : ∀ q ∈ [(0, 0), (1, 0), (2, 0), (5, 1)], q ∈ gr) (h : X11_writeProgress Y a1 = some res) : CV l yX11_writeProgress wsX11_writeProgress (Rm 2) N0 T D gr ad Y [.ref (ad 0 0 0), .int a1] (fun Y1 => Y1 = res) :=
  fw_body (by decide +kernel) rfl (Nat.le_of_ble_eq_true rfl) (fun p e s m below meth c C hrt => w_X11_writeProgress C hrt hG  h)
theorem ly_X4_copyTo_4 : ∀ w ∈ u_ws RX4 TX4 3, w ∈ wsX4_copyTo := by decide +kernel
theorem fl_X4_copyTo_16 : Cond.fieldLink RX4 16 "RecipeScheduler$Names" "lengths" "[I" ∈ wsX4_copyTo := by decide +kernel
theorem fl_X4_copyTo_11 : Cond.fieldLink RX4 11 "RecipeScheduler$Names" "letters" "[[B" ∈ wsX4_copyTo := by decide +kernel
section
variable {p : Program} {l : Launch} {e : Env} {s : State} {m : MethodId} {below : List Frame} {meth : Method} {c : Code} {N0 : Nat} {T : Nat → ClassId} {D : va_G} {gr : List (Nat × Nat)} {ad : Nat → Nat → Nat → Nat}
set_option maxRecDepth 100000 in
set_option maxHeartbeats 4000000 in
theorem w_X4_copyTo_b2 {g0 : Nat} {g1 : Nat} {a2 : Int32} (C : Cx p s m [.ref (ad 4 g0 0), .ref (ad 5 g1 0), .int a2].toArray meth c cX4_copyTo 4 wsX4_copyTo RX4 N0 T D gr ad) (hrt : meth.sig.returnType = none) (hG : ∀ q ∈ [(4, g0), (5, g1)], q ∈ gr) {res : Mem} : ∀ (n : Nat) (Y : Mem) (l3 : Int32), X4_copyTo_b2 g0 g1 a2  n Y l3 = some res → FW p l e (Rm 1) s m [.ref (ad 4 g0 0), .ref (ad 5 g1 0), .int a2].toArray below meth c 4 N0 T D gr ad 0 0 (MQ below (va_Qv (fun Y1 => Y1 = res) (WB T D gr ad) (fun q => N0 ≤ q)) [.ref (ad 4 g0 0), .ref (ad 5 g1 0), .int a2].toArray s 0 0 (fun q => N0 ≤ q)) Y 2 [(3, .int l3), (0, .ref (ad 4 g0 0)), (1, .ref (ad 5 g1 0)), (2, .int a2)] [] := by
  intro n
  induction n with
  | zero =>
    intro Y l3 h
    unfold X4_copyTo_b2 at h
    cases h
  | succ n ih =>
    intro Y l3 h
    unfold X4_copyTo_b2 at h
    refine fw_iload_n C dX4_copyTo_2 rfl 0 rfl ?_
    refine fw_aload_n C dX4_copyTo_3 rfl 1 rfl ?_
    refine fw_get C (ci := 2) (Cn := RX4) (Tc := TX4) (N := 3) (j := 1) ly_X4_copyTo_4 rfl (hG _ (List.mem_of_getElem? (i := 0) rfl)) (of4_0 _) (ce4 T ad _ _) (by decide) (cx_ts C _ fl_X4_copyTo_16) (fun _ h => h) (v := .ref (ad 4 g0 2)) rfl dX4_copyTo_4 ?_
    refine fw_iload_n C dX4_copyTo_7 rfl 3 rfl ?_
    obtain ⟨b1, h⟩ := gd_some h
    refine fw_iald2 C (hG _ (List.mem_of_getElem? (i := 0) rfl)) (of4_2 _) (ca4_2 T ad _ _) b1 (ncap_lt _) dX4_copyTo_8 ?_
    refine fw_icmp_ge C dX4_copyTo_9 (tgt := 30) rfl (fun c2 => ?_) (fun c2 => ?_)
    · have h := ite_t c2 h
      exact fw_vret C hrt Y (Option.some.inj h) (fun t ht => ht) dX4_copyTo_30
    · have h := ite_f c2 h
      refine fw_aload_n C dX4_copyTo_12 rfl 2 rfl ?_
      refine fw_aload_n C dX4_copyTo_13 rfl 1 rfl ?_
      refine fw_get C (ci := 2) (Cn := RX4) (Tc := TX4) (N := 3) (j := 0) ly_X4_copyTo_4 rfl (hG _ (List.mem_of_getElem? (i := 0) rfl)) (of4_0 _) (ce4 T ad _ _) (by decide) (cx_ts C _ fl_X4_copyTo_11) (fun _ h => h) (v := .ref (ad 4 g0 1)) rfl dX4_copyTo_14 ?_
      refine fw_iload_n C dX4_copyTo_17 rfl 3 rfl ?_
      refine fw_aald2 C 4 (hG _ (List.mem_of_getElem? (i := 0) rfl)) (of4_1 _) (ca4_1 T ad _ _) rfl rfl b1 (ncap_lt _) (v := .ref (ad 4 g0 (10+ix a2))) rfl dX4_copyTo_18 ?_
      refine fw_iload_n C dX4_copyTo_19 rfl 0 rfl ?_
      obtain ⟨b3, h⟩ := gd_some h
      refine fw_bald2 C (hG _ (List.mem_of_getElem? (i := 0) rfl)) (of4_r _ (inb_lt b1)) (ca4_r T ad _ _ _) b3 (Nat.le_of_ble_eq_true rfl) dX4_copyTo_20 ?_
      obtain ⟨Y6, q5, h⟩ := bd1_some h
      refine fw_callVv C (ci := 7) (Cn := RX9) (Tc := TX9) (N := 2) (As := [.int (Y 4 g0 (10+ix a2) (ix l3))]) (c_X9_addByte (gac (hG _ (List.mem_of_getElem? (i := 1) rfl)) ga0) q5) (cwV 1 (cx_ts C) gX4_copyTo_X9_addByte rfl rfl rfl (by decide +kernel) ⟨Nat.le_of_ble_eq_true rfl, Nat.le_of_ble_eq_true rfl⟩) rfl (hG _ (List.mem_of_getElem? (i := 1) rfl)) (of5_0 _) (ce5 T ad _ _) rfl (st := []) rfl (Nat.le_of_ble_eq_true rfl) ⟨Nat.le_refl 0, Nat.le_refl 0⟩ dX4_copyTo_21 (ppv ?_)
      refine fw_iinc C dX4_copyTo_24 (kk := 0) (v := l3 + 1) rfl rfl (by decide) (L' := [(3, .int (l3 + 1)), (0, .ref (ad 4 g0 0)), (1, .ref (ad 5 g1 0)), (2, .int a2)]) rfl ?_
      refine fw_goto C dX4_copyTo_27 (tgt := 2) rfl ?_
      exact ih _ _ h
set_option maxRecDepth 100000 in
set_option maxHeartbeats 4000000 in
theorem w_X4_copyTo {Y : Mem} {g0 : Nat} {g1 : Nat} {a2 : Int32} (C : Cx p s m [.ref (ad 4 g0 0), .ref (ad 5 g1 0), .int a2].toArray meth c cX4_copyTo 4 wsX4_copyTo RX4 N0 T D gr ad) (hrt : meth.sig.returnType = none) (hG : ∀ q ∈ [(4, g0), (5, g1)], q ∈ gr) {res : Mem} (h : X4_copyTo Y g0 g1 a2 = some res) : FW p l e (Rm 1) s m [.ref (ad 4 g0 0), .ref (ad 5 g1 0), .int a2].toArray below meth c 4 N0 T D gr ad 0 0 (MQ below (va_Qv (fun Y1 => Y1 = res) (WB T D gr ad) (fun q => N0 ≤ q)) [.ref (ad 4 g0 0), .ref (ad 5 g1 0), .int a2].toArray s 0 0 (fun q => N0 ≤ q)) Y 0 [(0, .ref (ad 4 g0 0)), (1, .ref (ad 5 g1 0)), (2, .int a2)] [] := by
  unfold X4_copyTo at h
  refine fw_iconst C dX4_copyTo_0 (v := 0) rfl ?_
  refine fw_istore_n C dX4_copyTo_1 rfl (by decide) (L' := [(3, .int 0), (0, .ref (ad 4 g0 0)), (1, .ref (ad 5 g1 0)), (2, .int a2)]) rfl ?_
  exact w_X4_copyTo_b2 C hrt hG   _ _ _ h
end
set_option maxRecDepth 100000 in
set_option maxHeartbeats 4000000 in
theorem c_X4_copyTo {l : Launch} {N0 : Nat} {T : Nat → ClassId} {D : va_G} {gr : List (Nat × Nat)} {ad : Nat → Nat → Nat → Nat} {Y : Mem} {g0 : Nat} {g1 : Nat} {a2 : Int32} {res : Mem} (hG : ∀ q ∈ [(4, g0), (5, g1)], q ∈ gr) (h : X4_copyTo Y g0 g1 a2 = some res) : CV l yX4_copyTo wsX4_copyTo (Rm 1) N0 T D gr ad Y [.ref (ad 4 g0 0), .ref (ad 5 g1 0), .int a2] (fun Y1 => Y1 = res) :=
  fw_body (by decide +kernel) rfl (Nat.le_of_ble_eq_true rfl) (fun p e s m below meth c C hrt => w_X4_copyTo C hrt hG  h)
