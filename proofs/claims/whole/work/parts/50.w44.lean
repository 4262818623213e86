theorem ly_X3_runToBurn_3 : ∀ w ∈ u_ws RX3 TX3 5, w ∈ wsX3_runToBurn := by decide +kernel
theorem fl_X3_runToBurn_12 : Cond.fieldLink RX3 12 "RecipeScheduler$Kitchen" "state" "LRecipeScheduler$State;" ∈ wsX3_runToBurn := by decide +kernel
theorem ly_X3_runToBurn_8 : ∀ w ∈ u_ws RX8 TX8 15, w ∈ wsX3_runToBurn := by decide +kernel
section
variable {p : Program} {l : Launch} {e : Env} {s : State} {m : MethodId} {below : List Frame} {meth : Method} {c : Code} {N0 : Nat} {T : Nat → ClassId} {D : va_G} {gr : List (Nat × Nat)} {ad : Nat → Nat → Nat → Nat}
set_option maxRecDepth 100000 in
set_option maxHeartbeats 4000000 in
theorem w_X3_runToBurn_b16 {g0 : Nat} {a1 : Int32} (C : Cx p s m [.ref (ad 1 g0 0), .int a1].toArray meth c cX3_runToBurn 4 wsX3_runToBurn RX3 N0 T D gr ad) (hrt : meth.sig.returnType = (some .int)) (hG : ∀ q ∈ ([(2, g0), (1, g0)] ++ allG), q ∈ gr) {res : Int32 × Mem} : ∀ (n : Nat) (Y : Mem) (l3 : Int32) (l2 : Int32), X3_runToBurn_b16 g0 a1  n Y l3 l2 = some res → FW p l e (Rm 4) s m [.ref (ad 1 g0 0), .int a1].toArray below meth c 4 N0 T D gr ad 0 0 (MQ below (va_Qi (fun r Y1 => (r, Y1) = res) (WB T D gr ad) (fun q => N0 ≤ q)) [.ref (ad 1 g0 0), .int a1].toArray s 0 0 (fun q => N0 ≤ q)) Y 16 [(3, .int l3), (2, .int l2), (0, .ref (ad 1 g0 0)), (1, .int a1)] [] := by
  intro n
  induction n with
  | zero =>
    intro Y l3 l2 h
    unfold X3_runToBurn_b16 at h
    cases h
  | succ n ih =>
    intro Y l3 l2 h
    unfold X3_runToBurn_b16 at h
    refine fw_iload_n C dX3_runToBurn_16 rfl 0 rfl ?_
    refine fw_sipush C dX3_runToBurn_17 (v := 500) rfl ?_
    refine fw_icmp_gt C dX3_runToBurn_20 (tgt := 49) rfl (fun c7 => ?_) (fun c7 => ?_)
    · have h := ite_t c7 h
      refine fw_iconst C dX3_runToBurn_49 (v := (-1)) rfl ?_
      exact fw_iret C hrt Y (Option.some.inj h) (fun t ht => ht) dX3_runToBurn_50
    · have h := ite_f c7 h
      refine fw_aload_n C dX3_runToBurn_23 rfl 2 rfl ?_
      obtain ⟨r8, Y10, q9, h⟩ := bd2_some h
      refine fw_callVi C (ci := 1) (Cn := RX3) (Tc := TX3) (N := 5) (As := []) (c_X3_runMinute (gac (hG _ (List.mem_of_getElem? (i := 1) rfl)) (gac (hG _ (List.mem_of_getElem? (i := 0) rfl)) (fun q hq => hG q (List.mem_append_right _ hq)))) q9) (cwV 0 (cx_ts C) gX3_runToBurn_X3_runMinute rfl rfl rfl (by decide +kernel) ⟨Nat.le_of_ble_eq_true rfl, Nat.le_of_ble_eq_true rfl⟩) rfl (hG _ (List.mem_of_getElem? (i := 1) rfl)) (of1_0 _) (ce1 T ad _ _) rfl (st := []) rfl (Nat.le_of_ble_eq_true rfl) ⟨Nat.le_refl 0, Nat.le_refl 0⟩ dX3_runToBurn_24 (ppw ?_)
      refine fw_pop C dX3_runToBurn_27 rfl ?_
      refine fw_aload_n C dX3_runToBurn_28 rfl 2 rfl ?_
      refine fw_get C (ci := 1) (Cn := RX3) (Tc := TX3) (N := 5) (j := 1) ly_X3_runToBurn_3 rfl (hG _ (List.mem_of_getElem? (i := 1) rfl)) (of1_0 _) (ce1 T ad _ _) (by decide) (cx_ts C _ fl_X3_runToBurn_12) (fun _ h => h) (v := .ref (ad 2 g0 0)) rfl dX3_runToBurn_29 ?_
      refine fw_getN C (ci := 6) (Cn := RX8) (Tc := TX8) (N := 15) (j := 14) ly_X3_runToBurn_8 rfl (hG _ (List.mem_of_getElem? (i := 0) rfl)) (of2_0 _) (ce2 T ad _ _) (by decide) (Nst_use (cx_nst C) (w := .fieldLinkNest RX3 56 "RecipeScheduler$State" "burns" "[I" "RecipeScheduler") 478 (by decide +kernel) rfl) (fun _ h => h) (v := .ref (ad 2 g0 6)) rfl dX3_runToBurn_32 ?_
      refine fw_iload_n C dX3_runToBurn_35 rfl 3 rfl ?_
      obtain ⟨b11, h⟩ := gd_some h
      refine fw_iald2 C (hG _ (List.mem_of_getElem? (i := 0) rfl)) (of2_6 _) (ca2_6 T ad _ _) b11 (Nat.le_of_ble_eq_true rfl) dX3_runToBurn_36 ?_
      refine fw_iload_n C dX3_runToBurn_37 rfl 1 rfl ?_
      refine fw_icmp_le C dX3_runToBurn_38 (tgt := 43) rfl (fun c12 => ?_) (fun c12 => ?_)
      · have h := ite_t c12 h
        refine fw_iinc C dX3_runToBurn_43 (kk := 0) (v := l3 + 1) rfl rfl (by decide) (L' := [(3, .int (l3 + 1)), (2, .int l2), (0, .ref (ad 1 g0 0)), (1, .int a1)]) rfl ?_
        refine fw_goto C dX3_runToBurn_46 (tgt := 16) rfl ?_
        exact ih _ _ _ h
      · have h := ite_f c12 h
        refine fw_iload_n C dX3_runToBurn_41 rfl 0 rfl ?_
        exact fw_iret C hrt Y10 (Option.some.inj h) (fun t ht => ht) dX3_runToBurn_42
set_option maxRecDepth 100000 in
set_option maxHeartbeats 4000000 in
theorem w_X3_runToBurn {Y : Mem} {g0 : Nat} {a1 : Int32} (C : Cx p s m [.ref (ad 1 g0 0), .int a1].toArray meth c cX3_runToBurn 4 wsX3_runToBurn RX3 N0 T D gr ad) (hrt : meth.sig.returnType = (some .int)) (hG : ∀ q ∈ ([(2, g0), (1, g0)] ++ allG), q ∈ gr) {res : Int32 × Mem} (h : X3_runToBurn Y g0 a1 = some res) : FW p l e (Rm 4) s m [.ref (ad 1 g0 0), .int a1].toArray below meth c 4 N0 T D gr ad 0 0 (MQ below (va_Qi (fun r Y1 => (r, Y1) = res) (WB T D gr ad) (fun q => N0 ≤ q)) [.ref (ad 1 g0 0), .int a1].toArray s 0 0 (fun q => N0 ≤ q)) Y 0 [(0, .ref (ad 1 g0 0)), (1, .int a1)] [] := by
  unfold X3_runToBurn at h
  refine fw_aload_n C dX3_runToBurn_0 rfl 0 rfl ?_
  obtain ⟨Y3, q2, h⟩ := bd1_some h
  refine fw_callVv C (ci := 1) (Cn := RX3) (Tc := TX3) (N := 5) (As := []) (c_X3_rank (gac (hG _ (List.mem_of_getElem? (i := 1) rfl)) (gac (hG _ (List.mem_of_getElem? (i := 0) rfl)) (fun q hq => hG q (List.mem_append_right _ hq)))) q2) (cwV 0 (cx_ts C) gX3_runToBurn_X3_rank rfl rfl rfl (by decide +kernel) ⟨Nat.le_of_ble_eq_true rfl, Nat.le_of_ble_eq_true rfl⟩) rfl (hG _ (List.mem_of_getElem? (i := 1) rfl)) (of1_0 _) (ce1 T ad _ _) rfl (st := []) rfl (Nat.le_of_ble_eq_true rfl) ⟨Nat.le_refl 0, Nat.le_refl 0⟩ dX3_runToBurn_1 (ppv ?_)
  refine fw_aload_n C dX3_runToBurn_4 rfl 0 rfl ?_
  refine fw_get C (ci := 1) (Cn := RX3) (Tc := TX3) (N := 5) (j := 1) ly_X3_runToBurn_3 rfl (hG _ (List.mem_of_getElem? (i := 1) rfl)) (of1_0 _) (ce1 T ad _ _) (by decide) (cx_ts C _ fl_X3_runToBurn_12) (fun _ h => h) (v := .ref (ad 2 g0 0)) rfl dX3_runToBurn_5 ?_
  refine fw_getN C (ci := 6) (Cn := RX8) (Tc := TX8) (N := 15) (j := 14) ly_X3_runToBurn_8 rfl (hG _ (List.mem_of_getElem? (i := 0) rfl)) (of2_0 _) (ce2 T ad _ _) (by decide) (Nst_use (cx_nst C) (w := .fieldLinkNest RX3 56 "RecipeScheduler$State" "burns" "[I" "RecipeScheduler") 478 (by decide +kernel) rfl) (fun _ h => h) (v := .ref (ad 2 g0 6)) rfl dX3_runToBurn_8 ?_
  refine fw_iload_n C dX3_runToBurn_11 rfl 1 rfl ?_
  obtain ⟨b4, h⟩ := gd_some h
  refine fw_iald2 C (hG _ (List.mem_of_getElem? (i := 0) rfl)) (of2_6 _) (ca2_6 T ad _ _) b4 (Nat.le_of_ble_eq_true rfl) dX3_runToBurn_12 ?_
  obtain ⟨v5, e6, h⟩ := lt_some h
  refine fw_top (v' := .int v5) (by rw [e6]) ?_
  refine fw_istore_n C dX3_runToBurn_13 rfl (by decide) (L' := [(2, .int v5), (0, .ref (ad 1 g0 0)), (1, .int a1)]) rfl ?_
  refine fw_iconst C dX3_runToBurn_14 (v := 1) rfl ?_
  refine fw_istore_n C dX3_runToBurn_15 rfl (by decide) (L' := [(3, .int 1), (2, .int v5), (0, .ref (ad 1 g0 0)), (1, .int a1)]) rfl ?_
  exact w_X3_runToBurn_b16 C hrt hG   _ _ _ _ h
end
set_option maxRecDepth 100000 in
set_option maxHeartbeats 4000000 in
theorem c_X3_runToBurn {l : Launch} {N0 : Nat} {T : Nat → ClassId} {D : va_G} {gr : List (Nat × Nat)} {ad : Nat → Nat → Nat → Nat} {Y : Mem} {g0 : Nat} {a1 : Int32} {res : Int32 × Mem} (hG : ∀ q ∈ ([(2, g0), (1, g0)] ++ allG), q ∈ gr) (h : X3_runToBurn Y g0 a1 = some res) : CI l yX3_runToBurn wsX3_runToBurn (Rm 4) N0 T D gr ad Y [.ref (ad 1 g0 0), .int a1] (fun r Y1 => (r, Y1) = res) :=
  fw_body (by decide +kernel) rfl (Nat.le_of_ble_eq_true rfl) (fun p e s m below meth c C hrt => w_X3_runToBurn C hrt hG  h)
theorem ly_X11_minutesToBurn_11 : ∀ w ∈ u_ws RX11 TX11 11, w ∈ wsX11_minutesToBurn := by decide +kernel
theorem fl_X11_minutesToBurn_71 : Cond.fieldLink RX11 71 "RecipeScheduler" "forecast" "LRecipeScheduler$Kitchen;" ∈ wsX11_minutesToBurn := by decide +kernel
theorem fl_X11_minutesToBurn_67 : Cond.fieldLink RX11 67 "RecipeScheduler" "now" "LRecipeScheduler$Kitchen;" ∈ wsX11_minutesToBurn := by decide +kernel
section
variable {p : Program} {l : Launch} {e : Env} {s : State} {m : MethodId} {below : List Frame} {meth : Method} {c : Code} {N0 : Nat} {T : Nat → ClassId} {D : va_G} {gr : List (Nat × Nat)} {ad : Nat → Nat → Nat → Nat}
set_option maxRecDepth 100000 in
set_option maxHeartbeats 4000000 in
theorem w_X11_minutesToBurn {Y : Mem} {a1 : Int32} (C : Cx p s m [.ref (ad 0 0 0), .int a1].toArray meth c cX11_minutesToBurn 2 wsX11_minutesToBurn RX11 N0 T D gr ad) (hrt : meth.sig.returnType = (some .int)) (hG : ∀ q ∈ ([(1, 0), (0, 0), (2, 0), (2, 1), (1, 1)] ++ allG), q ∈ gr) (hl : l.stackTraces = false) (hX : ∀ x ∈ c.exceptionTable.toList, False) {res : (Nat × Mem) ⊕ (Int32 × Mem)} (h : X11_minutesToBurn Y a1 = some res) : FW p l e (Rx 7 1) s m [.ref (ad 0 0 0), .int a1].toArray below meth c 2 N0 T D gr ad 0 0 (vx_MQ below (va_Qi (fun r Y1 => Sum.inr (r, Y1) = res) (WB T D gr ad) (fun q => N0 ≤ q)) (vx_X (fun u => Sum.inl u = res) (XB T D gr ad) (fun q => N0 ≤ q)) [.ref (ad 0 0 0), .int a1].toArray s 1 6 (fun q => N0 ≤ q)) Y 0 [(0, .ref (ad 0 0 0)), (1, .int a1)] [] := by
  unfold X11_minutesToBurn at h
  refine fw_aload_n C dX11_minutesToBurn_0 rfl 0 rfl ?_
  refine fw_iload_n C dX11_minutesToBurn_1 rfl 1 rfl ?_
  rcases bdxv_some h with ⟨x5, q2, e6⟩ | ⟨Y4, q2, h⟩
  · exact fw_callXVv_l C (ci := 9) (Cn := RX11) (Tc := TX11) (N := 11) (As := [.int a1]) (c_X11_requireStep hl (gac (hG _ (List.mem_of_getElem? (i := 1) rfl)) (gac (hG _ (List.mem_of_getElem? (i := 0) rfl)) (fun q hq => hG q (List.mem_append_right _ hq)))) q2) (cwV 1 (cx_ts C) gX11_minutesToBurn_X11_requireStep rfl rfl rfl (by decide +kernel) ⟨Nat.le_of_ble_eq_true rfl, Nat.le_of_ble_eq_true rfl⟩) rfl (hG _ (List.mem_of_getElem? (i := 1) rfl)) (of0_0 _) (ce0 T ad _ _) rfl (st := []) rfl (Nat.le_of_ble_eq_true rfl) ⟨Nat.le_of_ble_eq_true rfl, Nat.le_of_ble_eq_true rfl⟩ dX11_minutesToBurn_2 hX e6 (Nat.le_of_ble_eq_true rfl) (Nat.le_of_ble_eq_true rfl)
  refine fw_callXVv_r C (ci := 9) (Cn := RX11) (Tc := TX11) (N := 11) (As := [.int a1]) (c_X11_requireStep hl (gac (hG _ (List.mem_of_getElem? (i := 1) rfl)) (gac (hG _ (List.mem_of_getElem? (i := 0) rfl)) (fun q hq => hG q (List.mem_append_right _ hq)))) q2) (cwV 1 (cx_ts C) gX11_minutesToBurn_X11_requireStep rfl rfl rfl (by decide +kernel) ⟨Nat.le_of_ble_eq_true rfl, Nat.le_of_ble_eq_true rfl⟩) rfl (hG _ (List.mem_of_getElem? (i := 1) rfl)) (of0_0 _) (ce0 T ad _ _) rfl (st := []) rfl (Nat.le_of_ble_eq_true rfl) ⟨Nat.le_of_ble_eq_true rfl, Nat.le_of_ble_eq_true rfl⟩ dX11_minutesToBurn_2 ?_
  refine fw_aload_n C dX11_minutesToBurn_5 rfl 0 rfl ?_
  refine fw_get C (ci := 9) (Cn := RX11) (Tc := TX11) (N := 11) (j := 6) ly_X11_minutesToBurn_11 rfl (hG _ (List.mem_of_getElem? (i := 1) rfl)) (of0_0 _) (ce0 T ad _ _) (by decide) (cx_ts C _ fl_X11_minutesToBurn_71) (fun _ h => h) (v := .ref (ad 1 1 0)) rfl dX11_minutesToBurn_6 ?_
  refine fw_aload_n C dX11_minutesToBurn_9 rfl 0 rfl ?_
  refine fw_get C (ci := 9) (Cn := RX11) (Tc := TX11) (N := 11) (j := 5) ly_X11_minutesToBurn_11 rfl (hG _ (List.mem_of_getElem? (i := 1) rfl)) (of0_0 _) (ce0 T ad _ _) (by decide) (cx_ts C _ fl_X11_minutesToBurn_67) (fun _ h => h) (v := .ref (ad 1 0 0)) rfl dX11_minutesToBurn_10 ?_
  obtain ⟨Y9, q8, h⟩ := bd1_some h
  refine fw_callVv C (ci := 1) (Cn := RX3) (Tc := TX3) (N := 5) (As := [.ref (ad 1 0 0)]) (c_X3_copyFrom (gac (hG _ (List.mem_of_getElem? (i := 0) rfl)) (gac (hG _ (List.mem_of_getElem? (i := 4) rfl)) (gac (hG _ (List.mem_of_getElem? (i := 3) rfl)) (gac (hG _ (List.mem_of_getElem? (i := 2) rfl)) (fun q hq => hG q (List.mem_append_right _ hq)))))) q8) (cwV 1 (cx_ts C) gX11_minutesToBurn_X3_copyFrom rfl rfl rfl (by decide +kernel) ⟨Nat.le_of_ble_eq_true rfl, Nat.le_of_ble_eq_true rfl⟩) rfl (hG _ (List.mem_of_getElem? (i := 4) rfl)) (of1_0 _) (ce1 T ad _ _) rfl (st := []) rfl (Nat.le_of_ble_eq_true rfl) ⟨Nat.le_of_ble_eq_true rfl, Nat.le_of_ble_eq_true rfl⟩ dX11_minutesToBurn_13 (ppv ?_)
  refine fw_aload_n C dX11_minutesToBurn_16 rfl 0 rfl ?_
  refine fw_get C (ci := 9) (Cn := RX11) (Tc := TX11) (N := 11) (j := 6) ly_X11_minutesToBurn_11 rfl (hG _ (List.mem_of_getElem? (i := 1) rfl)) (of0_0 _) (ce0 T ad _ _) (by decide) (cx_ts C _ fl_X11_minutesToBurn_71) (fun _ h => h) (v := .ref (ad 1 1 0)) rfl dX11_minutesToBurn_17 ?_
  refine fw_iload_n C dX11_minutesToBurn_20 rfl 1 rfl ?_
  obtain ⟨r10, Y12, q11, h⟩ := bd2_some h
  refine fw_callVi C (ci := 1) (Cn := RX3) (Tc := TX3) (N := 5) (As := [.int a1]) (c_X3_runToBurn (gac (hG _ (List.mem_of_getElem? (i := 3) rfl)) (gac (hG _ (List.mem_of_getElem? (i := 4) rfl)) (fun q hq => hG q (List.mem_append_right _ hq)))) q11) (cwV 1 (cx_ts C) gX11_minutesToBurn_X3_runToBurn rfl rfl rfl (by decide +kernel) ⟨Nat.le_of_ble_eq_true rfl, Nat.le_of_ble_eq_true rfl⟩) rfl (hG _ (List.mem_of_getElem? (i := 4) rfl)) (of1_0 _) (ce1 T ad _ _) rfl (st := []) rfl (Nat.le_of_ble_eq_true rfl) ⟨Nat.le_of_ble_eq_true rfl, Nat.le_of_ble_eq_true rfl⟩ dX11_minutesToBurn_21 (ppw ?_)
  refine fw_xr (Nat.le_of_ble_eq_true rfl) (Nat.le_of_ble_eq_true rfl) ?_
  exact fw_iret C hrt Y12 (Option.some.inj h) (fun t ht => ht) dX11_minutesToBurn_24
end
set_option maxRecDepth 100000 in
set_option maxHeartbeats 4000000 in
theorem c_X11_minutesToBurn {l : Launch} {N0 : Nat} {T : Nat → ClassId} {D : va_G} {gr : List (Nat × Nat)} {ad : Nat → Nat → Nat → Nat} {Y : Mem} {a1 : Int32} {res : (Nat × Mem) ⊕ (Int32 × Mem)} (hl : l.stackTraces = false) (hG : ∀ q ∈ ([(1, 0), (0, 0), (2, 0), (2, 1), (1, 1)] ++ allG), q ∈ gr) (h : X11_minutesToBurn Y a1 = some res) : CXi l yX11_minutesToBurn wsX11_minutesToBurn (Rx 7 1) N0 T D gr ad Y [.ref (ad 0 0 0), .int a1] 1 res :=
  fw_xbody (by decide +kernel) rfl (Nat.le_of_ble_eq_true rfl) (fun p e s m below meth c C hrt hX => w_X11_minutesToBurn C hrt hG hl hX h)
theorem ly_X11_minutesToFinish_11 : ∀ w ∈ u_ws RX11 TX11 11, w ∈ wsX11_minutesToFinish := by decide +kernel
theorem fl_X11_minutesToFinish_71 : Cond.fieldLink RX11 71 "RecipeScheduler" "forecast" "LRecipeScheduler$Kitchen;" ∈ wsX11_minutesToFinish := by decide +kernel
theorem fl_X11_minutesToFinish_67 : Cond.fieldLink RX11 67 "RecipeScheduler" "now" "LRecipeScheduler$Kitchen;" ∈ wsX11_minutesToFinish := by decide +kernel
section
variable {p : Program} {l : Launch} {e : Env} {s : State} {m : MethodId} {below : List Frame} {meth : Method} {c : Code} {N0 : Nat} {T : Nat → ClassId} {D : va_G} {gr : List (Nat × Nat)} {ad : Nat → Nat → Nat → Nat}
set_option maxRecDepth 100000 in
set_option maxHeartbeats 4000000 in
theorem w_X11_minutesToFinish {Y : Mem} (C : Cx p s m [.ref (ad 0 0 0)].toArray meth c cX11_minutesToFinish 1 wsX11_minutesToFinish RX11 N0 T D gr ad) (hrt : meth.sig.returnType = (some .int)) (hG : ∀ q ∈ ([(0, 0), (2, 0), (2, 1), (1, 1), (1, 0)] ++ allG), q ∈ gr) {res : Int32 × Mem} (h : X11_minutesToFinish Y = some res) : FW p l e (Rm 5) s m [.ref (ad 0 0 0)].toArray below meth c 1 N0 T D gr ad 0 0 (MQ below (va_Qi (fun r Y1 => (r, Y1) = res) (WB T D gr ad) (fun q => N0 ≤ q)) [.ref (ad 0 0 0)].toArray s 0 0 (fun q => N0 ≤ q)) Y 0 [(0, .ref (ad 0 0 0))] [] := by
  unfold X11_minutesToFinish at h
  refine fw_aload_n C dX11_minutesToFinish_0 rfl 0 rfl ?_
  refine fw_get C (ci := 9) (Cn := RX11) (Tc := TX11) (N := 11) (j := 6) ly_X11_minutesToFinish_11 rfl (hG _ (List.mem_of_getElem? (i := 0) rfl)) (of0_0 _) (ce0 T ad _ _) (by decide) (cx_ts C _ fl_X11_minutesToFinish_71) (fun _ h => h) (v := .ref (ad 1 1 0)) rfl dX11_minutesToFinish_1 ?_
  refine fw_aload_n C dX11_minutesToFinish_4 rfl 0 rfl ?_
  refine fw_get C (ci := 9) (Cn := RX11) (Tc := TX11) (N := 11) (j := 5) ly_X11_minutesToFinish_11 rfl (hG _ (List.mem_of_getElem? (i := 0) rfl)) (of0_0 _) (ce0 T ad _ _) (by decide) (cx_ts C _ fl_X11_minutesToFinish_67) (fun _ h => h) (v := .ref (ad 1 0 0)) rfl dX11_minutesToFinish_5 ?_
  obtain ⟨Y3, q2, h⟩ := bd1_some h
  refine fw_callVv C (ci := 1) (Cn := RX3) (Tc := TX3) (N := 5) (As := [.ref (ad 1 0 0)]) (c_X3_copyFrom (gac (hG _ (List.mem_of_getElem? (i := 4) rfl)) (gac (hG _ (List.mem_of_getElem? (i := 3) rfl)) (gac (hG _ (List.mem_of_getElem? (i := 2) rfl)) (gac (hG _ (List.mem_of_getElem? (i := 1) rfl)) (fun q hq => hG q (List.mem_append_right _ hq)))))) q2) (cwV 1 (cx_ts C) gX11_minutesToFinish_X3_copyFrom rfl rfl rfl (by decide +kernel) ⟨Nat.le_of_ble_eq_true rfl, Nat.le_of_ble_eq_true rfl⟩) rfl (hG _ (List.mem_of_getElem? (i := 3) rfl)) (of1_0 _) (ce1 T ad _ _) rfl (st := []) rfl (Nat.le_of_ble_eq_true rfl) ⟨Nat.le_refl 0, Nat.le_refl 0⟩ dX11_minutesToFinish_8 (ppv ?_)
  refine fw_aload_n C dX11_minutesToFinish_11 rfl 0 rfl ?_
  refine fw_get C (ci := 9) (Cn := RX11) (Tc := TX11) (N := 11) (j := 6) ly_X11_minutesToFinish_11 rfl (hG _ (List.mem_of_getElem? (i := 0) rfl)) (of0_0 _) (ce0 T ad _ _) (by decide) (cx_ts C _ fl_X11_minutesToFinish_71) (fun _ h => h) (v := .ref (ad 1 1 0)) rfl dX11_minutesToFinish_12 ?_
  obtain ⟨r4, Y6, q5, h⟩ := bd2_some h
  refine fw_callVi C (ci := 1) (Cn := RX3) (Tc := TX3) (N := 5) (As := []) (c_X3_runToFinish (gac (hG _ (List.mem_of_getElem? (i := 2) rfl)) (gac (hG _ (List.mem_of_getElem? (i := 3) rfl)) (fun q hq => hG q (List.mem_append_right _ hq)))) q5) (cwV 0 (cx_ts C) gX11_minutesToFinish_X3_runToFinish rfl rfl rfl (by decide +kernel) ⟨Nat.le_of_ble_eq_true rfl, Nat.le_of_ble_eq_true rfl⟩) rfl (hG _ (List.mem_of_getElem? (i := 3) rfl)) (of1_0 _) (ce1 T ad _ _) rfl (st := []) rfl (Nat.le_of_ble_eq_true rfl) ⟨Nat.le_refl 0, Nat.le_refl 0⟩ dX11_minutesToFinish_15 (ppw ?_)
  exact fw_iret C hrt Y6 (Option.some.inj h) (fun t ht => ht) dX11_minutesToFinish_18
end
set_option maxRecDepth 100000 in
set_option maxHeartbeats 4000000 in
theorem c_X11_minutesToFinish {l : Launch} {N0 : Nat} {T : Nat → ClassId} {D : va_G} {gr : List (Nat × Nat)} {ad : Nat → Nat → Nat → Nat} {Y : Mem} {res : Int32 × Mem} (hG : ∀ q ∈ ([(0, 0), (2, 0), (2, 1), (1, 1), (1, 0)] ++ allG), q ∈ gr) (h : X11_minutesToFinish Y = some res) : CI l yX11_minutesToFinish wsX11_minutesToFinish (Rm 5) N0 T D gr ad Y [.ref (ad 0 0 0)] (fun r Y1 => (r, Y1) = res) :=
  fw_body (by decide +kernel) rfl (Nat.le_of_ble_eq_true rfl) (fun p e s m below meth c C hrt => w_X11_minutesToFinish C hrt hG  h)
theorem th_X11_requireCooks_8 : Cond.classLink RX11 109 "java/lang/IllegalArgumentException" ∈ wsX11_requireCooks ∧ Cond.initialized "java/lang/IllegalArgumentException" ∈ wsX11_requireCooks ∧ ∀ w ∈ (vx_atS RX11 113 "java/lang/IllegalArgumentException" ["java/lang/RuntimeException", "java/lang/Exception"]).filter goodWord, w ∈ wsX11_requireCooks := by decide +kernel
section
variable {p : Program} {l : Launch} {e : Env} {s : State} {m : MethodId} {below : List Frame} {meth : Method} {c : Code} {N0 : Nat} {T : Nat → ClassId} {D : va_G} {gr : List (Nat × Nat)} {ad : Nat → Nat → Nat → Nat}
set_option maxRecDepth 100000 in
set_option maxHeartbeats 4000000 in
theorem w_X11_requireCooks {Y : Mem} {a1 : Int32} (C : Cx p s m [.ref (ad 0 0 0), .int a1].toArray meth c cX11_requireCooks 2 wsX11_requireCooks RX11 N0 T D gr ad) (hrt : meth.sig.returnType = none) (hG : ∀ q ∈ [(0, 0)], q ∈ gr) (hl : l.stackTraces = false) (hX : ∀ x ∈ c.exceptionTable.toList, False) {res : (Nat × Mem) ⊕ Mem} (h : X11_requireCooks Y a1 = some res) : FW p l e (Rx 6 1) s m [.ref (ad 0 0 0), .int a1].toArray below meth c 2 N0 T D gr ad 0 0 (vx_MQ below (va_Qv (fun Y1 => Sum.inr Y1 = res) (WB T D gr ad) (fun q => N0 ≤ q)) (vx_X (fun u => Sum.inl u = res) (XB T D gr ad) (fun q => N0 ≤ q)) [.ref (ad 0 0 0), .int a1].toArray s 1 6 (fun q => N0 ≤ q)) Y 0 [(0, .ref (ad 0 0 0)), (1, .int a1)] [] := by
  unfold X11_requireCooks at h
  refine fw_aload_n C dX11_requireCooks_0 rfl 0 rfl ?_
  refine fw_iload_n C dX11_requireCooks_1 rfl 1 rfl ?_
  obtain ⟨r1, q2, h⟩ := bd1_some h
  refine fw_callVi C (ci := 9) (Cn := RX11) (Tc := TX11) (N := 11) (As := [.int a1]) (c_X11_isCookCount ga0 q2) (cwV 1 (cx_ts C) gX11_requireCooks_X11_isCookCount rfl rfl rfl (by decide +kernel) ⟨Nat.le_of_ble_eq_true rfl, Nat.le_of_ble_eq_true rfl⟩) rfl (hG _ (List.mem_of_getElem? (i := 0) rfl)) (of0_0 _) (ce0 T ad _ _) rfl (st := []) rfl (Nat.le_of_ble_eq_true rfl) ⟨Nat.le_of_ble_eq_true rfl, Nat.le_of_ble_eq_true rfl⟩ dX11_requireCooks_2 (pp2 ?_)
  refine fw_if_ne C dX11_requireCooks_5 (tgt := 19) rfl (fun c3 => ?_) (fun c3 => ?_)
  · have h := ite_f c3 h
    refine fw_xr (Nat.le_of_ble_eq_true rfl) (Nat.le_of_ble_eq_true rfl) ?_
    exact fw_vret C hrt Y (Option.some.inj h) (fun t ht => ht) dX11_requireCooks_19
  · have h := ite_t c3 h
    exact fw_throwSW C hl hX (cls := "java/lang/IllegalArgumentException") (names := ["java/lang/RuntimeException", "java/lang/Exception"]) 2 rfl (by decide +kernel) (by decide +kernel) (cx_ts C _ th_X11_requireCooks_8.1) (cx_ts C _ th_X11_requireCooks_8.2.1) (sr_17 (cx_st C)) (vx_hat (fun w hw => cx_ts C _ (th_X11_requireCooks_8.2.2 w hw)) tg_2_113_109b (vx_c (Nst_use (cx_nst C) (w := .castable "java/lang/IllegalArgumentException" "java/lang/IllegalArgumentException") 905 (by decide +kernel) rfl) (vx_c (Nst_use (cx_nst C) 826 (by decide +kernel) rfl) (vx_c (Nst_use (cx_nst C) 828 (by decide +kernel) rfl) (vx_c (Nst_use (cx_nst C) 830 (by decide +kernel) rfl) vx_n))))) tg_2_113_109 dX11_requireCooks_8 dX11_requireCooks_11 dX11_requireCooks_12 dX11_requireCooks_15 dX11_requireCooks_18 (Nat.le_of_ble_eq_true rfl) (Nat.le_of_ble_eq_true rfl) (Nat.le_of_ble_eq_true rfl) (Nat.le_of_ble_eq_true rfl) (Nat.le_of_ble_eq_true rfl) (Nat.le_of_ble_eq_true rfl) (Option.some.inj h)
end
set_option maxRecDepth 100000 in
set_option maxHeartbeats 4000000 in
theorem c_X11_requireCooks {l : Launch} {N0 : Nat} {T : Nat → ClassId} {D : va_G} {gr : List (Nat × Nat)} {ad : Nat → Nat → Nat → Nat} {Y : Mem} {a1 : Int32} {res : (Nat × Mem) ⊕ Mem} (hl : l.stackTraces = false) (hG : ∀ q ∈ [(0, 0)], q ∈ gr) (h : X11_requireCooks Y a1 = some res) : CXv l yX11_requireCooks wsX11_requireCooks (Rx 6 1) N0 T D gr ad Y [.ref (ad 0 0 0), .int a1] 1 res :=
  fw_xbody (by decide +kernel) rfl (Nat.le_of_ble_eq_true rfl) (fun p e s m below meth c C hrt hX => w_X11_requireCooks C hrt hG hl hX h)
section
variable {p : Program} {l : Launch} {e : Env} {s : State} {m : MethodId} {below : List Frame} {meth : Method} {c : Code} {N0 : Nat} {T : Nat → ClassId} {D : va_G} {gr : List (Nat × Nat)} {ad : Nat → Nat → Nat → Nat}
set_option maxRecDepth 100000 in
set_option maxHeartbeats 4000000 in
theorem w_X11_minutesWithCooks {Y : Mem} {a1 : Int32} (C : Cx p s m [.ref (ad 0 0 0), .int a1].toArray meth c cX11_minutesWithCooks 2 wsX11_minutesWithCooks RX11 N0 T D gr ad) (hrt : meth.sig.returnType = (some .int)) (hG : ∀ q ∈ ([(0, 0), (1, 0), (1, 1), (2, 1), (2, 0)] ++ allG), q ∈ gr) (hl : l.stackTraces = false) (hX : ∀ x ∈ c.exceptionTable.toList, False) {res : (Nat × Mem) ⊕ (Int32 × Mem)} (h : X11_minutesWithCooks Y a1 = some res) : FW p l e (Rx 7 1) s m [.ref (ad 0 0 0), .int a1].toArray below meth c 2 N0 T D gr ad 0 0 (vx_MQ below (va_Qi (fun r Y1 => Sum.inr (r, Y1) = res) (WB T D gr ad) (fun q => N0 ≤ q)) (vx_X (fun u => Sum.inl u = res) (XB T D gr ad) (fun q => N0 ≤ q)) [.ref (ad 0 0 0), .int a1].toArray s 1 6 (fun q => N0 ≤ q)) Y 0 [(0, .ref (ad 0 0 0)), (1, .int a1)] [] := by
  unfold X11_minutesWithCooks at h
  refine fw_aload_n C dX11_minutesWithCooks_0 rfl 0 rfl ?_
  refine fw_iload_n C dX11_minutesWithCooks_1 rfl 1 rfl ?_
  rcases bdxv_some h with ⟨x5, q2, e6⟩ | ⟨Y4, q2, h⟩
  · exact fw_callXVv_l C (ci := 9) (Cn := RX11) (Tc := TX11) (N := 11) (As := [.int a1]) (c_X11_requireCooks hl (gac (hG _ (List.mem_of_getElem? (i := 0) rfl)) ga0) q2) (cwV 1 (cx_ts C) gX11_minutesWithCooks_X11_requireCooks rfl rfl rfl (by decide +kernel) ⟨Nat.le_of_ble_eq_true rfl, Nat.le_of_ble_eq_true rfl⟩) rfl (hG _ (List.mem_of_getElem? (i := 0) rfl)) (of0_0 _) (ce0 T ad _ _) rfl (st := []) rfl (Nat.le_of_ble_eq_true rfl) ⟨Nat.le_of_ble_eq_true rfl, Nat.le_of_ble_eq_true rfl⟩ dX11_minutesWithCooks_2 hX e6 (Nat.le_of_ble_eq_true rfl) (Nat.le_of_ble_eq_true rfl)
  refine fw_callXVv_r C (ci := 9) (Cn := RX11) (Tc := TX11) (N := 11) (As := [.int a1]) (c_X11_requireCooks hl (gac (hG _ (List.mem_of_getElem? (i := 0) rfl)) ga0) q2) (cwV 1 (cx_ts C) gX11_minutesWithCooks_X11_requireCooks rfl rfl rfl (by decide +kernel) ⟨Nat.le_of_ble_eq_true rfl, Nat.le_of_ble_eq_true rfl⟩) rfl (hG _ (List.mem_of_getElem? (i := 0) rfl)) (of0_0 _) (ce0 T ad _ _) rfl (st := []) rfl (Nat.le_of_ble_eq_true rfl) ⟨Nat.le_of_ble_eq_true rfl, Nat.le_of_ble_eq_true rfl⟩ dX11_minutesWithCooks_2 ?_
  refine fw_aload_n C dX11_minutesWithCooks_5 rfl 0 rfl ?_
  refine fw_iload_n C dX11_minutesWithCooks_6 rfl 1 rfl ?_
  obtain ⟨r7, Y9, q8, h⟩ := bd2_some h
  refine fw_callVi C (ci := 9) (Cn := RX11) (Tc := TX11) (N := 11) (As := [.int a1]) (c_X11_finishWithCooks (gac (hG _ (List.mem_of_getElem? (i := 0) rfl)) (gac (hG _ (List.mem_of_getElem? (i := 4) rfl)) (gac (hG _ (List.mem_of_getElem? (i := 3) rfl)) (gac (hG _ (List.mem_of_getElem? (i := 2) rfl)) (gac (hG _ (List.mem_of_getElem? (i := 1) rfl)) (fun q hq => hG q (List.mem_append_right _ hq))))))) q8) (cwV 1 (cx_ts C) gX11_minutesWithCooks_X11_finishWithCooks rfl rfl rfl (by decide +kernel) ⟨Nat.le_of_ble_eq_true rfl, Nat.le_of_ble_eq_true rfl⟩) rfl (hG _ (List.mem_of_getElem? (i := 0) rfl)) (of0_0 _) (ce0 T ad _ _) rfl (st := []) rfl (Nat.le_of_ble_eq_true rfl) ⟨Nat.le_of_ble_eq_true rfl, Nat.le_of_ble_eq_true rfl⟩ dX11_minutesWithCooks_7 (ppw ?_)
  refine fw_xr (Nat.le_of_ble_eq_true rfl) (Nat.le_of_ble_eq_true rfl) ?_
  exact fw_iret C hrt Y9 (Option.some.inj h) (fun t ht => ht) dX11_minutesWithCooks_10
end
set_option maxRecDepth 100000 in
set_option maxHeartbeats 4000000 in
theorem c_X11_minutesWithCooks {l : Launch} {N0 : Nat} {T : Nat → ClassId} {D : va_G} {gr : List (Nat × Nat)} {ad : Nat → Nat → Nat → Nat} {Y : Mem} {a1 : Int32} {res : (Nat × Mem) ⊕ (Int32 × Mem)} (hl : l.stackTraces = false) (hG : ∀ q ∈ ([(0, 0), (1, 0), (1, 1), (2, 1), (2, 0)] ++ allG), q ∈ gr) (h : X11_minutesWithCooks Y a1 = some res) : CXi l yX11_minutesWithCooks wsX11_minutesWithCooks (Rx 7 1) N0 T D gr ad Y [.ref (ad 0 0 0), .int a1] 1 res :=
  fw_xbody (by decide +kernel) rfl (Nat.le_of_ble_eq_true rfl) (fun p e s m below meth c C hrt hX => w_X11_minutesWithCooks C hrt hG hl hX h)
theorem ly_X11_nameLetter_11 : ∀ w ∈ u_ws RX11 TX11 11, w ∈ wsX11_nameLetter := by decide +kernel
theorem fl_X11_nameLetter_67 : Cond.fieldLink RX11 67 "RecipeScheduler" "now" "LRecipeScheduler$Kitchen;" ∈ wsX11_nameLetter := by decide +kernel
theorem ly_X11_nameLetter_3 : ∀ w ∈ u_ws RX3 TX3 5, w ∈ wsX11_nameLetter := by decide +kernel
theorem ly_X11_nameLetter_5 : ∀ w ∈ u_ws RX5 TX5 17, w ∈ wsX11_nameLetter := by decide +kernel
theorem ly_X11_nameLetter_4 : ∀ w ∈ u_ws RX4 TX4 3, w ∈ wsX11_nameLetter := by decide +kernel
theorem th_X11_nameLetter_30 : Cond.classLink RX11 237 "java/lang/IndexOutOfBoundsException" ∈ wsX11_nameLetter ∧ Cond.initialized "java/lang/IndexOutOfBoundsException" ∈ wsX11_nameLetter ∧ ∀ w ∈ (vx_atS RX11 241 "java/lang/IndexOutOfBoundsException" ["java/lang/RuntimeException", "java/lang/Exception"]).filter goodWord, w ∈ wsX11_nameLetter := by decide +kernel
section
variable {p : Program} {l : Launch} {e : Env} {s : State} {m : MethodId} {below : List Frame} {meth : Method} {c : Code} {N0 : Nat} {T : Nat → ClassId} {D : va_G} {gr : List (Nat × Nat)} {ad : Nat → Nat → Nat → Nat}
set_option maxRecDepth 100000 in
set_option maxHeartbeats 4000000 in
theorem w_X11_nameLetter {Y : Mem} {a1 : Int32} {a2 : Int32} (C : Cx p s m [.ref (ad 0 0 0), .int a1, .int a2].toArray meth c cX11_nameLetter 3 wsX11_nameLetter RX11 N0 T D gr ad) (hrt : meth.sig.returnType = (some .int)) (hG : ∀ q ∈ ([(1, 0), (0, 0)] ++ allG), q ∈ gr) (hl : l.stackTraces = false) (hX : ∀ x ∈ c.exceptionTable.toList, False) {res : (Nat × Mem) ⊕ (Int32 × Mem)} (h : X11_nameLetter Y a1 a2 = some res) : FW p l e (Rx 7 2) s m [.ref (ad 0 0 0), .int a1, .int a2].toArray below meth c 3 N0 T D gr ad 0 0 (vx_MQ below (va_Qi (fun r Y1 => Sum.inr (r, Y1) = res) (WB T D gr ad) (fun q => N0 ≤ q)) (vx_X (fun u => Sum.inl u = res) (XB T D gr ad) (fun q => N0 ≤ q)) [.ref (ad 0 0 0), .int a1, .int a2].toArray s 2 12 (fun q => N0 ≤ q)) Y 0 [(0, .ref (ad 0 0 0)), (1, .int a1), (2, .int a2)] [] := by
  unfold X11_nameLetter at h
  refine fw_aload_n C dX11_nameLetter_0 rfl 0 rfl ?_
  refine fw_iload_n C dX11_nameLetter_1 rfl 1 rfl ?_
  rcases bdxv_some h with ⟨x5, q2, e6⟩ | ⟨Y4, q2, h⟩
  · exact fw_callXVv_l C (ci := 9) (Cn := RX11) (Tc := TX11) (N := 11) (As := [.int a1]) (c_X11_requireStep hl (gac (hG _ (List.mem_of_getElem? (i := 1) rfl)) (gac (hG _ (List.mem_of_getElem? (i := 0) rfl)) (fun q hq => hG q (List.mem_append_right _ hq)))) q2) (cwV 1 (cx_ts C) gX11_nameLetter_X11_requireStep rfl rfl rfl (by decide +kernel) ⟨Nat.le_of_ble_eq_true rfl, Nat.le_of_ble_eq_true rfl⟩) rfl (hG _ (List.mem_of_getElem? (i := 1) rfl)) (of0_0 _) (ce0 T ad _ _) rfl (st := []) rfl (Nat.le_of_ble_eq_true rfl) ⟨Nat.le_of_ble_eq_true rfl, Nat.le_of_ble_eq_true rfl⟩ dX11_nameLetter_2 hX e6 (Nat.le_of_ble_eq_true rfl) (Nat.le_of_ble_eq_true rfl)
  refine fw_callXVv_r C (ci := 9) (Cn := RX11) (Tc := TX11) (N := 11) (As := [.int a1]) (c_X11_requireStep hl (gac (hG _ (List.mem_of_getElem? (i := 1) rfl)) (gac (hG _ (List.mem_of_getElem? (i := 0) rfl)) (fun q hq => hG q (List.mem_append_right _ hq)))) q2) (cwV 1 (cx_ts C) gX11_nameLetter_X11_requireStep rfl rfl rfl (by decide +kernel) ⟨Nat.le_of_ble_eq_true rfl, Nat.le_of_ble_eq_true rfl⟩) rfl (hG _ (List.mem_of_getElem? (i := 1) rfl)) (of0_0 _) (ce0 T ad _ _) rfl (st := []) rfl (Nat.le_of_ble_eq_true rfl) ⟨Nat.le_of_ble_eq_true rfl, Nat.le_of_ble_eq_true rfl⟩ dX11_nameLetter_2 ?_
  refine fw_iload_n C dX11_nameLetter_5 rfl 2 rfl ?_
  refine fw_iconst C dX11_nameLetter_6 (v := 0) rfl ?_
  refine fw_aload_n C dX11_nameLetter_7 rfl 0 rfl ?_
  refine fw_get C (ci := 9) (Cn := RX11) (Tc := TX11) (N := 11) (j := 5) ly_X11_nameLetter_11 rfl (hG _ (List.mem_of_getElem? (i := 1) rfl)) (of0_0 _) (ce0 T ad _ _) (by decide) (cx_ts C _ fl_X11_nameLetter_67) (fun _ h => h) (v := .ref (ad 1 0 0)) rfl dX11_nameLetter_8 ?_
  refine fw_getN C (ci := 1) (Cn := RX3) (Tc := TX3) (N := 5) (j := 0) ly_X11_nameLetter_3 rfl (hG _ (List.mem_of_getElem? (i := 0) rfl)) (of1_0 _) (ce1 T ad _ _) (by decide) (Nst_use (cx_nst C) (w := .fieldLinkNest RX11 117 "RecipeScheduler$Kitchen" "recipe" "LRecipeScheduler$Recipe;" "RecipeScheduler") 520 (by decide +kernel) rfl) (fun _ h => h) (v := .ref (ad 3 ((Y4 1 0 0 0).toNatClampNeg) 0)) rfl dX11_nameLetter_11 ?_
  obtain ⟨b7, h⟩ := gd_some h
  have b7 := of_decide_eq_true b7
  refine fw_getN C (ci := 3) (Cn := RX5) (Tc := TX5) (N := 17) (j := 7) ly_X11_nameLetter_5 rfl ((fun q hq => hG q (List.mem_append_right _ hq)) _ (allG_3 b7)) (of3_0 _) (ce3 T ad _ _) (by decide) (Nst_use (cx_nst C) (w := .fieldLinkNest RX11 126 "RecipeScheduler$Recipe" "steps" "LRecipeScheduler$Names;" "RecipeScheduler") 148 (by decide +kernel) rfl) (fun _ h => h) (v := .ref (ad 4 (2*((Y4 1 0 0 0).toNatClampNeg)+1) 0)) rfl dX11_nameLetter_14 ?_
  obtain ⟨b8, h⟩ := gd_some h
  have b8 := of_decide_eq_true b8
  refine fw_getN C (ci := 2) (Cn := RX4) (Tc := TX4) (N := 3) (j := 1) ly_X11_nameLetter_4 rfl ((fun q hq => hG q (List.mem_append_right _ hq)) _ (allG_4b b8)) (of4_0 _) (ce4 T ad _ _) (by decide) (Nst_use (cx_nst C) (w := .fieldLinkNest RX11 234 "RecipeScheduler$Names" "lengths" "[I" "RecipeScheduler") 111 (by decide +kernel) rfl) (fun _ h => h) (v := .ref (ad 4 ((2*((Y4 1 0 0 0).toNatClampNeg)+1)) 2)) rfl dX11_nameLetter_17 ?_
  refine fw_iload_n C dX11_nameLetter_20 rfl 1 rfl ?_
  obtain ⟨b9, h⟩ := gd_some h
  refine fw_iald2 C ((fun q hq => hG q (List.mem_append_right _ hq)) _ (allG_4b b8)) (of4_2 _) (ca4_2 T ad _ _) b9 (ncap_lt _) dX11_nameLetter_21 ?_
  refine fw_iconst C dX11_nameLetter_22 (v := 1) rfl ?_
  refine fw_isub C dX11_nameLetter_23 ?_
  obtain ⟨r10, q11, h⟩ := bd1_some h
  refine fw_callSi C (As := [.int a2, .int 0, .int ((Y4 4 ((2*((Y4 1 0 0 0).toNatClampNeg)+1)) 2 (ix a1)) - 1)]) (c_X11_isWithin ga0 q11) (va_cwS 3 (cx_ts C) gX11_nameLetter_X11_isWithin rfl rfl rfl (by decide +kernel) ⟨Nat.le_of_ble_eq_true rfl, Nat.le_of_ble_eq_true rfl⟩) rfl (st := []) rfl (Nat.le_of_ble_eq_true rfl) ⟨Nat.le_of_ble_eq_true rfl, Nat.le_of_ble_eq_true rfl⟩ dX11_nameLetter_24 (pp2 ?_)
  refine fw_if_ne C dX11_nameLetter_27 (tgt := 40) rfl (fun c12 => ?_) (fun c12 => ?_)
  · have h := ite_f c12 h
    refine fw_aload_n C dX11_nameLetter_40 rfl 0 rfl ?_
    refine fw_get C (ci := 9) (Cn := RX11) (Tc := TX11) (N := 11) (j := 5) ly_X11_nameLetter_11 rfl (hG _ (List.mem_of_getElem? (i := 1) rfl)) (of0_0 _) (ce0 T ad _ _) (by decide) (cx_ts C _ fl_X11_nameLetter_67) (fun _ h => h) (v := .ref (ad 1 0 0)) rfl dX11_nameLetter_41 ?_
    refine fw_getN C (ci := 1) (Cn := RX3) (Tc := TX3) (N := 5) (j := 0) ly_X11_nameLetter_3 rfl (hG _ (List.mem_of_getElem? (i := 0) rfl)) (of1_0 _) (ce1 T ad _ _) (by decide) (Nst_use (cx_nst C) (w := .fieldLinkNest RX11 117 "RecipeScheduler$Kitchen" "recipe" "LRecipeScheduler$Recipe;" "RecipeScheduler") 520 (by decide +kernel) rfl) (fun _ h => h) (v := .ref (ad 3 ((Y4 1 0 0 0).toNatClampNeg) 0)) rfl dX11_nameLetter_44 ?_
    refine fw_getN C (ci := 3) (Cn := RX5) (Tc := TX5) (N := 17) (j := 7) ly_X11_nameLetter_5 rfl ((fun q hq => hG q (List.mem_append_right _ hq)) _ (allG_3 b7)) (of3_0 _) (ce3 T ad _ _) (by decide) (Nst_use (cx_nst C) (w := .fieldLinkNest RX11 126 "RecipeScheduler$Recipe" "steps" "LRecipeScheduler$Names;" "RecipeScheduler") 148 (by decide +kernel) rfl) (fun _ h => h) (v := .ref (ad 4 (2*((Y4 1 0 0 0).toNatClampNeg)+1) 0)) rfl dX11_nameLetter_47 ?_
    refine fw_getN C (ci := 2) (Cn := RX4) (Tc := TX4) (N := 3) (j := 0) ly_X11_nameLetter_4 rfl ((fun q hq => hG q (List.mem_append_right _ hq)) _ (allG_4b b8)) (of4_0 _) (ce4 T ad _ _) (by decide) (Nst_use (cx_nst C) (w := .fieldLinkNest RX11 242 "RecipeScheduler$Names" "letters" "[[B" "RecipeScheduler") 109 (by decide +kernel) rfl) (fun _ h => h) (v := .ref (ad 4 ((2*((Y4 1 0 0 0).toNatClampNeg)+1)) 1)) rfl dX11_nameLetter_50 ?_
    refine fw_iload_n C dX11_nameLetter_53 rfl 1 rfl ?_
    refine fw_aald2 C 4 ((fun q hq => hG q (List.mem_append_right _ hq)) _ (allG_4b b8)) (of4_1 _) (ca4_1 T ad _ _) rfl rfl b9 (ncap_lt _) (v := .ref (ad 4 ((2*((Y4 1 0 0 0).toNatClampNeg)+1)) (10+ix a1))) rfl dX11_nameLetter_54 ?_
    refine fw_iload_n C dX11_nameLetter_55 rfl 2 rfl ?_
    obtain ⟨b13, h⟩ := gd_some h
    refine fw_bald2 C ((fun q hq => hG q (List.mem_append_right _ hq)) _ (allG_4b b8)) (of4_r _ (inb_lt b9)) (ca4_r T ad _ _ _) b13 (Nat.le_of_ble_eq_true rfl) dX11_nameLetter_56 ?_
    refine fw_xr (Nat.le_of_ble_eq_true rfl) (Nat.le_of_ble_eq_true rfl) ?_
    exact fw_iret C hrt Y4 (Option.some.inj h) (fun t ht => ht) dX11_nameLetter_57
  · have h := ite_t c12 h
    exact fw_throwS C hl hX (cls := "java/lang/IndexOutOfBoundsException") (names := ["java/lang/RuntimeException", "java/lang/Exception"]) 3 rfl (by decide +kernel) (by decide +kernel) (cx_ts C _ th_X11_nameLetter_30.1) (cx_ts C _ th_X11_nameLetter_30.2.1) (sr_14 (cx_st C)) (vx_hat (fun w hw => cx_ts C _ (th_X11_nameLetter_30.2.2 w hw)) tg_3_241_237b (vx_c (Nst_use (cx_nst C) (w := .castable "java/lang/IndexOutOfBoundsException" "java/lang/IndexOutOfBoundsException") 957 (by decide +kernel) rfl) (vx_c (Nst_use (cx_nst C) 826 (by decide +kernel) rfl) (vx_c (Nst_use (cx_nst C) 828 (by decide +kernel) rfl) (vx_c (Nst_use (cx_nst C) 830 (by decide +kernel) rfl) vx_n))))) tg_3_241_237 dX11_nameLetter_30 dX11_nameLetter_33 dX11_nameLetter_34 dX11_nameLetter_36 dX11_nameLetter_39 (Nat.le_of_ble_eq_true rfl) (Nat.le_of_ble_eq_true rfl) (Nat.le_of_ble_eq_true rfl) (Nat.le_of_ble_eq_true rfl) (Nat.le_of_ble_eq_true rfl) (Nat.le_of_ble_eq_true rfl) (Option.some.inj h)
end
set_option maxRecDepth 100000 in
set_option maxHeartbeats 4000000 in
theorem c_X11_nameLetter {l : Launch} {N0 : Nat} {T : Nat → ClassId} {D : va_G} {gr : List (Nat × Nat)} {ad : Nat → Nat → Nat → Nat} {Y : Mem} {a1 : Int32} {a2 : Int32} {res : (Nat × Mem) ⊕ (Int32 × Mem)} (hl : l.stackTraces = false) (hG : ∀ q ∈ ([(1, 0), (0, 0)] ++ allG), q ∈ gr) (h : X11_nameLetter Y a1 a2 = some res) : CXi l yX11_nameLetter wsX11_nameLetter (Rx 7 2) N0 T D gr ad Y [.ref (ad 0 0 0), .int a1, .int a2] 2 res :=
  fw_xbody (by decide +kernel) rfl (Nat.le_of_ble_eq_true rfl) (fun p e s m below meth c C hrt hX => w_X11_nameLetter C hrt hG hl hX h)
theorem ly_X11_outputByte_11 : ∀ w ∈ u_ws RX11 TX11 11, w ∈ wsX11_outputByte := by decide +kernel
theorem fl_X11_outputByte_45 : Cond.fieldLink RX11 45 "RecipeScheduler" "output" "LRecipeScheduler$Text;" ∈ wsX11_outputByte := by decide +kernel
theorem ly_X11_outputByte_9 : ∀ w ∈ u_ws RX9 TX9 2, w ∈ wsX11_outputByte := by decide +kernel
theorem th_X11_outputByte_17 : Cond.classLink RX11 237 "java/lang/IndexOutOfBoundsException" ∈ wsX11_outputByte ∧ Cond.initialized "java/lang/IndexOutOfBoundsException" ∈ wsX11_outputByte ∧ ∀ w ∈ (vx_atS RX11 241 "java/lang/IndexOutOfBoundsException" ["java/lang/RuntimeException", "java/lang/Exception"]).filter goodWord, w ∈ wsX11_outputByte := by decide +kernel
section
variable {p : Program} {l : Launch} {e : Env} {s : State} {m : MethodId} {below : List Frame} {meth : Method} {c : Code} {N0 : Nat} {T : Nat → ClassId} {D : va_G} {gr : List (Nat × Nat)} {ad : Nat → Nat → Nat → Nat}
set_option maxRecDepth 100000 in
set_option maxHeartbeats 4000000 in
theorem w_X11_outputByte {Y : Mem} {a1 : Int32} (C : Cx p s m [.ref (ad 0 0 0), .int a1].toArray meth c cX11_outputByte 2 wsX11_outputByte RX11 N0 T D gr ad) (hrt : meth.sig.returnType = (some .int)) (hG : ∀ q ∈ [(0, 0), (5, 1)], q ∈ gr) (hl : l.stackTraces = false) (hX : ∀ x ∈ c.exceptionTable.toList, False) {res : (Nat × Mem) ⊕ (Int32 × Mem)} (h : X11_outputByte Y a1 = some res) : FW p l e (Rx 6 1) s m [.ref (ad 0 0 0), .int a1].toArray below meth c 2 N0 T D gr ad 0 0 (vx_MQ below (va_Qi (fun r Y1 => Sum.inr (r, Y1) = res) (WB T D gr ad) (fun q => N0 ≤ q)) (vx_X (fun u => Sum.inl u = res) (XB T D gr ad) (fun q => N0 ≤ q)) [.ref (ad 0 0 0), .int a1].toArray s 1 6 (fun q => N0 ≤ q)) Y 0 [(0, .ref (ad 0 0 0)), (1, .int a1)] [] := by
  unfold X11_outputByte at h
  refine fw_iload_n C dX11_outputByte_0 rfl 1 rfl ?_
  refine fw_iconst C dX11_outputByte_1 (v := 0) rfl ?_
  refine fw_aload_n C dX11_outputByte_2 rfl 0 rfl ?_
  refine fw_get C (ci := 9) (Cn := RX11) (Tc := TX11) (N := 11) (j := 1) ly_X11_outputByte_11 rfl (hG _ (List.mem_of_getElem? (i := 0) rfl)) (of0_0 _) (ce0 T ad _ _) (by decide) (cx_ts C _ fl_X11_outputByte_45) (fun _ h => h) (v := .ref (ad 5 1 0)) rfl dX11_outputByte_3 ?_
  refine fw_getN C (ci := 7) (Cn := RX9) (Tc := TX9) (N := 2) (j := 1) ly_X11_outputByte_9 rfl (hG _ (List.mem_of_getElem? (i := 1) rfl)) (of5_0 _) (ce5 T ad _ _) (by decide) (Nst_use (cx_nst C) (w := .fieldLinkNest RX11 37 "RecipeScheduler$Text" "length" "I" "RecipeScheduler") 48 (by decide +kernel) rfl) (fun _ h => h) (v := .int (Y 5 1 0 1)) rfl dX11_outputByte_6 ?_
  refine fw_iconst C dX11_outputByte_9 (v := 1) rfl ?_
  refine fw_isub C dX11_outputByte_10 ?_
  obtain ⟨r1, q2, h⟩ := bd1_some h
  refine fw_callSi C (As := [.int a1, .int 0, .int ((Y 5 1 0 1) - 1)]) (c_X11_isWithin ga0 q2) (va_cwS 3 (cx_ts C) gX11_outputByte_X11_isWithin rfl rfl rfl (by decide +kernel) ⟨Nat.le_of_ble_eq_true rfl, Nat.le_of_ble_eq_true rfl⟩) rfl (st := []) rfl (Nat.le_of_ble_eq_true rfl) ⟨Nat.le_of_ble_eq_true rfl, Nat.le_of_ble_eq_true rfl⟩ dX11_outputByte_11 (pp2 ?_)
  refine fw_if_ne C dX11_outputByte_14 (tgt := 28) rfl (fun c3 => ?_) (fun c3 => ?_)
  · have h := ite_f c3 h
    refine fw_aload_n C dX11_outputByte_28 rfl 0 rfl ?_
    refine fw_get C (ci := 9) (Cn := RX11) (Tc := TX11) (N := 11) (j := 1) ly_X11_outputByte_11 rfl (hG _ (List.mem_of_getElem? (i := 0) rfl)) (of0_0 _) (ce0 T ad _ _) (by decide) (cx_ts C _ fl_X11_outputByte_45) (fun _ h => h) (v := .ref (ad 5 1 0)) rfl dX11_outputByte_29 ?_
    refine fw_getN C (ci := 7) (Cn := RX9) (Tc := TX9) (N := 2) (j := 0) ly_X11_outputByte_9 rfl (hG _ (List.mem_of_getElem? (i := 1) rfl)) (of5_0 _) (ce5 T ad _ _) (by decide) (Nst_use (cx_nst C) (w := .fieldLinkNest RX11 422 "RecipeScheduler$Text" "bytes" "[B" "RecipeScheduler") 47 (by decide +kernel) rfl) (fun _ h => h) (v := .ref (ad 5 1 1)) rfl dX11_outputByte_32 ?_
    refine fw_iload_n C dX11_outputByte_35 rfl 1 rfl ?_
    obtain ⟨b4, h⟩ := gd_some h
    refine fw_bald2 C (hG _ (List.mem_of_getElem? (i := 1) rfl)) (of5_1 _) (ca5_1 T ad _ _) b4 (tcap_lt _) dX11_outputByte_36 ?_
    refine fw_xr (Nat.le_of_ble_eq_true rfl) (Nat.le_of_ble_eq_true rfl) ?_
    exact fw_iret C hrt Y (Option.some.inj h) (fun t ht => ht) dX11_outputByte_37
  · have h := ite_t c3 h
    exact fw_throwSW C hl hX (cls := "java/lang/IndexOutOfBoundsException") (names := ["java/lang/RuntimeException", "java/lang/Exception"]) 3 rfl (by decide +kernel) (by decide +kernel) (cx_ts C _ th_X11_outputByte_17.1) (cx_ts C _ th_X11_outputByte_17.2.1) (sr_29 (cx_st C)) (vx_hat (fun w hw => cx_ts C _ (th_X11_outputByte_17.2.2 w hw)) tg_3_241_237b (vx_c (Nst_use (cx_nst C) (w := .castable "java/lang/IndexOutOfBoundsException" "java/lang/IndexOutOfBoundsException") 957 (by decide +kernel) rfl) (vx_c (Nst_use (cx_nst C) 826 (by decide +kernel) rfl) (vx_c (Nst_use (cx_nst C) 828 (by decide +kernel) rfl) (vx_c (Nst_use (cx_nst C) 830 (by decide +kernel) rfl) vx_n))))) tg_3_241_237 dX11_outputByte_17 dX11_outputByte_20 dX11_outputByte_21 dX11_outputByte_24 dX11_outputByte_27 (Nat.le_of_ble_eq_true rfl) (Nat.le_of_ble_eq_true rfl) (Nat.le_of_ble_eq_true rfl) (Nat.le_of_ble_eq_true rfl) (Nat.le_of_ble_eq_true rfl) (Nat.le_of_ble_eq_true rfl) (Option.some.inj h)
end
set_option maxRecDepth 100000 in
set_option maxHeartbeats 4000000 in
theorem c_X11_outputByte {l : Launch} {N0 : Nat} {T : Nat → ClassId} {D : va_G} {gr : List (Nat × Nat)} {ad : Nat → Nat → Nat → Nat} {Y : Mem} {a1 : Int32} {res : (Nat × Mem) ⊕ (Int32 × Mem)} (hl : l.stackTraces = false) (hG : ∀ q ∈ [(0, 0), (5, 1)], q ∈ gr) (h : X11_outputByte Y a1 = some res) : CXi l yX11_outputByte wsX11_outputByte (Rx 6 1) N0 T D gr ad Y [.ref (ad 0 0 0), .int a1] 1 res :=
  fw_xbody (by decide +kernel) rfl (Nat.le_of_ble_eq_true rfl) (fun p e s m below meth c C hrt hX => w_X11_outputByte C hrt hG hl hX h)
