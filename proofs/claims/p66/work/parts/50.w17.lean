theorem ly_X8_statusOf_8 : ∀ w ∈ u_ws RX8 TX8 15, w ∈ wsX8_statusOf := by decide +kernel
theorem fl_X8_statusOf_53 : Cond.fieldLink RX8 53 "RecipeScheduler$State" "running" "I" ∈ wsX8_statusOf := by decide +kernel
theorem in_X8_statusOf_11 : Cond.initialized RX11 ∈ wsX8_statusOf := by decide +kernel
theorem sw_X8_statusOf_X11_contains : Cond.static yX11_contains ∈ wsX8_statusOf := by decide +kernel
theorem fl_X8_statusOf_56 : Cond.fieldLink RX8 56 "RecipeScheduler$State" "done" "I" ∈ wsX8_statusOf := by decide +kernel
theorem fl_X8_statusOf_59 : Cond.fieldLink RX8 59 "RecipeScheduler$State" "burnt" "I" ∈ wsX8_statusOf := by decide +kernel
section
variable {p : Program} {l : Launch} {e : Env} {s : State} {m : MethodId} {below : List Frame} {meth : Method} {c : Code} {N0 : Nat} {T : Nat → ClassId} {D : va_G} {gr : List (Nat × Nat)} {ad : Nat → Nat → Nat → Nat}
set_option maxRecDepth 100000 in
set_option maxHeartbeats 4000000 in
theorem w_X8_statusOf {Y : Mem} {g0 : Nat} {a1 : Int32} (C : Cx p s m [.ref (ad 2 g0 0), .int a1].toArray meth c cX8_statusOf 2 wsX8_statusOf RX8 N0 T D gr ad) (hrt : meth.sig.returnType = (some .int)) (hG : ∀ q ∈ [(2, g0)], q ∈ gr) {res : Int32} (h : X8_statusOf Y g0 a1 = some res) : FW p l e (Rm 1) s m [.ref (ad 2 g0 0), .int a1].toArray below meth c 2 N0 T D gr ad 0 0 (MQ below (va_Qi (fun r Y1 => r = res ∧ Y1 = Y) (WB T D gr ad) (fun q => N0 ≤ q)) [.ref (ad 2 g0 0), .int a1].toArray s 0 0 (fun q => N0 ≤ q)) Y 0 [(0, .ref (ad 2 g0 0)), (1, .int a1)] [] := by
  unfold X8_statusOf at h
  refine fw_aload_n C dX8_statusOf_0 rfl 0 rfl ?_
  refine fw_get C (ci := 8) (Cn := RX8) (Tc := TX8) (N := 15) (j := 6) ly_X8_statusOf_8 rfl (hG _ (List.mem_of_getElem? (i := 0) rfl)) (of2_0 _) (ce2 T ad _ _) (by decide) (cx_ts C _ fl_X8_statusOf_53) (fun _ h => h) (v := .int (Y 2 g0 0 6)) rfl dX8_statusOf_1 ?_
  refine fw_iload_n C dX8_statusOf_4 rfl 1 rfl ?_
  obtain ⟨r1, q2, h⟩ := bd1_some h
  refine fw_callSNi C (As := [.int (Y 2 g0 0 6), .int a1]) (c_X11_contains ga0 q2) ⟨(va_cnB 2 (cx_ts C) gX8_statusOf_X11_contains_n75 rfl rfl rfl (cx_nw C (w := .methodLinkNest RX8 75 yX11_contains "RecipeScheduler") 889 (by decide +kernel) rfl) (cx_ts C _ in_X8_statusOf_11) (by decide +kernel) ⟨Nat.le_of_ble_eq_true rfl, Nat.le_of_ble_eq_true rfl⟩), cx_ts C _ sw_X8_statusOf_X11_contains, trivial⟩ rfl (st := []) rfl (Nat.le_of_ble_eq_true rfl) ⟨Nat.le_refl 0, Nat.le_refl 0⟩ dX8_statusOf_5 (pp2 ?_)
  refine fw_if_eq C dX8_statusOf_8 (tgt := 13) rfl (fun c3 => ?_) (fun c3 => ?_)
  · have h := ite_t c3 h
    refine fw_aload_n C dX8_statusOf_13 rfl 0 rfl ?_
    refine fw_get C (ci := 8) (Cn := RX8) (Tc := TX8) (N := 15) (j := 7) ly_X8_statusOf_8 rfl (hG _ (List.mem_of_getElem? (i := 0) rfl)) (of2_0 _) (ce2 T ad _ _) (by decide) (cx_ts C _ fl_X8_statusOf_56) (fun _ h => h) (v := .int (Y 2 g0 0 7)) rfl dX8_statusOf_14 ?_
    refine fw_iload_n C dX8_statusOf_17 rfl 1 rfl ?_
    obtain ⟨r4, q5, h⟩ := bd1_some h
    refine fw_callSNi C (As := [.int (Y 2 g0 0 7), .int a1]) (c_X11_contains ga0 q5) ⟨(va_cnB 2 (cx_ts C) gX8_statusOf_X11_contains_n75 rfl rfl rfl (cx_nw C (w := .methodLinkNest RX8 75 yX11_contains "RecipeScheduler") 889 (by decide +kernel) rfl) (cx_ts C _ in_X8_statusOf_11) (by decide +kernel) ⟨Nat.le_of_ble_eq_true rfl, Nat.le_of_ble_eq_true rfl⟩), cx_ts C _ sw_X8_statusOf_X11_contains, trivial⟩ rfl (st := []) rfl (Nat.le_of_ble_eq_true rfl) ⟨Nat.le_refl 0, Nat.le_refl 0⟩ dX8_statusOf_18 (pp2 ?_)
    refine fw_if_eq C dX8_statusOf_21 (tgt := 26) rfl (fun c6 => ?_) (fun c6 => ?_)
    · have h := ite_t c6 h
      refine fw_aload_n C dX8_statusOf_26 rfl 0 rfl ?_
      refine fw_get C (ci := 8) (Cn := RX8) (Tc := TX8) (N := 15) (j := 8) ly_X8_statusOf_8 rfl (hG _ (List.mem_of_getElem? (i := 0) rfl)) (of2_0 _) (ce2 T ad _ _) (by decide) (cx_ts C _ fl_X8_statusOf_59) (fun _ h => h) (v := .int (Y 2 g0 0 8)) rfl dX8_statusOf_27 ?_
      refine fw_iload_n C dX8_statusOf_30 rfl 1 rfl ?_
      obtain ⟨r7, q8, h⟩ := bd1_some h
      refine fw_callSNi C (As := [.int (Y 2 g0 0 8), .int a1]) (c_X11_contains ga0 q8) ⟨(va_cnB 2 (cx_ts C) gX8_statusOf_X11_contains_n75 rfl rfl rfl (cx_nw C (w := .methodLinkNest RX8 75 yX11_contains "RecipeScheduler") 889 (by decide +kernel) rfl) (cx_ts C _ in_X8_statusOf_11) (by decide +kernel) ⟨Nat.le_of_ble_eq_true rfl, Nat.le_of_ble_eq_true rfl⟩), cx_ts C _ sw_X8_statusOf_X11_contains, trivial⟩ rfl (st := []) rfl (Nat.le_of_ble_eq_true rfl) ⟨Nat.le_refl 0, Nat.le_refl 0⟩ dX8_statusOf_31 (pp2 ?_)
      refine fw_if_eq C dX8_statusOf_34 (tgt := 41) rfl (fun c9 => ?_) (fun c9 => ?_)
      · have h := ite_t c9 h
        refine fw_iconst C dX8_statusOf_41 (v := 0) rfl ?_
        exact fw_iret C hrt Y ⟨Option.some.inj h, rfl⟩ (fun t ht => ht) dX8_statusOf_42
      · have h := ite_f c9 h
        refine fw_iconst C dX8_statusOf_37 (v := 3) rfl ?_
        refine fw_goto C dX8_statusOf_38 (tgt := 42) rfl ?_
        exact fw_iret C hrt Y ⟨Option.some.inj h, rfl⟩ (fun t ht => ht) dX8_statusOf_42
    · have h := ite_f c6 h
      refine fw_iconst C dX8_statusOf_24 (v := 2) rfl ?_
      exact fw_iret C hrt Y ⟨Option.some.inj h, rfl⟩ (fun t ht => ht) dX8_statusOf_25
  · have h := ite_f c3 h
    refine fw_iconst C dX8_statusOf_11 (v := 1) rfl ?_
    exact fw_iret C hrt Y ⟨Option.some.inj h, rfl⟩ (fun t ht => ht) dX8_statusOf_12
end
set_option maxRecDepth 100000 in
set_option maxHeartbeats 4000000 in
theorem c_X8_statusOf {l : Launch} {N0 : Nat} {T : Nat → ClassId} {D : va_G} {gr : List (Nat × Nat)} {ad : Nat → Nat → Nat → Nat} {Y : Mem} {g0 : Nat} {a1 : Int32} {res : Int32} (hG : ∀ q ∈ [(2, g0)], q ∈ gr) (h : X8_statusOf Y g0 a1 = some res) : CI l yX8_statusOf wsX8_statusOf (Rm 1) N0 T D gr ad Y [.ref (ad 2 g0 0), .int a1] (fun r Y1 => r = res ∧ Y1 = Y) :=
  fw_body (by decide +kernel) rfl (Nat.le_of_ble_eq_true rfl) (fun p e s m below meth c C hrt => w_X8_statusOf C hrt hG  h)
theorem ly_X11_status_11 : ∀ w ∈ u_ws RX11 TX11 11, w ∈ wsX11_status := by decide +kernel
theorem fl_X11_status_67 : Cond.fieldLink RX11 67 "RecipeScheduler" "now" "LRecipeScheduler$Kitchen;" ∈ wsX11_status := by decide +kernel
theorem ly_X11_status_3 : ∀ w ∈ u_ws RX3 TX3 5, w ∈ wsX11_status := by decide +kernel
section
variable {p : Program} {l : Launch} {e : Env} {s : State} {m : MethodId} {below : List Frame} {meth : Method} {c : Code} {N0 : Nat} {T : Nat → ClassId} {D : va_G} {gr : List (Nat × Nat)} {ad : Nat → Nat → Nat → Nat}
set_option maxRecDepth 100000 in
set_option maxHeartbeats 4000000 in
theorem w_X11_status {Y : Mem} {a1 : Int32} (C : Cx p s m [.ref (ad 0 0 0), .int a1].toArray meth c cX11_status 2 wsX11_status RX11 N0 T D gr ad) (hrt : meth.sig.returnType = (some .int)) (hG : ∀ q ∈ ([(1, 0), (0, 0), (2, 0)] ++ allG), q ∈ gr) (hl : l.stackTraces = false) (hX : ∀ x ∈ c.exceptionTable.toList, False) {res : (Nat × Mem) ⊕ (Int32 × Mem)} (h : X11_status Y a1 = some res) : FW p l e (Rx 7 1) s m [.ref (ad 0 0 0), .int a1].toArray below meth c 2 N0 T D gr ad 0 0 (vx_MQ below (va_Qi (fun r Y1 => Sum.inr (r, Y1) = res) (WB T D gr ad) (fun q => N0 ≤ q)) (vx_X (fun u => Sum.inl u = res) (XB T D gr ad) (fun q => N0 ≤ q)) [.ref (ad 0 0 0), .int a1].toArray s 1 6 (fun q => N0 ≤ q)) Y 0 [(0, .ref (ad 0 0 0)), (1, .int a1)] [] := by
  unfold X11_status at h
  refine fw_aload_n C dX11_status_0 rfl 0 rfl ?_
  refine fw_iload_n C dX11_status_1 rfl 1 rfl ?_
  rcases bdxv_some h with ⟨x5, q2, e6⟩ | ⟨Y4, q2, h⟩
  · exact fw_callXVv_l C (ci := 11) (Cn := RX11) (Tc := TX11) (N := 11) (As := [.int a1]) (c_X11_requireStep hl (gac (hG _ (List.mem_of_getElem? (i := 1) rfl)) (gac (hG _ (List.mem_of_getElem? (i := 0) rfl)) (fun q hq => hG q (List.mem_append_right _ hq)))) q2) (cwV 1 (cx_ts C) gX11_status_X11_requireStep rfl rfl rfl (by decide +kernel) ⟨Nat.le_of_ble_eq_true rfl, Nat.le_of_ble_eq_true rfl⟩) rfl (hG _ (List.mem_of_getElem? (i := 1) rfl)) (of0_0 _) (ce0 T ad _ _) rfl (st := []) rfl (Nat.le_of_ble_eq_true rfl) ⟨Nat.le_of_ble_eq_true rfl, Nat.le_of_ble_eq_true rfl⟩ dX11_status_2 hX e6 (Nat.le_of_ble_eq_true rfl) (Nat.le_of_ble_eq_true rfl)
  refine fw_callXVv_r C (ci := 11) (Cn := RX11) (Tc := TX11) (N := 11) (As := [.int a1]) (c_X11_requireStep hl (gac (hG _ (List.mem_of_getElem? (i := 1) rfl)) (gac (hG _ (List.mem_of_getElem? (i := 0) rfl)) (fun q hq => hG q (List.mem_append_right _ hq)))) q2) (cwV 1 (cx_ts C) gX11_status_X11_requireStep rfl rfl rfl (by decide +kernel) ⟨Nat.le_of_ble_eq_true rfl, Nat.le_of_ble_eq_true rfl⟩) rfl (hG _ (List.mem_of_getElem? (i := 1) rfl)) (of0_0 _) (ce0 T ad _ _) rfl (st := []) rfl (Nat.le_of_ble_eq_true rfl) ⟨Nat.le_of_ble_eq_true rfl, Nat.le_of_ble_eq_true rfl⟩ dX11_status_2 ?_
  refine fw_aload_n C dX11_status_5 rfl 0 rfl ?_
  refine fw_get C (ci := 11) (Cn := RX11) (Tc := TX11) (N := 11) (j := 5) ly_X11_status_11 rfl (hG _ (List.mem_of_getElem? (i := 1) rfl)) (of0_0 _) (ce0 T ad _ _) (by decide) (cx_ts C _ fl_X11_status_67) (fun _ h => h) (v := .ref (ad 1 0 0)) rfl dX11_status_6 ?_
  refine fw_getN C (ci := 3) (Cn := RX3) (Tc := TX3) (N := 5) (j := 1) ly_X11_status_3 rfl (hG _ (List.mem_of_getElem? (i := 0) rfl)) (of1_0 _) (ce1 T ad _ _) (by decide) (Nst_use (cx_nst C) (w := .fieldLinkNest RX11 139 "RecipeScheduler$Kitchen" "state" "LRecipeScheduler$State;" "RecipeScheduler") 509 (by decide +kernel) rfl) (fun _ h => h) (v := .ref (ad 2 0 0)) rfl dX11_status_9 ?_
  refine fw_iload_n C dX11_status_12 rfl 1 rfl ?_
  obtain ⟨r7, q8, h⟩ := bd1_some h
  refine fw_callVi C (ci := 8) (Cn := RX8) (Tc := TX8) (N := 15) (As := [.int a1]) (c_X8_statusOf (gac (hG _ (List.mem_of_getElem? (i := 2) rfl)) ga0) q8) (cwV 1 (cx_ts C) gX11_status_X8_statusOf rfl rfl rfl (by decide +kernel) ⟨Nat.le_of_ble_eq_true rfl, Nat.le_of_ble_eq_true rfl⟩) rfl (hG _ (List.mem_of_getElem? (i := 2) rfl)) (of2_0 _) (ce2 T ad _ _) rfl (st := []) rfl (Nat.le_of_ble_eq_true rfl) ⟨Nat.le_of_ble_eq_true rfl, Nat.le_of_ble_eq_true rfl⟩ dX11_status_13 (pp2 ?_)
  refine fw_xr (Nat.le_of_ble_eq_true rfl) (Nat.le_of_ble_eq_true rfl) ?_
  exact fw_iret C hrt Y4 (Option.some.inj h) (fun t ht => ht) dX11_status_16
end
set_option maxRecDepth 100000 in
set_option maxHeartbeats 4000000 in
theorem c_X11_status {l : Launch} {N0 : Nat} {T : Nat → ClassId} {D : va_G} {gr : List (Nat × Nat)} {ad : Nat → Nat → Nat → Nat} {Y : Mem} {a1 : Int32} {res : (Nat × Mem) ⊕ (Int32 × Mem)} (hl : l.stackTraces = false) (hG : ∀ q ∈ ([(1, 0), (0, 0), (2, 0)] ++ allG), q ∈ gr) (h : X11_status Y a1 = some res) : CXi l yX11_status wsX11_status (Rx 7 1) N0 T D gr ad Y [.ref (ad 0 0 0), .int a1] 1 res :=
  fw_xbody (by decide +kernel) rfl (Nat.le_of_ble_eq_true rfl) (fun p e s m below meth c C hrt hX => w_X11_status C hrt hG hl hX h)
theorem ly_X11_stepCount_11 : ∀ w ∈ u_ws RX11 TX11 11, w ∈ wsX11_stepCount := by decide +kernel
theorem fl_X11_stepCount_67 : Cond.fieldLink RX11 67 "RecipeScheduler" "now" "LRecipeScheduler$Kitchen;" ∈ wsX11_stepCount := by decide +kernel
theorem ly_X11_stepCount_3 : ∀ w ∈ u_ws RX3 TX3 5, w ∈ wsX11_stepCount := by decide +kernel
theorem ly_X11_stepCount_5 : ∀ w ∈ u_ws RX5 TX5 17, w ∈ wsX11_stepCount := by decide +kernel
theorem ly_X11_stepCount_4 : ∀ w ∈ u_ws RX4 TX4 3, w ∈ wsX11_stepCount := by decide +kernel
section
variable {p : Program} {l : Launch} {e : Env} {s : State} {m : MethodId} {below : List Frame} {meth : Method} {c : Code} {N0 : Nat} {T : Nat → ClassId} {D : va_G} {gr : List (Nat × Nat)} {ad : Nat → Nat → Nat → Nat}
set_option maxRecDepth 100000 in
set_option maxHeartbeats 4000000 in
theorem w_X11_stepCount {Y : Mem} (C : Cx p s m [.ref (ad 0 0 0)].toArray meth c cX11_stepCount 1 wsX11_stepCount RX11 N0 T D gr ad) (hrt : meth.sig.returnType = (some .int)) (hG : ∀ q ∈ ([(0, 0), (1, 0)] ++ allG), q ∈ gr) {res : Int32} (h : X11_stepCount Y = some res) : FW p l e (Rm 0) s m [.ref (ad 0 0 0)].toArray below meth c 1 N0 T D gr ad 0 0 (MQ below (va_Qi (fun r Y1 => r = res ∧ Y1 = Y) (WB T D gr ad) (fun q => N0 ≤ q)) [.ref (ad 0 0 0)].toArray s 0 0 (fun q => N0 ≤ q)) Y 0 [(0, .ref (ad 0 0 0))] [] := by
  unfold X11_stepCount at h
  refine fw_aload_n C dX11_stepCount_0 rfl 0 rfl ?_
  refine fw_get C (ci := 11) (Cn := RX11) (Tc := TX11) (N := 11) (j := 5) ly_X11_stepCount_11 rfl (hG _ (List.mem_of_getElem? (i := 0) rfl)) (of0_0 _) (ce0 T ad _ _) (by decide) (cx_ts C _ fl_X11_stepCount_67) (fun _ h => h) (v := .ref (ad 1 0 0)) rfl dX11_stepCount_1 ?_
  refine fw_getN C (ci := 3) (Cn := RX3) (Tc := TX3) (N := 5) (j := 0) ly_X11_stepCount_3 rfl (hG _ (List.mem_of_getElem? (i := 1) rfl)) (of1_0 _) (ce1 T ad _ _) (by decide) (Nst_use (cx_nst C) (w := .fieldLinkNest RX11 117 "RecipeScheduler$Kitchen" "recipe" "LRecipeScheduler$Recipe;" "RecipeScheduler") 507 (by decide +kernel) rfl) (fun _ h => h) (v := .ref (ad 3 ((Y 1 0 0 0).toNatClampNeg) 0)) rfl dX11_stepCount_4 ?_
  obtain ⟨b1, h⟩ := gd_some h
  have b1 := of_decide_eq_true b1
  refine fw_getN C (ci := 5) (Cn := RX5) (Tc := TX5) (N := 17) (j := 7) ly_X11_stepCount_5 rfl ((fun q hq => hG q (List.mem_append_right _ hq)) _ (allG_3 b1)) (of3_0 _) (ce3 T ad _ _) (by decide) (Nst_use (cx_nst C) (w := .fieldLinkNest RX11 126 "RecipeScheduler$Recipe" "steps" "LRecipeScheduler$Names;" "RecipeScheduler") 144 (by decide +kernel) rfl) (fun _ h => h) (v := .ref (ad 4 (2*((Y 1 0 0 0).toNatClampNeg)+1) 0)) rfl dX11_stepCount_7 ?_
  obtain ⟨b2, h⟩ := gd_some h
  have b2 := of_decide_eq_true b2
  refine fw_getN C (ci := 4) (Cn := RX4) (Tc := TX4) (N := 3) (j := 2) ly_X11_stepCount_4 rfl ((fun q hq => hG q (List.mem_append_right _ hq)) _ (allG_4b b2)) (of4_0 _) (ce4 T ad _ _) (by decide) (Nst_use (cx_nst C) (w := .fieldLinkNest RX11 130 "RecipeScheduler$Names" "count" "I" "RecipeScheduler") 113 (by decide +kernel) rfl) (fun _ h => h) (v := .int (Y 4 (2*((Y 1 0 0 0).toNatClampNeg)+1) 0 2)) rfl dX11_stepCount_10 ?_
  exact fw_iret C hrt Y ⟨Option.some.inj h, rfl⟩ (fun t ht => ht) dX11_stepCount_13
end
set_option maxRecDepth 100000 in
set_option maxHeartbeats 4000000 in
theorem c_X11_stepCount {l : Launch} {N0 : Nat} {T : Nat → ClassId} {D : va_G} {gr : List (Nat × Nat)} {ad : Nat → Nat → Nat → Nat} {Y : Mem} {res : Int32} (hG : ∀ q ∈ ([(0, 0), (1, 0)] ++ allG), q ∈ gr) (h : X11_stepCount Y = some res) : CI l yX11_stepCount wsX11_stepCount (Rm 0) N0 T D gr ad Y [.ref (ad 0 0 0)] (fun r Y1 => r = res ∧ Y1 = Y) :=
  fw_body (by decide +kernel) rfl (Nat.le_of_ble_eq_true rfl) (fun p e s m below meth c C hrt => w_X11_stepCount C hrt hG  h)
theorem ly_X11_stepTaste_11 : ∀ w ∈ u_ws RX11 TX11 11, w ∈ wsX11_stepTaste := by decide +kernel
theorem fl_X11_stepTaste_67 : Cond.fieldLink RX11 67 "RecipeScheduler" "now" "LRecipeScheduler$Kitchen;" ∈ wsX11_stepTaste := by decide +kernel
theorem ly_X11_stepTaste_3 : ∀ w ∈ u_ws RX3 TX3 5, w ∈ wsX11_stepTaste := by decide +kernel
theorem ly_X11_stepTaste_5 : ∀ w ∈ u_ws RX5 TX5 17, w ∈ wsX11_stepTaste := by decide +kernel
section
variable {p : Program} {l : Launch} {e : Env} {s : State} {m : MethodId} {below : List Frame} {meth : Method} {c : Code} {N0 : Nat} {T : Nat → ClassId} {D : va_G} {gr : List (Nat × Nat)} {ad : Nat → Nat → Nat → Nat}
set_option maxRecDepth 100000 in
set_option maxHeartbeats 4000000 in
theorem w_X11_stepTaste {Y : Mem} {a1 : Int32} (C : Cx p s m [.ref (ad 0 0 0), .int a1].toArray meth c cX11_stepTaste 2 wsX11_stepTaste RX11 N0 T D gr ad) (hrt : meth.sig.returnType = (some .int)) (hG : ∀ q ∈ ([(1, 0), (0, 0)] ++ allG), q ∈ gr) (hl : l.stackTraces = false) (hX : ∀ x ∈ c.exceptionTable.toList, False) {res : (Nat × Mem) ⊕ (Int32 × Mem)} (h : X11_stepTaste Y a1 = some res) : FW p l e (Rx 7 1) s m [.ref (ad 0 0 0), .int a1].toArray below meth c 2 N0 T D gr ad 0 0 (vx_MQ below (va_Qi (fun r Y1 => Sum.inr (r, Y1) = res) (WB T D gr ad) (fun q => N0 ≤ q)) (vx_X (fun u => Sum.inl u = res) (XB T D gr ad) (fun q => N0 ≤ q)) [.ref (ad 0 0 0), .int a1].toArray s 1 6 (fun q => N0 ≤ q)) Y 0 [(0, .ref (ad 0 0 0)), (1, .int a1)] [] := by
  unfold X11_stepTaste at h
  refine fw_aload_n C dX11_stepTaste_0 rfl 0 rfl ?_
  refine fw_iload_n C dX11_stepTaste_1 rfl 1 rfl ?_
  rcases bdxv_some h with ⟨x5, q2, e6⟩ | ⟨Y4, q2, h⟩
  · exact fw_callXVv_l C (ci := 11) (Cn := RX11) (Tc := TX11) (N := 11) (As := [.int a1]) (c_X11_requireStep hl (gac (hG _ (List.mem_of_getElem? (i := 1) rfl)) (gac (hG _ (List.mem_of_getElem? (i := 0) rfl)) (fun q hq => hG q (List.mem_append_right _ hq)))) q2) (cwV 1 (cx_ts C) gX11_stepTaste_X11_requireStep rfl rfl rfl (by decide +kernel) ⟨Nat.le_of_ble_eq_true rfl, Nat.le_of_ble_eq_true rfl⟩) rfl (hG _ (List.mem_of_getElem? (i := 1) rfl)) (of0_0 _) (ce0 T ad _ _) rfl (st := []) rfl (Nat.le_of_ble_eq_true rfl) ⟨Nat.le_of_ble_eq_true rfl, Nat.le_of_ble_eq_true rfl⟩ dX11_stepTaste_2 hX e6 (Nat.le_of_ble_eq_true rfl) (Nat.le_of_ble_eq_true rfl)
  refine fw_callXVv_r C (ci := 11) (Cn := RX11) (Tc := TX11) (N := 11) (As := [.int a1]) (c_X11_requireStep hl (gac (hG _ (List.mem_of_getElem? (i := 1) rfl)) (gac (hG _ (List.mem_of_getElem? (i := 0) rfl)) (fun q hq => hG q (List.mem_append_right _ hq)))) q2) (cwV 1 (cx_ts C) gX11_stepTaste_X11_requireStep rfl rfl rfl (by decide +kernel) ⟨Nat.le_of_ble_eq_true rfl, Nat.le_of_ble_eq_true rfl⟩) rfl (hG _ (List.mem_of_getElem? (i := 1) rfl)) (of0_0 _) (ce0 T ad _ _) rfl (st := []) rfl (Nat.le_of_ble_eq_true rfl) ⟨Nat.le_of_ble_eq_true rfl, Nat.le_of_ble_eq_true rfl⟩ dX11_stepTaste_2 ?_
  refine fw_aload_n C dX11_stepTaste_5 rfl 0 rfl ?_
  refine fw_get C (ci := 11) (Cn := RX11) (Tc := TX11) (N := 11) (j := 5) ly_X11_stepTaste_11 rfl (hG _ (List.mem_of_getElem? (i := 1) rfl)) (of0_0 _) (ce0 T ad _ _) (by decide) (cx_ts C _ fl_X11_stepTaste_67) (fun _ h => h) (v := .ref (ad 1 0 0)) rfl dX11_stepTaste_6 ?_
  refine fw_getN C (ci := 3) (Cn := RX3) (Tc := TX3) (N := 5) (j := 0) ly_X11_stepTaste_3 rfl (hG _ (List.mem_of_getElem? (i := 0) rfl)) (of1_0 _) (ce1 T ad _ _) (by decide) (Nst_use (cx_nst C) (w := .fieldLinkNest RX11 117 "RecipeScheduler$Kitchen" "recipe" "LRecipeScheduler$Recipe;" "RecipeScheduler") 507 (by decide +kernel) rfl) (fun _ h => h) (v := .ref (ad 3 ((Y4 1 0 0 0).toNatClampNeg) 0)) rfl dX11_stepTaste_9 ?_
  obtain ⟨b7, h⟩ := gd_some h
  have b7 := of_decide_eq_true b7
  refine fw_getN C (ci := 5) (Cn := RX5) (Tc := TX5) (N := 17) (j := 9) ly_X11_stepTaste_5 rfl ((fun q hq => hG q (List.mem_append_right _ hq)) _ (allG_3 b7)) (of3_0 _) (ce3 T ad _ _) (by decide) (Nst_use (cx_nst C) (w := .fieldLinkNest RX11 199 "RecipeScheduler$Recipe" "taste" "[I" "RecipeScheduler") 152 (by decide +kernel) rfl) (fun _ h => h) (v := .ref (ad 3 (((Y4 1 0 0 0).toNatClampNeg)) 4)) rfl dX11_stepTaste_12 ?_
  refine fw_iload_n C dX11_stepTaste_15 rfl 1 rfl ?_
  obtain ⟨b8, h⟩ := gd_some h
  refine fw_iald2 C ((fun q hq => hG q (List.mem_append_right _ hq)) _ (allG_3 b7)) (of3_4 _) (ca3_4 T ad _ _) b8 (Nat.le_of_ble_eq_true rfl) dX11_stepTaste_16 ?_
  refine fw_xr (Nat.le_of_ble_eq_true rfl) (Nat.le_of_ble_eq_true rfl) ?_
  exact fw_iret C hrt Y4 (Option.some.inj h) (fun t ht => ht) dX11_stepTaste_17
end
set_option maxRecDepth 100000 in
set_option maxHeartbeats 4000000 in
theorem c_X11_stepTaste {l : Launch} {N0 : Nat} {T : Nat → ClassId} {D : va_G} {gr : List (Nat × Nat)} {ad : Nat → Nat → Nat → Nat} {Y : Mem} {a1 : Int32} {res : (Nat × Mem) ⊕ (Int32 × Mem)} (hl : l.stackTraces = false) (hG : ∀ q ∈ ([(1, 0), (0, 0)] ++ allG), q ∈ gr) (h : X11_stepTaste Y a1 = some res) : CXi l yX11_stepTaste wsX11_stepTaste (Rx 7 1) N0 T D gr ad Y [.ref (ad 0 0 0), .int a1] 1 res :=
  fw_xbody (by decide +kernel) rfl (Nat.le_of_ble_eq_true rfl) (fun p e s m below meth c C hrt hX => w_X11_stepTaste C hrt hG hl hX h)
theorem ly_X8_halt_8 : ∀ w ∈ u_ws RX8 TX8 15, w ∈ wsX8_halt := by decide +kernel
theorem fl_X8_halt_15 : Cond.fieldLink RX8 15 "RecipeScheduler$State" "remaining" "[I" ∈ wsX8_halt := by decide +kernel
theorem fl_X8_halt_53 : Cond.fieldLink RX8 53 "RecipeScheduler$State" "running" "I" ∈ wsX8_halt := by decide +kernel
theorem fl_X8_halt_46 : Cond.fieldLink RX8 46 "RecipeScheduler$State" "stops" "I" ∈ wsX8_halt := by decide +kernel
section
variable {p : Program} {l : Launch} {e : Env} {s : State} {m : MethodId} {below : List Frame} {meth : Method} {c : Code} {N0 : Nat} {T : Nat → ClassId} {D : va_G} {gr : List (Nat × Nat)} {ad : Nat → Nat → Nat → Nat}
set_option maxRecDepth 100000 in
set_option maxHeartbeats 4000000 in
theorem w_X8_halt {Y : Mem} {g0 : Nat} {a1 : Int32} (C : Cx p s m [.ref (ad 2 g0 0), .int a1].toArray meth c cX8_halt 3 wsX8_halt RX8 N0 T D gr ad) (hrt : meth.sig.returnType = (some .int)) (hG : ∀ q ∈ [(2, g0)], q ∈ gr) {res : Int32 × Mem} (h : X8_halt Y g0 a1 = some res) : FW p l e (Rm 0) s m [.ref (ad 2 g0 0), .int a1].toArray below meth c 3 N0 T D gr ad 0 0 (MQ below (va_Qi (fun r Y1 => (r, Y1) = res) (WB T D gr ad) (fun q => N0 ≤ q)) [.ref (ad 2 g0 0), .int a1].toArray s 0 0 (fun q => N0 ≤ q)) Y 0 [(0, .ref (ad 2 g0 0)), (1, .int a1)] [] := by
  unfold X8_halt at h
  refine fw_aload_n C dX8_halt_0 rfl 0 rfl ?_
  refine fw_get C (ci := 8) (Cn := RX8) (Tc := TX8) (N := 15) (j := 10) ly_X8_halt_8 rfl (hG _ (List.mem_of_getElem? (i := 0) rfl)) (of2_0 _) (ce2 T ad _ _) (by decide) (cx_ts C _ fl_X8_halt_15) (fun _ h => h) (v := .ref (ad 2 g0 2)) rfl dX8_halt_1 ?_
  refine fw_iload_n C dX8_halt_4 rfl 1 rfl ?_
  obtain ⟨b1, h⟩ := gd_some h
  refine fw_iald2 C (hG _ (List.mem_of_getElem? (i := 0) rfl)) (of2_2 _) (ca2_2 T ad _ _) b1 (Nat.le_of_ble_eq_true rfl) dX8_halt_5 ?_
  obtain ⟨v2, e3, h⟩ := lt_some h
  refine fw_top (v' := .int v2) (by rw [e3]) ?_
  refine fw_istore_n C dX8_halt_6 rfl (by decide) (L' := [(2, .int v2), (0, .ref (ad 2 g0 0)), (1, .int a1)]) rfl ?_
  refine fw_aload_n C dX8_halt_7 rfl 1 rfl ?_
  refine fw_dup C dX8_halt_8 rfl ?_
  refine fw_get C (ci := 8) (Cn := RX8) (Tc := TX8) (N := 15) (j := 6) ly_X8_halt_8 rfl (hG _ (List.mem_of_getElem? (i := 0) rfl)) (of2_0 _) (ce2 T ad _ _) (by decide) (cx_ts C _ fl_X8_halt_53) (fun _ h => h) (v := .int (Y 2 g0 0 6)) rfl dX8_halt_9 ?_
  refine fw_iconst C dX8_halt_12 (v := 1) rfl ?_
  refine fw_iload_n C dX8_halt_13 rfl 2 rfl ?_
  refine fw_ishl C dX8_halt_14 ?_
  refine fw_iconst C dX8_halt_15 (v := (-1)) rfl ?_
  refine fw_ixor C dX8_halt_16 ?_
  refine fw_iand C dX8_halt_17 ?_
  obtain ⟨Y4, e5, h⟩ := lt_some h
  refine fw_put C (ci := 8) (Cn := RX8) (Tc := TX8) (N := 15) (j := 6) (ty := .int) (upd (Y 2 g0 0) 6 ((Y 2 g0 0 6) &&& ((1 <<< (a1 &&& 31)) ^^^ ((-1))))) ly_X8_halt_8 rfl tyX8_ok nmX8 (hG _ (List.mem_of_getElem? (i := 0) rfl)) (of2_0 _) (ce2 T ad _ _) (by decide) (cx_ts C _ fl_X8_halt_53) (fun _ h => h) rfl (by decide +kernel) rfl rfl (Nat.le_of_ble_eq_true rfl) (ce2_put6 T ad _ _ _) dX8_halt_18 ?_
  refine fw_mem ((up_eq _ _ _ _ _ _).symm.trans e5) ?_
  refine fw_aload_n C dX8_halt_21 rfl 1 rfl ?_
  refine fw_get C (ci := 8) (Cn := RX8) (Tc := TX8) (N := 15) (j := 10) ly_X8_halt_8 rfl (hG _ (List.mem_of_getElem? (i := 0) rfl)) (of2_0 _) (ce2 T ad _ _) (by decide) (cx_ts C _ fl_X8_halt_15) (fun _ h => h) (v := .ref (ad 2 g0 2)) rfl dX8_halt_22 ?_
  refine fw_iload_n C dX8_halt_25 rfl 2 rfl ?_
  refine fw_iconst C dX8_halt_26 (v := 0) rfl ?_
  obtain ⟨Y6, e7, h⟩ := lt_some h
  refine fw_iast2 C (hG _ (List.mem_of_getElem? (i := 0) rfl)) (of2_2 _) (ca2_2 T ad _) b1 (Nat.le_of_ble_eq_true rfl) dX8_halt_27 ?_
  refine fw_mem e7 ?_
  refine fw_aload_n C dX8_halt_28 rfl 1 rfl ?_
  refine fw_dup C dX8_halt_29 rfl ?_
  refine fw_get C (ci := 8) (Cn := RX8) (Tc := TX8) (N := 15) (j := 4) ly_X8_halt_8 rfl (hG _ (List.mem_of_getElem? (i := 0) rfl)) (of2_0 _) (ce2 T ad _ _) (by decide) (cx_ts C _ fl_X8_halt_46) (fun _ h => h) (v := .int (Y6 2 g0 0 4)) rfl dX8_halt_30 ?_
  refine fw_iconst C dX8_halt_33 (v := 1) rfl ?_
  refine fw_iadd C dX8_halt_34 ?_
  obtain ⟨Y8, e9, h⟩ := lt_some h
  refine fw_put C (ci := 8) (Cn := RX8) (Tc := TX8) (N := 15) (j := 4) (ty := .int) (upd (Y6 2 g0 0) 4 ((Y6 2 g0 0 4) + 1)) ly_X8_halt_8 rfl tyX8_ok nmX8 (hG _ (List.mem_of_getElem? (i := 0) rfl)) (of2_0 _) (ce2 T ad _ _) (by decide) (cx_ts C _ fl_X8_halt_46) (fun _ h => h) rfl (by decide +kernel) rfl rfl (Nat.le_of_ble_eq_true rfl) (ce2_put4 T ad _ _ _) dX8_halt_35 ?_
  refine fw_mem ((up_eq _ _ _ _ _ _).symm.trans e9) ?_
  refine fw_iload_n C dX8_halt_38 rfl 0 rfl ?_
  exact fw_iret C hrt Y8 (Option.some.inj h) (fun t ht => ht) dX8_halt_39
end
set_option maxRecDepth 100000 in
set_option maxHeartbeats 4000000 in
theorem c_X8_halt {l : Launch} {N0 : Nat} {T : Nat → ClassId} {D : va_G} {gr : List (Nat × Nat)} {ad : Nat → Nat → Nat → Nat} {Y : Mem} {g0 : Nat} {a1 : Int32} {res : Int32 × Mem} (hG : ∀ q ∈ [(2, g0)], q ∈ gr) (h : X8_halt Y g0 a1 = some res) : CI l yX8_halt wsX8_halt (Rm 0) N0 T D gr ad Y [.ref (ad 2 g0 0), .int a1] (fun r Y1 => (r, Y1) = res) :=
  fw_body (by decide +kernel) rfl (Nat.le_of_ble_eq_true rfl) (fun p e s m below meth c C hrt => w_X8_halt C hrt hG  h)
theorem ly_X11_stop_11 : ∀ w ∈ u_ws RX11 TX11 11, w ∈ wsX11_stop := by decide +kernel
theorem fl_X11_stop_67 : Cond.fieldLink RX11 67 "RecipeScheduler" "now" "LRecipeScheduler$Kitchen;" ∈ wsX11_stop := by decide +kernel
theorem ly_X11_stop_3 : ∀ w ∈ u_ws RX3 TX3 5, w ∈ wsX11_stop := by decide +kernel
theorem ly_X11_stop_8 : ∀ w ∈ u_ws RX8 TX8 15, w ∈ wsX11_stop := by decide +kernel
theorem fl_X11_stop_77 : Cond.fieldLink RX11 77 "RecipeScheduler" "history" "LRecipeScheduler$History;" ∈ wsX11_stop := by decide +kernel
theorem th_X11_stop_22 : Cond.classLink RX11 96 "java/lang/IllegalStateException" ∈ wsX11_stop ∧ Cond.initialized "java/lang/IllegalStateException" ∈ wsX11_stop ∧ ∀ w ∈ (vx_atS RX11 100 "java/lang/IllegalStateException" ["java/lang/RuntimeException", "java/lang/Exception"]).filter goodWord, w ∈ wsX11_stop := by decide +kernel
section
variable {p : Program} {l : Launch} {e : Env} {s : State} {m : MethodId} {below : List Frame} {meth : Method} {c : Code} {N0 : Nat} {T : Nat → ClassId} {D : va_G} {gr : List (Nat × Nat)} {ad : Nat → Nat → Nat → Nat}
set_option maxRecDepth 100000 in
set_option maxHeartbeats 4000000 in
theorem w_X11_stop {Y : Mem} {a1 : Int32} (C : Cx p s m [.ref (ad 0 0 0), .int a1].toArray meth c cX11_stop 2 wsX11_stop RX11 N0 T D gr ad) (hrt : meth.sig.returnType = (some .int)) (hG : ∀ q ∈ ([(1, 0), (0, 0), (2, 0), (9, 0)] ++ allG), q ∈ gr) (hl : l.stackTraces = false) (hX : ∀ x ∈ c.exceptionTable.toList, False) {res : (Nat × Mem) ⊕ (Int32 × Mem)} (h : X11_stop Y a1 = some res) : FW p l e (Rx 7 2) s m [.ref (ad 0 0 0), .int a1].toArray below meth c 2 N0 T D gr ad 0 0 (vx_MQ below (va_Qi (fun r Y1 => Sum.inr (r, Y1) = res) (WB T D gr ad) (fun q => N0 ≤ q)) (vx_X (fun u => Sum.inl u = res) (XB T D gr ad) (fun q => N0 ≤ q)) [.ref (ad 0 0 0), .int a1].toArray s 2 12 (fun q => N0 ≤ q)) Y 0 [(0, .ref (ad 0 0 0)), (1, .int a1)] [] := by
  unfold X11_stop at h
  refine fw_aload_n C dX11_stop_0 rfl 0 rfl ?_
  refine fw_iload_n C dX11_stop_1 rfl 1 rfl ?_
  rcases bdxv_some h with ⟨x5, q2, e6⟩ | ⟨Y4, q2, h⟩
  · exact fw_callXVv_l C (ci := 11) (Cn := RX11) (Tc := TX11) (N := 11) (As := [.int a1]) (c_X11_requireStep hl (gac (hG _ (List.mem_of_getElem? (i := 1) rfl)) (gac (hG _ (List.mem_of_getElem? (i := 0) rfl)) (fun q hq => hG q (List.mem_append_right _ hq)))) q2) (cwV 1 (cx_ts C) gX11_stop_X11_requireStep rfl rfl rfl (by decide +kernel) ⟨Nat.le_of_ble_eq_true rfl, Nat.le_of_ble_eq_true rfl⟩) rfl (hG _ (List.mem_of_getElem? (i := 1) rfl)) (of0_0 _) (ce0 T ad _ _) rfl (st := []) rfl (Nat.le_of_ble_eq_true rfl) ⟨Nat.le_of_ble_eq_true rfl, Nat.le_of_ble_eq_true rfl⟩ dX11_stop_2 hX e6 (Nat.le_of_ble_eq_true rfl) (Nat.le_of_ble_eq_true rfl)
  refine fw_callXVv_r C (ci := 11) (Cn := RX11) (Tc := TX11) (N := 11) (As := [.int a1]) (c_X11_requireStep hl (gac (hG _ (List.mem_of_getElem? (i := 1) rfl)) (gac (hG _ (List.mem_of_getElem? (i := 0) rfl)) (fun q hq => hG q (List.mem_append_right _ hq)))) q2) (cwV 1 (cx_ts C) gX11_stop_X11_requireStep rfl rfl rfl (by decide +kernel) ⟨Nat.le_of_ble_eq_true rfl, Nat.le_of_ble_eq_true rfl⟩) rfl (hG _ (List.mem_of_getElem? (i := 1) rfl)) (of0_0 _) (ce0 T ad _ _) rfl (st := []) rfl (Nat.le_of_ble_eq_true rfl) ⟨Nat.le_of_ble_eq_true rfl, Nat.le_of_ble_eq_true rfl⟩ dX11_stop_2 ?_
  refine fw_aload_n C dX11_stop_5 rfl 0 rfl ?_
  refine fw_get C (ci := 11) (Cn := RX11) (Tc := TX11) (N := 11) (j := 5) ly_X11_stop_11 rfl (hG _ (List.mem_of_getElem? (i := 1) rfl)) (of0_0 _) (ce0 T ad _ _) (by decide) (cx_ts C _ fl_X11_stop_67) (fun _ h => h) (v := .ref (ad 1 0 0)) rfl dX11_stop_6 ?_
  refine fw_getN C (ci := 3) (Cn := RX3) (Tc := TX3) (N := 5) (j := 1) ly_X11_stop_3 rfl (hG _ (List.mem_of_getElem? (i := 0) rfl)) (of1_0 _) (ce1 T ad _ _) (by decide) (Nst_use (cx_nst C) (w := .fieldLinkNest RX11 139 "RecipeScheduler$Kitchen" "state" "LRecipeScheduler$State;" "RecipeScheduler") 509 (by decide +kernel) rfl) (fun _ h => h) (v := .ref (ad 2 0 0)) rfl dX11_stop_9 ?_
  refine fw_getN C (ci := 8) (Cn := RX8) (Tc := TX8) (N := 15) (j := 6) ly_X11_stop_8 rfl (hG _ (List.mem_of_getElem? (i := 2) rfl)) (of2_0 _) (ce2 T ad _ _) (by decide) (Nst_use (cx_nst C) (w := .fieldLinkNest RX11 324 "RecipeScheduler$State" "running" "I" "RecipeScheduler") 445 (by decide +kernel) rfl) (fun _ h => h) (v := .int (Y4 2 0 0 6)) rfl dX11_stop_12 ?_
  refine fw_iload_n C dX11_stop_15 rfl 1 rfl ?_
  obtain ⟨r7, q8, h⟩ := bd1_some h
  refine fw_callSi C (As := [.int (Y4 2 0 0 6), .int a1]) (c_X11_contains ga0 q8) (va_cwS 2 (cx_ts C) gX11_stop_X11_contains rfl rfl rfl (by decide +kernel) ⟨Nat.le_of_ble_eq_true rfl, Nat.le_of_ble_eq_true rfl⟩) rfl (st := []) rfl (Nat.le_of_ble_eq_true rfl) ⟨Nat.le_of_ble_eq_true rfl, Nat.le_of_ble_eq_true rfl⟩ dX11_stop_16 (pp2 ?_)
  refine fw_if_ne C dX11_stop_19 (tgt := 33) rfl (fun c9 => ?_) (fun c9 => ?_)
  · have h := ite_f c9 h
    refine fw_aload_n C dX11_stop_33 rfl 0 rfl ?_
    refine fw_get C (ci := 11) (Cn := RX11) (Tc := TX11) (N := 11) (j := 7) ly_X11_stop_11 rfl (hG _ (List.mem_of_getElem? (i := 1) rfl)) (of0_0 _) (ce0 T ad _ _) (by decide) (cx_ts C _ fl_X11_stop_77) (fun _ h => h) (v := .ref (ad 9 0 0)) rfl dX11_stop_34 ?_
    refine fw_aload_n C dX11_stop_37 rfl 0 rfl ?_
    refine fw_get C (ci := 11) (Cn := RX11) (Tc := TX11) (N := 11) (j := 5) ly_X11_stop_11 rfl (hG _ (List.mem_of_getElem? (i := 1) rfl)) (of0_0 _) (ce0 T ad _ _) (by decide) (cx_ts C _ fl_X11_stop_67) (fun _ h => h) (v := .ref (ad 1 0 0)) rfl dX11_stop_38 ?_
    refine fw_getN C (ci := 3) (Cn := RX3) (Tc := TX3) (N := 5) (j := 1) ly_X11_stop_3 rfl (hG _ (List.mem_of_getElem? (i := 0) rfl)) (of1_0 _) (ce1 T ad _ _) (by decide) (Nst_use (cx_nst C) (w := .fieldLinkNest RX11 139 "RecipeScheduler$Kitchen" "state" "LRecipeScheduler$State;" "RecipeScheduler") 509 (by decide +kernel) rfl) (fun _ h => h) (v := .ref (ad 2 0 0)) rfl dX11_stop_41 ?_
    obtain ⟨Y12, q11, h⟩ := bd1_some h
    refine fw_callVv C (ci := 2) (Cn := RX2) (Tc := TX2) (N := 3) (As := [.ref (ad 2 0 0)]) (c_X2_push (gac (hG _ (List.mem_of_getElem? (i := 3) rfl)) (gac (hG _ (List.mem_of_getElem? (i := 2) rfl)) (fun q hq => hG q (List.mem_append_right _ hq)))) q11) (cwV 1 (cx_ts C) gX11_stop_X2_push rfl rfl rfl (by decide +kernel) ⟨Nat.le_of_ble_eq_true rfl, Nat.le_of_ble_eq_true rfl⟩) rfl (hG _ (List.mem_of_getElem? (i := 3) rfl)) (of9_0 _) (ce9 T ad _ _) rfl (st := []) rfl (Nat.le_of_ble_eq_true rfl) ⟨Nat.le_of_ble_eq_true rfl, Nat.le_of_ble_eq_true rfl⟩ dX11_stop_44 (ppv ?_)
    refine fw_aload_n C dX11_stop_47 rfl 0 rfl ?_
    refine fw_get C (ci := 11) (Cn := RX11) (Tc := TX11) (N := 11) (j := 5) ly_X11_stop_11 rfl (hG _ (List.mem_of_getElem? (i := 1) rfl)) (of0_0 _) (ce0 T ad _ _) (by decide) (cx_ts C _ fl_X11_stop_67) (fun _ h => h) (v := .ref (ad 1 0 0)) rfl dX11_stop_48 ?_
    refine fw_getN C (ci := 3) (Cn := RX3) (Tc := TX3) (N := 5) (j := 1) ly_X11_stop_3 rfl (hG _ (List.mem_of_getElem? (i := 0) rfl)) (of1_0 _) (ce1 T ad _ _) (by decide) (Nst_use (cx_nst C) (w := .fieldLinkNest RX11 139 "RecipeScheduler$Kitchen" "state" "LRecipeScheduler$State;" "RecipeScheduler") 509 (by decide +kernel) rfl) (fun _ h => h) (v := .ref (ad 2 0 0)) rfl dX11_stop_51 ?_
    refine fw_iload_n C dX11_stop_54 rfl 1 rfl ?_
    obtain ⟨r13, Y15, q14, h⟩ := bd2_some h
    refine fw_callVi C (ci := 8) (Cn := RX8) (Tc := TX8) (N := 15) (As := [.int a1]) (c_X8_halt (gac (hG _ (List.mem_of_getElem? (i := 2) rfl)) ga0) q14) (cwV 1 (cx_ts C) gX11_stop_X8_halt rfl rfl rfl (by decide +kernel) ⟨Nat.le_of_ble_eq_true rfl, Nat.le_of_ble_eq_true rfl⟩) rfl (hG _ (List.mem_of_getElem? (i := 2) rfl)) (of2_0 _) (ce2 T ad _ _) rfl (st := []) rfl (Nat.le_of_ble_eq_true rfl) ⟨Nat.le_of_ble_eq_true rfl, Nat.le_of_ble_eq_true rfl⟩ dX11_stop_55 (ppw ?_)
    refine fw_xr (Nat.le_of_ble_eq_true rfl) (Nat.le_of_ble_eq_true rfl) ?_
    exact fw_iret C hrt Y15 (Option.some.inj h) (fun t ht => ht) dX11_stop_58
  · have h := ite_t c9 h
    exact fw_throwSW C hl hX (cls := "java/lang/IllegalStateException") (names := ["java/lang/RuntimeException", "java/lang/Exception"]) 1 rfl (by decide +kernel) (by decide +kernel) (cx_ts C _ th_X11_stop_22.1) (cx_ts C _ th_X11_stop_22.2.1) (sr_24 (cx_st C)) (vx_hat (fun w hw => cx_ts C _ (th_X11_stop_22.2.2 w hw)) tg_1_100_96b (vx_c (Nst_use (cx_nst C) (w := .castable "java/lang/IllegalStateException" "java/lang/IllegalStateException") 700 (by decide +kernel) rfl) (vx_c (Nst_use (cx_nst C) 593 (by decide +kernel) rfl) (vx_c (Nst_use (cx_nst C) 595 (by decide +kernel) rfl) (vx_c (Nst_use (cx_nst C) 597 (by decide +kernel) rfl) vx_n))))) tg_1_100_96 dX11_stop_22 dX11_stop_25 dX11_stop_26 dX11_stop_29 dX11_stop_32 (Nat.le_of_ble_eq_true rfl) (Nat.le_of_ble_eq_true rfl) (Nat.le_of_ble_eq_true rfl) (Nat.le_of_ble_eq_true rfl) (Nat.le_of_ble_eq_true rfl) (Nat.le_of_ble_eq_true rfl) (Option.some.inj h)
end
set_option maxRecDepth 100000 in
set_option maxHeartbeats 4000000 in
theorem c_X11_stop {l : Launch} {N0 : Nat} {T : Nat → ClassId} {D : va_G} {gr : List (Nat × Nat)} {ad : Nat → Nat → Nat → Nat} {Y : Mem} {a1 : Int32} {res : (Nat × Mem) ⊕ (Int32 × Mem)} (hl : l.stackTraces = false) (hG : ∀ q ∈ ([(1, 0), (0, 0), (2, 0), (9, 0)] ++ allG), q ∈ gr) (h : X11_stop Y a1 = some res) : CXi l yX11_stop wsX11_stop (Rx 7 2) N0 T D gr ad Y [.ref (ad 0 0 0), .int a1] 2 res :=
  fw_xbody (by decide +kernel) rfl (Nat.le_of_ble_eq_true rfl) (fun p e s m below meth c C hrt hX => w_X11_stop C hrt hG hl hX h)
theorem ly_X11_taste_11 : ∀ w ∈ u_ws RX11 TX11 11, w ∈ wsX11_taste := by decide +kernel
theorem fl_X11_taste_67 : Cond.fieldLink RX11 67 "RecipeScheduler" "now" "LRecipeScheduler$Kitchen;" ∈ wsX11_taste := by decide +kernel
section
variable {p : Program} {l : Launch} {e : Env} {s : State} {m : MethodId} {below : List Frame} {meth : Method} {c : Code} {N0 : Nat} {T : Nat → ClassId} {D : va_G} {gr : List (Nat × Nat)} {ad : Nat → Nat → Nat → Nat}
set_option maxRecDepth 100000 in
set_option maxHeartbeats 4000000 in
theorem w_X11_taste {Y : Mem} (C : Cx p s m [.ref (ad 0 0 0)].toArray meth c cX11_taste 1 wsX11_taste RX11 N0 T D gr ad) (hrt : meth.sig.returnType = (some .int)) (hG : ∀ q ∈ ([(0, 0), (2, 0), (1, 0)] ++ allG), q ∈ gr) {res : Int32} (h : X11_taste Y = some res) : FW p l e (Rm 2) s m [.ref (ad 0 0 0)].toArray below meth c 1 N0 T D gr ad 0 0 (MQ below (va_Qi (fun r Y1 => r = res ∧ Y1 = Y) (WB T D gr ad) (fun q => N0 ≤ q)) [.ref (ad 0 0 0)].toArray s 0 0 (fun q => N0 ≤ q)) Y 0 [(0, .ref (ad 0 0 0))] [] := by
  unfold X11_taste at h
  refine fw_aload_n C dX11_taste_0 rfl 0 rfl ?_
  refine fw_get C (ci := 11) (Cn := RX11) (Tc := TX11) (N := 11) (j := 5) ly_X11_taste_11 rfl (hG _ (List.mem_of_getElem? (i := 0) rfl)) (of0_0 _) (ce0 T ad _ _) (by decide) (cx_ts C _ fl_X11_taste_67) (fun _ h => h) (v := .ref (ad 1 0 0)) rfl dX11_taste_1 ?_
  obtain ⟨r1, q2, h⟩ := bd1_some h
  refine fw_callVi C (ci := 3) (Cn := RX3) (Tc := TX3) (N := 5) (As := []) (c_X3_dishTaste (gac (hG _ (List.mem_of_getElem? (i := 2) rfl)) (gac (hG _ (List.mem_of_getElem? (i := 1) rfl)) (fun q hq => hG q (List.mem_append_right _ hq)))) q2) (cwV 0 (cx_ts C) gX11_taste_X3_dishTaste rfl rfl rfl (by decide +kernel) ⟨Nat.le_of_ble_eq_true rfl, Nat.le_of_ble_eq_true rfl⟩) rfl (hG _ (List.mem_of_getElem? (i := 2) rfl)) (of1_0 _) (ce1 T ad _ _) rfl (st := []) rfl (Nat.le_of_ble_eq_true rfl) ⟨Nat.le_refl 0, Nat.le_refl 0⟩ dX11_taste_4 (pp2 ?_)
  exact fw_iret C hrt Y ⟨Option.some.inj h, rfl⟩ (fun t ht => ht) dX11_taste_7
end
set_option maxRecDepth 100000 in
set_option maxHeartbeats 4000000 in
theorem c_X11_taste {l : Launch} {N0 : Nat} {T : Nat → ClassId} {D : va_G} {gr : List (Nat × Nat)} {ad : Nat → Nat → Nat → Nat} {Y : Mem} {res : Int32} (hG : ∀ q ∈ ([(0, 0), (2, 0), (1, 0)] ++ allG), q ∈ gr) (h : X11_taste Y = some res) : CI l yX11_taste wsX11_taste (Rm 2) N0 T D gr ad Y [.ref (ad 0 0 0)] (fun r Y1 => r = res ∧ Y1 = Y) :=
  fw_body (by decide +kernel) rfl (Nat.le_of_ble_eq_true rfl) (fun p e s m below meth c C hrt => w_X11_taste C hrt hG  h)
theorem ly_X11_truncate_11 : ∀ w ∈ u_ws RX11 TX11 11, w ∈ wsX11_truncate := by decide +kernel
theorem fl_X11_truncate_41 : Cond.fieldLink RX11 41 "RecipeScheduler" "input" "LRecipeScheduler$Text;" ∈ wsX11_truncate := by decide +kernel
theorem ly_X11_truncate_9 : ∀ w ∈ u_ws RX9 TX9 2, w ∈ wsX11_truncate := by decide +kernel
theorem th_X11_truncate_15 : Cond.classLink RX11 109 "java/lang/IllegalArgumentException" ∈ wsX11_truncate ∧ Cond.initialized "java/lang/IllegalArgumentException" ∈ wsX11_truncate ∧ ∀ w ∈ (vx_atS RX11 113 "java/lang/IllegalArgumentException" ["java/lang/RuntimeException", "java/lang/Exception"]).filter goodWord, w ∈ wsX11_truncate := by decide +kernel
section
variable {p : Program} {l : Launch} {e : Env} {s : State} {m : MethodId} {below : List Frame} {meth : Method} {c : Code} {N0 : Nat} {T : Nat → ClassId} {D : va_G} {gr : List (Nat × Nat)} {ad : Nat → Nat → Nat → Nat}
set_option maxRecDepth 100000 in
set_option maxHeartbeats 4000000 in
theorem w_X11_truncate {Y : Mem} {a1 : Int32} (C : Cx p s m [.ref (ad 0 0 0), .int a1].toArray meth c cX11_truncate 2 wsX11_truncate RX11 N0 T D gr ad) (hrt : meth.sig.returnType = (some .int)) (hG : ∀ q ∈ [(0, 0), (5, 0)], q ∈ gr) (hl : l.stackTraces = false) (hX : ∀ x ∈ c.exceptionTable.toList, False) {res : (Nat × Mem) ⊕ (Int32 × Mem)} (h : X11_truncate Y a1 = some res) : FW p l e (Rx 6 1) s m [.ref (ad 0 0 0), .int a1].toArray below meth c 2 N0 T D gr ad 0 0 (vx_MQ below (va_Qi (fun r Y1 => Sum.inr (r, Y1) = res) (WB T D gr ad) (fun q => N0 ≤ q)) (vx_X (fun u => Sum.inl u = res) (XB T D gr ad) (fun q => N0 ≤ q)) [.ref (ad 0 0 0), .int a1].toArray s 1 6 (fun q => N0 ≤ q)) Y 0 [(0, .ref (ad 0 0 0)), (1, .int a1)] [] := by
  unfold X11_truncate at h
  refine fw_iload_n C dX11_truncate_0 rfl 1 rfl ?_
  refine fw_iconst C dX11_truncate_1 (v := 0) rfl ?_
  refine fw_aload_n C dX11_truncate_2 rfl 0 rfl ?_
  refine fw_get C (ci := 11) (Cn := RX11) (Tc := TX11) (N := 11) (j := 0) ly_X11_truncate_11 rfl (hG _ (List.mem_of_getElem? (i := 0) rfl)) (of0_0 _) (ce0 T ad _ _) (by decide) (cx_ts C _ fl_X11_truncate_41) (fun _ h => h) (v := .ref (ad 5 0 0)) rfl dX11_truncate_3 ?_
  refine fw_getN C (ci := 9) (Cn := RX9) (Tc := TX9) (N := 2) (j := 1) ly_X11_truncate_9 rfl (hG _ (List.mem_of_getElem? (i := 1) rfl)) (of5_0 _) (ce5 T ad _ _) (by decide) (Nst_use (cx_nst C) (w := .fieldLinkNest RX11 37 "RecipeScheduler$Text" "length" "I" "RecipeScheduler") 49 (by decide +kernel) rfl) (fun _ h => h) (v := .int (Y 5 0 0 1)) rfl dX11_truncate_6 ?_
  obtain ⟨r1, q2, h⟩ := bd1_some h
  refine fw_callSi C (As := [.int a1, .int 0, .int (Y 5 0 0 1)]) (c_X11_isWithin ga0 q2) (va_cwS 3 (cx_ts C) gX11_truncate_X11_isWithin rfl rfl rfl (by decide +kernel) ⟨Nat.le_of_ble_eq_true rfl, Nat.le_of_ble_eq_true rfl⟩) rfl (st := []) rfl (Nat.le_of_ble_eq_true rfl) ⟨Nat.le_of_ble_eq_true rfl, Nat.le_of_ble_eq_true rfl⟩ dX11_truncate_9 (pp2 ?_)
  refine fw_if_ne C dX11_truncate_12 (tgt := 25) rfl (fun c3 => ?_) (fun c3 => ?_)
  · have h := ite_f c3 h
    refine fw_aload_n C dX11_truncate_25 rfl 0 rfl ?_
    refine fw_get C (ci := 11) (Cn := RX11) (Tc := TX11) (N := 11) (j := 0) ly_X11_truncate_11 rfl (hG _ (List.mem_of_getElem? (i := 0) rfl)) (of0_0 _) (ce0 T ad _ _) (by decide) (cx_ts C _ fl_X11_truncate_41) (fun _ h => h) (v := .ref (ad 5 0 0)) rfl dX11_truncate_26 ?_
    refine fw_iload_n C dX11_truncate_29 rfl 1 rfl ?_
    obtain ⟨Y4, e5, h⟩ := lt_some h
    refine fw_putN C (ci := 9) (Cn := RX9) (Tc := TX9) (N := 2) (j := 1) (ty := .int) (upd (Y 5 0 0) 1 a1) ly_X11_truncate_9 rfl tyX9_ok nmX9 (hG _ (List.mem_of_getElem? (i := 1) rfl)) (of5_0 _) (ce5 T ad _ _) (by decide) (Nst_use (cx_nst C) (w := .fieldLinkNest RX11 37 "RecipeScheduler$Text" "length" "I" "RecipeScheduler") 49 (by decide +kernel) rfl) (fun _ h => h) rfl (by decide +kernel) rfl rfl (Nat.le_of_ble_eq_true rfl) (ce5_put1 T ad _ _ _) dX11_truncate_30 ?_
    refine fw_mem ((up_eq _ _ _ _ _ _).symm.trans e5) ?_
    refine fw_iload_n C dX11_truncate_33 rfl 1 rfl ?_
    refine fw_xr (Nat.le_of_ble_eq_true rfl) (Nat.le_of_ble_eq_true rfl) ?_
    exact fw_iret C hrt Y4 (Option.some.inj h) (fun t ht => ht) dX11_truncate_34
  · have h := ite_t c3 h
    exact fw_throwS C hl hX (cls := "java/lang/IllegalArgumentException") (names := ["java/lang/RuntimeException", "java/lang/Exception"]) 2 rfl (by decide +kernel) (by decide +kernel) (cx_ts C _ th_X11_truncate_15.1) (cx_ts C _ th_X11_truncate_15.2.1) (sr_13 (cx_st C)) (vx_hat (fun w hw => cx_ts C _ (th_X11_truncate_15.2.2 w hw)) tg_2_113_109b (vx_c (Nst_use (cx_nst C) (w := .castable "java/lang/IllegalArgumentException" "java/lang/IllegalArgumentException") 591 (by decide +kernel) rfl) (vx_c (Nst_use (cx_nst C) 593 (by decide +kernel) rfl) (vx_c (Nst_use (cx_nst C) 595 (by decide +kernel) rfl) (vx_c (Nst_use (cx_nst C) 597 (by decide +kernel) rfl) vx_n))))) tg_2_113_109 dX11_truncate_15 dX11_truncate_18 dX11_truncate_19 dX11_truncate_21 dX11_truncate_24 (Nat.le_of_ble_eq_true rfl) (Nat.le_of_ble_eq_true rfl) (Nat.le_of_ble_eq_true rfl) (Nat.le_of_ble_eq_true rfl) (Nat.le_of_ble_eq_true rfl) (Nat.le_of_ble_eq_true rfl) (Option.some.inj h)
end
set_option maxRecDepth 100000 in
set_option maxHeartbeats 4000000 in
theorem c_X11_truncate {l : Launch} {N0 : Nat} {T : Nat → ClassId} {D : va_G} {gr : List (Nat × Nat)} {ad : Nat → Nat → Nat → Nat} {Y : Mem} {a1 : Int32} {res : (Nat × Mem) ⊕ (Int32 × Mem)} (hl : l.stackTraces = false) (hG : ∀ q ∈ [(0, 0), (5, 0)], q ∈ gr) (h : X11_truncate Y a1 = some res) : CXi l yX11_truncate wsX11_truncate (Rx 6 1) N0 T D gr ad Y [.ref (ad 0 0 0), .int a1] 1 res :=
  fw_xbody (by decide +kernel) rfl (Nat.le_of_ble_eq_true rfl) (fun p e s m below meth c C hrt hX => w_X11_truncate C hrt hG hl hX h)
