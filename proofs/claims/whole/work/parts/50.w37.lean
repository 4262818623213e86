theorem ly_X5_allBefore_5 : ∀ w ∈ u_ws RX5 TX5 17, w ∈ wsX5_allBefore := by decide +kernel
theorem fl_X5_allBefore_47 : Cond.fieldLink RX5 47 "RecipeScheduler$Recipe" "predecessorSet" "[I" ∈ wsX5_allBefore := by decide +kernel
theorem in_X5_allBefore_11 : Cond.initialized RX11 ∈ wsX5_allBefore := by decide +kernel
theorem sw_X5_allBefore_X11_contains : Cond.static yX11_contains ∈ wsX5_allBefore := by decide +kernel
section
variable {p : Program} {l : Launch} {e : Env} {s : State} {m : MethodId} {below : List Frame} {meth : Method} {c : Code} {N0 : Nat} {T : Nat → ClassId} {D : va_G} {gr : List (Nat × Nat)} {ad : Nat → Nat → Nat → Nat}
set_option maxRecDepth 100000 in
set_option maxHeartbeats 4000000 in
theorem w_X5_allBefore_b32 {Y : Mem} {g0 : Nat} {a1 : Int32} (C : Cx p s m [.ref (ad 3 g0 0), .int a1].toArray meth c cX5_allBefore 4 wsX5_allBefore RX5 N0 T D gr ad) (hrt : meth.sig.returnType = (some .int)) (hG : ∀ q ∈ [(3, g0)], q ∈ gr) {res : Int32} {k11 : Int32 → Int32 → Option (Int32)} (hk11 : ∀ (l3 : Int32) (l2 : Int32), k11 l3 l2 = some res → FW p l e (Rm 1) s m [.ref (ad 3 g0 0), .int a1].toArray below meth c 4 N0 T D gr ad 0 0 (MQ below (va_Qi (fun r Y1 => r = res ∧ Y1 = Y) (WB T D gr ad) (fun q => N0 ≤ q)) [.ref (ad 3 g0 0), .int a1].toArray s 0 0 (fun q => N0 ≤ q)) Y 11 [(3, .int l3), (2, .int l2), (0, .ref (ad 3 g0 0))] []) (l3 : Int32) (l2 : Int32) (h : X5_allBefore_b32 Y g0 a1 k11 l3 l2 = some res) : FW p l e (Rm 1) s m [.ref (ad 3 g0 0), .int a1].toArray below meth c 4 N0 T D gr ad 0 0 (MQ below (va_Qi (fun r Y1 => r = res ∧ Y1 = Y) (WB T D gr ad) (fun q => N0 ≤ q)) [.ref (ad 3 g0 0), .int a1].toArray s 0 0 (fun q => N0 ≤ q)) Y 32 [(3, .int l3), (2, .int l2), (0, .ref (ad 3 g0 0))] [] := by
  unfold X5_allBefore_b32 at h
  refine fw_iinc C dX5_allBefore_32 (kk := 0) (v := l3 + (-1)) rfl rfl (by decide) (L' := [(3, .int (l3 + (-1))), (2, .int l2), (0, .ref (ad 3 g0 0))]) rfl ?_
  refine fw_goto C dX5_allBefore_35 (tgt := 11) rfl ?_
  exact hk11 _ _ h
set_option maxRecDepth 100000 in
set_option maxHeartbeats 4000000 in
theorem w_X5_allBefore_b11 {Y : Mem} {g0 : Nat} {a1 : Int32} (C : Cx p s m [.ref (ad 3 g0 0), .int a1].toArray meth c cX5_allBefore 4 wsX5_allBefore RX5 N0 T D gr ad) (hrt : meth.sig.returnType = (some .int)) (hG : ∀ q ∈ [(3, g0)], q ∈ gr) {res : Int32} : ∀ (n : Nat) (l3 : Int32) (l2 : Int32), X5_allBefore_b11 Y g0 a1  n l3 l2 = some res → FW p l e (Rm 1) s m [.ref (ad 3 g0 0), .int a1].toArray below meth c 4 N0 T D gr ad 0 0 (MQ below (va_Qi (fun r Y1 => r = res ∧ Y1 = Y) (WB T D gr ad) (fun q => N0 ≤ q)) [.ref (ad 3 g0 0), .int a1].toArray s 0 0 (fun q => N0 ≤ q)) Y 11 [(3, .int l3), (2, .int l2), (0, .ref (ad 3 g0 0))] [] := by
  intro n
  induction n with
  | zero =>
    intro l3 l2 h
    unfold X5_allBefore_b11 at h
    cases h
  | succ n ih =>
    intro l3 l2 h
    unfold X5_allBefore_b11 at h
    refine fw_iload_n C dX5_allBefore_11 rfl 0 rfl ?_
    refine fw_if_lt C dX5_allBefore_12 (tgt := 38) rfl (fun c6 => ?_) (fun c6 => ?_)
    · have h := ite_t c6 h
      refine fw_iload_n C dX5_allBefore_38 rfl 1 rfl ?_
      exact fw_iret C hrt Y ⟨Option.some.inj h, rfl⟩ (fun t ht => ht) dX5_allBefore_39
    · have h := ite_f c6 h
      refine fw_iload_n C dX5_allBefore_15 rfl 1 rfl ?_
      refine fw_iload_n C dX5_allBefore_16 rfl 0 rfl ?_
      obtain ⟨r7, q8, h⟩ := bd1_some h
      refine fw_callSNi C (As := [.int l2, .int l3]) (c_X11_contains ga0 q8) ⟨(va_cnB 2 (cx_ts C) gX5_allBefore_X11_contains_n69 rfl rfl rfl (cx_nw C (w := .methodLinkNest RX5 69 yX11_contains "RecipeScheduler") 1045 (by decide +kernel) rfl) (cx_ts C _ in_X5_allBefore_11) (by decide +kernel) ⟨Nat.le_of_ble_eq_true rfl, Nat.le_of_ble_eq_true rfl⟩), cx_ts C _ sw_X5_allBefore_X11_contains, trivial⟩ rfl (st := []) rfl (Nat.le_of_ble_eq_true rfl) ⟨Nat.le_refl 0, Nat.le_refl 0⟩ dX5_allBefore_17 (pp2 ?_)
      refine fw_if_eq C dX5_allBefore_20 (tgt := 32) rfl (fun c9 => ?_) (fun c9 => ?_)
      · have h := ite_t c9 h
        exact w_X5_allBefore_b32 C hrt hG  ih _ _ h
      · have h := ite_f c9 h
        refine fw_iload_n C dX5_allBefore_23 rfl 1 rfl ?_
        refine fw_aload_n C dX5_allBefore_24 rfl 2 rfl ?_
        refine fw_get C (ci := 3) (Cn := RX5) (Tc := TX5) (N := 17) (j := 13) ly_X5_allBefore_5 rfl (hG _ (List.mem_of_getElem? (i := 0) rfl)) (of3_0 _) (ce3 T ad _ _) (by decide) (cx_ts C _ fl_X5_allBefore_47) (fun _ h => h) (v := .ref (ad 3 g0 8)) rfl dX5_allBefore_25 ?_
        refine fw_iload_n C dX5_allBefore_28 rfl 0 rfl ?_
        obtain ⟨b10, h⟩ := gd_some h
        refine fw_iald2 C (hG _ (List.mem_of_getElem? (i := 0) rfl)) (of3_8 _) (ca3_8 T ad _ _) b10 (Nat.le_of_ble_eq_true rfl) dX5_allBefore_29 ?_
        refine fw_ior C dX5_allBefore_30 ?_
        obtain ⟨v11, e12, h⟩ := lt_some h
        refine fw_top (v' := .int v11) (by rw [e12]) ?_
        refine fw_istore_n C dX5_allBefore_31 rfl (by decide) (L' := [(2, .int v11), (3, .int l3), (0, .ref (ad 3 g0 0))]) rfl ?_
        refine fw_sub [1, 0, 2] (L' := [(3, .int l3), (2, .int v11), (0, .ref (ad 3 g0 0))]) rfl ?_
        exact w_X5_allBefore_b32 C hrt hG  ih _ _ h
set_option maxRecDepth 100000 in
set_option maxHeartbeats 4000000 in
theorem w_X5_allBefore {Y : Mem} {g0 : Nat} {a1 : Int32} (C : Cx p s m [.ref (ad 3 g0 0), .int a1].toArray meth c cX5_allBefore 4 wsX5_allBefore RX5 N0 T D gr ad) (hrt : meth.sig.returnType = (some .int)) (hG : ∀ q ∈ [(3, g0)], q ∈ gr) {res : Int32} (h : X5_allBefore Y g0 a1 = some res) : FW p l e (Rm 1) s m [.ref (ad 3 g0 0), .int a1].toArray below meth c 4 N0 T D gr ad 0 0 (MQ below (va_Qi (fun r Y1 => r = res ∧ Y1 = Y) (WB T D gr ad) (fun q => N0 ≤ q)) [.ref (ad 3 g0 0), .int a1].toArray s 0 0 (fun q => N0 ≤ q)) Y 0 [(0, .ref (ad 3 g0 0)), (1, .int a1)] [] := by
  unfold X5_allBefore at h
  refine fw_aload_n C dX5_allBefore_0 rfl 0 rfl ?_
  refine fw_get C (ci := 3) (Cn := RX5) (Tc := TX5) (N := 17) (j := 13) ly_X5_allBefore_5 rfl (hG _ (List.mem_of_getElem? (i := 0) rfl)) (of3_0 _) (ce3 T ad _ _) (by decide) (cx_ts C _ fl_X5_allBefore_47) (fun _ h => h) (v := .ref (ad 3 g0 8)) rfl dX5_allBefore_1 ?_
  refine fw_iload_n C dX5_allBefore_4 rfl 1 rfl ?_
  obtain ⟨b1, h⟩ := gd_some h
  refine fw_iald2 C (hG _ (List.mem_of_getElem? (i := 0) rfl)) (of3_8 _) (ca3_8 T ad _ _) b1 (Nat.le_of_ble_eq_true rfl) dX5_allBefore_5 ?_
  obtain ⟨v2, e3, h⟩ := lt_some h
  refine fw_top (v' := .int v2) (by rw [e3]) ?_
  refine fw_istore_n C dX5_allBefore_6 rfl (by decide) (L' := [(2, .int v2), (0, .ref (ad 3 g0 0)), (1, .int a1)]) rfl ?_
  refine fw_iload_n C dX5_allBefore_7 rfl 2 rfl ?_
  refine fw_iconst C dX5_allBefore_8 (v := 1) rfl ?_
  refine fw_isub C dX5_allBefore_9 ?_
  obtain ⟨v4, e5, h⟩ := lt_some h
  refine fw_top (v' := .int v4) (by rw [e5]) ?_
  refine fw_istore_n C dX5_allBefore_10 rfl (by decide) (L' := [(3, .int v4), (2, .int v2), (0, .ref (ad 3 g0 0)), (1, .int a1)]) rfl ?_
  refine fw_sub [0, 1, 2] (L' := [(3, .int v4), (2, .int v2), (0, .ref (ad 3 g0 0))]) rfl ?_
  exact w_X5_allBefore_b11 C hrt hG   _ _ _ h
end
set_option maxRecDepth 100000 in
set_option maxHeartbeats 4000000 in
theorem c_X5_allBefore {l : Launch} {N0 : Nat} {T : Nat → ClassId} {D : va_G} {gr : List (Nat × Nat)} {ad : Nat → Nat → Nat → Nat} {Y : Mem} {g0 : Nat} {a1 : Int32} {res : Int32} (hG : ∀ q ∈ [(3, g0)], q ∈ gr) (h : X5_allBefore Y g0 a1 = some res) : CI l yX5_allBefore wsX5_allBefore (Rm 1) N0 T D gr ad Y [.ref (ad 3 g0 0), .int a1] (fun r Y1 => r = res ∧ Y1 = Y) :=
  fw_body (by decide +kernel) rfl (Nat.le_of_ble_eq_true rfl) (fun p e s m below meth c C hrt => w_X5_allBefore C hrt hG  h)
theorem ly_X11_dependsOn_11 : ∀ w ∈ u_ws RX11 TX11 11, w ∈ wsX11_dependsOn := by decide +kernel
theorem fl_X11_dependsOn_67 : Cond.fieldLink RX11 67 "RecipeScheduler" "now" "LRecipeScheduler$Kitchen;" ∈ wsX11_dependsOn := by decide +kernel
theorem ly_X11_dependsOn_3 : ∀ w ∈ u_ws RX3 TX3 5, w ∈ wsX11_dependsOn := by decide +kernel
section
variable {p : Program} {l : Launch} {e : Env} {s : State} {m : MethodId} {below : List Frame} {meth : Method} {c : Code} {N0 : Nat} {T : Nat → ClassId} {D : va_G} {gr : List (Nat × Nat)} {ad : Nat → Nat → Nat → Nat}
set_option maxRecDepth 100000 in
set_option maxHeartbeats 4000000 in
theorem w_X11_dependsOn {Y : Mem} {a1 : Int32} {a2 : Int32} (C : Cx p s m [.ref (ad 0 0 0), .int a1, .int a2].toArray meth c cX11_dependsOn 3 wsX11_dependsOn RX11 N0 T D gr ad) (hrt : meth.sig.returnType = (some .boolean)) (hG : ∀ q ∈ ([(1, 0), (0, 0)] ++ allG), q ∈ gr) (hl : l.stackTraces = false) (hX : ∀ x ∈ c.exceptionTable.toList, False) {res : (Nat × Mem) ⊕ (Int32 × Mem)} (h : X11_dependsOn Y a1 a2 = some res) : FW p l e (Rx 7 2) s m [.ref (ad 0 0 0), .int a1, .int a2].toArray below meth c 3 N0 T D gr ad 0 0 (vx_MQ below (va_Qi (fun r Y1 => Sum.inr (r, Y1) = res) (WB T D gr ad) (fun q => N0 ≤ q)) (vx_X (fun u => Sum.inl u = res) (XB T D gr ad) (fun q => N0 ≤ q)) [.ref (ad 0 0 0), .int a1, .int a2].toArray s 2 12 (fun q => N0 ≤ q)) Y 0 [(0, .ref (ad 0 0 0)), (1, .int a1), (2, .int a2)] [] := by
  unfold X11_dependsOn at h
  refine fw_aload_n C dX11_dependsOn_0 rfl 0 rfl ?_
  refine fw_iload_n C dX11_dependsOn_1 rfl 1 rfl ?_
  rcases bdxv_some h with ⟨x5, q2, e6⟩ | ⟨Y4, q2, h⟩
  · exact fw_callXVv_l C (ci := 9) (Cn := RX11) (Tc := TX11) (N := 11) (As := [.int a1]) (c_X11_requireStep hl (gac (hG _ (List.mem_of_getElem? (i := 1) rfl)) (gac (hG _ (List.mem_of_getElem? (i := 0) rfl)) (fun q hq => hG q (List.mem_append_right _ hq)))) q2) (cwV 1 (cx_ts C) gX11_dependsOn_X11_requireStep rfl rfl rfl (by decide +kernel) ⟨Nat.le_of_ble_eq_true rfl, Nat.le_of_ble_eq_true rfl⟩) rfl (hG _ (List.mem_of_getElem? (i := 1) rfl)) (of0_0 _) (ce0 T ad _ _) rfl (st := []) rfl (Nat.le_of_ble_eq_true rfl) ⟨Nat.le_of_ble_eq_true rfl, Nat.le_of_ble_eq_true rfl⟩ dX11_dependsOn_2 hX e6 (Nat.le_of_ble_eq_true rfl) (Nat.le_of_ble_eq_true rfl)
  refine fw_callXVv_r C (ci := 9) (Cn := RX11) (Tc := TX11) (N := 11) (As := [.int a1]) (c_X11_requireStep hl (gac (hG _ (List.mem_of_getElem? (i := 1) rfl)) (gac (hG _ (List.mem_of_getElem? (i := 0) rfl)) (fun q hq => hG q (List.mem_append_right _ hq)))) q2) (cwV 1 (cx_ts C) gX11_dependsOn_X11_requireStep rfl rfl rfl (by decide +kernel) ⟨Nat.le_of_ble_eq_true rfl, Nat.le_of_ble_eq_true rfl⟩) rfl (hG _ (List.mem_of_getElem? (i := 1) rfl)) (of0_0 _) (ce0 T ad _ _) rfl (st := []) rfl (Nat.le_of_ble_eq_true rfl) ⟨Nat.le_of_ble_eq_true rfl, Nat.le_of_ble_eq_true rfl⟩ dX11_dependsOn_2 ?_
  refine fw_aload_n C dX11_dependsOn_5 rfl 0 rfl ?_
  refine fw_iload_n C dX11_dependsOn_6 rfl 2 rfl ?_
  rcases bdxv_some h with ⟨x11, q8, e12⟩ | ⟨Y10, q8, h⟩
  · exact fw_callXVv_l C (ci := 9) (Cn := RX11) (Tc := TX11) (N := 11) (As := [.int a2]) (c_X11_requireStep hl (gac (hG _ (List.mem_of_getElem? (i := 1) rfl)) (gac (hG _ (List.mem_of_getElem? (i := 0) rfl)) (fun q hq => hG q (List.mem_append_right _ hq)))) q8) (cwV 1 (cx_ts C) gX11_dependsOn_X11_requireStep rfl rfl rfl (by decide +kernel) ⟨Nat.le_of_ble_eq_true rfl, Nat.le_of_ble_eq_true rfl⟩) rfl (hG _ (List.mem_of_getElem? (i := 1) rfl)) (of0_0 _) (ce0 T ad _ _) rfl (st := []) rfl (Nat.le_of_ble_eq_true rfl) ⟨Nat.le_of_ble_eq_true rfl, Nat.le_of_ble_eq_true rfl⟩ dX11_dependsOn_7 hX e12 (Nat.le_of_ble_eq_true rfl) (Nat.le_of_ble_eq_true rfl)
  refine fw_callXVv_r C (ci := 9) (Cn := RX11) (Tc := TX11) (N := 11) (As := [.int a2]) (c_X11_requireStep hl (gac (hG _ (List.mem_of_getElem? (i := 1) rfl)) (gac (hG _ (List.mem_of_getElem? (i := 0) rfl)) (fun q hq => hG q (List.mem_append_right _ hq)))) q8) (cwV 1 (cx_ts C) gX11_dependsOn_X11_requireStep rfl rfl rfl (by decide +kernel) ⟨Nat.le_of_ble_eq_true rfl, Nat.le_of_ble_eq_true rfl⟩) rfl (hG _ (List.mem_of_getElem? (i := 1) rfl)) (of0_0 _) (ce0 T ad _ _) rfl (st := []) rfl (Nat.le_of_ble_eq_true rfl) ⟨Nat.le_of_ble_eq_true rfl, Nat.le_of_ble_eq_true rfl⟩ dX11_dependsOn_7 ?_
  refine fw_aload_n C dX11_dependsOn_10 rfl 0 rfl ?_
  refine fw_get C (ci := 9) (Cn := RX11) (Tc := TX11) (N := 11) (j := 5) ly_X11_dependsOn_11 rfl (hG _ (List.mem_of_getElem? (i := 1) rfl)) (of0_0 _) (ce0 T ad _ _) (by decide) (cx_ts C _ fl_X11_dependsOn_67) (fun _ h => h) (v := .ref (ad 1 0 0)) rfl dX11_dependsOn_11 ?_
  refine fw_getN C (ci := 1) (Cn := RX3) (Tc := TX3) (N := 5) (j := 0) ly_X11_dependsOn_3 rfl (hG _ (List.mem_of_getElem? (i := 0) rfl)) (of1_0 _) (ce1 T ad _ _) (by decide) (Nst_use (cx_nst C) (w := .fieldLinkNest RX11 117 "RecipeScheduler$Kitchen" "recipe" "LRecipeScheduler$Recipe;" "RecipeScheduler") 520 (by decide +kernel) rfl) (fun _ h => h) (v := .ref (ad 3 ((Y10 1 0 0 0).toNatClampNeg) 0)) rfl dX11_dependsOn_14 ?_
  refine fw_iload_n C dX11_dependsOn_17 rfl 1 rfl ?_
  obtain ⟨b13, h⟩ := gd_some h
  have b13 := of_decide_eq_true b13
  obtain ⟨r14, q15, h⟩ := bd1_some h
  refine fw_callVi C (ci := 3) (Cn := RX5) (Tc := TX5) (N := 17) (As := [.int a1]) (c_X5_allBefore (gac ((fun q hq => hG q (List.mem_append_right _ hq)) _ (allG_3 b13)) ga0) q15) (cwV 1 (cx_ts C) gX11_dependsOn_X5_allBefore rfl rfl rfl (by decide +kernel) ⟨Nat.le_of_ble_eq_true rfl, Nat.le_of_ble_eq_true rfl⟩) rfl ((fun q hq => hG q (List.mem_append_right _ hq)) _ (allG_3 b13)) (of3_0 _) (ce3 T ad _ _) rfl (st := []) rfl (Nat.le_of_ble_eq_true rfl) ⟨Nat.le_of_ble_eq_true rfl, Nat.le_of_ble_eq_true rfl⟩ dX11_dependsOn_18 (pp2 ?_)
  refine fw_iload_n C dX11_dependsOn_21 rfl 2 rfl ?_
  obtain ⟨r16, q17, h⟩ := bd1_some h
  refine fw_callSi C (As := [.int r14, .int a2]) (c_X11_contains ga0 q17) (va_cwS 2 (cx_ts C) gX11_dependsOn_X11_contains rfl rfl rfl (by decide +kernel) ⟨Nat.le_of_ble_eq_true rfl, Nat.le_of_ble_eq_true rfl⟩) rfl (st := []) rfl (Nat.le_of_ble_eq_true rfl) ⟨Nat.le_of_ble_eq_true rfl, Nat.le_of_ble_eq_true rfl⟩ dX11_dependsOn_22 (pp2 ?_)
  refine fw_xr (Nat.le_of_ble_eq_true rfl) (Nat.le_of_ble_eq_true rfl) ?_
  obtain ⟨b18, h⟩ := gd_some h
  exact fw_zret C hrt (of_decide_eq_true b18) Y10 (Option.some.inj h) (fun t ht => ht) dX11_dependsOn_25
end
set_option maxRecDepth 100000 in
set_option maxHeartbeats 4000000 in
theorem c_X11_dependsOn {l : Launch} {N0 : Nat} {T : Nat → ClassId} {D : va_G} {gr : List (Nat × Nat)} {ad : Nat → Nat → Nat → Nat} {Y : Mem} {a1 : Int32} {a2 : Int32} {res : (Nat × Mem) ⊕ (Int32 × Mem)} (hl : l.stackTraces = false) (hG : ∀ q ∈ ([(1, 0), (0, 0)] ++ allG), q ∈ gr) (h : X11_dependsOn Y a1 a2 = some res) : CXi l yX11_dependsOn wsX11_dependsOn (Rx 7 2) N0 T D gr ad Y [.ref (ad 0 0 0), .int a1, .int a2] 2 res :=
  fw_xbody (by decide +kernel) rfl (Nat.le_of_ble_eq_true rfl) (fun p e s m below meth c C hrt hX => w_X11_dependsOn C hrt hG hl hX h)
theorem ly_X11_stepsToShareBy_11 : ∀ w ∈ u_ws RX11 TX11 11, w ∈ wsX11_stepsToShareBy := by decide +kernel
theorem fl_X11_stepsToShareBy_67 : Cond.fieldLink RX11 67 "RecipeScheduler" "now" "LRecipeScheduler$Kitchen;" ∈ wsX11_stepsToShareBy := by decide +kernel
theorem ly_X11_stepsToShareBy_3 : ∀ w ∈ u_ws RX3 TX3 5, w ∈ wsX11_stepsToShareBy := by decide +kernel
theorem ly_X11_stepsToShareBy_5 : ∀ w ∈ u_ws RX5 TX5 17, w ∈ wsX11_stepsToShareBy := by decide +kernel
theorem ly_X11_stepsToShareBy_4 : ∀ w ∈ u_ws RX4 TX4 3, w ∈ wsX11_stepsToShareBy := by decide +kernel
theorem cw_X11_stepsToShareBy_max : Cond.methodLink RX11 452 Lib.Math.max.name ∈ wsX11_stepsToShareBy ∧ Cond.static Lib.Math.max.name ∈ wsX11_stepsToShareBy ∧ Cond.initialized "java/lang/Math" ∈ wsX11_stepsToShareBy ∧ Cond.code Lib.Math.max.name Lib.Math.max.code 2 (some .int) ∈ wsX11_stepsToShareBy := by decide +kernel
section
variable {p : Program} {l : Launch} {e : Env} {s : State} {m : MethodId} {below : List Frame} {meth : Method} {c : Code} {N0 : Nat} {T : Nat → ClassId} {D : va_G} {gr : List (Nat × Nat)} {ad : Nat → Nat → Nat → Nat}
set_option maxRecDepth 100000 in
set_option maxHeartbeats 4000000 in
theorem w_X11_stepsToShareBy {Y : Mem} (C : Cx p s m [.ref (ad 0 0 0)].toArray meth c cX11_stepsToShareBy 1 wsX11_stepsToShareBy RX11 N0 T D gr ad) (hrt : meth.sig.returnType = (some .int)) (hG : ∀ q ∈ ([(0, 0), (1, 0)] ++ allG), q ∈ gr) {res : Int32} (h : X11_stepsToShareBy Y = some res) : FW p l e (Rm 1) s m [.ref (ad 0 0 0)].toArray below meth c 1 N0 T D gr ad 0 0 (MQ below (va_Qi (fun r Y1 => r = res ∧ Y1 = Y) (WB T D gr ad) (fun q => N0 ≤ q)) [.ref (ad 0 0 0)].toArray s 0 0 (fun q => N0 ≤ q)) Y 0 [(0, .ref (ad 0 0 0))] [] := by
  unfold X11_stepsToShareBy at h
  refine fw_iconst C dX11_stepsToShareBy_0 (v := 1) rfl ?_
  refine fw_aload_n C dX11_stepsToShareBy_1 rfl 0 rfl ?_
  refine fw_get C (ci := 9) (Cn := RX11) (Tc := TX11) (N := 11) (j := 5) ly_X11_stepsToShareBy_11 rfl (hG _ (List.mem_of_getElem? (i := 0) rfl)) (of0_0 _) (ce0 T ad _ _) (by decide) (cx_ts C _ fl_X11_stepsToShareBy_67) (fun _ h => h) (v := .ref (ad 1 0 0)) rfl dX11_stepsToShareBy_2 ?_
  refine fw_getN C (ci := 1) (Cn := RX3) (Tc := TX3) (N := 5) (j := 0) ly_X11_stepsToShareBy_3 rfl (hG _ (List.mem_of_getElem? (i := 1) rfl)) (of1_0 _) (ce1 T ad _ _) (by decide) (Nst_use (cx_nst C) (w := .fieldLinkNest RX11 117 "RecipeScheduler$Kitchen" "recipe" "LRecipeScheduler$Recipe;" "RecipeScheduler") 520 (by decide +kernel) rfl) (fun _ h => h) (v := .ref (ad 3 ((Y 1 0 0 0).toNatClampNeg) 0)) rfl dX11_stepsToShareBy_5 ?_
  obtain ⟨b1, h⟩ := gd_some h
  have b1 := of_decide_eq_true b1
  refine fw_getN C (ci := 3) (Cn := RX5) (Tc := TX5) (N := 17) (j := 7) ly_X11_stepsToShareBy_5 rfl ((fun q hq => hG q (List.mem_append_right _ hq)) _ (allG_3 b1)) (of3_0 _) (ce3 T ad _ _) (by decide) (Nst_use (cx_nst C) (w := .fieldLinkNest RX11 126 "RecipeScheduler$Recipe" "steps" "LRecipeScheduler$Names;" "RecipeScheduler") 148 (by decide +kernel) rfl) (fun _ h => h) (v := .ref (ad 4 (2*((Y 1 0 0 0).toNatClampNeg)+1) 0)) rfl dX11_stepsToShareBy_8 ?_
  obtain ⟨b2, h⟩ := gd_some h
  have b2 := of_decide_eq_true b2
  refine fw_getN C (ci := 2) (Cn := RX4) (Tc := TX4) (N := 3) (j := 2) ly_X11_stepsToShareBy_4 rfl ((fun q hq => hG q (List.mem_append_right _ hq)) _ (allG_4b b2)) (of4_0 _) (ce4 T ad _ _) (by decide) (Nst_use (cx_nst C) (w := .fieldLinkNest RX11 130 "RecipeScheduler$Names" "count" "I" "RecipeScheduler") 115 (by decide +kernel) rfl) (fun _ h => h) (v := .int (Y 4 (2*((Y 1 0 0 0).toNatClampNeg)+1) 0 2)) rfl dX11_stepsToShareBy_11 ?_
  refine fw_mmax C (st := []) (cx_ts C _ cw_X11_stepsToShareBy_max.1) (cx_ts C _ cw_X11_stepsToShareBy_max.2.1) (cx_ts C _ cw_X11_stepsToShareBy_max.2.2.1) (cx_ts C _ cw_X11_stepsToShareBy_max.2.2.2) (Nat.le_of_ble_eq_true rfl) (Nat.le_of_ble_eq_true rfl) ⟨Nat.zero_le _, Nat.zero_le _⟩ dX11_stepsToShareBy_14 ?_
  exact fw_iret C hrt Y ⟨Option.some.inj h, rfl⟩ (fun t ht => ht) dX11_stepsToShareBy_17
end
set_option maxRecDepth 100000 in
set_option maxHeartbeats 4000000 in
theorem c_X11_stepsToShareBy {l : Launch} {N0 : Nat} {T : Nat → ClassId} {D : va_G} {gr : List (Nat × Nat)} {ad : Nat → Nat → Nat → Nat} {Y : Mem} {res : Int32} (hG : ∀ q ∈ ([(0, 0), (1, 0)] ++ allG), q ∈ gr) (h : X11_stepsToShareBy Y = some res) : CI l yX11_stepsToShareBy wsX11_stepsToShareBy (Rm 1) N0 T D gr ad Y [.ref (ad 0 0 0)] (fun r Y1 => r = res ∧ Y1 = Y) :=
  fw_body (by decide +kernel) rfl (Nat.le_of_ble_eq_true rfl) (fun p e s m below meth c C hrt => w_X11_stepsToShareBy C hrt hG  h)
theorem ly_X11_doneShare_11 : ∀ w ∈ u_ws RX11 TX11 11, w ∈ wsX11_doneShare := by decide +kernel
theorem fl_X11_doneShare_67 : Cond.fieldLink RX11 67 "RecipeScheduler" "now" "LRecipeScheduler$Kitchen;" ∈ wsX11_doneShare := by decide +kernel
theorem ly_X11_doneShare_3 : ∀ w ∈ u_ws RX3 TX3 5, w ∈ wsX11_doneShare := by decide +kernel
theorem ly_X11_doneShare_8 : ∀ w ∈ u_ws RX8 TX8 15, w ∈ wsX11_doneShare := by decide +kernel
section
variable {p : Program} {l : Launch} {e : Env} {s : State} {m : MethodId} {below : List Frame} {meth : Method} {c : Code} {N0 : Nat} {T : Nat → ClassId} {D : va_G} {gr : List (Nat × Nat)} {ad : Nat → Nat → Nat → Nat}
set_option maxRecDepth 100000 in
set_option maxHeartbeats 4000000 in
theorem w_X11_doneShare {Y : Mem} (C : Cx p s m [.ref (ad 0 0 0)].toArray meth c cX11_doneShare 1 wsX11_doneShare RX11 N0 T D gr ad) (hrt : meth.sig.returnType = (some .float)) (hG : ∀ q ∈ ([(0, 0), (1, 0), (2, 0)] ++ allG), q ∈ gr) {res : UInt32} (h : X11_doneShare Y = some res) : FW p l e (Rm 2) s m [.ref (ad 0 0 0)].toArray below meth c 1 N0 T D gr ad 0 0 (MQ below (va_Qf (fun r Y1 => r = res ∧ Y1 = Y) (WB T D gr ad) (fun q => N0 ≤ q)) [.ref (ad 0 0 0)].toArray s 0 0 (fun q => N0 ≤ q)) Y 0 [(0, .ref (ad 0 0 0))] [] := by
  unfold X11_doneShare at h
  refine fw_aload_n C dX11_doneShare_0 rfl 0 rfl ?_
  refine fw_get C (ci := 9) (Cn := RX11) (Tc := TX11) (N := 11) (j := 5) ly_X11_doneShare_11 rfl (hG _ (List.mem_of_getElem? (i := 0) rfl)) (of0_0 _) (ce0 T ad _ _) (by decide) (cx_ts C _ fl_X11_doneShare_67) (fun _ h => h) (v := .ref (ad 1 0 0)) rfl dX11_doneShare_1 ?_
  refine fw_getN C (ci := 1) (Cn := RX3) (Tc := TX3) (N := 5) (j := 1) ly_X11_doneShare_3 rfl (hG _ (List.mem_of_getElem? (i := 1) rfl)) (of1_0 _) (ce1 T ad _ _) (by decide) (Nst_use (cx_nst C) (w := .fieldLinkNest RX11 139 "RecipeScheduler$Kitchen" "state" "LRecipeScheduler$State;" "RecipeScheduler") 522 (by decide +kernel) rfl) (fun _ h => h) (v := .ref (ad 2 0 0)) rfl dX11_doneShare_4 ?_
  refine fw_getN C (ci := 6) (Cn := RX8) (Tc := TX8) (N := 15) (j := 7) ly_X11_doneShare_8 rfl (hG _ (List.mem_of_getElem? (i := 2) rfl)) (of2_0 _) (ce2 T ad _ _) (by decide) (Nst_use (cx_nst C) (w := .fieldLinkNest RX11 261 "RecipeScheduler$State" "done" "I" "RecipeScheduler") 460 (by decide +kernel) rfl) (fun _ h => h) (v := .int (Y 2 0 0 7)) rfl dX11_doneShare_7 ?_
  obtain ⟨r1, q2, h⟩ := bd1_some h
  refine fw_callSi C (As := [.int (Y 2 0 0 7)]) (c_J6_bitCount_0f7a4 ga0 q2) (va_cwS 1 (cx_ts C) gX11_doneShare_J6_bitCount_0f7a4 rfl rfl rfl (by decide +kernel) ⟨Nat.le_of_ble_eq_true rfl, Nat.le_of_ble_eq_true rfl⟩) rfl (st := []) rfl (Nat.le_of_ble_eq_true rfl) ⟨Nat.le_refl 0, Nat.le_refl 0⟩ dX11_doneShare_10 (pp2 ?_)
  refine fw_i2f C dX11_doneShare_13 ?_
  refine fw_aload_n C dX11_doneShare_14 rfl 0 rfl ?_
  obtain ⟨r3, q4, h⟩ := bd1_some h
  refine fw_callVi C (ci := 9) (Cn := RX11) (Tc := TX11) (N := 11) (As := []) (c_X11_stepsToShareBy (gac (hG _ (List.mem_of_getElem? (i := 0) rfl)) (gac (hG _ (List.mem_of_getElem? (i := 1) rfl)) (fun q hq => hG q (List.mem_append_right _ hq)))) q4) (cwV 0 (cx_ts C) gX11_doneShare_X11_stepsToShareBy rfl rfl rfl (by decide +kernel) ⟨Nat.le_of_ble_eq_true rfl, Nat.le_of_ble_eq_true rfl⟩) rfl (hG _ (List.mem_of_getElem? (i := 0) rfl)) (of0_0 _) (ce0 T ad _ _) rfl (st := [.float (FP.i2f r1)]) rfl (Nat.le_of_ble_eq_true rfl) ⟨Nat.le_refl 0, Nat.le_refl 0⟩ dX11_doneShare_15 (pp2 ?_)
  refine fw_i2f C dX11_doneShare_18 ?_
  obtain ⟨b5, h⟩ := gd_some h
  refine fw_fdiv C (of_decide_eq_true b5) dX11_doneShare_19 ?_
  exact fw_fret C hrt Y ⟨Option.some.inj h, rfl⟩ (fun t ht => ht) dX11_doneShare_20
end
set_option maxRecDepth 100000 in
set_option maxHeartbeats 4000000 in
theorem c_X11_doneShare {l : Launch} {N0 : Nat} {T : Nat → ClassId} {D : va_G} {gr : List (Nat × Nat)} {ad : Nat → Nat → Nat → Nat} {Y : Mem} {res : UInt32} (hG : ∀ q ∈ ([(0, 0), (1, 0), (2, 0)] ++ allG), q ∈ gr) (h : X11_doneShare Y = some res) : CF l yX11_doneShare wsX11_doneShare (Rm 2) N0 T D gr ad Y [.ref (ad 0 0 0)] (fun r Y1 => r = res ∧ Y1 = Y) :=
  fw_body (by decide +kernel) rfl (Nat.le_of_ble_eq_true rfl) (fun p e s m below meth c C hrt => w_X11_doneShare C hrt hG  h)
theorem ly_X11_duration_11 : ∀ w ∈ u_ws RX11 TX11 11, w ∈ wsX11_duration := by decide +kernel
theorem fl_X11_duration_67 : Cond.fieldLink RX11 67 "RecipeScheduler" "now" "LRecipeScheduler$Kitchen;" ∈ wsX11_duration := by decide +kernel
theorem ly_X11_duration_3 : ∀ w ∈ u_ws RX3 TX3 5, w ∈ wsX11_duration := by decide +kernel
theorem ly_X11_duration_8 : ∀ w ∈ u_ws RX8 TX8 15, w ∈ wsX11_duration := by decide +kernel
section
variable {p : Program} {l : Launch} {e : Env} {s : State} {m : MethodId} {below : List Frame} {meth : Method} {c : Code} {N0 : Nat} {T : Nat → ClassId} {D : va_G} {gr : List (Nat × Nat)} {ad : Nat → Nat → Nat → Nat}
set_option maxRecDepth 100000 in
set_option maxHeartbeats 4000000 in
theorem w_X11_duration {Y : Mem} {a1 : Int32} (C : Cx p s m [.ref (ad 0 0 0), .int a1].toArray meth c cX11_duration 2 wsX11_duration RX11 N0 T D gr ad) (hrt : meth.sig.returnType = (some .int)) (hG : ∀ q ∈ ([(1, 0), (0, 0), (2, 0)] ++ allG), q ∈ gr) (hl : l.stackTraces = false) (hX : ∀ x ∈ c.exceptionTable.toList, False) {res : (Nat × Mem) ⊕ (Int32 × Mem)} (h : X11_duration Y a1 = some res) : FW p l e (Rx 7 1) s m [.ref (ad 0 0 0), .int a1].toArray below meth c 2 N0 T D gr ad 0 0 (vx_MQ below (va_Qi (fun r Y1 => Sum.inr (r, Y1) = res) (WB T D gr ad) (fun q => N0 ≤ q)) (vx_X (fun u => Sum.inl u = res) (XB T D gr ad) (fun q => N0 ≤ q)) [.ref (ad 0 0 0), .int a1].toArray s 1 6 (fun q => N0 ≤ q)) Y 0 [(0, .ref (ad 0 0 0)), (1, .int a1)] [] := by
  unfold X11_duration at h
  refine fw_aload_n C dX11_duration_0 rfl 0 rfl ?_
  refine fw_iload_n C dX11_duration_1 rfl 1 rfl ?_
  rcases bdxv_some h with ⟨x5, q2, e6⟩ | ⟨Y4, q2, h⟩
  · exact fw_callXVv_l C (ci := 9) (Cn := RX11) (Tc := TX11) (N := 11) (As := [.int a1]) (c_X11_requireStep hl (gac (hG _ (List.mem_of_getElem? (i := 1) rfl)) (gac (hG _ (List.mem_of_getElem? (i := 0) rfl)) (fun q hq => hG q (List.mem_append_right _ hq)))) q2) (cwV 1 (cx_ts C) gX11_duration_X11_requireStep rfl rfl rfl (by decide +kernel) ⟨Nat.le_of_ble_eq_true rfl, Nat.le_of_ble_eq_true rfl⟩) rfl (hG _ (List.mem_of_getElem? (i := 1) rfl)) (of0_0 _) (ce0 T ad _ _) rfl (st := []) rfl (Nat.le_of_ble_eq_true rfl) ⟨Nat.le_of_ble_eq_true rfl, Nat.le_of_ble_eq_true rfl⟩ dX11_duration_2 hX e6 (Nat.le_of_ble_eq_true rfl) (Nat.le_of_ble_eq_true rfl)
  refine fw_callXVv_r C (ci := 9) (Cn := RX11) (Tc := TX11) (N := 11) (As := [.int a1]) (c_X11_requireStep hl (gac (hG _ (List.mem_of_getElem? (i := 1) rfl)) (gac (hG _ (List.mem_of_getElem? (i := 0) rfl)) (fun q hq => hG q (List.mem_append_right _ hq)))) q2) (cwV 1 (cx_ts C) gX11_duration_X11_requireStep rfl rfl rfl (by decide +kernel) ⟨Nat.le_of_ble_eq_true rfl, Nat.le_of_ble_eq_true rfl⟩) rfl (hG _ (List.mem_of_getElem? (i := 1) rfl)) (of0_0 _) (ce0 T ad _ _) rfl (st := []) rfl (Nat.le_of_ble_eq_true rfl) ⟨Nat.le_of_ble_eq_true rfl, Nat.le_of_ble_eq_true rfl⟩ dX11_duration_2 ?_
  refine fw_aload_n C dX11_duration_5 rfl 0 rfl ?_
  refine fw_get C (ci := 9) (Cn := RX11) (Tc := TX11) (N := 11) (j := 5) ly_X11_duration_11 rfl (hG _ (List.mem_of_getElem? (i := 1) rfl)) (of0_0 _) (ce0 T ad _ _) (by decide) (cx_ts C _ fl_X11_duration_67) (fun _ h => h) (v := .ref (ad 1 0 0)) rfl dX11_duration_6 ?_
  refine fw_getN C (ci := 1) (Cn := RX3) (Tc := TX3) (N := 5) (j := 1) ly_X11_duration_3 rfl (hG _ (List.mem_of_getElem? (i := 0) rfl)) (of1_0 _) (ce1 T ad _ _) (by decide) (Nst_use (cx_nst C) (w := .fieldLinkNest RX11 139 "RecipeScheduler$Kitchen" "state" "LRecipeScheduler$State;" "RecipeScheduler") 522 (by decide +kernel) rfl) (fun _ h => h) (v := .ref (ad 2 0 0)) rfl dX11_duration_9 ?_
  refine fw_getN C (ci := 6) (Cn := RX8) (Tc := TX8) (N := 15) (j := 9) ly_X11_duration_8 rfl (hG _ (List.mem_of_getElem? (i := 2) rfl)) (of2_0 _) (ce2 T ad _ _) (by decide) (Nst_use (cx_nst C) (w := .fieldLinkNest RX11 196 "RecipeScheduler$State" "duration" "[I" "RecipeScheduler") 465 (by decide +kernel) rfl) (fun _ h => h) (v := .ref (ad 2 0 1)) rfl dX11_duration_12 ?_
  refine fw_iload_n C dX11_duration_15 rfl 1 rfl ?_
  obtain ⟨b7, h⟩ := gd_some h
  refine fw_iald2 C (hG _ (List.mem_of_getElem? (i := 2) rfl)) (of2_1 _) (ca2_1 T ad _ _) b7 (Nat.le_of_ble_eq_true rfl) dX11_duration_16 ?_
  refine fw_xr (Nat.le_of_ble_eq_true rfl) (Nat.le_of_ble_eq_true rfl) ?_
  exact fw_iret C hrt Y4 (Option.some.inj h) (fun t ht => ht) dX11_duration_17
end
set_option maxRecDepth 100000 in
set_option maxHeartbeats 4000000 in
theorem c_X11_duration {l : Launch} {N0 : Nat} {T : Nat → ClassId} {D : va_G} {gr : List (Nat × Nat)} {ad : Nat → Nat → Nat → Nat} {Y : Mem} {a1 : Int32} {res : (Nat × Mem) ⊕ (Int32 × Mem)} (hl : l.stackTraces = false) (hG : ∀ q ∈ ([(1, 0), (0, 0), (2, 0)] ++ allG), q ∈ gr) (h : X11_duration Y a1 = some res) : CXi l yX11_duration wsX11_duration (Rx 7 1) N0 T D gr ad Y [.ref (ad 0 0 0), .int a1] 1 res :=
  fw_xbody (by decide +kernel) rfl (Nat.le_of_ble_eq_true rfl) (fun p e s m below meth c C hrt hX => w_X11_duration C hrt hG hl hX h)
theorem ly_X11_errorCode_11 : ∀ w ∈ u_ws RX11 TX11 11, w ∈ wsX11_errorCode := by decide +kernel
theorem fl_X11_errorCode_48 : Cond.fieldLink RX11 48 "RecipeScheduler" "tokens" "LRecipeScheduler$Tokens;" ∈ wsX11_errorCode := by decide +kernel
theorem ly_X11_errorCode_10 : ∀ w ∈ u_ws RX10 TX10 6, w ∈ wsX11_errorCode := by decide +kernel
section
variable {p : Program} {l : Launch} {e : Env} {s : State} {m : MethodId} {below : List Frame} {meth : Method} {c : Code} {N0 : Nat} {T : Nat → ClassId} {D : va_G} {gr : List (Nat × Nat)} {ad : Nat → Nat → Nat → Nat}
set_option maxRecDepth 100000 in
set_option maxHeartbeats 4000000 in
theorem w_X11_errorCode {Y : Mem} (C : Cx p s m [.ref (ad 0 0 0)].toArray meth c cX11_errorCode 1 wsX11_errorCode RX11 N0 T D gr ad) (hrt : meth.sig.returnType = (some .int)) (hG : ∀ q ∈ [(0, 0), (6, 0)], q ∈ gr) {res : Int32} (h : X11_errorCode Y = some res) : FW p l e (Rm 0) s m [.ref (ad 0 0 0)].toArray below meth c 1 N0 T D gr ad 0 0 (MQ below (va_Qi (fun r Y1 => r = res ∧ Y1 = Y) (WB T D gr ad) (fun q => N0 ≤ q)) [.ref (ad 0 0 0)].toArray s 0 0 (fun q => N0 ≤ q)) Y 0 [(0, .ref (ad 0 0 0))] [] := by
  unfold X11_errorCode at h
  refine fw_aload_n C dX11_errorCode_0 rfl 0 rfl ?_
  refine fw_get C (ci := 9) (Cn := RX11) (Tc := TX11) (N := 11) (j := 2) ly_X11_errorCode_11 rfl (hG _ (List.mem_of_getElem? (i := 0) rfl)) (of0_0 _) (ce0 T ad _ _) (by decide) (cx_ts C _ fl_X11_errorCode_48) (fun _ h => h) (v := .ref (ad 6 0 0)) rfl dX11_errorCode_1 ?_
  refine fw_getN C (ci := 8) (Cn := RX10) (Tc := TX10) (N := 6) (j := 4) ly_X11_errorCode_10 rfl (hG _ (List.mem_of_getElem? (i := 1) rfl)) (of6_0 _) (ce6 T ad _ _) (by decide) (Nst_use (cx_nst C) (w := .fieldLinkNest RX11 133 "RecipeScheduler$Tokens" "errorCode" "I" "RecipeScheduler") 68 (by decide +kernel) rfl) (fun _ h => h) (v := .int (Y 6 0 0 4)) rfl dX11_errorCode_4 ?_
  exact fw_iret C hrt Y ⟨Option.some.inj h, rfl⟩ (fun t ht => ht) dX11_errorCode_7
end
set_option maxRecDepth 100000 in
set_option maxHeartbeats 4000000 in
theorem c_X11_errorCode {l : Launch} {N0 : Nat} {T : Nat → ClassId} {D : va_G} {gr : List (Nat × Nat)} {ad : Nat → Nat → Nat → Nat} {Y : Mem} {res : Int32} (hG : ∀ q ∈ [(0, 0), (6, 0)], q ∈ gr) (h : X11_errorCode Y = some res) : CI l yX11_errorCode wsX11_errorCode (Rm 0) N0 T D gr ad Y [.ref (ad 0 0 0)] (fun r Y1 => r = res ∧ Y1 = Y) :=
  fw_body (by decide +kernel) rfl (Nat.le_of_ble_eq_true rfl) (fun p e s m below meth c C hrt => w_X11_errorCode C hrt hG  h)
theorem ly_X11_errorPosition_11 : ∀ w ∈ u_ws RX11 TX11 11, w ∈ wsX11_errorPosition := by decide +kernel
theorem fl_X11_errorPosition_48 : Cond.fieldLink RX11 48 "RecipeScheduler" "tokens" "LRecipeScheduler$Tokens;" ∈ wsX11_errorPosition := by decide +kernel
theorem ly_X11_errorPosition_10 : ∀ w ∈ u_ws RX10 TX10 6, w ∈ wsX11_errorPosition := by decide +kernel
section
variable {p : Program} {l : Launch} {e : Env} {s : State} {m : MethodId} {below : List Frame} {meth : Method} {c : Code} {N0 : Nat} {T : Nat → ClassId} {D : va_G} {gr : List (Nat × Nat)} {ad : Nat → Nat → Nat → Nat}
set_option maxRecDepth 100000 in
set_option maxHeartbeats 4000000 in
theorem w_X11_errorPosition {Y : Mem} (C : Cx p s m [.ref (ad 0 0 0)].toArray meth c cX11_errorPosition 1 wsX11_errorPosition RX11 N0 T D gr ad) (hrt : meth.sig.returnType = (some .int)) (hG : ∀ q ∈ [(0, 0), (6, 0)], q ∈ gr) {res : Int32} (h : X11_errorPosition Y = some res) : FW p l e (Rm 0) s m [.ref (ad 0 0 0)].toArray below meth c 1 N0 T D gr ad 0 0 (MQ below (va_Qi (fun r Y1 => r = res ∧ Y1 = Y) (WB T D gr ad) (fun q => N0 ≤ q)) [.ref (ad 0 0 0)].toArray s 0 0 (fun q => N0 ≤ q)) Y 0 [(0, .ref (ad 0 0 0))] [] := by
  unfold X11_errorPosition at h
  refine fw_aload_n C dX11_errorPosition_0 rfl 0 rfl ?_
  refine fw_get C (ci := 9) (Cn := RX11) (Tc := TX11) (N := 11) (j := 2) ly_X11_errorPosition_11 rfl (hG _ (List.mem_of_getElem? (i := 0) rfl)) (of0_0 _) (ce0 T ad _ _) (by decide) (cx_ts C _ fl_X11_errorPosition_48) (fun _ h => h) (v := .ref (ad 6 0 0)) rfl dX11_errorPosition_1 ?_
  refine fw_getN C (ci := 8) (Cn := RX10) (Tc := TX10) (N := 6) (j := 5) ly_X11_errorPosition_10 rfl (hG _ (List.mem_of_getElem? (i := 1) rfl)) (of6_0 _) (ce6 T ad _ _) (by decide) (Nst_use (cx_nst C) (w := .fieldLinkNest RX11 136 "RecipeScheduler$Tokens" "errorPosition" "I" "RecipeScheduler") 70 (by decide +kernel) rfl) (fun _ h => h) (v := .int (Y 6 0 0 5)) rfl dX11_errorPosition_4 ?_
  exact fw_iret C hrt Y ⟨Option.some.inj h, rfl⟩ (fun t ht => ht) dX11_errorPosition_7
end
set_option maxRecDepth 100000 in
set_option maxHeartbeats 4000000 in
theorem c_X11_errorPosition {l : Launch} {N0 : Nat} {T : Nat → ClassId} {D : va_G} {gr : List (Nat × Nat)} {ad : Nat → Nat → Nat → Nat} {Y : Mem} {res : Int32} (hG : ∀ q ∈ [(0, 0), (6, 0)], q ∈ gr) (h : X11_errorPosition Y = some res) : CI l yX11_errorPosition wsX11_errorPosition (Rm 0) N0 T D gr ad Y [.ref (ad 0 0 0)] (fun r Y1 => r = res ∧ Y1 = Y) :=
  fw_body (by decide +kernel) rfl (Nat.le_of_ble_eq_true rfl) (fun p e s m below meth c C hrt => w_X11_errorPosition C hrt hG  h)
theorem ly_X11_finishWithCooks_11 : ∀ w ∈ u_ws RX11 TX11 11, w ∈ wsX11_finishWithCooks := by decide +kernel
theorem fl_X11_finishWithCooks_71 : Cond.fieldLink RX11 71 "RecipeScheduler" "forecast" "LRecipeScheduler$Kitchen;" ∈ wsX11_finishWithCooks := by decide +kernel
theorem fl_X11_finishWithCooks_67 : Cond.fieldLink RX11 67 "RecipeScheduler" "now" "LRecipeScheduler$Kitchen;" ∈ wsX11_finishWithCooks := by decide +kernel
theorem ly_X11_finishWithCooks_3 : ∀ w ∈ u_ws RX3 TX3 5, w ∈ wsX11_finishWithCooks := by decide +kernel
theorem ly_X11_finishWithCooks_8 : ∀ w ∈ u_ws RX8 TX8 15, w ∈ wsX11_finishWithCooks := by decide +kernel
section
variable {p : Program} {l : Launch} {e : Env} {s : State} {m : MethodId} {below : List Frame} {meth : Method} {c : Code} {N0 : Nat} {T : Nat → ClassId} {D : va_G} {gr : List (Nat × Nat)} {ad : Nat → Nat → Nat → Nat}
set_option maxRecDepth 100000 in
set_option maxHeartbeats 4000000 in
theorem w_X11_finishWithCooks {Y : Mem} {a1 : Int32} (C : Cx p s m [.ref (ad 0 0 0), .int a1].toArray meth c cX11_finishWithCooks 2 wsX11_finishWithCooks RX11 N0 T D gr ad) (hrt : meth.sig.returnType = (some .int)) (hG : ∀ q ∈ ([(0, 0), (2, 0), (2, 1), (1, 1), (1, 0)] ++ allG), q ∈ gr) {res : Int32 × Mem} (h : X11_finishWithCooks Y a1 = some res) : FW p l e (Rm 5) s m [.ref (ad 0 0 0), .int a1].toArray below meth c 2 N0 T D gr ad 0 0 (MQ below (va_Qi (fun r Y1 => (r, Y1) = res) (WB T D gr ad) (fun q => N0 ≤ q)) [.ref (ad 0 0 0), .int a1].toArray s 0 0 (fun q => N0 ≤ q)) Y 0 [(0, .ref (ad 0 0 0)), (1, .int a1)] [] := by
  unfold X11_finishWithCooks at h
  refine fw_aload_n C dX11_finishWithCooks_0 rfl 0 rfl ?_
  refine fw_get C (ci := 9) (Cn := RX11) (Tc := TX11) (N := 11) (j := 6) ly_X11_finishWithCooks_11 rfl (hG _ (List.mem_of_getElem? (i := 0) rfl)) (of0_0 _) (ce0 T ad _ _) (by decide) (cx_ts C _ fl_X11_finishWithCooks_71) (fun _ h => h) (v := .ref (ad 1 1 0)) rfl dX11_finishWithCooks_1 ?_
  refine fw_aload_n C dX11_finishWithCooks_4 rfl 0 rfl ?_
  refine fw_get C (ci := 9) (Cn := RX11) (Tc := TX11) (N := 11) (j := 5) ly_X11_finishWithCooks_11 rfl (hG _ (List.mem_of_getElem? (i := 0) rfl)) (of0_0 _) (ce0 T ad _ _) (by decide) (cx_ts C _ fl_X11_finishWithCooks_67) (fun _ h => h) (v := .ref (ad 1 0 0)) rfl dX11_finishWithCooks_5 ?_
  obtain ⟨Y3, q2, h⟩ := bd1_some h
  refine fw_callVv C (ci := 1) (Cn := RX3) (Tc := TX3) (N := 5) (As := [.ref (ad 1 0 0)]) (c_X3_copyFrom (gac (hG _ (List.mem_of_getElem? (i := 4) rfl)) (gac (hG _ (List.mem_of_getElem? (i := 3) rfl)) (gac (hG _ (List.mem_of_getElem? (i := 2) rfl)) (gac (hG _ (List.mem_of_getElem? (i := 1) rfl)) (fun q hq => hG q (List.mem_append_right _ hq)))))) q2) (cwV 1 (cx_ts C) gX11_finishWithCooks_X3_copyFrom rfl rfl rfl (by decide +kernel) ⟨Nat.le_of_ble_eq_true rfl, Nat.le_of_ble_eq_true rfl⟩) rfl (hG _ (List.mem_of_getElem? (i := 3) rfl)) (of1_0 _) (ce1 T ad _ _) rfl (st := []) rfl (Nat.le_of_ble_eq_true rfl) ⟨Nat.le_refl 0, Nat.le_refl 0⟩ dX11_finishWithCooks_8 (ppv ?_)
  refine fw_aload_n C dX11_finishWithCooks_11 rfl 0 rfl ?_
  refine fw_get C (ci := 9) (Cn := RX11) (Tc := TX11) (N := 11) (j := 6) ly_X11_finishWithCooks_11 rfl (hG _ (List.mem_of_getElem? (i := 0) rfl)) (of0_0 _) (ce0 T ad _ _) (by decide) (cx_ts C _ fl_X11_finishWithCooks_71) (fun _ h => h) (v := .ref (ad 1 1 0)) rfl dX11_finishWithCooks_12 ?_
  refine fw_getN C (ci := 1) (Cn := RX3) (Tc := TX3) (N := 5) (j := 1) ly_X11_finishWithCooks_3 rfl (hG _ (List.mem_of_getElem? (i := 3) rfl)) (of1_0 _) (ce1 T ad _ _) (by decide) (Nst_use (cx_nst C) (w := .fieldLinkNest RX11 139 "RecipeScheduler$Kitchen" "state" "LRecipeScheduler$State;" "RecipeScheduler") 522 (by decide +kernel) rfl) (fun _ h => h) (v := .ref (ad 2 1 0)) rfl dX11_finishWithCooks_15 ?_
  refine fw_iload_n C dX11_finishWithCooks_18 rfl 1 rfl ?_
  obtain ⟨Y4, e5, h⟩ := lt_some h
  refine fw_putN C (ci := 6) (Cn := RX8) (Tc := TX8) (N := 15) (j := 0) (ty := .int) (upd (Y3 2 1 0) 0 a1) ly_X11_finishWithCooks_8 rfl tyX8_ok nmX8 (hG _ (List.mem_of_getElem? (i := 2) rfl)) (of2_0 _) (ce2 T ad _ _) (by decide) (Nst_use (cx_nst C) (w := .fieldLinkNest RX11 143 "RecipeScheduler$State" "cooks" "I" "RecipeScheduler") 439 (by decide +kernel) rfl) (fun _ h => h) rfl (by decide +kernel) rfl rfl (Nat.le_of_ble_eq_true rfl) (ce2_put0 T ad _ _ _) dX11_finishWithCooks_19 ?_
  refine fw_mem ((up_eq _ _ _ _ _ _).symm.trans e5) ?_
  refine fw_aload_n C dX11_finishWithCooks_22 rfl 0 rfl ?_
  refine fw_get C (ci := 9) (Cn := RX11) (Tc := TX11) (N := 11) (j := 6) ly_X11_finishWithCooks_11 rfl (hG _ (List.mem_of_getElem? (i := 0) rfl)) (of0_0 _) (ce0 T ad _ _) (by decide) (cx_ts C _ fl_X11_finishWithCooks_71) (fun _ h => h) (v := .ref (ad 1 1 0)) rfl dX11_finishWithCooks_23 ?_
  obtain ⟨r6, Y8, q7, h⟩ := bd2_some h
  refine fw_callVi C (ci := 1) (Cn := RX3) (Tc := TX3) (N := 5) (As := []) (c_X3_runToFinish (gac (hG _ (List.mem_of_getElem? (i := 2) rfl)) (gac (hG _ (List.mem_of_getElem? (i := 3) rfl)) (fun q hq => hG q (List.mem_append_right _ hq)))) q7) (cwV 0 (cx_ts C) gX11_finishWithCooks_X3_runToFinish rfl rfl rfl (by decide +kernel) ⟨Nat.le_of_ble_eq_true rfl, Nat.le_of_ble_eq_true rfl⟩) rfl (hG _ (List.mem_of_getElem? (i := 3) rfl)) (of1_0 _) (ce1 T ad _ _) rfl (st := []) rfl (Nat.le_of_ble_eq_true rfl) ⟨Nat.le_refl 0, Nat.le_refl 0⟩ dX11_finishWithCooks_26 (ppw ?_)
  exact fw_iret C hrt Y8 (Option.some.inj h) (fun t ht => ht) dX11_finishWithCooks_29
end
set_option maxRecDepth 100000 in
set_option maxHeartbeats 4000000 in
theorem c_X11_finishWithCooks {l : Launch} {N0 : Nat} {T : Nat → ClassId} {D : va_G} {gr : List (Nat × Nat)} {ad : Nat → Nat → Nat → Nat} {Y : Mem} {a1 : Int32} {res : Int32 × Mem} (hG : ∀ q ∈ ([(0, 0), (2, 0), (2, 1), (1, 1), (1, 0)] ++ allG), q ∈ gr) (h : X11_finishWithCooks Y a1 = some res) : CI l yX11_finishWithCooks wsX11_finishWithCooks (Rm 5) N0 T D gr ad Y [.ref (ad 0 0 0), .int a1] (fun r Y1 => (r, Y1) = res) :=
  fw_body (by decide +kernel) rfl (Nat.le_of_ble_eq_true rfl) (fun p e s m below meth c C hrt => w_X11_finishWithCooks C hrt hG  h)
section
variable {p : Program} {l : Launch} {e : Env} {s : State} {m : MethodId} {below : List Frame} {meth : Method} {c : Code} {N0 : Nat} {T : Nat → ClassId} {D : va_G} {gr : List (Nat × Nat)} {ad : Nat → Nat → Nat → Nat}
set_option maxRecDepth 100000 in
set_option maxHeartbeats 4000000 in
theorem w_X11_fewestCooks_b8  (C : Cx p s m [.ref (ad 0 0 0)].toArray meth c cX11_fewestCooks 3 wsX11_fewestCooks RX11 N0 T D gr ad) (hrt : meth.sig.returnType = (some .int)) (hG : ∀ q ∈ ([(1, 0), (1, 1), (2, 1), (2, 0), (0, 0)] ++ allG), q ∈ gr) {res : Int32 × Mem} : ∀ (n : Nat) (Y : Mem) (l2 : Int32) (l1 : Int32), X11_fewestCooks_b8   n Y l2 l1 = some res → FW p l e (Rm 6) s m [.ref (ad 0 0 0)].toArray below meth c 3 N0 T D gr ad 0 0 (MQ below (va_Qi (fun r Y1 => (r, Y1) = res) (WB T D gr ad) (fun q => N0 ≤ q)) [.ref (ad 0 0 0)].toArray s 0 0 (fun q => N0 ≤ q)) Y 8 [(2, .int l2), (1, .int l1), (0, .ref (ad 0 0 0))] [] := by
  intro n
  induction n with
  | zero =>
    intro Y l2 l1 h
    unfold X11_fewestCooks_b8 at h
    cases h
  | succ n ih =>
    intro Y l2 l1 h
    unfold X11_fewestCooks_b8 at h
    refine fw_iload_n C dX11_fewestCooks_8 rfl 0 rfl ?_
    refine fw_iconst C dX11_fewestCooks_9 (v := 4) rfl ?_
    refine fw_icmp_ge C dX11_fewestCooks_10 (tgt := 30) rfl (fun c4 => ?_) (fun c4 => ?_)
    · have h := ite_t c4 h
      refine fw_iconst C dX11_fewestCooks_30 (v := 4) rfl ?_
      exact fw_iret C hrt Y (Option.some.inj h) (fun t ht => ht) dX11_fewestCooks_31
    · have h := ite_f c4 h
      refine fw_aload_n C dX11_fewestCooks_13 rfl 2 rfl ?_
      refine fw_iload_n C dX11_fewestCooks_14 rfl 0 rfl ?_
      obtain ⟨r5, Y7, q6, h⟩ := bd2_some h
      refine fw_callVi C (ci := 9) (Cn := RX11) (Tc := TX11) (N := 11) (As := [.int l2]) (c_X11_finishWithCooks (gac (hG _ (List.mem_of_getElem? (i := 4) rfl)) (gac (hG _ (List.mem_of_getElem? (i := 3) rfl)) (gac (hG _ (List.mem_of_getElem? (i := 2) rfl)) (gac (hG _ (List.mem_of_getElem? (i := 1) rfl)) (gac (hG _ (List.mem_of_getElem? (i := 0) rfl)) (fun q hq => hG q (List.mem_append_right _ hq))))))) q6) (cwV 1 (cx_ts C) gX11_fewestCooks_X11_finishWithCooks rfl rfl rfl (by decide +kernel) ⟨Nat.le_of_ble_eq_true rfl, Nat.le_of_ble_eq_true rfl⟩) rfl (hG _ (List.mem_of_getElem? (i := 4) rfl)) (of0_0 _) (ce0 T ad _ _) rfl (st := []) rfl (Nat.le_of_ble_eq_true rfl) ⟨Nat.le_refl 0, Nat.le_refl 0⟩ dX11_fewestCooks_15 (ppw ?_)
      refine fw_iload_n C dX11_fewestCooks_18 rfl 1 rfl ?_
      refine fw_icmp_ne C dX11_fewestCooks_19 (tgt := 24) rfl (fun c8 => ?_) (fun c8 => ?_)
      · have h := ite_f c8 h
        refine fw_iinc C dX11_fewestCooks_24 (kk := 0) (v := l2 + 1) rfl rfl (by decide) (L' := [(2, .int (l2 + 1)), (1, .int l1), (0, .ref (ad 0 0 0))]) rfl ?_
        refine fw_goto C dX11_fewestCooks_27 (tgt := 8) rfl ?_
        exact ih _ _ _ h
      · have h := ite_t c8 h
        refine fw_iload_n C dX11_fewestCooks_22 rfl 0 rfl ?_
        exact fw_iret C hrt Y7 (Option.some.inj h) (fun t ht => ht) dX11_fewestCooks_23
set_option maxRecDepth 100000 in
set_option maxHeartbeats 4000000 in
theorem w_X11_fewestCooks {Y : Mem} (C : Cx p s m [.ref (ad 0 0 0)].toArray meth c cX11_fewestCooks 3 wsX11_fewestCooks RX11 N0 T D gr ad) (hrt : meth.sig.returnType = (some .int)) (hG : ∀ q ∈ ([(1, 0), (1, 1), (2, 1), (2, 0), (0, 0)] ++ allG), q ∈ gr) {res : Int32 × Mem} (h : X11_fewestCooks Y = some res) : FW p l e (Rm 6) s m [.ref (ad 0 0 0)].toArray below meth c 3 N0 T D gr ad 0 0 (MQ below (va_Qi (fun r Y1 => (r, Y1) = res) (WB T D gr ad) (fun q => N0 ≤ q)) [.ref (ad 0 0 0)].toArray s 0 0 (fun q => N0 ≤ q)) Y 0 [(0, .ref (ad 0 0 0))] [] := by
  unfold X11_fewestCooks at h
  refine fw_aload_n C dX11_fewestCooks_0 rfl 0 rfl ?_
  refine fw_iconst C dX11_fewestCooks_1 (v := 4) rfl ?_
  obtain ⟨r1, Y3, q2, h⟩ := bd2_some h
  refine fw_callVi C (ci := 9) (Cn := RX11) (Tc := TX11) (N := 11) (As := [.int 4]) (c_X11_finishWithCooks (gac (hG _ (List.mem_of_getElem? (i := 4) rfl)) (gac (hG _ (List.mem_of_getElem? (i := 3) rfl)) (gac (hG _ (List.mem_of_getElem? (i := 2) rfl)) (gac (hG _ (List.mem_of_getElem? (i := 1) rfl)) (gac (hG _ (List.mem_of_getElem? (i := 0) rfl)) (fun q hq => hG q (List.mem_append_right _ hq))))))) q2) (cwV 1 (cx_ts C) gX11_fewestCooks_X11_finishWithCooks rfl rfl rfl (by decide +kernel) ⟨Nat.le_of_ble_eq_true rfl, Nat.le_of_ble_eq_true rfl⟩) rfl (hG _ (List.mem_of_getElem? (i := 4) rfl)) (of0_0 _) (ce0 T ad _ _) rfl (st := []) rfl (Nat.le_of_ble_eq_true rfl) ⟨Nat.le_refl 0, Nat.le_refl 0⟩ dX11_fewestCooks_2 (ppw ?_)
  refine fw_istore_n C dX11_fewestCooks_5 rfl (by decide) (L' := [(1, .int r1), (0, .ref (ad 0 0 0))]) rfl ?_
  refine fw_iconst C dX11_fewestCooks_6 (v := 1) rfl ?_
  refine fw_istore_n C dX11_fewestCooks_7 rfl (by decide) (L' := [(2, .int 1), (1, .int r1), (0, .ref (ad 0 0 0))]) rfl ?_
  exact w_X11_fewestCooks_b8 C hrt hG   _ _ _ _ h
end
set_option maxRecDepth 100000 in
set_option maxHeartbeats 4000000 in
theorem c_X11_fewestCooks {l : Launch} {N0 : Nat} {T : Nat → ClassId} {D : va_G} {gr : List (Nat × Nat)} {ad : Nat → Nat → Nat → Nat} {Y : Mem} {res : Int32 × Mem} (hG : ∀ q ∈ ([(1, 0), (1, 1), (2, 1), (2, 0), (0, 0)] ++ allG), q ∈ gr) (h : X11_fewestCooks Y = some res) : CI l yX11_fewestCooks wsX11_fewestCooks (Rm 6) N0 T D gr ad Y [.ref (ad 0 0 0)] (fun r Y1 => (r, Y1) = res) :=
  fw_body (by decide +kernel) rfl (Nat.le_of_ble_eq_true rfl) (fun p e s m below meth c C hrt => w_X11_fewestCooks C hrt hG  h)
