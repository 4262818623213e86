theorem ly_X11_predecessor_11 : ∀ w ∈ u_ws RX11 TX11 11, w ∈ wsX11_predecessor := by decide +kernel
theorem fl_X11_predecessor_67 : Cond.fieldLink RX11 67 "RecipeScheduler" "now" "LRecipeScheduler$Kitchen;" ∈ wsX11_predecessor := by decide +kernel
theorem ly_X11_predecessor_3 : ∀ w ∈ u_ws RX3 TX3 5, w ∈ wsX11_predecessor := by decide +kernel
theorem ly_X11_predecessor_5 : ∀ w ∈ u_ws RX5 TX5 17, w ∈ wsX11_predecessor := by decide +kernel
section
variable {p : Program} {l : Launch} {e : Env} {s : State} {m : MethodId} {below : List Frame} {meth : Method} {c : Code} {N0 : Nat} {T : Nat → ClassId} {D : va_G} {gr : List (Nat × Nat)} {ad : Nat → Nat → Nat → Nat}
set_option maxRecDepth 100000 in
set_option maxHeartbeats 4000000 in
theorem w_X11_predecessor {Y : Mem} {a1 : Int32} {a2 : Int32} (C : Cx p s m [.ref (ad 0 0 0), .int a1, .int a2].toArray meth c cX11_predecessor 3 wsX11_predecessor RX11 N0 T D gr ad) (hrt : meth.sig.returnType = (some .int)) (hG : ∀ q ∈ ([(1, 0), (0, 0)] ++ allG), q ∈ gr) (hl : l.stackTraces = false) (hX : ∀ x ∈ c.exceptionTable.toList, False) {res : (Nat × Mem) ⊕ (Int32 × Mem)} (h : X11_predecessor Y a1 a2 = some res) : FW p l e (Rx 7 1) s m [.ref (ad 0 0 0), .int a1, .int a2].toArray below meth c 3 N0 T D gr ad 0 0 (vx_MQ below (va_Qi (fun r Y1 => Sum.inr (r, Y1) = res) (WB T D gr ad) (fun q => N0 ≤ q)) (vx_X (fun u => Sum.inl u = res) (XB T D gr ad) (fun q => N0 ≤ q)) [.ref (ad 0 0 0), .int a1, .int a2].toArray s 1 6 (fun q => N0 ≤ q)) Y 0 [(0, .ref (ad 0 0 0)), (1, .int a1), (2, .int a2)] [] := by
  unfold X11_predecessor at h
  refine fw_aload_n C dX11_predecessor_0 rfl 0 rfl ?_
  refine fw_iload_n C dX11_predecessor_1 rfl 1 rfl ?_
  rcases bdxv_some h with ⟨x5, q2, e6⟩ | ⟨Y4, q2, h⟩
  · exact fw_callXVv_l C (ci := 9) (Cn := RX11) (Tc := TX11) (N := 11) (As := [.int a1]) (c_X11_requireStep hl (gac (hG _ (List.mem_of_getElem? (i := 1) rfl)) (gac (hG _ (List.mem_of_getElem? (i := 0) rfl)) (fun q hq => hG q (List.mem_append_right _ hq)))) q2) (cwV 1 (cx_ts C) gX11_predecessor_X11_requireStep rfl rfl rfl (by decide +kernel) ⟨Nat.le_of_ble_eq_true rfl, Nat.le_of_ble_eq_true rfl⟩) rfl (hG _ (List.mem_of_getElem? (i := 1) rfl)) (of0_0 _) (ce0 T ad _ _) rfl (st := []) rfl (Nat.le_of_ble_eq_true rfl) ⟨Nat.le_of_ble_eq_true rfl, Nat.le_of_ble_eq_true rfl⟩ dX11_predecessor_2 hX e6 (Nat.le_of_ble_eq_true rfl) (Nat.le_of_ble_eq_true rfl)
  refine fw_callXVv_r C (ci := 9) (Cn := RX11) (Tc := TX11) (N := 11) (As := [.int a1]) (c_X11_requireStep hl (gac (hG _ (List.mem_of_getElem? (i := 1) rfl)) (gac (hG _ (List.mem_of_getElem? (i := 0) rfl)) (fun q hq => hG q (List.mem_append_right _ hq)))) q2) (cwV 1 (cx_ts C) gX11_predecessor_X11_requireStep rfl rfl rfl (by decide +kernel) ⟨Nat.le_of_ble_eq_true rfl, Nat.le_of_ble_eq_true rfl⟩) rfl (hG _ (List.mem_of_getElem? (i := 1) rfl)) (of0_0 _) (ce0 T ad _ _) rfl (st := []) rfl (Nat.le_of_ble_eq_true rfl) ⟨Nat.le_of_ble_eq_true rfl, Nat.le_of_ble_eq_true rfl⟩ dX11_predecessor_2 ?_
  refine fw_iload_n C dX11_predecessor_5 rfl 2 rfl ?_
  refine fw_iconst C dX11_predecessor_6 (v := 0) rfl ?_
  refine fw_aload_n C dX11_predecessor_7 rfl 0 rfl ?_
  refine fw_get C (ci := 9) (Cn := RX11) (Tc := TX11) (N := 11) (j := 5) ly_X11_predecessor_11 rfl (hG _ (List.mem_of_getElem? (i := 1) rfl)) (of0_0 _) (ce0 T ad _ _) (by decide) (cx_ts C _ fl_X11_predecessor_67) (fun _ h => h) (v := .ref (ad 1 0 0)) rfl dX11_predecessor_8 ?_
  refine fw_getN C (ci := 1) (Cn := RX3) (Tc := TX3) (N := 5) (j := 0) ly_X11_predecessor_3 rfl (hG _ (List.mem_of_getElem? (i := 0) rfl)) (of1_0 _) (ce1 T ad _ _) (by decide) (Nst_use (cx_nst C) (w := .fieldLinkNest RX11 117 "RecipeScheduler$Kitchen" "recipe" "LRecipeScheduler$Recipe;" "RecipeScheduler") 516 (by decide +kernel) rfl) (fun _ h => h) (v := .ref (ad 3 ((Y4 1 0 0 0).toNatClampNeg) 0)) rfl dX11_predecessor_11 ?_
  obtain ⟨b7, h⟩ := gd_some h
  have b7 := of_decide_eq_true b7
  refine fw_getN C (ci := 3) (Cn := RX5) (Tc := TX5) (N := 17) (j := 12) ly_X11_predecessor_5 rfl ((fun q hq => hG q (List.mem_append_right _ hq)) _ (allG_3 b7)) (of3_0 _) (ce3 T ad _ _) (by decide) (Nst_use (cx_nst C) (w := .fieldLinkNest RX11 215 "RecipeScheduler$Recipe" "predecessorCount" "[I" "RecipeScheduler") 166 (by decide +kernel) rfl) (fun _ h => h) (v := .ref (ad 3 (((Y4 1 0 0 0).toNatClampNeg)) 7)) rfl dX11_predecessor_14 ?_
  refine fw_iload_n C dX11_predecessor_17 rfl 1 rfl ?_
  obtain ⟨b8, h⟩ := gd_some h
  refine fw_iald2 C ((fun q hq => hG q (List.mem_append_right _ hq)) _ (allG_3 b7)) (of3_7 _) (ca3_7 T ad _ _) b8 (Nat.le_of_ble_eq_true rfl) dX11_predecessor_18 ?_
  refine fw_iconst C dX11_predecessor_19 (v := 1) rfl ?_
  refine fw_isub C dX11_predecessor_20 ?_
  obtain ⟨r9, q10, h⟩ := bd1_some h
  refine fw_callSi C (As := [.int a2, .int 0, .int ((Y4 3 (((Y4 1 0 0 0).toNatClampNeg)) 7 (ix a1)) - 1)]) (c_X11_isWithin ga0 q10) (va_cwS 3 (cx_ts C) gX11_predecessor_X11_isWithin rfl rfl rfl (by decide +kernel) ⟨Nat.le_of_ble_eq_true rfl, Nat.le_of_ble_eq_true rfl⟩) rfl (st := []) rfl (Nat.le_of_ble_eq_true rfl) ⟨Nat.le_refl 0, Nat.le_refl 0⟩ dX11_predecessor_21 (pp2 ?_)
  refine fw_if_ne C dX11_predecessor_24 (tgt := 29) rfl (fun c11 => ?_) (fun c11 => ?_)
  · have h := ite_f c11 h
    refine fw_aload_n C dX11_predecessor_29 rfl 0 rfl ?_
    refine fw_get C (ci := 9) (Cn := RX11) (Tc := TX11) (N := 11) (j := 5) ly_X11_predecessor_11 rfl (hG _ (List.mem_of_getElem? (i := 1) rfl)) (of0_0 _) (ce0 T ad _ _) (by decide) (cx_ts C _ fl_X11_predecessor_67) (fun _ h => h) (v := .ref (ad 1 0 0)) rfl dX11_predecessor_30 ?_
    refine fw_getN C (ci := 1) (Cn := RX3) (Tc := TX3) (N := 5) (j := 0) ly_X11_predecessor_3 rfl (hG _ (List.mem_of_getElem? (i := 0) rfl)) (of1_0 _) (ce1 T ad _ _) (by decide) (Nst_use (cx_nst C) (w := .fieldLinkNest RX11 117 "RecipeScheduler$Kitchen" "recipe" "LRecipeScheduler$Recipe;" "RecipeScheduler") 516 (by decide +kernel) rfl) (fun _ h => h) (v := .ref (ad 3 ((Y4 1 0 0 0).toNatClampNeg) 0)) rfl dX11_predecessor_33 ?_
    refine fw_getN C (ci := 3) (Cn := RX5) (Tc := TX5) (N := 17) (j := 11) ly_X11_predecessor_5 rfl ((fun q hq => hG q (List.mem_append_right _ hq)) _ (allG_3 b7)) (of3_0 _) (ce3 T ad _ _) (by decide) (Nst_use (cx_nst C) (w := .fieldLinkNest RX11 218 "RecipeScheduler$Recipe" "predecessors" "[[I" "RecipeScheduler") 162 (by decide +kernel) rfl) (fun _ h => h) (v := .ref (ad 3 (((Y4 1 0 0 0).toNatClampNeg)) 6)) rfl dX11_predecessor_36 ?_
    refine fw_iload_n C dX11_predecessor_39 rfl 1 rfl ?_
    refine fw_aald2 C 5 ((fun q hq => hG q (List.mem_append_right _ hq)) _ (allG_3 b7)) (of3_6 _) (ca3_6 T ad _ _) rfl rfl b8 (Nat.le_of_ble_eq_true rfl) (v := .ref (ad 3 (((Y4 1 0 0 0).toNatClampNeg)) (20+ix a1))) rfl dX11_predecessor_40 ?_
    refine fw_iload_n C dX11_predecessor_41 rfl 2 rfl ?_
    obtain ⟨b12, h⟩ := gd_some h
    refine fw_iald2 C ((fun q hq => hG q (List.mem_append_right _ hq)) _ (allG_3 b7)) (of3_r _ (inb_lt b8)) (ca3_r T ad _ _ _) b12 (Nat.le_of_ble_eq_true rfl) dX11_predecessor_42 ?_
    refine fw_xr (Nat.le_of_ble_eq_true rfl) (Nat.le_of_ble_eq_true rfl) ?_
    exact fw_iret C hrt Y4 (Option.some.inj h) (fun t ht => ht) dX11_predecessor_43
  · have h := ite_t c11 h
    refine fw_iconst C dX11_predecessor_27 (v := (-1)) rfl ?_
    refine fw_xr (Nat.le_of_ble_eq_true rfl) (Nat.le_of_ble_eq_true rfl) ?_
    exact fw_iret C hrt Y4 (Option.some.inj h) (fun t ht => ht) dX11_predecessor_28
end
set_option maxRecDepth 100000 in
set_option maxHeartbeats 4000000 in
theorem c_X11_predecessor {l : Launch} {N0 : Nat} {T : Nat → ClassId} {D : va_G} {gr : List (Nat × Nat)} {ad : Nat → Nat → Nat → Nat} {Y : Mem} {a1 : Int32} {a2 : Int32} {res : (Nat × Mem) ⊕ (Int32 × Mem)} (hl : l.stackTraces = false) (hG : ∀ q ∈ ([(1, 0), (0, 0)] ++ allG), q ∈ gr) (h : X11_predecessor Y a1 a2 = some res) : CXi l yX11_predecessor wsX11_predecessor (Rx 7 1) N0 T D gr ad Y [.ref (ad 0 0 0), .int a1, .int a2] 1 res :=
  fw_xbody (by decide +kernel) rfl (Nat.le_of_ble_eq_true rfl) (fun p e s m below meth c C hrt hX => w_X11_predecessor C hrt hG hl hX h)
theorem ly_X3_readyAt_3 : ∀ w ∈ u_ws RX3 TX3 5, w ∈ wsX3_readyAt := by decide +kernel
theorem fl_X3_readyAt_28 : Cond.fieldLink RX3 28 "RecipeScheduler$Kitchen" "recipe" "LRecipeScheduler$Recipe;" ∈ wsX3_readyAt := by decide +kernel
theorem ly_X3_readyAt_5 : ∀ w ∈ u_ws RX5 TX5 17, w ∈ wsX3_readyAt := by decide +kernel
theorem ly_X3_readyAt_4 : ∀ w ∈ u_ws RX4 TX4 3, w ∈ wsX3_readyAt := by decide +kernel
theorem fl_X3_readyAt_22 : Cond.fieldLink RX3 22 "RecipeScheduler$Kitchen" "order" "[I" ∈ wsX3_readyAt := by decide +kernel
theorem in_X3_readyAt_11 : Cond.initialized RX11 ∈ wsX3_readyAt := by decide +kernel
theorem sw_X3_readyAt_X11_contains : Cond.static yX11_contains ∈ wsX3_readyAt := by decide +kernel
section
variable {p : Program} {l : Launch} {e : Env} {s : State} {m : MethodId} {below : List Frame} {meth : Method} {c : Code} {N0 : Nat} {T : Nat → ClassId} {D : va_G} {gr : List (Nat × Nat)} {ad : Nat → Nat → Nat → Nat}
set_option maxRecDepth 100000 in
set_option maxHeartbeats 4000000 in
theorem w_X3_readyAt_b59 {g0 : Nat} {a1 : Int32} (C : Cx p s m [.ref (ad 1 g0 0), .int a1].toArray meth c cX3_readyAt 5 wsX3_readyAt RX3 N0 T D gr ad) (hrt : meth.sig.returnType = (some .int)) (hG : ∀ q ∈ ([(2, g0), (1, g0)] ++ allG), q ∈ gr) {res : Int32 × Mem} {k14 : Mem → Int32 → Int32 → Int32 → Option (Int32 × Mem)} (hk14 : ∀ (Y : Mem) (l4 : Int32) (l3 : Int32) (l2 : Int32), k14 Y l4 l3 l2 = some res → FW p l e (Rm 3) s m [.ref (ad 1 g0 0), .int a1].toArray below meth c 5 N0 T D gr ad 0 0 (MQ below (va_Qi (fun r Y1 => (r, Y1) = res) (WB T D gr ad) (fun q => N0 ≤ q)) [.ref (ad 1 g0 0), .int a1].toArray s 0 0 (fun q => N0 ≤ q)) Y 14 [(4, .int l4), (3, .int l3), (2, .int l2), (0, .ref (ad 1 g0 0)), (1, .int a1)] []) (Y : Mem) (l4 : Int32) (l3 : Int32) (l2 : Int32) (h : X3_readyAt_b59 g0 a1 k14 Y l4 l3 l2 = some res) : FW p l e (Rm 3) s m [.ref (ad 1 g0 0), .int a1].toArray below meth c 5 N0 T D gr ad 0 0 (MQ below (va_Qi (fun r Y1 => (r, Y1) = res) (WB T D gr ad) (fun q => N0 ≤ q)) [.ref (ad 1 g0 0), .int a1].toArray s 0 0 (fun q => N0 ≤ q)) Y 59 [(4, .int l4), (3, .int l3), (2, .int l2), (0, .ref (ad 1 g0 0)), (1, .int a1)] [] := by
  unfold X3_readyAt_b59 at h
  refine fw_iinc C dX3_readyAt_59 (kk := 0) (v := l4 + 1) rfl rfl (by decide) (L' := [(4, .int (l4 + 1)), (3, .int l3), (2, .int l2), (0, .ref (ad 1 g0 0)), (1, .int a1)]) rfl ?_
  refine fw_goto C dX3_readyAt_62 (tgt := 14) rfl ?_
  exact hk14 _ _ _ _ h
set_option maxRecDepth 100000 in
set_option maxHeartbeats 4000000 in
theorem w_X3_readyAt_b14 {g0 : Nat} {a1 : Int32} (C : Cx p s m [.ref (ad 1 g0 0), .int a1].toArray meth c cX3_readyAt 5 wsX3_readyAt RX3 N0 T D gr ad) (hrt : meth.sig.returnType = (some .int)) (hG : ∀ q ∈ ([(2, g0), (1, g0)] ++ allG), q ∈ gr) {res : Int32 × Mem} : ∀ (n : Nat) (Y : Mem) (l4 : Int32) (l3 : Int32) (l2 : Int32), X3_readyAt_b14 g0 a1  n Y l4 l3 l2 = some res → FW p l e (Rm 3) s m [.ref (ad 1 g0 0), .int a1].toArray below meth c 5 N0 T D gr ad 0 0 (MQ below (va_Qi (fun r Y1 => (r, Y1) = res) (WB T D gr ad) (fun q => N0 ≤ q)) [.ref (ad 1 g0 0), .int a1].toArray s 0 0 (fun q => N0 ≤ q)) Y 14 [(4, .int l4), (3, .int l3), (2, .int l2), (0, .ref (ad 1 g0 0)), (1, .int a1)] [] := by
  intro n
  induction n with
  | zero =>
    intro Y l4 l3 l2 h
    unfold X3_readyAt_b14 at h
    cases h
  | succ n ih =>
    intro Y l4 l3 l2 h
    unfold X3_readyAt_b14 at h
    refine fw_iload C dX3_readyAt_14 0 rfl ?_
    refine fw_aload_n C dX3_readyAt_16 rfl 3 rfl ?_
    refine fw_get C (ci := 1) (Cn := RX3) (Tc := TX3) (N := 5) (j := 0) ly_X3_readyAt_3 rfl (hG _ (List.mem_of_getElem? (i := 1) rfl)) (of1_0 _) (ce1 T ad _ _) (by decide) (cx_ts C _ fl_X3_readyAt_28) (fun _ h => h) (v := .ref (ad 3 ((Y 1 g0 0 0).toNatClampNeg) 0)) rfl dX3_readyAt_17 ?_
    obtain ⟨b6, h⟩ := gd_some h
    have b6 := of_decide_eq_true b6
    refine fw_getN C (ci := 3) (Cn := RX5) (Tc := TX5) (N := 17) (j := 7) ly_X3_readyAt_5 rfl ((fun q hq => hG q (List.mem_append_right _ hq)) _ (allG_3 b6)) (of3_0 _) (ce3 T ad _ _) (by decide) (Nst_use (cx_nst C) (w := .fieldLinkNest RX3 91 "RecipeScheduler$Recipe" "steps" "LRecipeScheduler$Names;" "RecipeScheduler") 148 (by decide +kernel) rfl) (fun _ h => h) (v := .ref (ad 4 (2*((Y 1 g0 0 0).toNatClampNeg)+1) 0)) rfl dX3_readyAt_20 ?_
    obtain ⟨b7, h⟩ := gd_some h
    have b7 := of_decide_eq_true b7
    refine fw_getN C (ci := 2) (Cn := RX4) (Tc := TX4) (N := 3) (j := 2) ly_X3_readyAt_4 rfl ((fun q hq => hG q (List.mem_append_right _ hq)) _ (allG_4b b7)) (of4_0 _) (ce4 T ad _ _) (by decide) (Nst_use (cx_nst C) (w := .fieldLinkNest RX3 95 "RecipeScheduler$Names" "count" "I" "RecipeScheduler") 114 (by decide +kernel) rfl) (fun _ h => h) (v := .int (Y 4 (2*((Y 1 g0 0 0).toNatClampNeg)+1) 0 2)) rfl dX3_readyAt_23 ?_
    refine fw_icmp_ge C dX3_readyAt_26 (tgt := 65) rfl (fun c8 => ?_) (fun c8 => ?_)
    · have h := ite_t c8 h
      refine fw_iconst C dX3_readyAt_65 (v := (-1)) rfl ?_
      exact fw_iret C hrt Y (Option.some.inj h) (fun t ht => ht) dX3_readyAt_66
    · have h := ite_f c8 h
      refine fw_iload_n C dX3_readyAt_29 rfl 2 rfl ?_
      refine fw_aload_n C dX3_readyAt_30 rfl 3 rfl ?_
      refine fw_get C (ci := 1) (Cn := RX3) (Tc := TX3) (N := 5) (j := 3) ly_X3_readyAt_3 rfl (hG _ (List.mem_of_getElem? (i := 1) rfl)) (of1_0 _) (ce1 T ad _ _) (by decide) (cx_ts C _ fl_X3_readyAt_22) (fun _ h => h) (v := .ref (ad 1 g0 2)) rfl dX3_readyAt_31 ?_
      refine fw_iload C dX3_readyAt_34 0 rfl ?_
      obtain ⟨b9, h⟩ := gd_some h
      refine fw_iald2 C (hG _ (List.mem_of_getElem? (i := 1) rfl)) (of1_2 _) (ca1_2 T ad _ _) b9 (Nat.le_of_ble_eq_true rfl) dX3_readyAt_36 ?_
      obtain ⟨r10, q11, h⟩ := bd1_some h
      refine fw_callSNi C (As := [.int l2, .int (Y 1 g0 2 (ix l4))]) (c_X11_contains ga0 q11) ⟨(va_cnB 2 (cx_ts C) gX3_readyAt_X11_contains_n100 rfl rfl rfl (cx_nw C (w := .methodLinkNest RX3 100 yX11_contains "RecipeScheduler") 623 (by decide +kernel) rfl) (cx_ts C _ in_X3_readyAt_11) (by decide +kernel) ⟨Nat.le_of_ble_eq_true rfl, Nat.le_of_ble_eq_true rfl⟩), cx_ts C _ sw_X3_readyAt_X11_contains, trivial⟩ rfl (st := []) rfl (Nat.le_of_ble_eq_true rfl) ⟨Nat.le_refl 0, Nat.le_refl 0⟩ dX3_readyAt_37 (pp2 ?_)
      refine fw_if_eq C dX3_readyAt_40 (tgt := 59) rfl (fun c12 => ?_) (fun c12 => ?_)
      · have h := ite_t c12 h
        exact w_X3_readyAt_b59 C hrt hG  ih _ _ _ _ h
      · have h := ite_f c12 h
        refine fw_iload_n C dX3_readyAt_43 rfl 1 rfl ?_
        refine fw_iload_n C dX3_readyAt_44 rfl 4 rfl ?_
        refine fw_icmp_ne C dX3_readyAt_45 (tgt := 56) rfl (fun c13 => ?_) (fun c13 => ?_)
        · have h := ite_f c13 h
          refine fw_iinc C dX3_readyAt_56 (kk := 1) (v := l3 + 1) rfl rfl (by decide) (L' := [(3, .int (l3 + 1)), (4, .int l4), (2, .int l2), (0, .ref (ad 1 g0 0)), (1, .int a1)]) rfl ?_
          refine fw_sub [1, 0, 2, 3, 4] (L' := [(4, .int l4), (3, .int (l3 + 1)), (2, .int l2), (0, .ref (ad 1 g0 0)), (1, .int a1)]) rfl ?_
          exact w_X3_readyAt_b59 C hrt hG  ih _ _ _ _ h
        · have h := ite_t c13 h
          refine fw_aload_n C dX3_readyAt_48 rfl 3 rfl ?_
          refine fw_get C (ci := 1) (Cn := RX3) (Tc := TX3) (N := 5) (j := 3) ly_X3_readyAt_3 rfl (hG _ (List.mem_of_getElem? (i := 1) rfl)) (of1_0 _) (ce1 T ad _ _) (by decide) (cx_ts C _ fl_X3_readyAt_22) (fun _ h => h) (v := .ref (ad 1 g0 2)) rfl dX3_readyAt_49 ?_
          refine fw_iload C dX3_readyAt_52 0 rfl ?_
          refine fw_iald2 C (hG _ (List.mem_of_getElem? (i := 1) rfl)) (of1_2 _) (ca1_2 T ad _ _) b9 (Nat.le_of_ble_eq_true rfl) dX3_readyAt_54 ?_
          exact fw_iret C hrt Y (Option.some.inj h) (fun t ht => ht) dX3_readyAt_55
set_option maxRecDepth 100000 in
set_option maxHeartbeats 4000000 in
theorem w_X3_readyAt {Y : Mem} {g0 : Nat} {a1 : Int32} (C : Cx p s m [.ref (ad 1 g0 0), .int a1].toArray meth c cX3_readyAt 5 wsX3_readyAt RX3 N0 T D gr ad) (hrt : meth.sig.returnType = (some .int)) (hG : ∀ q ∈ ([(2, g0), (1, g0)] ++ allG), q ∈ gr) {res : Int32 × Mem} (h : X3_readyAt Y g0 a1 = some res) : FW p l e (Rm 3) s m [.ref (ad 1 g0 0), .int a1].toArray below meth c 5 N0 T D gr ad 0 0 (MQ below (va_Qi (fun r Y1 => (r, Y1) = res) (WB T D gr ad) (fun q => N0 ≤ q)) [.ref (ad 1 g0 0), .int a1].toArray s 0 0 (fun q => N0 ≤ q)) Y 0 [(0, .ref (ad 1 g0 0)), (1, .int a1)] [] := by
  unfold X3_readyAt at h
  refine fw_aload_n C dX3_readyAt_0 rfl 0 rfl ?_
  obtain ⟨Y3, q2, h⟩ := bd1_some h
  refine fw_callVv C (ci := 1) (Cn := RX3) (Tc := TX3) (N := 5) (As := []) (c_X3_rank (gac (hG _ (List.mem_of_getElem? (i := 1) rfl)) (gac (hG _ (List.mem_of_getElem? (i := 0) rfl)) (fun q hq => hG q (List.mem_append_right _ hq)))) q2) (cwV 0 (cx_ts C) gX3_readyAt_X3_rank rfl rfl rfl (by decide +kernel) ⟨Nat.le_of_ble_eq_true rfl, Nat.le_of_ble_eq_true rfl⟩) rfl (hG _ (List.mem_of_getElem? (i := 1) rfl)) (of1_0 _) (ce1 T ad _ _) rfl (st := []) rfl (Nat.le_of_ble_eq_true rfl) ⟨Nat.le_refl 0, Nat.le_refl 0⟩ dX3_readyAt_1 (ppv ?_)
  refine fw_aload_n C dX3_readyAt_4 rfl 0 rfl ?_
  obtain ⟨r4, q5, h⟩ := bd1_some h
  refine fw_callVi C (ci := 1) (Cn := RX3) (Tc := TX3) (N := 5) (As := []) (c_X3_readySteps (gac (hG _ (List.mem_of_getElem? (i := 1) rfl)) (gac (hG _ (List.mem_of_getElem? (i := 0) rfl)) (fun q hq => hG q (List.mem_append_right _ hq)))) q5) (cwV 0 (cx_ts C) gX3_readyAt_X3_readySteps rfl rfl rfl (by decide +kernel) ⟨Nat.le_of_ble_eq_true rfl, Nat.le_of_ble_eq_true rfl⟩) rfl (hG _ (List.mem_of_getElem? (i := 1) rfl)) (of1_0 _) (ce1 T ad _ _) rfl (st := []) rfl (Nat.le_of_ble_eq_true rfl) ⟨Nat.le_refl 0, Nat.le_refl 0⟩ dX3_readyAt_5 (pp2 ?_)
  refine fw_istore_n C dX3_readyAt_8 rfl (by decide) (L' := [(2, .int r4), (0, .ref (ad 1 g0 0)), (1, .int a1)]) rfl ?_
  refine fw_iconst C dX3_readyAt_9 (v := 0) rfl ?_
  refine fw_istore_n C dX3_readyAt_10 rfl (by decide) (L' := [(3, .int 0), (2, .int r4), (0, .ref (ad 1 g0 0)), (1, .int a1)]) rfl ?_
  refine fw_iconst C dX3_readyAt_11 (v := 0) rfl ?_
  refine fw_istore C dX3_readyAt_12 (by decide) (L' := [(4, .int 0), (3, .int 0), (2, .int r4), (0, .ref (ad 1 g0 0)), (1, .int a1)]) rfl ?_
  exact w_X3_readyAt_b14 C hrt hG   _ _ _ _ _ h
end
set_option maxRecDepth 100000 in
set_option maxHeartbeats 4000000 in
theorem c_X3_readyAt {l : Launch} {N0 : Nat} {T : Nat → ClassId} {D : va_G} {gr : List (Nat × Nat)} {ad : Nat → Nat → Nat → Nat} {Y : Mem} {g0 : Nat} {a1 : Int32} {res : Int32 × Mem} (hG : ∀ q ∈ ([(2, g0), (1, g0)] ++ allG), q ∈ gr) (h : X3_readyAt Y g0 a1 = some res) : CI l yX3_readyAt wsX3_readyAt (Rm 3) N0 T D gr ad Y [.ref (ad 1 g0 0), .int a1] (fun r Y1 => (r, Y1) = res) :=
  fw_body (by decide +kernel) rfl (Nat.le_of_ble_eq_true rfl) (fun p e s m below meth c C hrt => w_X3_readyAt C hrt hG  h)
theorem ly_X11_readyStep_11 : ∀ w ∈ u_ws RX11 TX11 11, w ∈ wsX11_readyStep := by decide +kernel
theorem fl_X11_readyStep_67 : Cond.fieldLink RX11 67 "RecipeScheduler" "now" "LRecipeScheduler$Kitchen;" ∈ wsX11_readyStep := by decide +kernel
section
variable {p : Program} {l : Launch} {e : Env} {s : State} {m : MethodId} {below : List Frame} {meth : Method} {c : Code} {N0 : Nat} {T : Nat → ClassId} {D : va_G} {gr : List (Nat × Nat)} {ad : Nat → Nat → Nat → Nat}
set_option maxRecDepth 100000 in
set_option maxHeartbeats 4000000 in
theorem w_X11_readyStep {Y : Mem} {a1 : Int32} (C : Cx p s m [.ref (ad 0 0 0), .int a1].toArray meth c cX11_readyStep 2 wsX11_readyStep RX11 N0 T D gr ad) (hrt : meth.sig.returnType = (some .int)) (hG : ∀ q ∈ ([(0, 0), (1, 0), (2, 0)] ++ allG), q ∈ gr) {res : Int32 × Mem} (h : X11_readyStep Y a1 = some res) : FW p l e (Rm 4) s m [.ref (ad 0 0 0), .int a1].toArray below meth c 2 N0 T D gr ad 0 0 (MQ below (va_Qi (fun r Y1 => (r, Y1) = res) (WB T D gr ad) (fun q => N0 ≤ q)) [.ref (ad 0 0 0), .int a1].toArray s 0 0 (fun q => N0 ≤ q)) Y 0 [(0, .ref (ad 0 0 0)), (1, .int a1)] [] := by
  unfold X11_readyStep at h
  refine fw_aload_n C dX11_readyStep_0 rfl 0 rfl ?_
  refine fw_get C (ci := 9) (Cn := RX11) (Tc := TX11) (N := 11) (j := 5) ly_X11_readyStep_11 rfl (hG _ (List.mem_of_getElem? (i := 0) rfl)) (of0_0 _) (ce0 T ad _ _) (by decide) (cx_ts C _ fl_X11_readyStep_67) (fun _ h => h) (v := .ref (ad 1 0 0)) rfl dX11_readyStep_1 ?_
  refine fw_iload_n C dX11_readyStep_4 rfl 1 rfl ?_
  obtain ⟨r1, Y3, q2, h⟩ := bd2_some h
  refine fw_callVi C (ci := 1) (Cn := RX3) (Tc := TX3) (N := 5) (As := [.int a1]) (c_X3_readyAt (gac (hG _ (List.mem_of_getElem? (i := 2) rfl)) (gac (hG _ (List.mem_of_getElem? (i := 1) rfl)) (fun q hq => hG q (List.mem_append_right _ hq)))) q2) (cwV 1 (cx_ts C) gX11_readyStep_X3_readyAt rfl rfl rfl (by decide +kernel) ⟨Nat.le_of_ble_eq_true rfl, Nat.le_of_ble_eq_true rfl⟩) rfl (hG _ (List.mem_of_getElem? (i := 1) rfl)) (of1_0 _) (ce1 T ad _ _) rfl (st := []) rfl (Nat.le_of_ble_eq_true rfl) ⟨Nat.le_refl 0, Nat.le_refl 0⟩ dX11_readyStep_5 (ppw ?_)
  exact fw_iret C hrt Y3 (Option.some.inj h) (fun t ht => ht) dX11_readyStep_8
end
set_option maxRecDepth 100000 in
set_option maxHeartbeats 4000000 in
theorem c_X11_readyStep {l : Launch} {N0 : Nat} {T : Nat → ClassId} {D : va_G} {gr : List (Nat × Nat)} {ad : Nat → Nat → Nat → Nat} {Y : Mem} {a1 : Int32} {res : Int32 × Mem} (hG : ∀ q ∈ ([(0, 0), (1, 0), (2, 0)] ++ allG), q ∈ gr) (h : X11_readyStep Y a1 = some res) : CI l yX11_readyStep wsX11_readyStep (Rm 4) N0 T D gr ad Y [.ref (ad 0 0 0), .int a1] (fun r Y1 => (r, Y1) = res) :=
  fw_body (by decide +kernel) rfl (Nat.le_of_ble_eq_true rfl) (fun p e s m below meth c C hrt => w_X11_readyStep C hrt hG  h)
theorem ly_X11_redo_11 : ∀ w ∈ u_ws RX11 TX11 11, w ∈ wsX11_redo := by decide +kernel
theorem fl_X11_redo_67 : Cond.fieldLink RX11 67 "RecipeScheduler" "now" "LRecipeScheduler$Kitchen;" ∈ wsX11_redo := by decide +kernel
theorem fl_X11_redo_77 : Cond.fieldLink RX11 77 "RecipeScheduler" "history" "LRecipeScheduler$History;" ∈ wsX11_redo := by decide +kernel
theorem ly_X11_redo_3 : ∀ w ∈ u_ws RX3 TX3 5, w ∈ wsX11_redo := by decide +kernel
theorem th_X11_redo_16 : Cond.classLink RX11 96 "java/lang/IllegalStateException" ∈ wsX11_redo ∧ Cond.initialized "java/lang/IllegalStateException" ∈ wsX11_redo ∧ ∀ w ∈ vx_atS RX11 100 "java/lang/IllegalStateException" ["java/lang/RuntimeException", "java/lang/Exception"], w ∈ wsX11_redo := by decide +kernel
section
variable {p : Program} {l : Launch} {e : Env} {s : State} {m : MethodId} {below : List Frame} {meth : Method} {c : Code} {N0 : Nat} {T : Nat → ClassId} {D : va_G} {gr : List (Nat × Nat)} {ad : Nat → Nat → Nat → Nat}
set_option maxRecDepth 100000 in
set_option maxHeartbeats 4000000 in
theorem w_X11_redo {Y : Mem} {a1 : Int32} (C : Cx p s m [.ref (ad 0 0 0), .int a1].toArray meth c cX11_redo 2 wsX11_redo RX11 N0 T D gr ad) (hrt : meth.sig.returnType = (some .int)) (hG : ∀ q ∈ ([(1, 0), (0, 0), (2, 0), (9, 0)] ++ allG), q ∈ gr) (hl : l.stackTraces = false) (hX : ∀ x ∈ c.exceptionTable.toList, False) {res : (Nat × Mem) ⊕ (Int32 × Mem)} (h : X11_redo Y a1 = some res) : FW p l e (Rx 7 2) s m [.ref (ad 0 0 0), .int a1].toArray below meth c 2 N0 T D gr ad 0 0 (vx_MQ below (va_Qi (fun r Y1 => Sum.inr (r, Y1) = res) (WB T D gr ad) (fun q => N0 ≤ q)) (vx_X (fun u => Sum.inl u = res) (XB T D gr ad) (fun q => N0 ≤ q)) [.ref (ad 0 0 0), .int a1].toArray s 2 12 (fun q => N0 ≤ q)) Y 0 [(0, .ref (ad 0 0 0)), (1, .int a1)] [] := by
  unfold X11_redo at h
  refine fw_aload_n C dX11_redo_0 rfl 0 rfl ?_
  refine fw_iload_n C dX11_redo_1 rfl 1 rfl ?_
  rcases bdxv_some h with ⟨x5, q2, e6⟩ | ⟨Y4, q2, h⟩
  · exact fw_callXVv_l C (ci := 9) (Cn := RX11) (Tc := TX11) (N := 11) (As := [.int a1]) (c_X11_requireStep hl (gac (hG _ (List.mem_of_getElem? (i := 1) rfl)) (gac (hG _ (List.mem_of_getElem? (i := 0) rfl)) (fun q hq => hG q (List.mem_append_right _ hq)))) q2) (cwV 1 (cx_ts C) gX11_redo_X11_requireStep rfl rfl rfl (by decide +kernel) ⟨Nat.le_of_ble_eq_true rfl, Nat.le_of_ble_eq_true rfl⟩) rfl (hG _ (List.mem_of_getElem? (i := 1) rfl)) (of0_0 _) (ce0 T ad _ _) rfl (st := []) rfl (Nat.le_of_ble_eq_true rfl) ⟨Nat.le_of_ble_eq_true rfl, Nat.le_of_ble_eq_true rfl⟩ dX11_redo_2 hX e6 (Nat.le_of_ble_eq_true rfl) (Nat.le_of_ble_eq_true rfl)
  refine fw_callXVv_r C (ci := 9) (Cn := RX11) (Tc := TX11) (N := 11) (As := [.int a1]) (c_X11_requireStep hl (gac (hG _ (List.mem_of_getElem? (i := 1) rfl)) (gac (hG _ (List.mem_of_getElem? (i := 0) rfl)) (fun q hq => hG q (List.mem_append_right _ hq)))) q2) (cwV 1 (cx_ts C) gX11_redo_X11_requireStep rfl rfl rfl (by decide +kernel) ⟨Nat.le_of_ble_eq_true rfl, Nat.le_of_ble_eq_true rfl⟩) rfl (hG _ (List.mem_of_getElem? (i := 1) rfl)) (of0_0 _) (ce0 T ad _ _) rfl (st := []) rfl (Nat.le_of_ble_eq_true rfl) ⟨Nat.le_of_ble_eq_true rfl, Nat.le_of_ble_eq_true rfl⟩ dX11_redo_2 ?_
  refine fw_aload_n C dX11_redo_5 rfl 0 rfl ?_
  refine fw_get C (ci := 9) (Cn := RX11) (Tc := TX11) (N := 11) (j := 5) ly_X11_redo_11 rfl (hG _ (List.mem_of_getElem? (i := 1) rfl)) (of0_0 _) (ce0 T ad _ _) (by decide) (cx_ts C _ fl_X11_redo_67) (fun _ h => h) (v := .ref (ad 1 0 0)) rfl dX11_redo_6 ?_
  refine fw_iload_n C dX11_redo_9 rfl 1 rfl ?_
  obtain ⟨r7, q8, h⟩ := bd1_some h
  refine fw_callVi C (ci := 1) (Cn := RX3) (Tc := TX3) (N := 5) (As := [.int a1]) (c_X3_isRedoable (gac (hG _ (List.mem_of_getElem? (i := 0) rfl)) (gac (hG _ (List.mem_of_getElem? (i := 2) rfl)) (fun q hq => hG q (List.mem_append_right _ hq)))) q8) (cwV 1 (cx_ts C) gX11_redo_X3_isRedoable rfl rfl rfl (by decide +kernel) ⟨Nat.le_of_ble_eq_true rfl, Nat.le_of_ble_eq_true rfl⟩) rfl (hG _ (List.mem_of_getElem? (i := 0) rfl)) (of1_0 _) (ce1 T ad _ _) rfl (st := []) rfl (Nat.le_of_ble_eq_true rfl) ⟨Nat.le_refl 0, Nat.le_refl 0⟩ dX11_redo_10 (pp2 ?_)
  refine fw_if_ne C dX11_redo_13 (tgt := 27) rfl (fun c9 => ?_) (fun c9 => ?_)
  · have h := ite_f c9 h
    refine fw_aload_n C dX11_redo_27 rfl 0 rfl ?_
    refine fw_get C (ci := 9) (Cn := RX11) (Tc := TX11) (N := 11) (j := 7) ly_X11_redo_11 rfl (hG _ (List.mem_of_getElem? (i := 1) rfl)) (of0_0 _) (ce0 T ad _ _) (by decide) (cx_ts C _ fl_X11_redo_77) (fun _ h => h) (v := .ref (ad 9 0 0)) rfl dX11_redo_28 ?_
    refine fw_aload_n C dX11_redo_31 rfl 0 rfl ?_
    refine fw_get C (ci := 9) (Cn := RX11) (Tc := TX11) (N := 11) (j := 5) ly_X11_redo_11 rfl (hG _ (List.mem_of_getElem? (i := 1) rfl)) (of0_0 _) (ce0 T ad _ _) (by decide) (cx_ts C _ fl_X11_redo_67) (fun _ h => h) (v := .ref (ad 1 0 0)) rfl dX11_redo_32 ?_
    refine fw_getN C (ci := 1) (Cn := RX3) (Tc := TX3) (N := 5) (j := 1) ly_X11_redo_3 rfl (hG _ (List.mem_of_getElem? (i := 0) rfl)) (of1_0 _) (ce1 T ad _ _) (by decide) (Nst_use (cx_nst C) (w := .fieldLinkNest RX11 139 "RecipeScheduler$Kitchen" "state" "LRecipeScheduler$State;" "RecipeScheduler") 518 (by decide +kernel) rfl) (fun _ h => h) (v := .ref (ad 2 0 0)) rfl dX11_redo_35 ?_
    obtain ⟨Y12, q11, h⟩ := bd1_some h
    refine fw_callVv C (ci := 0) (Cn := RX2) (Tc := TX2) (N := 3) (As := [.ref (ad 2 0 0)]) (c_X2_push (gac (hG _ (List.mem_of_getElem? (i := 3) rfl)) (gac (hG _ (List.mem_of_getElem? (i := 2) rfl)) (fun q hq => hG q (List.mem_append_right _ hq)))) q11) (cwV 1 (cx_ts C) gX11_redo_X2_push rfl rfl rfl (by decide +kernel) ⟨Nat.le_of_ble_eq_true rfl, Nat.le_of_ble_eq_true rfl⟩) rfl (hG _ (List.mem_of_getElem? (i := 3) rfl)) (of9_0 _) (ce9 T ad _ _) rfl (st := []) rfl (Nat.le_of_ble_eq_true rfl) ⟨Nat.le_refl 0, Nat.le_refl 0⟩ dX11_redo_38 (ppv ?_)
    refine fw_aload_n C dX11_redo_41 rfl 0 rfl ?_
    refine fw_get C (ci := 9) (Cn := RX11) (Tc := TX11) (N := 11) (j := 5) ly_X11_redo_11 rfl (hG _ (List.mem_of_getElem? (i := 1) rfl)) (of0_0 _) (ce0 T ad _ _) (by decide) (cx_ts C _ fl_X11_redo_67) (fun _ h => h) (v := .ref (ad 1 0 0)) rfl dX11_redo_42 ?_
    refine fw_getN C (ci := 1) (Cn := RX3) (Tc := TX3) (N := 5) (j := 1) ly_X11_redo_3 rfl (hG _ (List.mem_of_getElem? (i := 0) rfl)) (of1_0 _) (ce1 T ad _ _) (by decide) (Nst_use (cx_nst C) (w := .fieldLinkNest RX11 139 "RecipeScheduler$Kitchen" "state" "LRecipeScheduler$State;" "RecipeScheduler") 518 (by decide +kernel) rfl) (fun _ h => h) (v := .ref (ad 2 0 0)) rfl dX11_redo_45 ?_
    refine fw_iload_n C dX11_redo_48 rfl 1 rfl ?_
    obtain ⟨r13, Y15, q14, h⟩ := bd2_some h
    refine fw_callVi C (ci := 6) (Cn := RX8) (Tc := TX8) (N := 15) (As := [.int a1]) (c_X8_discard (gac (hG _ (List.mem_of_getElem? (i := 2) rfl)) ga0) q14) (cwV 1 (cx_ts C) gX11_redo_X8_discard rfl rfl rfl (by decide +kernel) ⟨Nat.le_of_ble_eq_true rfl, Nat.le_of_ble_eq_true rfl⟩) rfl (hG _ (List.mem_of_getElem? (i := 2) rfl)) (of2_0 _) (ce2 T ad _ _) rfl (st := []) rfl (Nat.le_of_ble_eq_true rfl) ⟨Nat.le_refl 0, Nat.le_refl 0⟩ dX11_redo_49 (ppw ?_)
    refine fw_xr (Nat.le_of_ble_eq_true rfl) (Nat.le_of_ble_eq_true rfl) ?_
    exact fw_iret C hrt Y15 (Option.some.inj h) (fun t ht => ht) dX11_redo_52
  · have h := ite_t c9 h
    exact fw_throwSW C hl hX (cls := "java/lang/IllegalStateException") (names := ["java/lang/RuntimeException", "java/lang/Exception"]) 1 rfl (by decide +kernel) (by decide +kernel) (cx_ts C _ th_X11_redo_16.1) (cx_ts C _ th_X11_redo_16.2.1) ((cx_st C).2.1 _ (List.mem_of_getElem? (i := 23) rfl)) (fun w hw => cx_ts C _ (th_X11_redo_16.2.2 w hw)) tg_1_100_96 dX11_redo_16 dX11_redo_19 dX11_redo_20 dX11_redo_23 dX11_redo_26 (Nat.le_of_ble_eq_true rfl) (Nat.le_of_ble_eq_true rfl) (Nat.le_of_ble_eq_true rfl) (Nat.le_of_ble_eq_true rfl) (Nat.le_of_ble_eq_true rfl) (Nat.le_of_ble_eq_true rfl) (Option.some.inj h)
end
set_option maxRecDepth 100000 in
set_option maxHeartbeats 4000000 in
theorem c_X11_redo {l : Launch} {N0 : Nat} {T : Nat → ClassId} {D : va_G} {gr : List (Nat × Nat)} {ad : Nat → Nat → Nat → Nat} {Y : Mem} {a1 : Int32} {res : (Nat × Mem) ⊕ (Int32 × Mem)} (hl : l.stackTraces = false) (hG : ∀ q ∈ ([(1, 0), (0, 0), (2, 0), (9, 0)] ++ allG), q ∈ gr) (h : X11_redo Y a1 = some res) : CXi l yX11_redo wsX11_redo (Rx 7 2) N0 T D gr ad Y [.ref (ad 0 0 0), .int a1] 2 res :=
  fw_xbody (by decide +kernel) rfl (Nat.le_of_ble_eq_true rfl) (fun p e s m below meth c C hrt hX => w_X11_redo C hrt hG hl hX h)
theorem ly_X11_remaining_11 : ∀ w ∈ u_ws RX11 TX11 11, w ∈ wsX11_remaining := by decide +kernel
theorem fl_X11_remaining_67 : Cond.fieldLink RX11 67 "RecipeScheduler" "now" "LRecipeScheduler$Kitchen;" ∈ wsX11_remaining := by decide +kernel
theorem ly_X11_remaining_3 : ∀ w ∈ u_ws RX3 TX3 5, w ∈ wsX11_remaining := by decide +kernel
theorem ly_X11_remaining_8 : ∀ w ∈ u_ws RX8 TX8 15, w ∈ wsX11_remaining := by decide +kernel
section
variable {p : Program} {l : Launch} {e : Env} {s : State} {m : MethodId} {below : List Frame} {meth : Method} {c : Code} {N0 : Nat} {T : Nat → ClassId} {D : va_G} {gr : List (Nat × Nat)} {ad : Nat → Nat → Nat → Nat}
set_option maxRecDepth 100000 in
set_option maxHeartbeats 4000000 in
theorem w_X11_remaining {Y : Mem} {a1 : Int32} (C : Cx p s m [.ref (ad 0 0 0), .int a1].toArray meth c cX11_remaining 2 wsX11_remaining RX11 N0 T D gr ad) (hrt : meth.sig.returnType = (some .int)) (hG : ∀ q ∈ ([(1, 0), (0, 0), (2, 0)] ++ allG), q ∈ gr) (hl : l.stackTraces = false) (hX : ∀ x ∈ c.exceptionTable.toList, False) {res : (Nat × Mem) ⊕ (Int32 × Mem)} (h : X11_remaining Y a1 = some res) : FW p l e (Rx 7 1) s m [.ref (ad 0 0 0), .int a1].toArray below meth c 2 N0 T D gr ad 0 0 (vx_MQ below (va_Qi (fun r Y1 => Sum.inr (r, Y1) = res) (WB T D gr ad) (fun q => N0 ≤ q)) (vx_X (fun u => Sum.inl u = res) (XB T D gr ad) (fun q => N0 ≤ q)) [.ref (ad 0 0 0), .int a1].toArray s 1 6 (fun q => N0 ≤ q)) Y 0 [(0, .ref (ad 0 0 0)), (1, .int a1)] [] := by
  unfold X11_remaining at h
  refine fw_aload_n C dX11_remaining_0 rfl 0 rfl ?_
  refine fw_iload_n C dX11_remaining_1 rfl 1 rfl ?_
  rcases bdxv_some h with ⟨x5, q2, e6⟩ | ⟨Y4, q2, h⟩
  · exact fw_callXVv_l C (ci := 9) (Cn := RX11) (Tc := TX11) (N := 11) (As := [.int a1]) (c_X11_requireStep hl (gac (hG _ (List.mem_of_getElem? (i := 1) rfl)) (gac (hG _ (List.mem_of_getElem? (i := 0) rfl)) (fun q hq => hG q (List.mem_append_right _ hq)))) q2) (cwV 1 (cx_ts C) gX11_remaining_X11_requireStep rfl rfl rfl (by decide +kernel) ⟨Nat.le_of_ble_eq_true rfl, Nat.le_of_ble_eq_true rfl⟩) rfl (hG _ (List.mem_of_getElem? (i := 1) rfl)) (of0_0 _) (ce0 T ad _ _) rfl (st := []) rfl (Nat.le_of_ble_eq_true rfl) ⟨Nat.le_of_ble_eq_true rfl, Nat.le_of_ble_eq_true rfl⟩ dX11_remaining_2 hX e6 (Nat.le_of_ble_eq_true rfl) (Nat.le_of_ble_eq_true rfl)
  refine fw_callXVv_r C (ci := 9) (Cn := RX11) (Tc := TX11) (N := 11) (As := [.int a1]) (c_X11_requireStep hl (gac (hG _ (List.mem_of_getElem? (i := 1) rfl)) (gac (hG _ (List.mem_of_getElem? (i := 0) rfl)) (fun q hq => hG q (List.mem_append_right _ hq)))) q2) (cwV 1 (cx_ts C) gX11_remaining_X11_requireStep rfl rfl rfl (by decide +kernel) ⟨Nat.le_of_ble_eq_true rfl, Nat.le_of_ble_eq_true rfl⟩) rfl (hG _ (List.mem_of_getElem? (i := 1) rfl)) (of0_0 _) (ce0 T ad _ _) rfl (st := []) rfl (Nat.le_of_ble_eq_true rfl) ⟨Nat.le_of_ble_eq_true rfl, Nat.le_of_ble_eq_true rfl⟩ dX11_remaining_2 ?_
  refine fw_aload_n C dX11_remaining_5 rfl 0 rfl ?_
  refine fw_get C (ci := 9) (Cn := RX11) (Tc := TX11) (N := 11) (j := 5) ly_X11_remaining_11 rfl (hG _ (List.mem_of_getElem? (i := 1) rfl)) (of0_0 _) (ce0 T ad _ _) (by decide) (cx_ts C _ fl_X11_remaining_67) (fun _ h => h) (v := .ref (ad 1 0 0)) rfl dX11_remaining_6 ?_
  refine fw_getN C (ci := 1) (Cn := RX3) (Tc := TX3) (N := 5) (j := 1) ly_X11_remaining_3 rfl (hG _ (List.mem_of_getElem? (i := 0) rfl)) (of1_0 _) (ce1 T ad _ _) (by decide) (Nst_use (cx_nst C) (w := .fieldLinkNest RX11 139 "RecipeScheduler$Kitchen" "state" "LRecipeScheduler$State;" "RecipeScheduler") 518 (by decide +kernel) rfl) (fun _ h => h) (v := .ref (ad 2 0 0)) rfl dX11_remaining_9 ?_
  refine fw_getN C (ci := 6) (Cn := RX8) (Tc := TX8) (N := 15) (j := 10) ly_X11_remaining_8 rfl (hG _ (List.mem_of_getElem? (i := 2) rfl)) (of2_0 _) (ce2 T ad _ _) (by decide) (Nst_use (cx_nst C) (w := .fieldLinkNest RX11 255 "RecipeScheduler$State" "remaining" "[I" "RecipeScheduler") 464 (by decide +kernel) rfl) (fun _ h => h) (v := .ref (ad 2 0 2)) rfl dX11_remaining_12 ?_
  refine fw_iload_n C dX11_remaining_15 rfl 1 rfl ?_
  obtain ⟨b7, h⟩ := gd_some h
  refine fw_iald2 C (hG _ (List.mem_of_getElem? (i := 2) rfl)) (of2_2 _) (ca2_2 T ad _ _) b7 (Nat.le_of_ble_eq_true rfl) dX11_remaining_16 ?_
  refine fw_xr (Nat.le_of_ble_eq_true rfl) (Nat.le_of_ble_eq_true rfl) ?_
  exact fw_iret C hrt Y4 (Option.some.inj h) (fun t ht => ht) dX11_remaining_17
end
set_option maxRecDepth 100000 in
set_option maxHeartbeats 4000000 in
theorem c_X11_remaining {l : Launch} {N0 : Nat} {T : Nat → ClassId} {D : va_G} {gr : List (Nat × Nat)} {ad : Nat → Nat → Nat → Nat} {Y : Mem} {a1 : Int32} {res : (Nat × Mem) ⊕ (Int32 × Mem)} (hl : l.stackTraces = false) (hG : ∀ q ∈ ([(1, 0), (0, 0), (2, 0)] ++ allG), q ∈ gr) (h : X11_remaining Y a1 = some res) : CXi l yX11_remaining wsX11_remaining (Rx 7 1) N0 T D gr ad Y [.ref (ad 0 0 0), .int a1] 1 res :=
  fw_xbody (by decide +kernel) rfl (Nat.le_of_ble_eq_true rfl) (fun p e s m below meth c C hrt hX => w_X11_remaining C hrt hG hl hX h)
theorem th_X11_requireSlot_9 : Cond.classLink RX11 237 "java/lang/IndexOutOfBoundsException" ∈ wsX11_requireSlot ∧ Cond.initialized "java/lang/IndexOutOfBoundsException" ∈ wsX11_requireSlot ∧ ∀ w ∈ vx_atS RX11 241 "java/lang/IndexOutOfBoundsException" ["java/lang/RuntimeException", "java/lang/Exception"], w ∈ wsX11_requireSlot := by decide +kernel
section
variable {p : Program} {l : Launch} {e : Env} {s : State} {m : MethodId} {below : List Frame} {meth : Method} {c : Code} {N0 : Nat} {T : Nat → ClassId} {D : va_G} {gr : List (Nat × Nat)} {ad : Nat → Nat → Nat → Nat}
set_option maxRecDepth 100000 in
set_option maxHeartbeats 4000000 in
theorem w_X11_requireSlot {Y : Mem} {a1 : Int32} (C : Cx p s m [.ref (ad 0 0 0), .int a1].toArray meth c cX11_requireSlot 2 wsX11_requireSlot RX11 N0 T D gr ad) (hrt : meth.sig.returnType = none) (hG : ∀ q ∈ [], q ∈ gr) (hl : l.stackTraces = false) (hX : ∀ x ∈ c.exceptionTable.toList, False) {res : (Nat × Mem) ⊕ Mem} (h : X11_requireSlot Y a1 = some res) : FW p l e (Rx 6 1) s m [.ref (ad 0 0 0), .int a1].toArray below meth c 2 N0 T D gr ad 0 0 (vx_MQ below (va_Qv (fun Y1 => Sum.inr Y1 = res) (WB T D gr ad) (fun q => N0 ≤ q)) (vx_X (fun u => Sum.inl u = res) (XB T D gr ad) (fun q => N0 ≤ q)) [.ref (ad 0 0 0), .int a1].toArray s 1 6 (fun q => N0 ≤ q)) Y 0 [(0, .ref (ad 0 0 0)), (1, .int a1)] [] := by
  unfold X11_requireSlot at h
  refine fw_iload_n C dX11_requireSlot_0 rfl 1 rfl ?_
  refine fw_iconst C dX11_requireSlot_1 (v := 0) rfl ?_
  refine fw_iconst C dX11_requireSlot_2 (v := 1) rfl ?_
  obtain ⟨r1, q2, h⟩ := bd1_some h
  refine fw_callSi C (As := [.int a1, .int 0, .int 1]) (c_X11_isWithin ga0 q2) (va_cwS 3 (cx_ts C) gX11_requireSlot_X11_isWithin rfl rfl rfl (by decide +kernel) ⟨Nat.le_of_ble_eq_true rfl, Nat.le_of_ble_eq_true rfl⟩) rfl (st := []) rfl (Nat.le_of_ble_eq_true rfl) ⟨Nat.le_refl 0, Nat.le_refl 0⟩ dX11_requireSlot_3 (pp2 ?_)
  refine fw_if_ne C dX11_requireSlot_6 (tgt := 20) rfl (fun c3 => ?_) (fun c3 => ?_)
  · have h := ite_f c3 h
    refine fw_xr (Nat.le_of_ble_eq_true rfl) (Nat.le_of_ble_eq_true rfl) ?_
    exact fw_vret C hrt Y (Option.some.inj h) (fun t ht => ht) dX11_requireSlot_20
  · have h := ite_t c3 h
    exact fw_throwSW C hl hX (cls := "java/lang/IndexOutOfBoundsException") (names := ["java/lang/RuntimeException", "java/lang/Exception"]) 3 rfl (by decide +kernel) (by decide +kernel) (cx_ts C _ th_X11_requireSlot_9.1) (cx_ts C _ th_X11_requireSlot_9.2.1) ((cx_st C).2.1 _ (List.mem_of_getElem? (i := 27) rfl)) (fun w hw => cx_ts C _ (th_X11_requireSlot_9.2.2 w hw)) tg_3_241_237 dX11_requireSlot_9 dX11_requireSlot_12 dX11_requireSlot_13 dX11_requireSlot_16 dX11_requireSlot_19 (Nat.le_of_ble_eq_true rfl) (Nat.le_of_ble_eq_true rfl) (Nat.le_of_ble_eq_true rfl) (Nat.le_of_ble_eq_true rfl) (Nat.le_of_ble_eq_true rfl) (Nat.le_of_ble_eq_true rfl) (Option.some.inj h)
end
set_option maxRecDepth 100000 in
set_option maxHeartbeats 4000000 in
theorem c_X11_requireSlot {l : Launch} {N0 : Nat} {T : Nat → ClassId} {D : va_G} {gr : List (Nat × Nat)} {ad : Nat → Nat → Nat → Nat} {Y : Mem} {a1 : Int32} {res : (Nat × Mem) ⊕ Mem} (hl : l.stackTraces = false) (hG : ∀ q ∈ [], q ∈ gr) (h : X11_requireSlot Y a1 = some res) : CXv l yX11_requireSlot wsX11_requireSlot (Rx 6 1) N0 T D gr ad Y [.ref (ad 0 0 0), .int a1] 1 res :=
  fw_xbody (by decide +kernel) rfl (Nat.le_of_ble_eq_true rfl) (fun p e s m below meth c C hrt hX => w_X11_requireSlot C hrt hG hl hX h)
theorem ly_X11_restore_11 : ∀ w ∈ u_ws RX11 TX11 11, w ∈ wsX11_restore := by decide +kernel
theorem fl_X11_restore_88 : Cond.fieldLink RX11 88 "RecipeScheduler" "isSaved" "[Z" ∈ wsX11_restore := by decide +kernel
theorem fl_X11_restore_67 : Cond.fieldLink RX11 67 "RecipeScheduler" "now" "LRecipeScheduler$Kitchen;" ∈ wsX11_restore := by decide +kernel
theorem ly_X11_restore_3 : ∀ w ∈ u_ws RX3 TX3 5, w ∈ wsX11_restore := by decide +kernel
theorem fl_X11_restore_83 : Cond.fieldLink RX11 83 "RecipeScheduler" "saved" "[LRecipeScheduler$State;" ∈ wsX11_restore := by decide +kernel
theorem fl_X11_restore_77 : Cond.fieldLink RX11 77 "RecipeScheduler" "history" "LRecipeScheduler$History;" ∈ wsX11_restore := by decide +kernel
theorem ly_X11_restore_2 : ∀ w ∈ u_ws RX2 TX2 3, w ∈ wsX11_restore := by decide +kernel
theorem ly_X11_restore_8 : ∀ w ∈ u_ws RX8 TX8 15, w ∈ wsX11_restore := by decide +kernel
theorem th_X11_restore_14 : Cond.classLink RX11 96 "java/lang/IllegalStateException" ∈ wsX11_restore ∧ Cond.initialized "java/lang/IllegalStateException" ∈ wsX11_restore ∧ ∀ w ∈ vx_atS RX11 100 "java/lang/IllegalStateException" ["java/lang/RuntimeException", "java/lang/Exception"], w ∈ wsX11_restore := by decide +kernel
section
variable {p : Program} {l : Launch} {e : Env} {s : State} {m : MethodId} {below : List Frame} {meth : Method} {c : Code} {N0 : Nat} {T : Nat → ClassId} {D : va_G} {gr : List (Nat × Nat)} {ad : Nat → Nat → Nat → Nat}
set_option maxRecDepth 100000 in
set_option maxHeartbeats 4000000 in
theorem w_X11_restore {Y : Mem} {a1 : Int32} (C : Cx p s m [.ref (ad 0 0 0), .int a1].toArray meth c cX11_restore 2 wsX11_restore RX11 N0 T D gr ad) (hrt : meth.sig.returnType = (some .int)) (hG : ∀ q ∈ ([(0, 0), (1, 0), (2, 0), (9, 0)] ++ allG), q ∈ gr) (hl : l.stackTraces = false) (hX : ∀ x ∈ c.exceptionTable.toList, False) {res : (Nat × Mem) ⊕ (Int32 × Mem)} (h : X11_restore Y a1 = some res) : FW p l e (Rx 7 2) s m [.ref (ad 0 0 0), .int a1].toArray below meth c 2 N0 T D gr ad 0 0 (vx_MQ below (va_Qi (fun r Y1 => Sum.inr (r, Y1) = res) (WB T D gr ad) (fun q => N0 ≤ q)) (vx_X (fun u => Sum.inl u = res) (XB T D gr ad) (fun q => N0 ≤ q)) [.ref (ad 0 0 0), .int a1].toArray s 2 12 (fun q => N0 ≤ q)) Y 0 [(0, .ref (ad 0 0 0)), (1, .int a1)] [] := by
  unfold X11_restore at h
  refine fw_aload_n C dX11_restore_0 rfl 0 rfl ?_
  refine fw_iload_n C dX11_restore_1 rfl 1 rfl ?_
  rcases bdxv_some h with ⟨x5, q2, e6⟩ | ⟨Y4, q2, h⟩
  · exact fw_callXVv_l C (ci := 9) (Cn := RX11) (Tc := TX11) (N := 11) (As := [.int a1]) (c_X11_requireSlot hl ga0 q2) (cwV 1 (cx_ts C) gX11_restore_X11_requireSlot rfl rfl rfl (by decide +kernel) ⟨Nat.le_of_ble_eq_true rfl, Nat.le_of_ble_eq_true rfl⟩) rfl (hG _ (List.mem_of_getElem? (i := 0) rfl)) (of0_0 _) (ce0 T ad _ _) rfl (st := []) rfl (Nat.le_of_ble_eq_true rfl) ⟨Nat.le_of_ble_eq_true rfl, Nat.le_of_ble_eq_true rfl⟩ dX11_restore_2 hX e6 (Nat.le_of_ble_eq_true rfl) (Nat.le_of_ble_eq_true rfl)
  refine fw_callXVv_r C (ci := 9) (Cn := RX11) (Tc := TX11) (N := 11) (As := [.int a1]) (c_X11_requireSlot hl ga0 q2) (cwV 1 (cx_ts C) gX11_restore_X11_requireSlot rfl rfl rfl (by decide +kernel) ⟨Nat.le_of_ble_eq_true rfl, Nat.le_of_ble_eq_true rfl⟩) rfl (hG _ (List.mem_of_getElem? (i := 0) rfl)) (of0_0 _) (ce0 T ad _ _) rfl (st := []) rfl (Nat.le_of_ble_eq_true rfl) ⟨Nat.le_of_ble_eq_true rfl, Nat.le_of_ble_eq_true rfl⟩ dX11_restore_2 ?_
  refine fw_aload_n C dX11_restore_5 rfl 0 rfl ?_
  refine fw_get C (ci := 9) (Cn := RX11) (Tc := TX11) (N := 11) (j := 9) ly_X11_restore_11 rfl (hG _ (List.mem_of_getElem? (i := 0) rfl)) (of0_0 _) (ce0 T ad _ _) (by decide) (cx_ts C _ fl_X11_restore_88) (fun _ h => h) (v := .ref (ad 0 0 2)) rfl dX11_restore_6 ?_
  refine fw_iload_n C dX11_restore_9 rfl 1 rfl ?_
  obtain ⟨b7, h⟩ := gd_some h
  refine fw_zald2 C (hG _ (List.mem_of_getElem? (i := 0) rfl)) (of0_2 _) (ca0_2 T ad _ _) b7 (Nat.le_of_ble_eq_true rfl) dX11_restore_10 ?_
  refine fw_if_ne C dX11_restore_11 (tgt := 25) rfl (fun c8 => ?_) (fun c8 => ?_)
  · have h := ite_f c8 h
    refine fw_aload_n C dX11_restore_25 rfl 0 rfl ?_
    refine fw_get C (ci := 9) (Cn := RX11) (Tc := TX11) (N := 11) (j := 5) ly_X11_restore_11 rfl (hG _ (List.mem_of_getElem? (i := 0) rfl)) (of0_0 _) (ce0 T ad _ _) (by decide) (cx_ts C _ fl_X11_restore_67) (fun _ h => h) (v := .ref (ad 1 0 0)) rfl dX11_restore_26 ?_
    refine fw_getN C (ci := 1) (Cn := RX3) (Tc := TX3) (N := 5) (j := 1) ly_X11_restore_3 rfl (hG _ (List.mem_of_getElem? (i := 1) rfl)) (of1_0 _) (ce1 T ad _ _) (by decide) (Nst_use (cx_nst C) (w := .fieldLinkNest RX11 139 "RecipeScheduler$Kitchen" "state" "LRecipeScheduler$State;" "RecipeScheduler") 518 (by decide +kernel) rfl) (fun _ h => h) (v := .ref (ad 2 0 0)) rfl dX11_restore_29 ?_
    refine fw_aload_n C dX11_restore_32 rfl 0 rfl ?_
    refine fw_get C (ci := 9) (Cn := RX11) (Tc := TX11) (N := 11) (j := 8) ly_X11_restore_11 rfl (hG _ (List.mem_of_getElem? (i := 0) rfl)) (of0_0 _) (ce0 T ad _ _) (by decide) (cx_ts C _ fl_X11_restore_83) (fun _ h => h) (v := .ref (ad 0 0 1)) rfl dX11_restore_33 ?_
    refine fw_iload_n C dX11_restore_36 rfl 1 rfl ?_
    refine fw_aald2 C 3 (hG _ (List.mem_of_getElem? (i := 0) rfl)) (of0_1 _) (ca0_1 T ad _ _) rfl rfl b7 (Nat.le_of_ble_eq_true rfl) (v := .ref (ad 2 (8+ix (a1)) 0)) rfl dX11_restore_37 ?_
    obtain ⟨Y11, q10, h⟩ := bd1_some h
    refine fw_callVv C (ci := 6) (Cn := RX8) (Tc := TX8) (N := 15) (As := [.ref (ad 2 (8+ix (a1)) 0)]) (c_X8_copyFrom (gac ((fun q hq => hG q (List.mem_append_right _ hq)) _ (allG_2 (by have q := inb_lt b7; omega))) (gac (hG _ (List.mem_of_getElem? (i := 2) rfl)) ga0)) q10) (cwV 1 (cx_ts C) gX11_restore_X8_copyFrom rfl rfl rfl (by decide +kernel) ⟨Nat.le_of_ble_eq_true rfl, Nat.le_of_ble_eq_true rfl⟩) rfl (hG _ (List.mem_of_getElem? (i := 2) rfl)) (of2_0 _) (ce2 T ad _ _) rfl (st := []) rfl (Nat.le_of_ble_eq_true rfl) ⟨Nat.le_refl 0, Nat.le_refl 0⟩ dX11_restore_38 (ppv ?_)
    refine fw_aload_n C dX11_restore_41 rfl 0 rfl ?_
    refine fw_get C (ci := 9) (Cn := RX11) (Tc := TX11) (N := 11) (j := 7) ly_X11_restore_11 rfl (hG _ (List.mem_of_getElem? (i := 0) rfl)) (of0_0 _) (ce0 T ad _ _) (by decide) (cx_ts C _ fl_X11_restore_77) (fun _ h => h) (v := .ref (ad 9 0 0)) rfl dX11_restore_42 ?_
    refine fw_iconst C dX11_restore_45 (v := 0) rfl ?_
    obtain ⟨Y12, e13, h⟩ := lt_some h
    refine fw_putN C (ci := 0) (Cn := RX2) (Tc := TX2) (N := 3) (j := 2) (ty := .int) (upd (Y11 9 0 0) 2 0) ly_X11_restore_2 rfl tyX2_ok nmX2 (hG _ (List.mem_of_getElem? (i := 3) rfl)) (of9_0 _) (ce9 T ad _ _) (by decide) (Nst_use (cx_nst C) (w := .fieldLinkNest RX11 123 "RecipeScheduler$History" "count" "I" "RecipeScheduler") 546 (by decide +kernel) rfl) (fun _ h => h) rfl (by decide +kernel) rfl rfl (Nat.le_of_ble_eq_true rfl) (ce9_put2 T ad _ _ _) dX11_restore_46 ?_
    refine fw_mem ((up_eq _ _ _ _ _ _).symm.trans e13) ?_
    refine fw_aload_n C dX11_restore_49 rfl 0 rfl ?_
    refine fw_get C (ci := 9) (Cn := RX11) (Tc := TX11) (N := 11) (j := 5) ly_X11_restore_11 rfl (hG _ (List.mem_of_getElem? (i := 0) rfl)) (of0_0 _) (ce0 T ad _ _) (by decide) (cx_ts C _ fl_X11_restore_67) (fun _ h => h) (v := .ref (ad 1 0 0)) rfl dX11_restore_50 ?_
    refine fw_getN C (ci := 1) (Cn := RX3) (Tc := TX3) (N := 5) (j := 1) ly_X11_restore_3 rfl (hG _ (List.mem_of_getElem? (i := 1) rfl)) (of1_0 _) (ce1 T ad _ _) (by decide) (Nst_use (cx_nst C) (w := .fieldLinkNest RX11 139 "RecipeScheduler$Kitchen" "state" "LRecipeScheduler$State;" "RecipeScheduler") 518 (by decide +kernel) rfl) (fun _ h => h) (v := .ref (ad 2 0 0)) rfl dX11_restore_53 ?_
    refine fw_getN C (ci := 6) (Cn := RX8) (Tc := TX8) (N := 15) (j := 1) ly_X11_restore_8 rfl (hG _ (List.mem_of_getElem? (i := 2) rfl)) (of2_0 _) (ce2 T ad _ _) (by decide) (Nst_use (cx_nst C) (w := .fieldLinkNest RX11 146 "RecipeScheduler$State" "minute" "I" "RecipeScheduler") 439 (by decide +kernel) rfl) (fun _ h => h) (v := .int (Y12 2 0 0 1)) rfl dX11_restore_56 ?_
    refine fw_xr (Nat.le_of_ble_eq_true rfl) (Nat.le_of_ble_eq_true rfl) ?_
    exact fw_iret C hrt Y12 (Option.some.inj h) (fun t ht => ht) dX11_restore_59
  · have h := ite_t c8 h
    exact fw_throwSW C hl hX (cls := "java/lang/IllegalStateException") (names := ["java/lang/RuntimeException", "java/lang/Exception"]) 1 rfl (by decide +kernel) (by decide +kernel) (cx_ts C _ th_X11_restore_14.1) (cx_ts C _ th_X11_restore_14.2.1) ((cx_st C).2.1 _ (List.mem_of_getElem? (i := 28) rfl)) (fun w hw => cx_ts C _ (th_X11_restore_14.2.2 w hw)) tg_1_100_96 dX11_restore_14 dX11_restore_17 dX11_restore_18 dX11_restore_21 dX11_restore_24 (Nat.le_of_ble_eq_true rfl) (Nat.le_of_ble_eq_true rfl) (Nat.le_of_ble_eq_true rfl) (Nat.le_of_ble_eq_true rfl) (Nat.le_of_ble_eq_true rfl) (Nat.le_of_ble_eq_true rfl) (Option.some.inj h)
end
set_option maxRecDepth 100000 in
set_option maxHeartbeats 4000000 in
theorem c_X11_restore {l : Launch} {N0 : Nat} {T : Nat → ClassId} {D : va_G} {gr : List (Nat × Nat)} {ad : Nat → Nat → Nat → Nat} {Y : Mem} {a1 : Int32} {res : (Nat × Mem) ⊕ (Int32 × Mem)} (hl : l.stackTraces = false) (hG : ∀ q ∈ ([(0, 0), (1, 0), (2, 0), (9, 0)] ++ allG), q ∈ gr) (h : X11_restore Y a1 = some res) : CXi l yX11_restore wsX11_restore (Rx 7 2) N0 T D gr ad Y [.ref (ad 0 0 0), .int a1] 2 res :=
  fw_xbody (by decide +kernel) rfl (Nat.le_of_ble_eq_true rfl) (fun p e s m below meth c C hrt hX => w_X11_restore C hrt hG hl hX h)
section
variable {p : Program} {l : Launch} {e : Env} {s : State} {m : MethodId} {below : List Frame} {meth : Method} {c : Code} {N0 : Nat} {T : Nat → ClassId} {D : va_G} {gr : List (Nat × Nat)} {ad : Nat → Nat → Nat → Nat}
set_option maxRecDepth 100000 in
set_option maxHeartbeats 4000000 in
theorem w_X3_deepestMissing_b45 {Y : Mem} {g0 : Nat} {a1 : Int32} (C : Cx p s m [.ref (ad 1 g0 0), .int a1].toArray meth c cX3_deepestMissing 5 wsX3_deepestMissing RX3 N0 T D gr ad) (hrt : meth.sig.returnType = (some .int)) (hG : ∀ q ∈ ([(2, g0), (1, g0)] ++ allG), q ∈ gr) {res : Int32} {k7 : Int32 → Int32 → Int32 → Option (Int32)} (hk7 : ∀ (l4 : Int32) (l3 : Int32) (l2 : Int32), k7 l4 l3 l2 = some res → FW p l e (Rm 3) s m [.ref (ad 1 g0 0), .int a1].toArray below meth c 5 N0 T D gr ad 0 0 (MQ below (va_Qi (fun r Y1 => r = res ∧ Y1 = Y) (WB T D gr ad) (fun q => N0 ≤ q)) [.ref (ad 1 g0 0), .int a1].toArray s 0 0 (fun q => N0 ≤ q)) Y 7 [(4, .int l4), (3, .int l3), (2, .int l2), (0, .ref (ad 1 g0 0))] []) (l3 : Int32) (l4 : Int32) (l2 : Int32) (h : X3_deepestMissing_b45 Y g0 a1 k7 l3 l4 l2 = some res) : FW p l e (Rm 3) s m [.ref (ad 1 g0 0), .int a1].toArray below meth c 5 N0 T D gr ad 0 0 (MQ below (va_Qi (fun r Y1 => r = res ∧ Y1 = Y) (WB T D gr ad) (fun q => N0 ≤ q)) [.ref (ad 1 g0 0), .int a1].toArray s 0 0 (fun q => N0 ≤ q)) Y 45 [(3, .int l3), (4, .int l4), (2, .int l2), (0, .ref (ad 1 g0 0))] [] := by
  unfold X3_deepestMissing_b45 at h
  refine fw_iinc C dX3_deepestMissing_45 (kk := 1) (v := l4 + 1) rfl rfl (by decide) (L' := [(4, .int (l4 + 1)), (3, .int l3), (2, .int l2), (0, .ref (ad 1 g0 0))]) rfl ?_
  refine fw_goto C dX3_deepestMissing_48 (tgt := 7) rfl ?_
  exact hk7 _ _ _ h
set_option maxRecDepth 100000 in
set_option maxHeartbeats 4000000 in
theorem w_X3_deepestMissing_b37 {Y : Mem} {g0 : Nat} {a1 : Int32} (C : Cx p s m [.ref (ad 1 g0 0), .int a1].toArray meth c cX3_deepestMissing 5 wsX3_deepestMissing RX3 N0 T D gr ad) (hrt : meth.sig.returnType = (some .int)) (hG : ∀ q ∈ ([(2, g0), (1, g0)] ++ allG), q ∈ gr) {res : Int32} {k7 : Int32 → Int32 → Int32 → Option (Int32)} (hk7 : ∀ (l4 : Int32) (l3 : Int32) (l2 : Int32), k7 l4 l3 l2 = some res → FW p l e (Rm 3) s m [.ref (ad 1 g0 0), .int a1].toArray below meth c 5 N0 T D gr ad 0 0 (MQ below (va_Qi (fun r Y1 => r = res ∧ Y1 = Y) (WB T D gr ad) (fun q => N0 ≤ q)) [.ref (ad 1 g0 0), .int a1].toArray s 0 0 (fun q => N0 ≤ q)) Y 7 [(4, .int l4), (3, .int l3), (2, .int l2), (0, .ref (ad 1 g0 0))] []) (l4 : Int32) (l2 : Int32) (s0 : Int32) (h : X3_deepestMissing_b37 Y g0 a1 k7 l4 l2 s0 = some res) : FW p l e (Rm 3) s m [.ref (ad 1 g0 0), .int a1].toArray below meth c 5 N0 T D gr ad 0 0 (MQ below (va_Qi (fun r Y1 => r = res ∧ Y1 = Y) (WB T D gr ad) (fun q => N0 ≤ q)) [.ref (ad 1 g0 0), .int a1].toArray s 0 0 (fun q => N0 ≤ q)) Y 37 [(4, .int l4), (2, .int l2), (0, .ref (ad 1 g0 0))] [.int s0] := by
  unfold X3_deepestMissing_b37 at h
  refine fw_istore_n C dX3_deepestMissing_37 rfl (by decide) (L' := [(3, .int s0), (4, .int l4), (2, .int l2), (0, .ref (ad 1 g0 0))]) rfl ?_
  refine fw_iload_n C dX3_deepestMissing_38 rfl 0 rfl ?_
  refine fw_iconst C dX3_deepestMissing_39 (v := (-1)) rfl ?_
  refine fw_icmp_eq C dX3_deepestMissing_40 (tgt := 45) rfl (fun c6 => ?_) (fun c6 => ?_)
  · have h := ite_t c6 h
    exact w_X3_deepestMissing_b45 C hrt hG  hk7 _ _ _ h
  · have h := ite_f c6 h
    refine fw_iload_n C dX3_deepestMissing_43 rfl 0 rfl ?_
    refine fw_istore_n C dX3_deepestMissing_44 rfl (by decide) (L' := [(2, .int s0), (3, .int s0), (4, .int l4), (0, .ref (ad 1 g0 0))]) rfl ?_
    refine fw_sub [1, 2, 0, 3] (L' := [(3, .int s0), (4, .int l4), (2, .int s0), (0, .ref (ad 1 g0 0))]) rfl ?_
    exact w_X3_deepestMissing_b45 C hrt hG  hk7 _ _ _ h
set_option maxRecDepth 100000 in
set_option maxHeartbeats 4000000 in
theorem w_X3_deepestMissing_b7 {Y : Mem} {g0 : Nat} {a1 : Int32} (C : Cx p s m [.ref (ad 1 g0 0), .int a1].toArray meth c cX3_deepestMissing 5 wsX3_deepestMissing RX3 N0 T D gr ad) (hrt : meth.sig.returnType = (some .int)) (hG : ∀ q ∈ ([(2, g0), (1, g0)] ++ allG), q ∈ gr) {res : Int32} : ∀ (n : Nat) (l4 : Int32) (l3 : Int32) (l2 : Int32), X3_deepestMissing_b7 Y g0 a1  n l4 l3 l2 = some res → FW p l e (Rm 3) s m [.ref (ad 1 g0 0), .int a1].toArray below meth c 5 N0 T D gr ad 0 0 (MQ below (va_Qi (fun r Y1 => r = res ∧ Y1 = Y) (WB T D gr ad) (fun q => N0 ≤ q)) [.ref (ad 1 g0 0), .int a1].toArray s 0 0 (fun q => N0 ≤ q)) Y 7 [(4, .int l4), (3, .int l3), (2, .int l2), (0, .ref (ad 1 g0 0))] [] := by
  intro n
  induction n with
  | zero =>
    intro l4 l3 l2 h
    unfold X3_deepestMissing_b7 at h
    cases h
  | succ n ih =>
    intro l4 l3 l2 h
    unfold X3_deepestMissing_b7 at h
    refine fw_iload C dX3_deepestMissing_7 0 rfl ?_
    refine fw_bipush C dX3_deepestMissing_9 (v := 14) rfl ?_
    refine fw_icmp_ge C dX3_deepestMissing_11 (tgt := 51) rfl (fun c1 => ?_) (fun c1 => ?_)
    · have h := ite_t c1 h
      refine fw_iload_n C dX3_deepestMissing_51 rfl 2 rfl ?_
      exact fw_iret C hrt Y ⟨Option.some.inj h, rfl⟩ (fun t ht => ht) dX3_deepestMissing_52
    · have h := ite_f c1 h
      refine fw_iload_n C dX3_deepestMissing_14 rfl 1 rfl ?_
      refine fw_iconst C dX3_deepestMissing_15 (v := (-1)) rfl ?_
      refine fw_icmp_eq C dX3_deepestMissing_16 (tgt := 51) rfl (fun c2 => ?_) (fun c2 => ?_)
      · have h := ite_t c2 h
        refine fw_iload_n C dX3_deepestMissing_51 rfl 2 rfl ?_
        exact fw_iret C hrt Y ⟨Option.some.inj h, rfl⟩ (fun t ht => ht) dX3_deepestMissing_52
      · have h := ite_f c2 h
        refine fw_aload_n C dX3_deepestMissing_19 rfl 3 rfl ?_
        refine fw_iload_n C dX3_deepestMissing_20 rfl 1 rfl ?_
        obtain ⟨r3, q4, h⟩ := bd1_some h
        refine fw_callVi C (ci := 1) (Cn := RX3) (Tc := TX3) (N := 5) (As := [.int l3]) (c_X3_obstacle (gac (hG _ (List.mem_of_getElem? (i := 1) rfl)) (gac (hG _ (List.mem_of_getElem? (i := 0) rfl)) (fun q hq => hG q (List.mem_append_right _ hq)))) q4) (cwV 1 (cx_ts C) gX3_deepestMissing_X3_obstacle rfl rfl rfl (by decide +kernel) ⟨Nat.le_of_ble_eq_true rfl, Nat.le_of_ble_eq_true rfl⟩) rfl (hG _ (List.mem_of_getElem? (i := 1) rfl)) (of1_0 _) (ce1 T ad _ _) rfl (st := []) rfl (Nat.le_of_ble_eq_true rfl) ⟨Nat.le_refl 0, Nat.le_refl 0⟩ dX3_deepestMissing_21 (pp2 ?_)
        refine fw_iconst C dX3_deepestMissing_24 (v := 2) rfl ?_
        refine fw_icmp_ne C dX3_deepestMissing_25 (tgt := 36) rfl (fun c5 => ?_) (fun c5 => ?_)
        · have h := ite_f c5 h
          refine fw_iconst C dX3_deepestMissing_36 (v := (-1)) rfl ?_
          refine fw_sub [0, 2, 3] (L' := [(4, .int l4), (2, .int l2), (0, .ref (ad 1 g0 0))]) rfl ?_
          exact w_X3_deepestMissing_b37 C hrt hG  ih _ _ _ h
        · have h := ite_t c5 h
          refine fw_aload_n C dX3_deepestMissing_28 rfl 3 rfl ?_
          refine fw_iload_n C dX3_deepestMissing_29 rfl 1 rfl ?_
          obtain ⟨r7, q8, h⟩ := bd1_some h
          refine fw_callVi C (ci := 1) (Cn := RX3) (Tc := TX3) (N := 5) (As := [.int l3]) (c_X3_missingBefore (gac (hG _ (List.mem_of_getElem? (i := 1) rfl)) (gac (hG _ (List.mem_of_getElem? (i := 0) rfl)) (fun q hq => hG q (List.mem_append_right _ hq)))) q8) (cwV 1 (cx_ts C) gX3_deepestMissing_X3_missingBefore rfl rfl rfl (by decide +kernel) ⟨Nat.le_of_ble_eq_true rfl, Nat.le_of_ble_eq_true rfl⟩) rfl (hG _ (List.mem_of_getElem? (i := 1) rfl)) (of1_0 _) (ce1 T ad _ _) rfl (st := []) rfl (Nat.le_of_ble_eq_true rfl) ⟨Nat.le_refl 0, Nat.le_refl 0⟩ dX3_deepestMissing_30 (pp2 ?_)
          refine fw_goto C dX3_deepestMissing_33 (tgt := 37) rfl ?_
          refine fw_sub [0, 2, 3] (L' := [(4, .int l4), (2, .int l2), (0, .ref (ad 1 g0 0))]) rfl ?_
          exact w_X3_deepestMissing_b37 C hrt hG  ih _ _ _ h
set_option maxRecDepth 100000 in
set_option maxHeartbeats 4000000 in
theorem w_X3_deepestMissing {Y : Mem} {g0 : Nat} {a1 : Int32} (C : Cx p s m [.ref (ad 1 g0 0), .int a1].toArray meth c cX3_deepestMissing 5 wsX3_deepestMissing RX3 N0 T D gr ad) (hrt : meth.sig.returnType = (some .int)) (hG : ∀ q ∈ ([(2, g0), (1, g0)] ++ allG), q ∈ gr) {res : Int32} (h : X3_deepestMissing Y g0 a1 = some res) : FW p l e (Rm 3) s m [.ref (ad 1 g0 0), .int a1].toArray below meth c 5 N0 T D gr ad 0 0 (MQ below (va_Qi (fun r Y1 => r = res ∧ Y1 = Y) (WB T D gr ad) (fun q => N0 ≤ q)) [.ref (ad 1 g0 0), .int a1].toArray s 0 0 (fun q => N0 ≤ q)) Y 0 [(0, .ref (ad 1 g0 0)), (1, .int a1)] [] := by
  unfold X3_deepestMissing at h
  refine fw_iconst C dX3_deepestMissing_0 (v := (-1)) rfl ?_
  refine fw_istore_n C dX3_deepestMissing_1 rfl (by decide) (L' := [(2, .int ((-1))), (0, .ref (ad 1 g0 0)), (1, .int a1)]) rfl ?_
  refine fw_iload_n C dX3_deepestMissing_2 rfl 2 rfl ?_
  refine fw_istore_n C dX3_deepestMissing_3 rfl (by decide) (L' := [(3, .int a1), (2, .int ((-1))), (0, .ref (ad 1 g0 0)), (1, .int a1)]) rfl ?_
  refine fw_iconst C dX3_deepestMissing_4 (v := 0) rfl ?_
  refine fw_istore C dX3_deepestMissing_5 (by decide) (L' := [(4, .int 0), (3, .int a1), (2, .int ((-1))), (0, .ref (ad 1 g0 0)), (1, .int a1)]) rfl ?_
  refine fw_sub [0, 1, 2, 3] (L' := [(4, .int 0), (3, .int a1), (2, .int ((-1))), (0, .ref (ad 1 g0 0))]) rfl ?_
  exact w_X3_deepestMissing_b7 C hrt hG   _ _ _ _ h
end
set_option maxRecDepth 100000 in
set_option maxHeartbeats 4000000 in
theorem c_X3_deepestMissing {l : Launch} {N0 : Nat} {T : Nat → ClassId} {D : va_G} {gr : List (Nat × Nat)} {ad : Nat → Nat → Nat → Nat} {Y : Mem} {g0 : Nat} {a1 : Int32} {res : Int32} (hG : ∀ q ∈ ([(2, g0), (1, g0)] ++ allG), q ∈ gr) (h : X3_deepestMissing Y g0 a1 = some res) : CI l yX3_deepestMissing wsX3_deepestMissing (Rm 3) N0 T D gr ad Y [.ref (ad 1 g0 0), .int a1] (fun r Y1 => r = res ∧ Y1 = Y) :=
  fw_body (by decide +kernel) rfl (Nat.le_of_ble_eq_true rfl) (fun p e s m below meth c C hrt => w_X3_deepestMissing C hrt hG  h)
theorem ly_X11_rootBlocker_11 : ∀ w ∈ u_ws RX11 TX11 11, w ∈ wsX11_rootBlocker := by decide +kernel
theorem fl_X11_rootBlocker_67 : Cond.fieldLink RX11 67 "RecipeScheduler" "now" "LRecipeScheduler$Kitchen;" ∈ wsX11_rootBlocker := by decide +kernel
section
variable {p : Program} {l : Launch} {e : Env} {s : State} {m : MethodId} {below : List Frame} {meth : Method} {c : Code} {N0 : Nat} {T : Nat → ClassId} {D : va_G} {gr : List (Nat × Nat)} {ad : Nat → Nat → Nat → Nat}
set_option maxRecDepth 100000 in
set_option maxHeartbeats 4000000 in
theorem w_X11_rootBlocker {Y : Mem} {a1 : Int32} (C : Cx p s m [.ref (ad 0 0 0), .int a1].toArray meth c cX11_rootBlocker 2 wsX11_rootBlocker RX11 N0 T D gr ad) (hrt : meth.sig.returnType = (some .int)) (hG : ∀ q ∈ ([(1, 0), (0, 0), (2, 0)] ++ allG), q ∈ gr) (hl : l.stackTraces = false) (hX : ∀ x ∈ c.exceptionTable.toList, False) {res : (Nat × Mem) ⊕ (Int32 × Mem)} (h : X11_rootBlocker Y a1 = some res) : FW p l e (Rx 7 1) s m [.ref (ad 0 0 0), .int a1].toArray below meth c 2 N0 T D gr ad 0 0 (vx_MQ below (va_Qi (fun r Y1 => Sum.inr (r, Y1) = res) (WB T D gr ad) (fun q => N0 ≤ q)) (vx_X (fun u => Sum.inl u = res) (XB T D gr ad) (fun q => N0 ≤ q)) [.ref (ad 0 0 0), .int a1].toArray s 1 6 (fun q => N0 ≤ q)) Y 0 [(0, .ref (ad 0 0 0)), (1, .int a1)] [] := by
  unfold X11_rootBlocker at h
  refine fw_aload_n C dX11_rootBlocker_0 rfl 0 rfl ?_
  refine fw_iload_n C dX11_rootBlocker_1 rfl 1 rfl ?_
  rcases bdxv_some h with ⟨x5, q2, e6⟩ | ⟨Y4, q2, h⟩
  · exact fw_callXVv_l C (ci := 9) (Cn := RX11) (Tc := TX11) (N := 11) (As := [.int a1]) (c_X11_requireStep hl (gac (hG _ (List.mem_of_getElem? (i := 1) rfl)) (gac (hG _ (List.mem_of_getElem? (i := 0) rfl)) (fun q hq => hG q (List.mem_append_right _ hq)))) q2) (cwV 1 (cx_ts C) gX11_rootBlocker_X11_requireStep rfl rfl rfl (by decide +kernel) ⟨Nat.le_of_ble_eq_true rfl, Nat.le_of_ble_eq_true rfl⟩) rfl (hG _ (List.mem_of_getElem? (i := 1) rfl)) (of0_0 _) (ce0 T ad _ _) rfl (st := []) rfl (Nat.le_of_ble_eq_true rfl) ⟨Nat.le_of_ble_eq_true rfl, Nat.le_of_ble_eq_true rfl⟩ dX11_rootBlocker_2 hX e6 (Nat.le_of_ble_eq_true rfl) (Nat.le_of_ble_eq_true rfl)
  refine fw_callXVv_r C (ci := 9) (Cn := RX11) (Tc := TX11) (N := 11) (As := [.int a1]) (c_X11_requireStep hl (gac (hG _ (List.mem_of_getElem? (i := 1) rfl)) (gac (hG _ (List.mem_of_getElem? (i := 0) rfl)) (fun q hq => hG q (List.mem_append_right _ hq)))) q2) (cwV 1 (cx_ts C) gX11_rootBlocker_X11_requireStep rfl rfl rfl (by decide +kernel) ⟨Nat.le_of_ble_eq_true rfl, Nat.le_of_ble_eq_true rfl⟩) rfl (hG _ (List.mem_of_getElem? (i := 1) rfl)) (of0_0 _) (ce0 T ad _ _) rfl (st := []) rfl (Nat.le_of_ble_eq_true rfl) ⟨Nat.le_of_ble_eq_true rfl, Nat.le_of_ble_eq_true rfl⟩ dX11_rootBlocker_2 ?_
  refine fw_aload_n C dX11_rootBlocker_5 rfl 0 rfl ?_
  refine fw_get C (ci := 9) (Cn := RX11) (Tc := TX11) (N := 11) (j := 5) ly_X11_rootBlocker_11 rfl (hG _ (List.mem_of_getElem? (i := 1) rfl)) (of0_0 _) (ce0 T ad _ _) (by decide) (cx_ts C _ fl_X11_rootBlocker_67) (fun _ h => h) (v := .ref (ad 1 0 0)) rfl dX11_rootBlocker_6 ?_
  refine fw_iload_n C dX11_rootBlocker_9 rfl 1 rfl ?_
  obtain ⟨r7, q8, h⟩ := bd1_some h
  refine fw_callVi C (ci := 1) (Cn := RX3) (Tc := TX3) (N := 5) (As := [.int a1]) (c_X3_deepestMissing (gac (hG _ (List.mem_of_getElem? (i := 2) rfl)) (gac (hG _ (List.mem_of_getElem? (i := 0) rfl)) (fun q hq => hG q (List.mem_append_right _ hq)))) q8) (cwV 1 (cx_ts C) gX11_rootBlocker_X3_deepestMissing rfl rfl rfl (by decide +kernel) ⟨Nat.le_of_ble_eq_true rfl, Nat.le_of_ble_eq_true rfl⟩) rfl (hG _ (List.mem_of_getElem? (i := 0) rfl)) (of1_0 _) (ce1 T ad _ _) rfl (st := []) rfl (Nat.le_of_ble_eq_true rfl) ⟨Nat.le_refl 0, Nat.le_refl 0⟩ dX11_rootBlocker_10 (pp2 ?_)
  refine fw_xr (Nat.le_of_ble_eq_true rfl) (Nat.le_of_ble_eq_true rfl) ?_
  exact fw_iret C hrt Y4 (Option.some.inj h) (fun t ht => ht) dX11_rootBlocker_13
end
set_option maxRecDepth 100000 in
set_option maxHeartbeats 4000000 in
theorem c_X11_rootBlocker {l : Launch} {N0 : Nat} {T : Nat → ClassId} {D : va_G} {gr : List (Nat × Nat)} {ad : Nat → Nat → Nat → Nat} {Y : Mem} {a1 : Int32} {res : (Nat × Mem) ⊕ (Int32 × Mem)} (hl : l.stackTraces = false) (hG : ∀ q ∈ ([(1, 0), (0, 0), (2, 0)] ++ allG), q ∈ gr) (h : X11_rootBlocker Y a1 = some res) : CXi l yX11_rootBlocker wsX11_rootBlocker (Rx 7 1) N0 T D gr ad Y [.ref (ad 0 0 0), .int a1] 1 res :=
  fw_xbody (by decide +kernel) rfl (Nat.le_of_ble_eq_true rfl) (fun p e s m below meth c C hrt hX => w_X11_rootBlocker C hrt hG hl hX h)
theorem ly_X6_findCommand_6 : ∀ w ∈ u_ws RX6 TX6 5, w ∈ wsX6_findCommand := by decide +kernel
theorem fl_X6_findCommand_24 : Cond.fieldLink RX6 24 "RecipeScheduler$ScriptReader" "tokens" "LRecipeScheduler$Tokens;" ∈ wsX6_findCommand := by decide +kernel
section
variable {p : Program} {l : Launch} {e : Env} {s : State} {m : MethodId} {below : List Frame} {meth : Method} {c : Code} {N0 : Nat} {T : Nat → ClassId} {D : va_G} {gr : List (Nat × Nat)} {ad : Nat → Nat → Nat → Nat}
set_option maxRecDepth 100000 in
set_option maxHeartbeats 4000000 in
theorem w_X6_findCommand_b9 {Y : Mem} (C : Cx p s m [.ref (ad 8 0 0)].toArray meth c cX6_findCommand 5 wsX6_findCommand RX6 N0 T D gr ad) (hrt : meth.sig.returnType = (some (.object "RecipeScheduler$Command"))) (hG : ∀ q ∈ [(8, 0), (5, 0), (6, 0)], q ∈ gr) {res : Option Nat} : ∀ (n : Nat) (l3 : Int32) (l2 : Int32), X6_findCommand_b9 Y  n l3 l2 = some res → FW p l e (Rm 5) s m [.ref (ad 8 0 0)].toArray below meth c 5 N0 T D gr ad 0 0 (MQ below (va_Qq (fun r Y1 => r = res.map (fun i => ad 20 i 0) ∧ Y1 = Y) (WB T D gr ad) (fun q => N0 ≤ q)) [.ref (ad 8 0 0)].toArray s 0 0 (fun q => N0 ≤ q)) Y 9 [(3, .int l3), (2, .int l2), (1, .ref (ad 24 0 0)), (0, .ref (ad 8 0 0))] [] := by
  intro n
  induction n with
  | zero =>
    intro l3 l2 h
    unfold X6_findCommand_b9 at h
    cases h
  | succ n ih =>
    intro l3 l2 h
    unfold X6_findCommand_b9 at h
    refine fw_iload_n C dX6_findCommand_9 rfl 0 rfl ?_
    refine fw_iload_n C dX6_findCommand_10 rfl 1 rfl ?_
    refine fw_icmp_ge C dX6_findCommand_11 (tgt := 43) rfl (fun c1 => ?_) (fun c1 => ?_)
    · have h := ite_t c1 h
      refine fw_aconst_null C dX6_findCommand_43 ?_
      exact fw_qret C hrt (r := none) rfl Y ⟨by rw [← Option.some.inj h] <;> rfl, rfl⟩ (fun t ht => ht) dX6_findCommand_44
    · have h := ite_f c1 h
      refine fw_aload_n C dX6_findCommand_14 rfl 2 rfl ?_
      refine fw_iload_n C dX6_findCommand_15 rfl 0 rfl ?_
      obtain ⟨b2, h⟩ := gd_some h
      refine fw_tq C (cx_st C).2.2.2.1.2 b2 (v := .ref (ad 20 (ix l3) 0)) rfl dX6_findCommand_16 ?_
      obtain ⟨v3, e4, h⟩ := lt_some h
      refine fw_top (v' := .ref (ad 20 v3 0)) (by rw [e4]) ?_
      have b5 : v3 < 8 := by rw [← e4]; exact (inb_lt b2)
      refine fw_astore C dX6_findCommand_17 (by decide) (L' := [(4, .ref (ad 20 v3 0)), (3, .int l3), (2, .int l2), (1, .ref (ad 24 0 0)), (0, .ref (ad 8 0 0))]) rfl ?_
      refine fw_aload_n C dX6_findCommand_19 rfl 4 rfl ?_
      refine fw_get C (ci := 4) (Cn := RX6) (Tc := TX6) (N := 5) (j := 0) ly_X6_findCommand_6 rfl (hG _ (List.mem_of_getElem? (i := 0) rfl)) (of8_0 _) (ce8 T ad _ _) (by decide) (cx_ts C _ fl_X6_findCommand_24) (fun _ h => h) (v := .ref (ad 6 0 0)) rfl dX6_findCommand_20 ?_
      refine fw_aload C dX6_findCommand_23 0 rfl ?_
      refine fw_getON C (v := .ref (ad 21 (8 + v3) 0)) ((cx_st C).2.2.1 _ b5).2.2.1 (Nst_use (cx_nst C) (w := .fieldLinkNest RX6 77 "RecipeScheduler$Command" "word" "Ljava/lang/String;" "RecipeScheduler") 2044 (by decide +kernel) rfl) (fun _ h => h) dX6_findCommand_25 ?_
      obtain ⟨r6, q7, h⟩ := bd1_some h
      refine fw_callVi C (ci := 8) (Cn := RX10) (Tc := TX10) (N := 6) (As := [.ref (ad 21 (8 + v3) 0)]) (c_X10_isWord (gac (hG _ (List.mem_of_getElem? (i := 2) rfl)) (gac (hG _ (List.mem_of_getElem? (i := 1) rfl)) ga0)) q7) (cwV 1 (cx_ts C) gX6_findCommand_X10_isWord rfl rfl rfl (by decide +kernel) ⟨Nat.le_of_ble_eq_true rfl, Nat.le_of_ble_eq_true rfl⟩) rfl (hG _ (List.mem_of_getElem? (i := 2) rfl)) (of6_0 _) (ce6 T ad _ _) rfl (st := []) rfl (Nat.le_of_ble_eq_true rfl) ⟨Nat.le_refl 0, Nat.le_refl 0⟩ dX6_findCommand_28 (pp2 ?_)
      refine fw_if_eq C dX6_findCommand_31 (tgt := 37) rfl (fun c8 => ?_) (fun c8 => ?_)
      · have h := ite_t c8 h
        refine fw_iinc C dX6_findCommand_37 (kk := 1) (v := l3 + 1) rfl rfl (by decide) (L' := [(3, .int (l3 + 1)), (4, .ref (ad 20 v3 0)), (2, .int l2), (1, .ref (ad 24 0 0)), (0, .ref (ad 8 0 0))]) rfl ?_
        refine fw_goto C dX6_findCommand_40 (tgt := 9) rfl ?_
        refine fw_sub [0, 2, 3, 4] (L' := [(3, .int (l3 + 1)), (2, .int l2), (1, .ref (ad 24 0 0)), (0, .ref (ad 8 0 0))]) rfl ?_
        exact ih _ _ h
      · have h := ite_f c8 h
        refine fw_aload C dX6_findCommand_34 0 rfl ?_
        exact fw_qret C hrt (r := some (ad 20 v3 0)) rfl Y ⟨by rw [← Option.some.inj h] <;> rfl, rfl⟩ (fun t ht => ht) dX6_findCommand_36
set_option maxRecDepth 100000 in
set_option maxHeartbeats 4000000 in
theorem w_X6_findCommand {Y : Mem} (C : Cx p s m [.ref (ad 8 0 0)].toArray meth c cX6_findCommand 5 wsX6_findCommand RX6 N0 T D gr ad) (hrt : meth.sig.returnType = (some (.object "RecipeScheduler$Command"))) (hG : ∀ q ∈ [(8, 0), (5, 0), (6, 0)], q ∈ gr) {res : Option Nat} (h : X6_findCommand Y = some res) : FW p l e (Rm 5) s m [.ref (ad 8 0 0)].toArray below meth c 5 N0 T D gr ad 0 0 (MQ below (va_Qq (fun r Y1 => r = res.map (fun i => ad 20 i 0) ∧ Y1 = Y) (WB T D gr ad) (fun q => N0 ≤ q)) [.ref (ad 8 0 0)].toArray s 0 0 (fun q => N0 ≤ q)) Y 0 [(0, .ref (ad 8 0 0))] [] := by
  unfold X6_findCommand at h
  refine fw_getsN C (v := .ref (ad 24 0 0)) (cx_st C).2.2.2.1.1 (Nst_use (cx_nst C) (w := .fieldLinkNest RX6 74 "RecipeScheduler" "COMMANDS" "[LRecipeScheduler$Command;" "RecipeScheduler") 1331 (by decide +kernel) rfl) (fun _ h => h) dX6_findCommand_0 ?_
  refine fw_astore_n C dX6_findCommand_3 rfl (by decide) (L' := [(1, .ref (ad 24 0 0)), (0, .ref (ad 8 0 0))]) rfl ?_
  refine fw_aload_n C dX6_findCommand_4 rfl 0 rfl ?_
  refine fw_tlen C (cx_st C).2.2.2.1.2 (v := 8) rfl dX6_findCommand_5 ?_
  refine fw_istore_n C dX6_findCommand_6 rfl (by decide) (L' := [(2, .int 8), (1, .ref (ad 24 0 0)), (0, .ref (ad 8 0 0))]) rfl ?_
  refine fw_iconst C dX6_findCommand_7 (v := 0) rfl ?_
  refine fw_istore_n C dX6_findCommand_8 rfl (by decide) (L' := [(3, .int 0), (2, .int 8), (1, .ref (ad 24 0 0)), (0, .ref (ad 8 0 0))]) rfl ?_
  exact w_X6_findCommand_b9 C hrt hG   _ _ _ h
end
set_option maxRecDepth 100000 in
set_option maxHeartbeats 4000000 in
theorem c_X6_findCommand {l : Launch} {N0 : Nat} {T : Nat → ClassId} {D : va_G} {gr : List (Nat × Nat)} {ad : Nat → Nat → Nat → Nat} {Y : Mem} {res : Option Nat} (hG : ∀ q ∈ [(8, 0), (5, 0), (6, 0)], q ∈ gr) (h : X6_findCommand Y = some res) : CQ l yX6_findCommand wsX6_findCommand (Rm 5) N0 T D gr ad Y [.ref (ad 8 0 0)] (fun r Y1 => r = res.map (fun i => ad 20 i 0) ∧ Y1 = Y) :=
  fw_body (by decide +kernel) rfl (Nat.le_of_ble_eq_true rfl) (fun p e s m below meth c C hrt => w_X6_findCommand C hrt hG  h)
theorem ly_X6_readStepName_6 : ∀ w ∈ u_ws RX6 TX6 5, w ∈ wsX6_readStepName := by decide +kernel
theorem fl_X6_readStepName_24 : Cond.fieldLink RX6 24 "RecipeScheduler$ScriptReader" "tokens" "LRecipeScheduler$Tokens;" ∈ wsX6_readStepName := by decide +kernel
section
variable {p : Program} {l : Launch} {e : Env} {s : State} {m : MethodId} {below : List Frame} {meth : Method} {c : Code} {N0 : Nat} {T : Nat → ClassId} {D : va_G} {gr : List (Nat × Nat)} {ad : Nat → Nat → Nat → Nat}
set_option maxRecDepth 100000 in
set_option maxHeartbeats 4000000 in
theorem w_X6_readStepName {Y : Mem} {g1 : Nat} (C : Cx p s m [.ref (ad 8 0 0), .ref (ad 4 g1 0)].toArray meth c cX6_readStepName 3 wsX6_readStepName RX6 N0 T D gr ad) (hrt : meth.sig.returnType = (some .int)) (hG : ∀ q ∈ [(8, 0), (4, g1), (4, 0), (5, 0), (6, 0)], q ∈ gr) {res : Int32 × Mem} (h : X6_readStepName Y g1 = some res) : FW p l e (Rm 3) s m [.ref (ad 8 0 0), .ref (ad 4 g1 0)].toArray below meth c 3 N0 T D gr ad 0 0 (MQ below (va_Qi (fun r Y1 => (r, Y1) = res) (WB T D gr ad) (fun q => N0 ≤ q)) [.ref (ad 8 0 0), .ref (ad 4 g1 0)].toArray s 0 0 (fun q => N0 ≤ q)) Y 0 [(0, .ref (ad 8 0 0)), (1, .ref (ad 4 g1 0))] [] := by
  unfold X6_readStepName at h
  refine fw_aload_n C dX6_readStepName_0 rfl 0 rfl ?_
  refine fw_get C (ci := 4) (Cn := RX6) (Tc := TX6) (N := 5) (j := 0) ly_X6_readStepName_6 rfl (hG _ (List.mem_of_getElem? (i := 0) rfl)) (of8_0 _) (ce8 T ad _ _) (by decide) (cx_ts C _ fl_X6_readStepName_24) (fun _ h => h) (v := .ref (ad 6 0 0)) rfl dX6_readStepName_1 ?_
  refine fw_aload_n C dX6_readStepName_4 rfl 1 rfl ?_
  obtain ⟨r1, Y3, q2, h⟩ := bd2_some h
  refine fw_callVi C (ci := 8) (Cn := RX10) (Tc := TX10) (N := 6) (As := [.ref (ad 4 g1 0)]) (c_X10_findName (gac (hG _ (List.mem_of_getElem? (i := 4) rfl)) (gac (hG _ (List.mem_of_getElem? (i := 3) rfl)) (gac (hG _ (List.mem_of_getElem? (i := 2) rfl)) (gac (hG _ (List.mem_of_getElem? (i := 1) rfl)) ga0)))) q2) (cwV 1 (cx_ts C) gX6_readStepName_X10_findName rfl rfl rfl (by decide +kernel) ⟨Nat.le_of_ble_eq_true rfl, Nat.le_of_ble_eq_true rfl⟩) rfl (hG _ (List.mem_of_getElem? (i := 4) rfl)) (of6_0 _) (ce6 T ad _ _) rfl (st := []) rfl (Nat.le_of_ble_eq_true rfl) ⟨Nat.le_refl 0, Nat.le_refl 0⟩ dX6_readStepName_5 (ppw ?_)
  refine fw_istore_n C dX6_readStepName_8 rfl (by decide) (L' := [(2, .int r1), (0, .ref (ad 8 0 0)), (1, .ref (ad 4 g1 0))]) rfl ?_
  refine fw_iload_n C dX6_readStepName_9 rfl 0 rfl ?_
  refine fw_iconst C dX6_readStepName_10 (v := (-1)) rfl ?_
  refine fw_icmp_eq C dX6_readStepName_11 (tgt := 21) rfl (fun c4 => ?_) (fun c4 => ?_)
  · have h := ite_t c4 h
    refine fw_iload_n C dX6_readStepName_21 rfl 0 rfl ?_
    exact fw_iret C hrt Y3 (Option.some.inj h) (fun t ht => ht) dX6_readStepName_22
  · have h := ite_f c4 h
    refine fw_aload_n C dX6_readStepName_14 rfl 1 rfl ?_
    refine fw_get C (ci := 4) (Cn := RX6) (Tc := TX6) (N := 5) (j := 0) ly_X6_readStepName_6 rfl (hG _ (List.mem_of_getElem? (i := 0) rfl)) (of8_0 _) (ce8 T ad _ _) (by decide) (cx_ts C _ fl_X6_readStepName_24) (fun _ h => h) (v := .ref (ad 6 0 0)) rfl dX6_readStepName_15 ?_
    obtain ⟨Y7, q6, h⟩ := bd1_some h
    refine fw_callVv C (ci := 8) (Cn := RX10) (Tc := TX10) (N := 6) (As := []) (c_X10_advance (gac (hG _ (List.mem_of_getElem? (i := 4) rfl)) (gac (hG _ (List.mem_of_getElem? (i := 3) rfl)) ga0)) q6) (cwV 0 (cx_ts C) gX6_readStepName_X10_advance rfl rfl rfl (by decide +kernel) ⟨Nat.le_of_ble_eq_true rfl, Nat.le_of_ble_eq_true rfl⟩) rfl (hG _ (List.mem_of_getElem? (i := 4) rfl)) (of6_0 _) (ce6 T ad _ _) rfl (st := []) rfl (Nat.le_of_ble_eq_true rfl) ⟨Nat.le_refl 0, Nat.le_refl 0⟩ dX6_readStepName_18 (ppv ?_)
    refine fw_iload_n C dX6_readStepName_21 rfl 0 rfl ?_
    exact fw_iret C hrt Y7 (Option.some.inj h) (fun t ht => ht) dX6_readStepName_22
end
set_option maxRecDepth 100000 in
set_option maxHeartbeats 4000000 in
theorem c_X6_readStepName {l : Launch} {N0 : Nat} {T : Nat → ClassId} {D : va_G} {gr : List (Nat × Nat)} {ad : Nat → Nat → Nat → Nat} {Y : Mem} {g1 : Nat} {res : Int32 × Mem} (hG : ∀ q ∈ [(8, 0), (4, g1), (4, 0), (5, 0), (6, 0)], q ∈ gr) (h : X6_readStepName Y g1 = some res) : CI l yX6_readStepName wsX6_readStepName (Rm 3) N0 T D gr ad Y [.ref (ad 8 0 0), .ref (ad 4 g1 0)] (fun r Y1 => (r, Y1) = res) :=
  fw_body (by decide +kernel) rfl (Nat.le_of_ble_eq_true rfl) (fun p e s m below meth c C hrt => w_X6_readStepName C hrt hG  h)
theorem ly_X6_readCommand_6 : ∀ w ∈ u_ws RX6 TX6 5, w ∈ wsX6_readCommand := by decide +kernel
theorem fl_X6_readCommand_24 : Cond.fieldLink RX6 24 "RecipeScheduler$ScriptReader" "tokens" "LRecipeScheduler$Tokens;" ∈ wsX6_readCommand := by decide +kernel
theorem fl_X6_readCommand_28 : Cond.fieldLink RX6 28 "RecipeScheduler$ScriptReader" "count" "I" ∈ wsX6_readCommand := by decide +kernel
theorem fl_X6_readCommand_11 : Cond.fieldLink RX6 11 "RecipeScheduler$ScriptReader" "commands" "[LRecipeScheduler$Command;" ∈ wsX6_readCommand := by decide +kernel
theorem fl_X6_readCommand_17 : Cond.fieldLink RX6 17 "RecipeScheduler$ScriptReader" "steps" "[I" ∈ wsX6_readCommand := by decide +kernel
theorem fl_X6_readCommand_21 : Cond.fieldLink RX6 21 "RecipeScheduler$ScriptReader" "numbers" "[I" ∈ wsX6_readCommand := by decide +kernel
section
variable {p : Program} {l : Launch} {e : Env} {s : State} {m : MethodId} {below : List Frame} {meth : Method} {c : Code} {N0 : Nat} {T : Nat → ClassId} {D : va_G} {gr : List (Nat × Nat)} {ad : Nat → Nat → Nat → Nat}
set_option maxRecDepth 100000 in
set_option maxHeartbeats 4000000 in
theorem w_X6_readCommand_b108 {g1 : Nat} (C : Cx p s m [.ref (ad 8 0 0), .ref (ad 4 g1 0)].toArray meth c cX6_readCommand 3 wsX6_readCommand RX6 N0 T D gr ad) (hrt : meth.sig.returnType = none) (hG : ∀ q ∈ [(6, 0), (5, 0), (8, 0), (4, 0), (4, g1)], q ∈ gr) {res : Mem} (Y : Mem) (s0 : Int32) (s1 : Int32) (h : X6_readCommand_b108 g1  Y s0 s1 = some res) : FW p l e (Rm 6) s m [.ref (ad 8 0 0), .ref (ad 4 g1 0)].toArray below meth c 3 N0 T D gr ad 0 0 (MQ below (va_Qv (fun Y1 => Y1 = res) (WB T D gr ad) (fun q => N0 ≤ q)) [.ref (ad 8 0 0), .ref (ad 4 g1 0)].toArray s 0 0 (fun q => N0 ≤ q)) Y 108 [(0, .ref (ad 8 0 0))] [.int s0, .int s1, .ref (ad 8 0 3)] := by
  unfold X6_readCommand_b108 at h
  obtain ⟨b21, h⟩ := gd_some h
  obtain ⟨Y22, e23, h⟩ := lt_some h
  refine fw_iast2 C (hG _ (List.mem_of_getElem? (i := 2) rfl)) (of8_3 _) (ca8_3 T ad _) b21 (Nat.le_of_ble_eq_true rfl) dX6_readCommand_108 ?_
  refine fw_mem e23 ?_
  refine fw_aload_n C dX6_readCommand_109 rfl 0 rfl ?_
  refine fw_get C (ci := 4) (Cn := RX6) (Tc := TX6) (N := 5) (j := 0) ly_X6_readCommand_6 rfl (hG _ (List.mem_of_getElem? (i := 2) rfl)) (of8_0 _) (ce8 T ad _ _) (by decide) (cx_ts C _ fl_X6_readCommand_24) (fun _ h => h) (v := .ref (ad 6 0 0)) rfl dX6_readCommand_110 ?_
  obtain ⟨Y26, q25, h⟩ := bd1_some h
  refine fw_callVv C (ci := 8) (Cn := RX10) (Tc := TX10) (N := 6) (As := []) (c_X10_expectSemicolon (gac (hG _ (List.mem_of_getElem? (i := 0) rfl)) (gac (hG _ (List.mem_of_getElem? (i := 1) rfl)) ga0)) q25) (cwV 0 (cx_ts C) gX6_readCommand_X10_expectSemicolon rfl rfl rfl (by decide +kernel) ⟨Nat.le_of_ble_eq_true rfl, Nat.le_of_ble_eq_true rfl⟩) rfl (hG _ (List.mem_of_getElem? (i := 0) rfl)) (of6_0 _) (ce6 T ad _ _) rfl (st := []) rfl (Nat.le_of_ble_eq_true rfl) ⟨Nat.le_refl 0, Nat.le_refl 0⟩ dX6_readCommand_113 (ppv ?_)
  refine fw_aload_n C dX6_readCommand_116 rfl 0 rfl ?_
  refine fw_dup C dX6_readCommand_117 rfl ?_
  refine fw_get C (ci := 4) (Cn := RX6) (Tc := TX6) (N := 5) (j := 4) ly_X6_readCommand_6 rfl (hG _ (List.mem_of_getElem? (i := 2) rfl)) (of8_0 _) (ce8 T ad _ _) (by decide) (cx_ts C _ fl_X6_readCommand_28) (fun _ h => h) (v := .int (Y26 8 0 0 4)) rfl dX6_readCommand_118 ?_
  refine fw_iconst C dX6_readCommand_121 (v := 1) rfl ?_
  refine fw_iadd C dX6_readCommand_122 ?_
  obtain ⟨Y27, e28, h⟩ := lt_some h
  refine fw_put C (ci := 4) (Cn := RX6) (Tc := TX6) (N := 5) (j := 4) (ty := .int) (upd (Y26 8 0 0) 4 ((Y26 8 0 0 4) + 1)) ly_X6_readCommand_6 rfl tyX6_ok nmX6 (hG _ (List.mem_of_getElem? (i := 2) rfl)) (of8_0 _) (ce8 T ad _ _) (by decide) (cx_ts C _ fl_X6_readCommand_28) (fun _ h => h) rfl (by decide +kernel) rfl rfl (Nat.le_of_ble_eq_true rfl) (ce8_put4 T ad _ _ _) dX6_readCommand_123 ?_
  refine fw_mem ((up_eq _ _ _ _ _ _).symm.trans e28) ?_
  exact fw_vret C hrt Y27 (Option.some.inj h) (fun t ht => ht) dX6_readCommand_126
set_option maxRecDepth 100000 in
set_option maxHeartbeats 4000000 in
theorem w_X6_readCommand_b77 {g1 : Nat} (C : Cx p s m [.ref (ad 8 0 0), .ref (ad 4 g1 0)].toArray meth c cX6_readCommand 3 wsX6_readCommand RX6 N0 T D gr ad) (hrt : meth.sig.returnType = none) (hG : ∀ q ∈ [(6, 0), (5, 0), (8, 0), (4, 0), (4, g1)], q ∈ gr) {res : Mem} (Y : Mem) (l2 : Nat) (s0 : Int32) (s1 : Int32) (h : X6_readCommand_b77 g1  Y l2 s0 s1 = some res) : FW p l e (Rm 6) s m [.ref (ad 8 0 0), .ref (ad 4 g1 0)].toArray below meth c 3 N0 T D gr ad 0 0 (MQ below (va_Qv (fun Y1 => Y1 = res) (WB T D gr ad) (fun q => N0 ≤ q)) [.ref (ad 8 0 0), .ref (ad 4 g1 0)].toArray s 0 0 (fun q => N0 ≤ q)) Y 77 [(2, .ref (ad 20 l2 0)), (0, .ref (ad 8 0 0))] [.int s0, .int s1, .ref (ad 8 0 2)] := by
  unfold X6_readCommand_b77 at h
  obtain ⟨b16, h⟩ := gd_some h
  obtain ⟨Y17, e18, h⟩ := lt_some h
  refine fw_iast2 C (hG _ (List.mem_of_getElem? (i := 2) rfl)) (of8_2 _) (ca8_2 T ad _) b16 (Nat.le_of_ble_eq_true rfl) dX6_readCommand_77 ?_
  refine fw_mem e18 ?_
  refine fw_aload_n C dX6_readCommand_78 rfl 1 rfl ?_
  refine fw_get C (ci := 4) (Cn := RX6) (Tc := TX6) (N := 5) (j := 3) ly_X6_readCommand_6 rfl (hG _ (List.mem_of_getElem? (i := 2) rfl)) (of8_0 _) (ce8 T ad _ _) (by decide) (cx_ts C _ fl_X6_readCommand_21) (fun _ h => h) (v := .ref (ad 8 0 3)) rfl dX6_readCommand_79 ?_
  refine fw_aload_n C dX6_readCommand_82 rfl 1 rfl ?_
  refine fw_get C (ci := 4) (Cn := RX6) (Tc := TX6) (N := 5) (j := 4) ly_X6_readCommand_6 rfl (hG _ (List.mem_of_getElem? (i := 2) rfl)) (of8_0 _) (ce8 T ad _ _) (by decide) (cx_ts C _ fl_X6_readCommand_28) (fun _ h => h) (v := .int (Y17 8 0 0 4)) rfl dX6_readCommand_83 ?_
  refine fw_aload_n C dX6_readCommand_86 rfl 0 rfl ?_
  obtain ⟨b19, h⟩ := gd_some h
  have b19 := of_decide_eq_true b19
  refine fw_getON C (v := .int ((sCmd l2).2)) ((cx_st C).2.2.1 _ b19).2.2.2.2 (Nst_use (cx_nst C) (w := .fieldLinkNest RX6 64 "RecipeScheduler$Command" "takesNumber" "Z" "RecipeScheduler") 2046 (by decide +kernel) rfl) (fun _ h => h) dX6_readCommand_87 ?_
  refine fw_if_eq C dX6_readCommand_90 (tgt := 107) rfl (fun c20 => ?_) (fun c20 => ?_)
  · have h := ite_t c20 h
    refine fw_iconst C dX6_readCommand_107 (v := 0) rfl ?_
    refine fw_sub [1] (L' := [(0, .ref (ad 8 0 0))]) rfl ?_
    exact w_X6_readCommand_b108 C hrt hG   _ _ _ h
  · have h := ite_f c20 h
    refine fw_aload_n C dX6_readCommand_93 rfl 1 rfl ?_
    refine fw_get C (ci := 4) (Cn := RX6) (Tc := TX6) (N := 5) (j := 0) ly_X6_readCommand_6 rfl (hG _ (List.mem_of_getElem? (i := 2) rfl)) (of8_0 _) (ce8 T ad _ _) (by decide) (cx_ts C _ fl_X6_readCommand_24) (fun _ h => h) (v := .ref (ad 6 0 0)) rfl dX6_readCommand_94 ?_
    refine fw_iconst C dX6_readCommand_97 (v := 0) rfl ?_
    refine fw_sipush C dX6_readCommand_98 (v := 999) rfl ?_
    obtain ⟨r29, Y31, q30, h⟩ := bd2_some h
    refine fw_callVi C (ci := 8) (Cn := RX10) (Tc := TX10) (N := 6) (As := [.int 0, .int 999]) (c_X10_expectNumber (gac (hG _ (List.mem_of_getElem? (i := 0) rfl)) (gac (hG _ (List.mem_of_getElem? (i := 1) rfl)) ga0)) q30) (cwV 2 (cx_ts C) gX6_readCommand_X10_expectNumber rfl rfl rfl (by decide +kernel) ⟨Nat.le_of_ble_eq_true rfl, Nat.le_of_ble_eq_true rfl⟩) rfl (hG _ (List.mem_of_getElem? (i := 0) rfl)) (of6_0 _) (ce6 T ad _ _) rfl (st := [.int (Y17 8 0 0 4), .ref (ad 8 0 3)]) rfl (Nat.le_of_ble_eq_true rfl) ⟨Nat.le_refl 0, Nat.le_refl 0⟩ dX6_readCommand_101 (ppw ?_)
    refine fw_goto C dX6_readCommand_104 (tgt := 108) rfl ?_
    refine fw_sub [1] (L' := [(0, .ref (ad 8 0 0))]) rfl ?_
    exact w_X6_readCommand_b108 C hrt hG   _ _ _ h
set_option maxRecDepth 100000 in
set_option maxHeartbeats 4000000 in
theorem w_X6_readCommand {Y : Mem} {g1 : Nat} (C : Cx p s m [.ref (ad 8 0 0), .ref (ad 4 g1 0)].toArray meth c cX6_readCommand 3 wsX6_readCommand RX6 N0 T D gr ad) (hrt : meth.sig.returnType = none) (hG : ∀ q ∈ [(6, 0), (5, 0), (8, 0), (4, 0), (4, g1)], q ∈ gr) {res : Mem} (h : X6_readCommand Y g1 = some res) : FW p l e (Rm 6) s m [.ref (ad 8 0 0), .ref (ad 4 g1 0)].toArray below meth c 3 N0 T D gr ad 0 0 (MQ below (va_Qv (fun Y1 => Y1 = res) (WB T D gr ad) (fun q => N0 ≤ q)) [.ref (ad 8 0 0), .ref (ad 4 g1 0)].toArray s 0 0 (fun q => N0 ≤ q)) Y 0 [(0, .ref (ad 8 0 0)), (1, .ref (ad 4 g1 0))] [] := by
  unfold X6_readCommand at h
  refine fw_aload_n C dX6_readCommand_0 rfl 0 rfl ?_
  obtain ⟨r1, q2, h⟩ := bd1_some h
  refine fw_callVq C (ci := 4) (Cn := RX6) (Tc := TX6) (N := 5) (As := []) (c_X6_findCommand (gac (hG _ (List.mem_of_getElem? (i := 2) rfl)) (gac (hG _ (List.mem_of_getElem? (i := 1) rfl)) (gac (hG _ (List.mem_of_getElem? (i := 0) rfl)) ga0))) q2) (cwV 0 (cx_ts C) gX6_readCommand_X6_findCommand rfl rfl rfl (by decide +kernel) ⟨Nat.le_of_ble_eq_true rfl, Nat.le_of_ble_eq_true rfl⟩) rfl (hG _ (List.mem_of_getElem? (i := 2) rfl)) (of8_0 _) (ce8 T ad _ _) rfl (st := []) rfl (Nat.le_of_ble_eq_true rfl) ⟨Nat.le_refl 0, Nat.le_refl 0⟩ dX6_readCommand_1 (pp2 ?_)
  cases r1 with
  | none =>
    refine fw_astore_nN C dX6_readCommand_4 rfl (by decide) (L' := [(2, .null), (0, .ref (ad 8 0 0)), (1, .ref (ad 4 g1 0))]) rfl ?_
    refine fw_aload_nN C dX6_readCommand_5 rfl 0 rfl ?_
    refine fw_ifnonnullN C dX6_readCommand_6 ?_
    refine fw_aload_n C dX6_readCommand_9 rfl 1 rfl ?_
    refine fw_get C (ci := 4) (Cn := RX6) (Tc := TX6) (N := 5) (j := 0) ly_X6_readCommand_6 rfl (hG _ (List.mem_of_getElem? (i := 2) rfl)) (of8_0 _) (ce8 T ad _ _) (by decide) (cx_ts C _ fl_X6_readCommand_24) (fun _ h => h) (v := .ref (ad 6 0 0)) rfl dX6_readCommand_10 ?_
    refine fw_iconst C dX6_readCommand_13 (v := 1) rfl ?_
    obtain ⟨Y6, q5, h⟩ := bd1_some h
    refine fw_callVv C (ci := 8) (Cn := RX10) (Tc := TX10) (N := 6) (As := [.int 1]) (c_X10_fail (gac (hG _ (List.mem_of_getElem? (i := 0) rfl)) ga0) q5) (cwV 1 (cx_ts C) gX6_readCommand_X10_fail rfl rfl rfl (by decide +kernel) ⟨Nat.le_of_ble_eq_true rfl, Nat.le_of_ble_eq_true rfl⟩) rfl (hG _ (List.mem_of_getElem? (i := 0) rfl)) (of6_0 _) (ce6 T ad _ _) rfl (st := []) rfl (Nat.le_of_ble_eq_true rfl) ⟨Nat.le_refl 0, Nat.le_refl 0⟩ dX6_readCommand_14 (ppv ?_)
    exact fw_vret C hrt Y6 (Option.some.inj h) (fun t ht => ht) dX6_readCommand_17
  | some v3 =>
    refine fw_astore_n C dX6_readCommand_4 rfl (by decide) (L' := [(2, .ref (ad 20 v3 0)), (0, .ref (ad 8 0 0)), (1, .ref (ad 4 g1 0))]) rfl ?_
    refine fw_aload_n C dX6_readCommand_5 rfl 0 rfl ?_
    refine fw_ifnonnull C dX6_readCommand_6 (tgt := 18) rfl ?_
    refine fw_aload_n C dX6_readCommand_18 rfl 1 rfl ?_
    refine fw_get C (ci := 4) (Cn := RX6) (Tc := TX6) (N := 5) (j := 4) ly_X6_readCommand_6 rfl (hG _ (List.mem_of_getElem? (i := 2) rfl)) (of8_0 _) (ce8 T ad _ _) (by decide) (cx_ts C _ fl_X6_readCommand_28) (fun _ h => h) (v := .int (Y 8 0 0 4)) rfl dX6_readCommand_19 ?_
    refine fw_bipush C dX6_readCommand_22 (v := 30) rfl ?_
    refine fw_icmp_lt C dX6_readCommand_24 (tgt := 36) rfl (fun c7 => ?_) (fun c7 => ?_)
    · have h := ite_t c7 h
      refine fw_aload_n C dX6_readCommand_36 rfl 1 rfl ?_
      refine fw_get C (ci := 4) (Cn := RX6) (Tc := TX6) (N := 5) (j := 0) ly_X6_readCommand_6 rfl (hG _ (List.mem_of_getElem? (i := 2) rfl)) (of8_0 _) (ce8 T ad _ _) (by decide) (cx_ts C _ fl_X6_readCommand_24) (fun _ h => h) (v := .ref (ad 6 0 0)) rfl dX6_readCommand_37 ?_
      obtain ⟨Y10, q9, h⟩ := bd1_some h
      refine fw_callVv C (ci := 8) (Cn := RX10) (Tc := TX10) (N := 6) (As := []) (c_X10_advance (gac (hG _ (List.mem_of_getElem? (i := 0) rfl)) (gac (hG _ (List.mem_of_getElem? (i := 1) rfl)) ga0)) q9) (cwV 0 (cx_ts C) gX6_readCommand_X10_advance rfl rfl rfl (by decide +kernel) ⟨Nat.le_of_ble_eq_true rfl, Nat.le_of_ble_eq_true rfl⟩) rfl (hG _ (List.mem_of_getElem? (i := 0) rfl)) (of6_0 _) (ce6 T ad _ _) rfl (st := []) rfl (Nat.le_of_ble_eq_true rfl) ⟨Nat.le_refl 0, Nat.le_refl 0⟩ dX6_readCommand_40 (ppv ?_)
      refine fw_aload_n C dX6_readCommand_43 rfl 1 rfl ?_
      refine fw_get C (ci := 4) (Cn := RX6) (Tc := TX6) (N := 5) (j := 1) ly_X6_readCommand_6 rfl (hG _ (List.mem_of_getElem? (i := 2) rfl)) (of8_0 _) (ce8 T ad _ _) (by decide) (cx_ts C _ fl_X6_readCommand_11) (fun _ h => h) (v := .ref (ad 8 0 1)) rfl dX6_readCommand_44 ?_
      refine fw_aload_n C dX6_readCommand_47 rfl 1 rfl ?_
      refine fw_get C (ci := 4) (Cn := RX6) (Tc := TX6) (N := 5) (j := 4) ly_X6_readCommand_6 rfl (hG _ (List.mem_of_getElem? (i := 2) rfl)) (of8_0 _) (ce8 T ad _ _) (by decide) (cx_ts C _ fl_X6_readCommand_28) (fun _ h => h) (v := .int (Y10 8 0 0 4)) rfl dX6_readCommand_48 ?_
      refine fw_aload_n C dX6_readCommand_51 rfl 0 rfl ?_
      obtain ⟨b11, h⟩ := gd_some h
      have b11 := of_decide_eq_true b11
      obtain ⟨b12, h⟩ := gd_some h
      obtain ⟨Y13, e14, h⟩ := lt_some h
      refine fw_castq C (hG _ (List.mem_of_getElem? (i := 2) rfl)) (of8_1 _) (ca8_1 T ad _) b12 (Nat.le_of_ble_eq_true rfl) b11 dX6_readCommand_52 ?_
      refine fw_mem e14 ?_
      refine fw_aload_n C dX6_readCommand_53 rfl 1 rfl ?_
      refine fw_get C (ci := 4) (Cn := RX6) (Tc := TX6) (N := 5) (j := 2) ly_X6_readCommand_6 rfl (hG _ (List.mem_of_getElem? (i := 2) rfl)) (of8_0 _) (ce8 T ad _ _) (by decide) (cx_ts C _ fl_X6_readCommand_17) (fun _ h => h) (v := .ref (ad 8 0 2)) rfl dX6_readCommand_54 ?_
      refine fw_aload_n C dX6_readCommand_57 rfl 1 rfl ?_
      refine fw_get C (ci := 4) (Cn := RX6) (Tc := TX6) (N := 5) (j := 4) ly_X6_readCommand_6 rfl (hG _ (List.mem_of_getElem? (i := 2) rfl)) (of8_0 _) (ce8 T ad _ _) (by decide) (cx_ts C _ fl_X6_readCommand_28) (fun _ h => h) (v := .int (Y13 8 0 0 4)) rfl dX6_readCommand_58 ?_
      refine fw_aload_n C dX6_readCommand_61 rfl 0 rfl ?_
      refine fw_getON C (v := .int ((sCmd v3).1)) ((cx_st C).2.2.1 _ b11).2.2.2.1 (Nst_use (cx_nst C) (w := .fieldLinkNest RX6 56 "RecipeScheduler$Command" "takesName" "Z" "RecipeScheduler") 2045 (by decide +kernel) rfl) (fun _ h => h) dX6_readCommand_62 ?_
      refine fw_if_eq C dX6_readCommand_65 (tgt := 76) rfl (fun c15 => ?_) (fun c15 => ?_)
      · have h := ite_t c15 h
        refine fw_iconst C dX6_readCommand_76 (v := (-1)) rfl ?_
        refine fw_sub [0, 1] (L' := [(2, .ref (ad 20 v3 0)), (0, .ref (ad 8 0 0))]) rfl ?_
        exact w_X6_readCommand_b77 C hrt hG   _ _ _ _ h
      · have h := ite_f c15 h
        refine fw_aload_n C dX6_readCommand_68 rfl 1 rfl ?_
        refine fw_aload_n C dX6_readCommand_69 rfl 2 rfl ?_
        obtain ⟨r32, Y34, q33, h⟩ := bd2_some h
        refine fw_callVi C (ci := 4) (Cn := RX6) (Tc := TX6) (N := 5) (As := [.ref (ad 4 g1 0)]) (c_X6_readStepName (gac (hG _ (List.mem_of_getElem? (i := 2) rfl)) (gac (hG _ (List.mem_of_getElem? (i := 4) rfl)) (gac (hG _ (List.mem_of_getElem? (i := 3) rfl)) (gac (hG _ (List.mem_of_getElem? (i := 1) rfl)) (gac (hG _ (List.mem_of_getElem? (i := 0) rfl)) ga0))))) q33) (cwV 1 (cx_ts C) gX6_readCommand_X6_readStepName rfl rfl rfl (by decide +kernel) ⟨Nat.le_of_ble_eq_true rfl, Nat.le_of_ble_eq_true rfl⟩) rfl (hG _ (List.mem_of_getElem? (i := 2) rfl)) (of8_0 _) (ce8 T ad _ _) rfl (st := [.int (Y13 8 0 0 4), .ref (ad 8 0 2)]) rfl (Nat.le_of_ble_eq_true rfl) ⟨Nat.le_refl 0, Nat.le_refl 0⟩ dX6_readCommand_70 (ppw ?_)
        refine fw_goto C dX6_readCommand_73 (tgt := 77) rfl ?_
        refine fw_sub [0, 1] (L' := [(2, .ref (ad 20 v3 0)), (0, .ref (ad 8 0 0))]) rfl ?_
        exact w_X6_readCommand_b77 C hrt hG   _ _ _ _ h
    · have h := ite_f c7 h
      refine fw_aload_n C dX6_readCommand_27 rfl 1 rfl ?_
      refine fw_get C (ci := 4) (Cn := RX6) (Tc := TX6) (N := 5) (j := 0) ly_X6_readCommand_6 rfl (hG _ (List.mem_of_getElem? (i := 2) rfl)) (of8_0 _) (ce8 T ad _ _) (by decide) (cx_ts C _ fl_X6_readCommand_24) (fun _ h => h) (v := .ref (ad 6 0 0)) rfl dX6_readCommand_28 ?_
      refine fw_iconst C dX6_readCommand_31 (v := 5) rfl ?_
      obtain ⟨Y37, q36, h⟩ := bd1_some h
      refine fw_callVv C (ci := 8) (Cn := RX10) (Tc := TX10) (N := 6) (As := [.int 5]) (c_X10_fail (gac (hG _ (List.mem_of_getElem? (i := 0) rfl)) ga0) q36) (cwV 1 (cx_ts C) gX6_readCommand_X10_fail rfl rfl rfl (by decide +kernel) ⟨Nat.le_of_ble_eq_true rfl, Nat.le_of_ble_eq_true rfl⟩) rfl (hG _ (List.mem_of_getElem? (i := 0) rfl)) (of6_0 _) (ce6 T ad _ _) rfl (st := []) rfl (Nat.le_of_ble_eq_true rfl) ⟨Nat.le_refl 0, Nat.le_refl 0⟩ dX6_readCommand_32 (ppv ?_)
      exact fw_vret C hrt Y37 (Option.some.inj h) (fun t ht => ht) dX6_readCommand_35
end
set_option maxRecDepth 100000 in
set_option maxHeartbeats 4000000 in
theorem c_X6_readCommand {l : Launch} {N0 : Nat} {T : Nat → ClassId} {D : va_G} {gr : List (Nat × Nat)} {ad : Nat → Nat → Nat → Nat} {Y : Mem} {g1 : Nat} {res : Mem} (hG : ∀ q ∈ [(6, 0), (5, 0), (8, 0), (4, 0), (4, g1)], q ∈ gr) (h : X6_readCommand Y g1 = some res) : CV l yX6_readCommand wsX6_readCommand (Rm 6) N0 T D gr ad Y [.ref (ad 8 0 0), .ref (ad 4 g1 0)] (fun Y1 => Y1 = res) :=
  fw_body (by decide +kernel) rfl (Nat.le_of_ble_eq_true rfl) (fun p e s m below meth c C hrt => w_X6_readCommand C hrt hG  h)
theorem ly_X6_read_6 : ∀ w ∈ u_ws RX6 TX6 5, w ∈ wsX6_read := by decide +kernel
theorem fl_X6_read_28 : Cond.fieldLink RX6 28 "RecipeScheduler$ScriptReader" "count" "I" ∈ wsX6_read := by decide +kernel
theorem fl_X6_read_24 : Cond.fieldLink RX6 24 "RecipeScheduler$ScriptReader" "tokens" "LRecipeScheduler$Tokens;" ∈ wsX6_read := by decide +kernel
section
variable {p : Program} {l : Launch} {e : Env} {s : State} {m : MethodId} {below : List Frame} {meth : Method} {c : Code} {N0 : Nat} {T : Nat → ClassId} {D : va_G} {gr : List (Nat × Nat)} {ad : Nat → Nat → Nat → Nat}
set_option maxRecDepth 100000 in
set_option maxHeartbeats 4000000 in
theorem w_X6_read_b14 {g1 : Nat} (C : Cx p s m [.ref (ad 8 0 0), .ref (ad 4 g1 0)].toArray meth c cX6_read 3 wsX6_read RX6 N0 T D gr ad) (hrt : meth.sig.returnType = none) (hG : ∀ q ∈ [(8, 0), (5, 0), (6, 0), (4, g1), (4, 0)], q ∈ gr) {res : Mem} : ∀ (n : Nat) (Y : Mem) (l2 : Int32), X6_read_b14 g1  n Y l2 = some res → FW p l e (Rm 7) s m [.ref (ad 8 0 0), .ref (ad 4 g1 0)].toArray below meth c 3 N0 T D gr ad 0 0 (MQ below (va_Qv (fun Y1 => Y1 = res) (WB T D gr ad) (fun q => N0 ≤ q)) [.ref (ad 8 0 0), .ref (ad 4 g1 0)].toArray s 0 0 (fun q => N0 ≤ q)) Y 14 [(2, .int l2), (0, .ref (ad 8 0 0)), (1, .ref (ad 4 g1 0))] [] := by
  intro n
  induction n with
  | zero =>
    intro Y l2 h
    unfold X6_read_b14 at h
    cases h
  | succ n ih =>
    intro Y l2 h
    unfold X6_read_b14 at h
    refine fw_iload_n C dX6_read_14 rfl 0 rfl ?_
    refine fw_bipush C dX6_read_15 (v := 30) rfl ?_
    refine fw_icmp_gt C dX6_read_17 (tgt := 41) rfl (fun c6 => ?_) (fun c6 => ?_)
    · have h := ite_t c6 h
      exact fw_vret C hrt Y (Option.some.inj h) (fun t ht => ht) dX6_read_41
    · have h := ite_f c6 h
      refine fw_aload_n C dX6_read_20 rfl 1 rfl ?_
      refine fw_get C (ci := 4) (Cn := RX6) (Tc := TX6) (N := 5) (j := 0) ly_X6_read_6 rfl (hG _ (List.mem_of_getElem? (i := 0) rfl)) (of8_0 _) (ce8 T ad _ _) (by decide) (cx_ts C _ fl_X6_read_24) (fun _ h => h) (v := .ref (ad 6 0 0)) rfl dX6_read_21 ?_
      obtain ⟨r7, q8, h⟩ := bd1_some h
      refine fw_callVi C (ci := 8) (Cn := RX10) (Tc := TX10) (N := 6) (As := []) (c_X10_mayGoOn (gac (hG _ (List.mem_of_getElem? (i := 2) rfl)) ga0) q8) (cwV 0 (cx_ts C) gX6_read_X10_mayGoOn rfl rfl rfl (by decide +kernel) ⟨Nat.le_of_ble_eq_true rfl, Nat.le_of_ble_eq_true rfl⟩) rfl (hG _ (List.mem_of_getElem? (i := 2) rfl)) (of6_0 _) (ce6 T ad _ _) rfl (st := []) rfl (Nat.le_of_ble_eq_true rfl) ⟨Nat.le_refl 0, Nat.le_refl 0⟩ dX6_read_24 (pp2 ?_)
      refine fw_if_eq C dX6_read_27 (tgt := 41) rfl (fun c9 => ?_) (fun c9 => ?_)
      · have h := ite_t c9 h
        exact fw_vret C hrt Y (Option.some.inj h) (fun t ht => ht) dX6_read_41
      · have h := ite_f c9 h
        refine fw_aload_n C dX6_read_30 rfl 1 rfl ?_
        refine fw_aload_n C dX6_read_31 rfl 2 rfl ?_
        obtain ⟨Y12, q11, h⟩ := bd1_some h
        refine fw_callVv C (ci := 4) (Cn := RX6) (Tc := TX6) (N := 5) (As := [.ref (ad 4 g1 0)]) (c_X6_readCommand (gac (hG _ (List.mem_of_getElem? (i := 2) rfl)) (gac (hG _ (List.mem_of_getElem? (i := 1) rfl)) (gac (hG _ (List.mem_of_getElem? (i := 0) rfl)) (gac (hG _ (List.mem_of_getElem? (i := 4) rfl)) (gac (hG _ (List.mem_of_getElem? (i := 3) rfl)) ga0))))) q11) (cwV 1 (cx_ts C) gX6_read_X6_readCommand rfl rfl rfl (by decide +kernel) ⟨Nat.le_of_ble_eq_true rfl, Nat.le_of_ble_eq_true rfl⟩) rfl (hG _ (List.mem_of_getElem? (i := 0) rfl)) (of8_0 _) (ce8 T ad _ _) rfl (st := []) rfl (Nat.le_of_ble_eq_true rfl) ⟨Nat.le_refl 0, Nat.le_refl 0⟩ dX6_read_32 (ppv ?_)
        refine fw_iinc C dX6_read_35 (kk := 0) (v := l2 + 1) rfl rfl (by decide) (L' := [(2, .int (l2 + 1)), (0, .ref (ad 8 0 0)), (1, .ref (ad 4 g1 0))]) rfl ?_
        refine fw_goto C dX6_read_38 (tgt := 14) rfl ?_
        exact ih _ _ h
set_option maxRecDepth 100000 in
set_option maxHeartbeats 4000000 in
theorem w_X6_read {Y : Mem} {g1 : Nat} (C : Cx p s m [.ref (ad 8 0 0), .ref (ad 4 g1 0)].toArray meth c cX6_read 3 wsX6_read RX6 N0 T D gr ad) (hrt : meth.sig.returnType = none) (hG : ∀ q ∈ [(8, 0), (5, 0), (6, 0), (4, g1), (4, 0)], q ∈ gr) {res : Mem} (h : X6_read Y g1 = some res) : FW p l e (Rm 7) s m [.ref (ad 8 0 0), .ref (ad 4 g1 0)].toArray below meth c 3 N0 T D gr ad 0 0 (MQ below (va_Qv (fun Y1 => Y1 = res) (WB T D gr ad) (fun q => N0 ≤ q)) [.ref (ad 8 0 0), .ref (ad 4 g1 0)].toArray s 0 0 (fun q => N0 ≤ q)) Y 0 [(0, .ref (ad 8 0 0)), (1, .ref (ad 4 g1 0))] [] := by
  unfold X6_read at h
  refine fw_aload_n C dX6_read_0 rfl 0 rfl ?_
  refine fw_iconst C dX6_read_1 (v := 0) rfl ?_
  obtain ⟨Y1, e2, h⟩ := lt_some h
  refine fw_put C (ci := 4) (Cn := RX6) (Tc := TX6) (N := 5) (j := 4) (ty := .int) (upd (Y 8 0 0) 4 0) ly_X6_read_6 rfl tyX6_ok nmX6 (hG _ (List.mem_of_getElem? (i := 0) rfl)) (of8_0 _) (ce8 T ad _ _) (by decide) (cx_ts C _ fl_X6_read_28) (fun _ h => h) rfl (by decide +kernel) rfl rfl (Nat.le_of_ble_eq_true rfl) (ce8_put4 T ad _ _ _) dX6_read_2 ?_
  refine fw_mem ((up_eq _ _ _ _ _ _).symm.trans e2) ?_
  refine fw_aload_n C dX6_read_5 rfl 0 rfl ?_
  refine fw_get C (ci := 4) (Cn := RX6) (Tc := TX6) (N := 5) (j := 0) ly_X6_read_6 rfl (hG _ (List.mem_of_getElem? (i := 0) rfl)) (of8_0 _) (ce8 T ad _ _) (by decide) (cx_ts C _ fl_X6_read_24) (fun _ h => h) (v := .ref (ad 6 0 0)) rfl dX6_read_6 ?_
  obtain ⟨Y5, q4, h⟩ := bd1_some h
  refine fw_callVv C (ci := 8) (Cn := RX10) (Tc := TX10) (N := 6) (As := []) (c_X10_begin (gac (hG _ (List.mem_of_getElem? (i := 2) rfl)) (gac (hG _ (List.mem_of_getElem? (i := 1) rfl)) ga0)) q4) (cwV 0 (cx_ts C) gX6_read_X10_begin rfl rfl rfl (by decide +kernel) ⟨Nat.le_of_ble_eq_true rfl, Nat.le_of_ble_eq_true rfl⟩) rfl (hG _ (List.mem_of_getElem? (i := 2) rfl)) (of6_0 _) (ce6 T ad _ _) rfl (st := []) rfl (Nat.le_of_ble_eq_true rfl) ⟨Nat.le_refl 0, Nat.le_refl 0⟩ dX6_read_9 (ppv ?_)
  refine fw_iconst C dX6_read_12 (v := 0) rfl ?_
  refine fw_istore_n C dX6_read_13 rfl (by decide) (L' := [(2, .int 0), (0, .ref (ad 8 0 0)), (1, .ref (ad 4 g1 0))]) rfl ?_
  exact w_X6_read_b14 C hrt hG   _ _ _ h
end
set_option maxRecDepth 100000 in
set_option maxHeartbeats 4000000 in
theorem c_X6_read {l : Launch} {N0 : Nat} {T : Nat → ClassId} {D : va_G} {gr : List (Nat × Nat)} {ad : Nat → Nat → Nat → Nat} {Y : Mem} {g1 : Nat} {res : Mem} (hG : ∀ q ∈ [(8, 0), (5, 0), (6, 0), (4, g1), (4, 0)], q ∈ gr) (h : X6_read Y g1 = some res) : CV l yX6_read wsX6_read (Rm 7) N0 T D gr ad Y [.ref (ad 8 0 0), .ref (ad 4 g1 0)] (fun Y1 => Y1 = res) :=
  fw_body (by decide +kernel) rfl (Nat.le_of_ble_eq_true rfl) (fun p e s m below meth c C hrt => w_X6_read C hrt hG  h)
theorem ly_X11_runScript_11 : ∀ w ∈ u_ws RX11 TX11 11, w ∈ wsX11_runScript := by decide +kernel
theorem fl_X11_runScript_59 : Cond.fieldLink RX11 59 "RecipeScheduler" "scriptReader" "LRecipeScheduler$ScriptReader;" ∈ wsX11_runScript := by decide +kernel
theorem fl_X11_runScript_67 : Cond.fieldLink RX11 67 "RecipeScheduler" "now" "LRecipeScheduler$Kitchen;" ∈ wsX11_runScript := by decide +kernel
theorem ly_X11_runScript_3 : ∀ w ∈ u_ws RX3 TX3 5, w ∈ wsX11_runScript := by decide +kernel
theorem ly_X11_runScript_5 : ∀ w ∈ u_ws RX5 TX5 17, w ∈ wsX11_runScript := by decide +kernel
theorem fl_X11_runScript_41 : Cond.fieldLink RX11 41 "RecipeScheduler" "input" "LRecipeScheduler$Text;" ∈ wsX11_runScript := by decide +kernel
theorem ly_X11_runScript_9 : ∀ w ∈ u_ws RX9 TX9 2, w ∈ wsX11_runScript := by decide +kernel
theorem fl_X11_runScript_77 : Cond.fieldLink RX11 77 "RecipeScheduler" "history" "LRecipeScheduler$History;" ∈ wsX11_runScript := by decide +kernel
theorem ly_X11_runScript_6 : ∀ w ∈ u_ws RX6 TX6 5, w ∈ wsX11_runScript := by decide +kernel
section
variable {p : Program} {l : Launch} {e : Env} {s : State} {m : MethodId} {below : List Frame} {meth : Method} {c : Code} {N0 : Nat} {T : Nat → ClassId} {D : va_G} {gr : List (Nat × Nat)} {ad : Nat → Nat → Nat → Nat}
set_option maxRecDepth 100000 in
set_option maxHeartbeats 4000000 in
theorem w_X11_runScript_b45  (C : Cx p s m [.ref (ad 0 0 0)].toArray meth c cX11_runScript 5 wsX11_runScript RX11 N0 T D gr ad) (hrt : meth.sig.returnType = (some .int)) (hG : ∀ q ∈ ([(0, 0), (1, 0), (4, 0), (6, 0), (5, 0), (8, 0), (2, 0), (9, 0)] ++ allG), q ∈ gr) (hl : l.stackTraces = false) (hX : ∀ x ∈ c.exceptionTable.toList, False) {res : (Nat × Mem) ⊕ (Int32 × Mem)} : ∀ (n : Nat) (Y : Mem) (l1 : Int32), X11_runScript_b45   n Y l1 = some res → FW p l e (Rx 8 1) s m [.ref (ad 0 0 0)].toArray below meth c 5 N0 T D gr ad 1 6 (vx_MQ below (va_Qi (fun r Y1 => Sum.inr (r, Y1) = res) (WB T D gr ad) (fun q => N0 ≤ q)) (vx_X (fun u => Sum.inl u = res) (XB T D gr ad) (fun q => N0 ≤ q)) [.ref (ad 0 0 0)].toArray s 1 6 (fun q => N0 ≤ q)) Y 45 [(1, .int l1), (0, .ref (ad 0 0 0))] [] := by
  intro n
  induction n with
  | zero =>
    intro Y l1 h
    unfold X11_runScript_b45 at h
    cases h
  | succ n ih =>
    intro Y l1 h
    unfold X11_runScript_b45 at h
    refine fw_iload_n C dX11_runScript_45 rfl 0 rfl ?_
    refine fw_aload_n C dX11_runScript_46 rfl 1 rfl ?_
    refine fw_get C (ci := 9) (Cn := RX11) (Tc := TX11) (N := 11) (j := 4) ly_X11_runScript_11 rfl (hG _ (List.mem_of_getElem? (i := 0) rfl)) (of0_0 _) (ce0 T ad _ _) (by decide) (cx_ts C _ fl_X11_runScript_59) (fun _ h => h) (v := .ref (ad 8 0 0)) rfl dX11_runScript_47 ?_
    refine fw_getN C (ci := 4) (Cn := RX6) (Tc := TX6) (N := 5) (j := 4) ly_X11_runScript_6 rfl (hG _ (List.mem_of_getElem? (i := 5) rfl)) (of8_0 _) (ce8 T ad _ _) (by decide) (Nst_use (cx_nst C) (w := .fieldLinkNest RX11 377 "RecipeScheduler$ScriptReader" "count" "I" "RecipeScheduler") 410 (by decide +kernel) rfl) (fun _ h => h) (v := .int (Y 8 0 0 4)) rfl dX11_runScript_50 ?_
    refine fw_icmp_ge C dX11_runScript_53 (tgt := 114) rfl (fun c17 => ?_) (fun c17 => ?_)
    · have h := ite_t c17 h
      refine fw_aload_n C dX11_runScript_114 rfl 1 rfl ?_
      refine fw_get C (ci := 9) (Cn := RX11) (Tc := TX11) (N := 11) (j := 4) ly_X11_runScript_11 rfl (hG _ (List.mem_of_getElem? (i := 0) rfl)) (of0_0 _) (ce0 T ad _ _) (by decide) (cx_ts C _ fl_X11_runScript_59) (fun _ h => h) (v := .ref (ad 8 0 0)) rfl dX11_runScript_115 ?_
      refine fw_getN C (ci := 4) (Cn := RX6) (Tc := TX6) (N := 5) (j := 4) ly_X11_runScript_6 rfl (hG _ (List.mem_of_getElem? (i := 5) rfl)) (of8_0 _) (ce8 T ad _ _) (by decide) (Nst_use (cx_nst C) (w := .fieldLinkNest RX11 377 "RecipeScheduler$ScriptReader" "count" "I" "RecipeScheduler") 410 (by decide +kernel) rfl) (fun _ h => h) (v := .int (Y 8 0 0 4)) rfl dX11_runScript_118 ?_
      refine fw_xr (Nat.le_of_ble_eq_true rfl) (Nat.le_of_ble_eq_true rfl) ?_
      exact fw_iret C hrt Y (Option.some.inj h) (fun t ht => ht) dX11_runScript_121
    · have h := ite_f c17 h
      refine fw_aload_n C dX11_runScript_56 rfl 1 rfl ?_
      refine fw_get C (ci := 9) (Cn := RX11) (Tc := TX11) (N := 11) (j := 4) ly_X11_runScript_11 rfl (hG _ (List.mem_of_getElem? (i := 0) rfl)) (of0_0 _) (ce0 T ad _ _) (by decide) (cx_ts C _ fl_X11_runScript_59) (fun _ h => h) (v := .ref (ad 8 0 0)) rfl dX11_runScript_57 ?_
      refine fw_getN C (ci := 4) (Cn := RX6) (Tc := TX6) (N := 5) (j := 1) ly_X11_runScript_6 rfl (hG _ (List.mem_of_getElem? (i := 5) rfl)) (of8_0 _) (ce8 T ad _ _) (by decide) (Nst_use (cx_nst C) (w := .fieldLinkNest RX11 378 "RecipeScheduler$ScriptReader" "commands" "[LRecipeScheduler$Command;" "RecipeScheduler") 404 (by decide +kernel) rfl) (fun _ h => h) (v := .ref (ad 8 0 1)) rfl dX11_runScript_60 ?_
      refine fw_iload_n C dX11_runScript_63 rfl 0 rfl ?_
      obtain ⟨b18, h⟩ := gd_some h
      obtain ⟨b19, h⟩ := gd_some h
      refine fw_aald2 C 6 (hG _ (List.mem_of_getElem? (i := 5) rfl)) (of8_1 _) (ca8_1 T ad _ _) rfl rfl b18 (Nat.le_of_ble_eq_true rfl) (v := .ref (ad 20 ((Y 8 0 1 (ix l1)).toNatClampNeg - 1) 0)) (by rw [cmdr, if_neg (of_decide_eq_true b19)]; rfl) dX11_runScript_64 ?_
      obtain ⟨v20, e21, h⟩ := lt_some h
      refine fw_top (v' := .ref (ad 20 v20 0)) (by rw [e21]) ?_
      refine fw_astore_n C dX11_runScript_65 rfl (by decide) (L' := [(2, .ref (ad 20 v20 0)), (1, .int l1), (0, .ref (ad 0 0 0))]) rfl ?_
      refine fw_aload_n C dX11_runScript_66 rfl 2 rfl ?_
      refine fw_get C (ci := 9) (Cn := RX11) (Tc := TX11) (N := 11) (j := 4) ly_X11_runScript_11 rfl (hG _ (List.mem_of_getElem? (i := 0) rfl)) (of0_0 _) (ce0 T ad _ _) (by decide) (cx_ts C _ fl_X11_runScript_59) (fun _ h => h) (v := .ref (ad 8 0 0)) rfl dX11_runScript_67 ?_
      refine fw_getN C (ci := 4) (Cn := RX6) (Tc := TX6) (N := 5) (j := 2) ly_X11_runScript_6 rfl (hG _ (List.mem_of_getElem? (i := 5) rfl)) (of8_0 _) (ce8 T ad _ _) (by decide) (Nst_use (cx_nst C) (w := .fieldLinkNest RX11 382 "RecipeScheduler$ScriptReader" "steps" "[I" "RecipeScheduler") 406 (by decide +kernel) rfl) (fun _ h => h) (v := .ref (ad 8 0 2)) rfl dX11_runScript_70 ?_
      refine fw_iload_n C dX11_runScript_73 rfl 1 rfl ?_
      refine fw_iald2 C (hG _ (List.mem_of_getElem? (i := 5) rfl)) (of8_2 _) (ca8_2 T ad _ _) b18 (Nat.le_of_ble_eq_true rfl) dX11_runScript_74 ?_
      obtain ⟨v22, e23, h⟩ := lt_some h
      refine fw_top (v' := .int v22) (by rw [e23]) ?_
      refine fw_istore_n C dX11_runScript_75 rfl (by decide) (L' := [(3, .int v22), (2, .ref (ad 20 v20 0)), (1, .int l1), (0, .ref (ad 0 0 0))]) rfl ?_
      refine fw_aload_n C dX11_runScript_76 rfl 3 rfl ?_
      refine fw_get C (ci := 9) (Cn := RX11) (Tc := TX11) (N := 11) (j := 4) ly_X11_runScript_11 rfl (hG _ (List.mem_of_getElem? (i := 0) rfl)) (of0_0 _) (ce0 T ad _ _) (by decide) (cx_ts C _ fl_X11_runScript_59) (fun _ h => h) (v := .ref (ad 8 0 0)) rfl dX11_runScript_77 ?_
      refine fw_getN C (ci := 4) (Cn := RX6) (Tc := TX6) (N := 5) (j := 3) ly_X11_runScript_6 rfl (hG _ (List.mem_of_getElem? (i := 5) rfl)) (of8_0 _) (ce8 T ad _ _) (by decide) (Nst_use (cx_nst C) (w := .fieldLinkNest RX11 384 "RecipeScheduler$ScriptReader" "numbers" "[I" "RecipeScheduler") 408 (by decide +kernel) rfl) (fun _ h => h) (v := .ref (ad 8 0 3)) rfl dX11_runScript_80 ?_
      refine fw_iload_n C dX11_runScript_83 rfl 2 rfl ?_
      refine fw_iald2 C (hG _ (List.mem_of_getElem? (i := 5) rfl)) (of8_3 _) (ca8_3 T ad _ _) b18 (Nat.le_of_ble_eq_true rfl) dX11_runScript_84 ?_
      obtain ⟨v24, e25, h⟩ := lt_some h
      refine fw_top (v' := .int v24) (by rw [e25]) ?_
      refine fw_istore C dX11_runScript_85 (by decide) (L' := [(4, .int v24), (3, .int v22), (2, .ref (ad 20 v20 0)), (1, .int l1), (0, .ref (ad 0 0 0))]) rfl ?_
      refine fw_aload_n C dX11_runScript_87 rfl 4 rfl ?_
      refine fw_aload_n C dX11_runScript_88 rfl 2 rfl ?_
      refine fw_iload_n C dX11_runScript_89 rfl 1 rfl ?_
      refine fw_iload C dX11_runScript_90 0 rfl ?_
      obtain ⟨r26, q27, h⟩ := bd1_some h
      refine fw_callVi C (ci := 9) (Cn := RX11) (Tc := TX11) (N := 11) (As := [.ref (ad 20 v20 0), .int v22, .int v24]) (c_X11_isAllowed (gac (hG _ (List.mem_of_getElem? (i := 0) rfl)) (gac (hG _ (List.mem_of_getElem? (i := 6) rfl)) (gac (hG _ (List.mem_of_getElem? (i := 1) rfl)) (fun q hq => hG q (List.mem_append_right _ hq))))) q27) (cwV 3 (cx_ts C) gX11_runScript_X11_isAllowed rfl rfl rfl (by decide +kernel) ⟨Nat.le_of_ble_eq_true rfl, Nat.le_of_ble_eq_true rfl⟩) rfl (hG _ (List.mem_of_getElem? (i := 0) rfl)) (of0_0 _) (ce0 T ad _ _) rfl (st := []) rfl (Nat.le_of_ble_eq_true rfl) ⟨Nat.le_refl 0, Nat.le_refl 0⟩ dX11_runScript_92 (pp2 ?_)
      refine fw_if_ne C dX11_runScript_95 (tgt := 100) rfl (fun c28 => ?_) (fun c28 => ?_)
      · have h := ite_f c28 h
        refine fw_aload_n C dX11_runScript_100 rfl 4 rfl ?_
        refine fw_aload_n C dX11_runScript_101 rfl 2 rfl ?_
        refine fw_iload_n C dX11_runScript_102 rfl 1 rfl ?_
        refine fw_iload C dX11_runScript_103 0 rfl ?_
        obtain ⟨Y31, q30, h⟩ := bd1_some h
        refine fw_callVv C (ci := 9) (Cn := RX11) (Tc := TX11) (N := 11) (As := [.ref (ad 20 v20 0), .int v22, .int v24]) (c_X11_carryOut (gac (hG _ (List.mem_of_getElem? (i := 0) rfl)) (gac (hG _ (List.mem_of_getElem? (i := 1) rfl)) (gac (hG _ (List.mem_of_getElem? (i := 6) rfl)) (fun q hq => hG q (List.mem_append_right _ hq))))) q30) (cwV 3 (cx_ts C) gX11_runScript_X11_carryOut rfl rfl rfl (by decide +kernel) ⟨Nat.le_of_ble_eq_true rfl, Nat.le_of_ble_eq_true rfl⟩) rfl (hG _ (List.mem_of_getElem? (i := 0) rfl)) (of0_0 _) (ce0 T ad _ _) rfl (st := []) rfl (Nat.le_of_ble_eq_true rfl) ⟨Nat.le_refl 0, Nat.le_refl 0⟩ dX11_runScript_105 (ppv ?_)
        refine fw_iinc C dX11_runScript_108 (kk := 3) (v := l1 + 1) rfl rfl (by decide) (L' := [(1, .int (l1 + 1)), (4, .int v24), (3, .int v22), (2, .ref (ad 20 v20 0)), (0, .ref (ad 0 0 0))]) rfl ?_
        refine fw_goto C dX11_runScript_111 (tgt := 45) rfl ?_
        refine fw_sub [0, 4] (L' := [(1, .int (l1 + 1)), (0, .ref (ad 0 0 0))]) rfl ?_
        exact ih _ _ h
      · have h := ite_t c28 h
        refine fw_iload_n C dX11_runScript_98 rfl 3 rfl ?_
        refine fw_xr (Nat.le_of_ble_eq_true rfl) (Nat.le_of_ble_eq_true rfl) ?_
        exact fw_iret C hrt Y (Option.some.inj h) (fun t ht => ht) dX11_runScript_99
set_option maxRecDepth 100000 in
set_option maxHeartbeats 4000000 in
theorem w_X11_runScript {Y : Mem} (C : Cx p s m [.ref (ad 0 0 0)].toArray meth c cX11_runScript 5 wsX11_runScript RX11 N0 T D gr ad) (hrt : meth.sig.returnType = (some .int)) (hG : ∀ q ∈ ([(0, 0), (1, 0), (4, 0), (6, 0), (5, 0), (8, 0), (2, 0), (9, 0)] ++ allG), q ∈ gr) (hl : l.stackTraces = false) (hX : ∀ x ∈ c.exceptionTable.toList, False) {res : (Nat × Mem) ⊕ (Int32 × Mem)} (h : X11_runScript Y = some res) : FW p l e (Rx 8 1) s m [.ref (ad 0 0 0)].toArray below meth c 5 N0 T D gr ad 0 0 (vx_MQ below (va_Qi (fun r Y1 => Sum.inr (r, Y1) = res) (WB T D gr ad) (fun q => N0 ≤ q)) (vx_X (fun u => Sum.inl u = res) (XB T D gr ad) (fun q => N0 ≤ q)) [.ref (ad 0 0 0)].toArray s 1 6 (fun q => N0 ≤ q)) Y 0 [(0, .ref (ad 0 0 0))] [] := by
  unfold X11_runScript at h
  refine fw_aload_n C dX11_runScript_0 rfl 0 rfl ?_
  refine fw_get C (ci := 9) (Cn := RX11) (Tc := TX11) (N := 11) (j := 4) ly_X11_runScript_11 rfl (hG _ (List.mem_of_getElem? (i := 0) rfl)) (of0_0 _) (ce0 T ad _ _) (by decide) (cx_ts C _ fl_X11_runScript_59) (fun _ h => h) (v := .ref (ad 8 0 0)) rfl dX11_runScript_1 ?_
  refine fw_aload_n C dX11_runScript_4 rfl 0 rfl ?_
  refine fw_get C (ci := 9) (Cn := RX11) (Tc := TX11) (N := 11) (j := 5) ly_X11_runScript_11 rfl (hG _ (List.mem_of_getElem? (i := 0) rfl)) (of0_0 _) (ce0 T ad _ _) (by decide) (cx_ts C _ fl_X11_runScript_67) (fun _ h => h) (v := .ref (ad 1 0 0)) rfl dX11_runScript_5 ?_
  refine fw_getN C (ci := 1) (Cn := RX3) (Tc := TX3) (N := 5) (j := 0) ly_X11_runScript_3 rfl (hG _ (List.mem_of_getElem? (i := 1) rfl)) (of1_0 _) (ce1 T ad _ _) (by decide) (Nst_use (cx_nst C) (w := .fieldLinkNest RX11 117 "RecipeScheduler$Kitchen" "recipe" "LRecipeScheduler$Recipe;" "RecipeScheduler") 516 (by decide +kernel) rfl) (fun _ h => h) (v := .ref (ad 3 ((Y 1 0 0 0).toNatClampNeg) 0)) rfl dX11_runScript_8 ?_
  obtain ⟨b1, h⟩ := gd_some h
  have b1 := of_decide_eq_true b1
  refine fw_getN C (ci := 3) (Cn := RX5) (Tc := TX5) (N := 17) (j := 7) ly_X11_runScript_5 rfl ((fun q hq => hG q (List.mem_append_right _ hq)) _ (allG_3 b1)) (of3_0 _) (ce3 T ad _ _) (by decide) (Nst_use (cx_nst C) (w := .fieldLinkNest RX11 126 "RecipeScheduler$Recipe" "steps" "LRecipeScheduler$Names;" "RecipeScheduler") 146 (by decide +kernel) rfl) (fun _ h => h) (v := .ref (ad 4 (2*((Y 1 0 0 0).toNatClampNeg)+1) 0)) rfl dX11_runScript_11 ?_
  obtain ⟨b2, h⟩ := gd_some h
  have b2 := of_decide_eq_true b2
  obtain ⟨Y5, q4, h⟩ := bd1_some h
  refine fw_callVv C (ci := 4) (Cn := RX6) (Tc := TX6) (N := 5) (As := [.ref (ad 4 (2*((Y 1 0 0 0).toNatClampNeg)+1) 0)]) (c_X6_read (gac (hG _ (List.mem_of_getElem? (i := 5) rfl)) (gac (hG _ (List.mem_of_getElem? (i := 4) rfl)) (gac (hG _ (List.mem_of_getElem? (i := 3) rfl)) (gac ((fun q hq => hG q (List.mem_append_right _ hq)) _ (allG_4b b2)) (gac (hG _ (List.mem_of_getElem? (i := 2) rfl)) ga0))))) q4) (cwV 1 (cx_ts C) gX11_runScript_X6_read rfl rfl rfl (by decide +kernel) ⟨Nat.le_of_ble_eq_true rfl, Nat.le_of_ble_eq_true rfl⟩) rfl (hG _ (List.mem_of_getElem? (i := 5) rfl)) (of8_0 _) (ce8 T ad _ _) rfl (st := []) rfl (Nat.le_of_ble_eq_true rfl) ⟨Nat.le_refl 0, Nat.le_refl 0⟩ dX11_runScript_14 (ppv ?_)
  refine fw_aload_n C dX11_runScript_17 rfl 0 rfl ?_
  refine fw_get C (ci := 9) (Cn := RX11) (Tc := TX11) (N := 11) (j := 0) ly_X11_runScript_11 rfl (hG _ (List.mem_of_getElem? (i := 0) rfl)) (of0_0 _) (ce0 T ad _ _) (by decide) (cx_ts C _ fl_X11_runScript_41) (fun _ h => h) (v := .ref (ad 5 0 0)) rfl dX11_runScript_18 ?_
  refine fw_iconst C dX11_runScript_21 (v := 0) rfl ?_
  obtain ⟨Y6, e7, h⟩ := lt_some h
  refine fw_putN C (ci := 7) (Cn := RX9) (Tc := TX9) (N := 2) (j := 1) (ty := .int) (upd (Y5 5 0 0) 1 0) ly_X11_runScript_9 rfl tyX9_ok nmX9 (hG _ (List.mem_of_getElem? (i := 4) rfl)) (of5_0 _) (ce5 T ad _ _) (by decide) (Nst_use (cx_nst C) (w := .fieldLinkNest RX11 37 "RecipeScheduler$Text" "length" "I" "RecipeScheduler") 46 (by decide +kernel) rfl) (fun _ h => h) rfl (by decide +kernel) rfl rfl (Nat.le_of_ble_eq_true rfl) (ce5_put1 T ad _ _ _) dX11_runScript_22 ?_
  refine fw_mem ((up_eq _ _ _ _ _ _).symm.trans e7) ?_
  refine fw_aload_n C dX11_runScript_25 rfl 0 rfl ?_
  rcases bdxv_some h with ⟨x12, q9, e13⟩ | ⟨Y11, q9, h⟩
  · exact fw_callXVv_l C (ci := 9) (Cn := RX11) (Tc := TX11) (N := 11) (As := []) (c_X11_requireNoError hl (gac (hG _ (List.mem_of_getElem? (i := 0) rfl)) (gac (hG _ (List.mem_of_getElem? (i := 3) rfl)) ga0)) q9) (cwV 0 (cx_ts C) gX11_runScript_X11_requireNoError rfl rfl rfl (by decide +kernel) ⟨Nat.le_of_ble_eq_true rfl, Nat.le_of_ble_eq_true rfl⟩) rfl (hG _ (List.mem_of_getElem? (i := 0) rfl)) (of0_0 _) (ce0 T ad _ _) rfl (st := []) rfl (Nat.le_of_ble_eq_true rfl) ⟨Nat.le_of_ble_eq_true rfl, Nat.le_of_ble_eq_true rfl⟩ dX11_runScript_26 hX e13 (Nat.le_of_ble_eq_true rfl) (Nat.le_of_ble_eq_true rfl)
  refine fw_callXVv_r C (ci := 9) (Cn := RX11) (Tc := TX11) (N := 11) (As := []) (c_X11_requireNoError hl (gac (hG _ (List.mem_of_getElem? (i := 0) rfl)) (gac (hG _ (List.mem_of_getElem? (i := 3) rfl)) ga0)) q9) (cwV 0 (cx_ts C) gX11_runScript_X11_requireNoError rfl rfl rfl (by decide +kernel) ⟨Nat.le_of_ble_eq_true rfl, Nat.le_of_ble_eq_true rfl⟩) rfl (hG _ (List.mem_of_getElem? (i := 0) rfl)) (of0_0 _) (ce0 T ad _ _) rfl (st := []) rfl (Nat.le_of_ble_eq_true rfl) ⟨Nat.le_of_ble_eq_true rfl, Nat.le_of_ble_eq_true rfl⟩ dX11_runScript_26 ?_
  refine fw_aload_n C dX11_runScript_29 rfl 0 rfl ?_
  refine fw_get C (ci := 9) (Cn := RX11) (Tc := TX11) (N := 11) (j := 7) ly_X11_runScript_11 rfl (hG _ (List.mem_of_getElem? (i := 0) rfl)) (of0_0 _) (ce0 T ad _ _) (by decide) (cx_ts C _ fl_X11_runScript_77) (fun _ h => h) (v := .ref (ad 9 0 0)) rfl dX11_runScript_30 ?_
  refine fw_aload_n C dX11_runScript_33 rfl 0 rfl ?_
  refine fw_get C (ci := 9) (Cn := RX11) (Tc := TX11) (N := 11) (j := 5) ly_X11_runScript_11 rfl (hG _ (List.mem_of_getElem? (i := 0) rfl)) (of0_0 _) (ce0 T ad _ _) (by decide) (cx_ts C _ fl_X11_runScript_67) (fun _ h => h) (v := .ref (ad 1 0 0)) rfl dX11_runScript_34 ?_
  refine fw_getN C (ci := 1) (Cn := RX3) (Tc := TX3) (N := 5) (j := 1) ly_X11_runScript_3 rfl (hG _ (List.mem_of_getElem? (i := 1) rfl)) (of1_0 _) (ce1 T ad _ _) (by decide) (Nst_use (cx_nst C) (w := .fieldLinkNest RX11 139 "RecipeScheduler$Kitchen" "state" "LRecipeScheduler$State;" "RecipeScheduler") 518 (by decide +kernel) rfl) (fun _ h => h) (v := .ref (ad 2 0 0)) rfl dX11_runScript_37 ?_
  obtain ⟨Y16, q15, h⟩ := bd1_some h
  refine fw_callVv C (ci := 0) (Cn := RX2) (Tc := TX2) (N := 3) (As := [.ref (ad 2 0 0)]) (c_X2_push (gac (hG _ (List.mem_of_getElem? (i := 7) rfl)) (gac (hG _ (List.mem_of_getElem? (i := 6) rfl)) (fun q hq => hG q (List.mem_append_right _ hq)))) q15) (cwV 1 (cx_ts C) gX11_runScript_X2_push rfl rfl rfl (by decide +kernel) ⟨Nat.le_of_ble_eq_true rfl, Nat.le_of_ble_eq_true rfl⟩) rfl (hG _ (List.mem_of_getElem? (i := 7) rfl)) (of9_0 _) (ce9 T ad _ _) rfl (st := []) rfl (Nat.le_of_ble_eq_true rfl) ⟨Nat.le_refl 0, Nat.le_refl 0⟩ dX11_runScript_40 (ppv ?_)
  refine fw_iconst C dX11_runScript_43 (v := 0) rfl ?_
  refine fw_istore_n C dX11_runScript_44 rfl (by decide) (L' := [(1, .int 0), (0, .ref (ad 0 0 0))]) rfl ?_
  exact w_X11_runScript_b45 C hrt hG  hl hX  _ _ _ h
end
set_option maxRecDepth 100000 in
set_option maxHeartbeats 4000000 in
theorem c_X11_runScript {l : Launch} {N0 : Nat} {T : Nat → ClassId} {D : va_G} {gr : List (Nat × Nat)} {ad : Nat → Nat → Nat → Nat} {Y : Mem} {res : (Nat × Mem) ⊕ (Int32 × Mem)} (hl : l.stackTraces = false) (hG : ∀ q ∈ ([(0, 0), (1, 0), (4, 0), (6, 0), (5, 0), (8, 0), (2, 0), (9, 0)] ++ allG), q ∈ gr) (h : X11_runScript Y = some res) : CXi l yX11_runScript wsX11_runScript (Rx 8 1) N0 T D gr ad Y [.ref (ad 0 0 0)] 1 res :=
  fw_xbody (by decide +kernel) rfl (Nat.le_of_ble_eq_true rfl) (fun p e s m below meth c C hrt hX => w_X11_runScript C hrt hG hl hX h)
theorem ly_X11_salt_11 : ∀ w ∈ u_ws RX11 TX11 11, w ∈ wsX11_salt := by decide +kernel
theorem fl_X11_salt_67 : Cond.fieldLink RX11 67 "RecipeScheduler" "now" "LRecipeScheduler$Kitchen;" ∈ wsX11_salt := by decide +kernel
theorem ly_X11_salt_3 : ∀ w ∈ u_ws RX3 TX3 5, w ∈ wsX11_salt := by decide +kernel
theorem ly_X11_salt_8 : ∀ w ∈ u_ws RX8 TX8 15, w ∈ wsX11_salt := by decide +kernel
section
variable {p : Program} {l : Launch} {e : Env} {s : State} {m : MethodId} {below : List Frame} {meth : Method} {c : Code} {N0 : Nat} {T : Nat → ClassId} {D : va_G} {gr : List (Nat × Nat)} {ad : Nat → Nat → Nat → Nat}
set_option maxRecDepth 100000 in
set_option maxHeartbeats 4000000 in
theorem w_X11_salt {Y : Mem} (C : Cx p s m [.ref (ad 0 0 0)].toArray meth c cX11_salt 1 wsX11_salt RX11 N0 T D gr ad) (hrt : meth.sig.returnType = (some .int)) (hG : ∀ q ∈ [(0, 0), (1, 0), (2, 0)], q ∈ gr) {res : Int32} (h : X11_salt Y = some res) : FW p l e (Rm 0) s m [.ref (ad 0 0 0)].toArray below meth c 1 N0 T D gr ad 0 0 (MQ below (va_Qi (fun r Y1 => r = res ∧ Y1 = Y) (WB T D gr ad) (fun q => N0 ≤ q)) [.ref (ad 0 0 0)].toArray s 0 0 (fun q => N0 ≤ q)) Y 0 [(0, .ref (ad 0 0 0))] [] := by
  unfold X11_salt at h
  refine fw_aload_n C dX11_salt_0 rfl 0 rfl ?_
  refine fw_get C (ci := 9) (Cn := RX11) (Tc := TX11) (N := 11) (j := 5) ly_X11_salt_11 rfl (hG _ (List.mem_of_getElem? (i := 0) rfl)) (of0_0 _) (ce0 T ad _ _) (by decide) (cx_ts C _ fl_X11_salt_67) (fun _ h => h) (v := .ref (ad 1 0 0)) rfl dX11_salt_1 ?_
  refine fw_getN C (ci := 1) (Cn := RX3) (Tc := TX3) (N := 5) (j := 1) ly_X11_salt_3 rfl (hG _ (List.mem_of_getElem? (i := 1) rfl)) (of1_0 _) (ce1 T ad _ _) (by decide) (Nst_use (cx_nst C) (w := .fieldLinkNest RX11 139 "RecipeScheduler$Kitchen" "state" "LRecipeScheduler$State;" "RecipeScheduler") 518 (by decide +kernel) rfl) (fun _ h => h) (v := .ref (ad 2 0 0)) rfl dX11_salt_4 ?_
  refine fw_getN C (ci := 6) (Cn := RX8) (Tc := TX8) (N := 15) (j := 2) ly_X11_salt_8 rfl (hG _ (List.mem_of_getElem? (i := 2) rfl)) (of2_0 _) (ce2 T ad _ _) (by decide) (Nst_use (cx_nst C) (w := .fieldLinkNest RX11 149 "RecipeScheduler$State" "salt" "I" "RecipeScheduler") 441 (by decide +kernel) rfl) (fun _ h => h) (v := .int (Y 2 0 0 2)) rfl dX11_salt_7 ?_
  exact fw_iret C hrt Y ⟨Option.some.inj h, rfl⟩ (fun t ht => ht) dX11_salt_10
end
set_option maxRecDepth 100000 in
set_option maxHeartbeats 4000000 in
theorem c_X11_salt {l : Launch} {N0 : Nat} {T : Nat → ClassId} {D : va_G} {gr : List (Nat × Nat)} {ad : Nat → Nat → Nat → Nat} {Y : Mem} {res : Int32} (hG : ∀ q ∈ [(0, 0), (1, 0), (2, 0)], q ∈ gr) (h : X11_salt Y = some res) : CI l yX11_salt wsX11_salt (Rm 0) N0 T D gr ad Y [.ref (ad 0 0 0)] (fun r Y1 => r = res ∧ Y1 = Y) :=
  fw_body (by decide +kernel) rfl (Nat.le_of_ble_eq_true rfl) (fun p e s m below meth c C hrt => w_X11_salt C hrt hG  h)
