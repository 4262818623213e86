section
variable {p : Program} {l : Launch} {e : Env} {s : State} {m : MethodId} {below : List Frame} {meth : Method} {c : Code} {N0 : Nat} {T : Nat → ClassId} {D : va_G} {gr : List (Nat × Nat)} {ad : Nat → Nat → Nat → Nat}
set_option maxRecDepth 100000 in
set_option maxHeartbeats 4000000 in
theorem w_X11_sum_b4 {Y : Mem} {k0 : Nat} {g0 : Nat} {o0 : Nat} {n0 : Nat} {a1 : Int32} (C : Cx p s m [.ref (ad k0 g0 o0), .int a1].toArray meth c cX11_sum 4 wsX11_sum RX11 N0 T D gr ad) (hrt : meth.sig.returnType = (some .int)) (hG : ∀ q ∈ [(k0, g0)], q ∈ gr) (hA0 : ∀ y, cell T ad k0 g0 o0 y = .inl (T 0, n0, .inl y)) (hO0 : o0 ∈ offs k0 g0) (hN0 : n0 < 2 ^ 31) {res : Int32} : ∀ (n : Nat) (l3 : Int32) (l2 : Int32), X11_sum_b4 Y k0 g0 o0 n0 a1  n l3 l2 = some res → FW p l e (Rm 0) s m [.ref (ad k0 g0 o0), .int a1].toArray below meth c 4 N0 T D gr ad 0 0 (MQ below (va_Qi (fun r Y1 => r = res ∧ Y1 = Y) (WB T D gr ad) (fun q => N0 ≤ q)) [.ref (ad k0 g0 o0), .int a1].toArray s 0 0 (fun q => N0 ≤ q)) Y 4 [(3, .int l3), (2, .int l2), (0, .ref (ad k0 g0 o0)), (1, .int a1)] [] := by
  intro n
  induction n with
  | zero =>
    intro l3 l2 h
    unfold X11_sum_b4 at h
    cases h
  | succ n ih =>
    intro l3 l2 h
    unfold X11_sum_b4 at h
    refine fw_iload_n C dX11_sum_4 rfl 0 rfl ?_
    refine fw_iload_n C dX11_sum_5 rfl 3 rfl ?_
    refine fw_icmp_ge C dX11_sum_6 (tgt := 27) rfl (fun c1 => ?_) (fun c1 => ?_)
    · have h := ite_t c1 h
      refine fw_iload_n C dX11_sum_27 rfl 1 rfl ?_
      exact fw_iret C hrt Y ⟨Option.some.inj h, rfl⟩ (fun t ht => ht) dX11_sum_28
    · have h := ite_f c1 h
      refine fw_iload_n C dX11_sum_9 rfl 0 rfl ?_
      refine fw_aload_n C dX11_sum_10 rfl 2 rfl ?_
      refine fw_alen C 0 (hG _ (List.mem_of_getElem? (i := 0) rfl)) hO0 (hA0 _) rfl (v := (Int32.ofNat n0)) rfl dX11_sum_11 ?_
      refine fw_icmp_ge C dX11_sum_12 (tgt := 27) rfl (fun c2 => ?_) (fun c2 => ?_)
      · have h := ite_t c2 h
        refine fw_iload_n C dX11_sum_27 rfl 1 rfl ?_
        exact fw_iret C hrt Y ⟨Option.some.inj h, rfl⟩ (fun t ht => ht) dX11_sum_28
      · have h := ite_f c2 h
        refine fw_iload_n C dX11_sum_15 rfl 1 rfl ?_
        refine fw_aload_n C dX11_sum_16 rfl 2 rfl ?_
        refine fw_iload_n C dX11_sum_17 rfl 0 rfl ?_
        obtain ⟨b3, h⟩ := gd_some h
        refine fw_iald2 C (hG _ (List.mem_of_getElem? (i := 0) rfl)) hO0 (hA0 _) b3 hN0 dX11_sum_18 ?_
        refine fw_iadd C dX11_sum_19 ?_
        obtain ⟨v4, e5, h⟩ := lt_some h
        refine fw_top (v' := .int v4) (by rw [e5]) ?_
        refine fw_istore_n C dX11_sum_20 rfl (by decide) (L' := [(2, .int v4), (3, .int l3), (0, .ref (ad k0 g0 o0)), (1, .int a1)]) rfl ?_
        refine fw_iinc C dX11_sum_21 (kk := 1) (v := l3 + 1) rfl rfl (by decide) (L' := [(3, .int (l3 + 1)), (2, .int v4), (0, .ref (ad k0 g0 o0)), (1, .int a1)]) rfl ?_
        refine fw_goto C dX11_sum_24 (tgt := 4) rfl ?_
        exact ih _ _ h
set_option maxRecDepth 100000 in
set_option maxHeartbeats 4000000 in
theorem w_X11_sum {Y : Mem} {k0 : Nat} {g0 : Nat} {o0 : Nat} {n0 : Nat} {a1 : Int32} (C : Cx p s m [.ref (ad k0 g0 o0), .int a1].toArray meth c cX11_sum 4 wsX11_sum RX11 N0 T D gr ad) (hrt : meth.sig.returnType = (some .int)) (hG : ∀ q ∈ [(k0, g0)], q ∈ gr) (hA0 : ∀ y, cell T ad k0 g0 o0 y = .inl (T 0, n0, .inl y)) (hO0 : o0 ∈ offs k0 g0) (hN0 : n0 < 2 ^ 31) {res : Int32} (h : X11_sum Y k0 g0 o0 n0 a1 = some res) : FW p l e (Rm 0) s m [.ref (ad k0 g0 o0), .int a1].toArray below meth c 4 N0 T D gr ad 0 0 (MQ below (va_Qi (fun r Y1 => r = res ∧ Y1 = Y) (WB T D gr ad) (fun q => N0 ≤ q)) [.ref (ad k0 g0 o0), .int a1].toArray s 0 0 (fun q => N0 ≤ q)) Y 0 [(0, .ref (ad k0 g0 o0)), (1, .int a1)] [] := by
  unfold X11_sum at h
  refine fw_iconst C dX11_sum_0 (v := 0) rfl ?_
  refine fw_istore_n C dX11_sum_1 rfl (by decide) (L' := [(2, .int 0), (0, .ref (ad k0 g0 o0)), (1, .int a1)]) rfl ?_
  refine fw_iconst C dX11_sum_2 (v := 0) rfl ?_
  refine fw_istore_n C dX11_sum_3 rfl (by decide) (L' := [(3, .int 0), (2, .int 0), (0, .ref (ad k0 g0 o0)), (1, .int a1)]) rfl ?_
  exact w_X11_sum_b4 C hrt hG hA0 hO0 hN0  _ _ _ h
end
set_option maxRecDepth 100000 in
set_option maxHeartbeats 4000000 in
theorem c_X11_sum {l : Launch} {N0 : Nat} {T : Nat → ClassId} {D : va_G} {gr : List (Nat × Nat)} {ad : Nat → Nat → Nat → Nat} {Y : Mem} {k0 : Nat} {g0 : Nat} {o0 : Nat} {n0 : Nat} {a1 : Int32} {res : Int32} (hG : ∀ q ∈ [(k0, g0)], q ∈ gr) (hA0 : ∀ y, cell T ad k0 g0 o0 y = .inl (T 0, n0, .inl y)) (hO0 : o0 ∈ offs k0 g0) (hN0 : n0 < 2 ^ 31) (h : X11_sum Y k0 g0 o0 n0 a1 = some res) : CI l yX11_sum wsX11_sum (Rm 0) N0 T D gr ad Y [.ref (ad k0 g0 o0), .int a1] (fun r Y1 => r = res ∧ Y1 = Y) :=
  fw_body (by decide +kernel) rfl (Nat.le_of_ble_eq_true rfl) (fun p e s m below meth c C hrt => w_X11_sum C hrt hG hA0 hO0 hN0 h)
theorem ly_X11_burns_11 : ∀ w ∈ u_ws RX11 TX11 11, w ∈ wsX11_burns := by decide +kernel
theorem fl_X11_burns_67 : Cond.fieldLink RX11 67 "RecipeScheduler" "now" "LRecipeScheduler$Kitchen;" ∈ wsX11_burns := by decide +kernel
theorem ly_X11_burns_3 : ∀ w ∈ u_ws RX3 TX3 5, w ∈ wsX11_burns := by decide +kernel
theorem ly_X11_burns_8 : ∀ w ∈ u_ws RX8 TX8 15, w ∈ wsX11_burns := by decide +kernel
theorem ly_X11_burns_5 : ∀ w ∈ u_ws RX5 TX5 17, w ∈ wsX11_burns := by decide +kernel
theorem ly_X11_burns_4 : ∀ w ∈ u_ws RX4 TX4 3, w ∈ wsX11_burns := by decide +kernel
section
variable {p : Program} {l : Launch} {e : Env} {s : State} {m : MethodId} {below : List Frame} {meth : Method} {c : Code} {N0 : Nat} {T : Nat → ClassId} {D : va_G} {gr : List (Nat × Nat)} {ad : Nat → Nat → Nat → Nat}
set_option maxRecDepth 100000 in
set_option maxHeartbeats 4000000 in
theorem w_X11_burns {Y : Mem} (C : Cx p s m [.ref (ad 0 0 0)].toArray meth c cX11_burns 1 wsX11_burns RX11 N0 T D gr ad) (hrt : meth.sig.returnType = (some .int)) (hG : ∀ q ∈ ([(0, 0), (1, 0), (2, 0)] ++ allG), q ∈ gr) {res : Int32} (h : X11_burns Y = some res) : FW p l e (Rm 1) s m [.ref (ad 0 0 0)].toArray below meth c 1 N0 T D gr ad 0 0 (MQ below (va_Qi (fun r Y1 => r = res ∧ Y1 = Y) (WB T D gr ad) (fun q => N0 ≤ q)) [.ref (ad 0 0 0)].toArray s 0 0 (fun q => N0 ≤ q)) Y 0 [(0, .ref (ad 0 0 0))] [] := by
  unfold X11_burns at h
  refine fw_aload_n C dX11_burns_0 rfl 0 rfl ?_
  refine fw_get C (ci := 11) (Cn := RX11) (Tc := TX11) (N := 11) (j := 5) ly_X11_burns_11 rfl (hG _ (List.mem_of_getElem? (i := 0) rfl)) (of0_0 _) (ce0 T ad _ _) (by decide) (cx_ts C _ fl_X11_burns_67) (fun _ h => h) (v := .ref (ad 1 0 0)) rfl dX11_burns_1 ?_
  refine fw_getN C (ci := 3) (Cn := RX3) (Tc := TX3) (N := 5) (j := 1) ly_X11_burns_3 rfl (hG _ (List.mem_of_getElem? (i := 1) rfl)) (of1_0 _) (ce1 T ad _ _) (by decide) (Nst_use (cx_nst C) (w := .fieldLinkNest RX11 139 "RecipeScheduler$Kitchen" "state" "LRecipeScheduler$State;" "RecipeScheduler") 509 (by decide +kernel) rfl) (fun _ h => h) (v := .ref (ad 2 0 0)) rfl dX11_burns_4 ?_
  refine fw_getN C (ci := 8) (Cn := RX8) (Tc := TX8) (N := 15) (j := 14) ly_X11_burns_8 rfl (hG _ (List.mem_of_getElem? (i := 2) rfl)) (of2_0 _) (ce2 T ad _ _) (by decide) (Nst_use (cx_nst C) (w := .fieldLinkNest RX11 173 "RecipeScheduler$State" "burns" "[I" "RecipeScheduler") 466 (by decide +kernel) rfl) (fun _ h => h) (v := .ref (ad 2 0 6)) rfl dX11_burns_7 ?_
  refine fw_aload_n C dX11_burns_10 rfl 0 rfl ?_
  refine fw_get C (ci := 11) (Cn := RX11) (Tc := TX11) (N := 11) (j := 5) ly_X11_burns_11 rfl (hG _ (List.mem_of_getElem? (i := 0) rfl)) (of0_0 _) (ce0 T ad _ _) (by decide) (cx_ts C _ fl_X11_burns_67) (fun _ h => h) (v := .ref (ad 1 0 0)) rfl dX11_burns_11 ?_
  refine fw_getN C (ci := 3) (Cn := RX3) (Tc := TX3) (N := 5) (j := 0) ly_X11_burns_3 rfl (hG _ (List.mem_of_getElem? (i := 1) rfl)) (of1_0 _) (ce1 T ad _ _) (by decide) (Nst_use (cx_nst C) (w := .fieldLinkNest RX11 117 "RecipeScheduler$Kitchen" "recipe" "LRecipeScheduler$Recipe;" "RecipeScheduler") 507 (by decide +kernel) rfl) (fun _ h => h) (v := .ref (ad 3 ((Y 1 0 0 0).toNatClampNeg) 0)) rfl dX11_burns_14 ?_
  obtain ⟨b1, h⟩ := gd_some h
  have b1 := of_decide_eq_true b1
  refine fw_getN C (ci := 5) (Cn := RX5) (Tc := TX5) (N := 17) (j := 7) ly_X11_burns_5 rfl ((fun q hq => hG q (List.mem_append_right _ hq)) _ (allG_3 b1)) (of3_0 _) (ce3 T ad _ _) (by decide) (Nst_use (cx_nst C) (w := .fieldLinkNest RX11 126 "RecipeScheduler$Recipe" "steps" "LRecipeScheduler$Names;" "RecipeScheduler") 144 (by decide +kernel) rfl) (fun _ h => h) (v := .ref (ad 4 (2*((Y 1 0 0 0).toNatClampNeg)+1) 0)) rfl dX11_burns_17 ?_
  obtain ⟨b2, h⟩ := gd_some h
  have b2 := of_decide_eq_true b2
  refine fw_getN C (ci := 4) (Cn := RX4) (Tc := TX4) (N := 3) (j := 2) ly_X11_burns_4 rfl ((fun q hq => hG q (List.mem_append_right _ hq)) _ (allG_4b b2)) (of4_0 _) (ce4 T ad _ _) (by decide) (Nst_use (cx_nst C) (w := .fieldLinkNest RX11 130 "RecipeScheduler$Names" "count" "I" "RecipeScheduler") 113 (by decide +kernel) rfl) (fun _ h => h) (v := .int (Y 4 (2*((Y 1 0 0 0).toNatClampNeg)+1) 0 2)) rfl dX11_burns_20 ?_
  obtain ⟨r3, q4, h⟩ := bd1_some h
  refine fw_callSi C (As := [.ref (ad 2 0 6), .int (Y 4 (2*((Y 1 0 0 0).toNatClampNeg)+1) 0 2)]) (c_X11_sum (gac (hG _ (List.mem_of_getElem? (i := 2) rfl)) ga0) (ca2_6 T ad _) (of2_6 _) (Nat.le_of_ble_eq_true rfl) q4) (va_cwS 2 (cx_ts C) gX11_burns_X11_sum rfl rfl rfl (by decide +kernel) ⟨Nat.le_of_ble_eq_true rfl, Nat.le_of_ble_eq_true rfl⟩) rfl (st := []) rfl (Nat.le_of_ble_eq_true rfl) ⟨Nat.le_refl 0, Nat.le_refl 0⟩ dX11_burns_23 (pp2 ?_)
  exact fw_iret C hrt Y ⟨Option.some.inj h, rfl⟩ (fun t ht => ht) dX11_burns_26
end
set_option maxRecDepth 100000 in
set_option maxHeartbeats 4000000 in
theorem c_X11_burns {l : Launch} {N0 : Nat} {T : Nat → ClassId} {D : va_G} {gr : List (Nat × Nat)} {ad : Nat → Nat → Nat → Nat} {Y : Mem} {res : Int32} (hG : ∀ q ∈ ([(0, 0), (1, 0), (2, 0)] ++ allG), q ∈ gr) (h : X11_burns Y = some res) : CI l yX11_burns wsX11_burns (Rm 1) N0 T D gr ad Y [.ref (ad 0 0 0)] (fun r Y1 => r = res ∧ Y1 = Y) :=
  fw_body (by decide +kernel) rfl (Nat.le_of_ble_eq_true rfl) (fun p e s m below meth c C hrt => w_X11_burns C hrt hG  h)
theorem ly_X11_completions_11 : ∀ w ∈ u_ws RX11 TX11 11, w ∈ wsX11_completions := by decide +kernel
theorem fl_X11_completions_67 : Cond.fieldLink RX11 67 "RecipeScheduler" "now" "LRecipeScheduler$Kitchen;" ∈ wsX11_completions := by decide +kernel
theorem ly_X11_completions_3 : ∀ w ∈ u_ws RX3 TX3 5, w ∈ wsX11_completions := by decide +kernel
theorem ly_X11_completions_8 : ∀ w ∈ u_ws RX8 TX8 15, w ∈ wsX11_completions := by decide +kernel
theorem ly_X11_completions_5 : ∀ w ∈ u_ws RX5 TX5 17, w ∈ wsX11_completions := by decide +kernel
theorem ly_X11_completions_4 : ∀ w ∈ u_ws RX4 TX4 3, w ∈ wsX11_completions := by decide +kernel
section
variable {p : Program} {l : Launch} {e : Env} {s : State} {m : MethodId} {below : List Frame} {meth : Method} {c : Code} {N0 : Nat} {T : Nat → ClassId} {D : va_G} {gr : List (Nat × Nat)} {ad : Nat → Nat → Nat → Nat}
set_option maxRecDepth 100000 in
set_option maxHeartbeats 4000000 in
theorem w_X11_completions {Y : Mem} (C : Cx p s m [.ref (ad 0 0 0)].toArray meth c cX11_completions 1 wsX11_completions RX11 N0 T D gr ad) (hrt : meth.sig.returnType = (some .int)) (hG : ∀ q ∈ ([(0, 0), (1, 0), (2, 0)] ++ allG), q ∈ gr) {res : Int32} (h : X11_completions Y = some res) : FW p l e (Rm 1) s m [.ref (ad 0 0 0)].toArray below meth c 1 N0 T D gr ad 0 0 (MQ below (va_Qi (fun r Y1 => r = res ∧ Y1 = Y) (WB T D gr ad) (fun q => N0 ≤ q)) [.ref (ad 0 0 0)].toArray s 0 0 (fun q => N0 ≤ q)) Y 0 [(0, .ref (ad 0 0 0))] [] := by
  unfold X11_completions at h
  refine fw_aload_n C dX11_completions_0 rfl 0 rfl ?_
  refine fw_get C (ci := 11) (Cn := RX11) (Tc := TX11) (N := 11) (j := 5) ly_X11_completions_11 rfl (hG _ (List.mem_of_getElem? (i := 0) rfl)) (of0_0 _) (ce0 T ad _ _) (by decide) (cx_ts C _ fl_X11_completions_67) (fun _ h => h) (v := .ref (ad 1 0 0)) rfl dX11_completions_1 ?_
  refine fw_getN C (ci := 3) (Cn := RX3) (Tc := TX3) (N := 5) (j := 1) ly_X11_completions_3 rfl (hG _ (List.mem_of_getElem? (i := 1) rfl)) (of1_0 _) (ce1 T ad _ _) (by decide) (Nst_use (cx_nst C) (w := .fieldLinkNest RX11 139 "RecipeScheduler$Kitchen" "state" "LRecipeScheduler$State;" "RecipeScheduler") 509 (by decide +kernel) rfl) (fun _ h => h) (v := .ref (ad 2 0 0)) rfl dX11_completions_4 ?_
  refine fw_getN C (ci := 8) (Cn := RX8) (Tc := TX8) (N := 15) (j := 13) ly_X11_completions_8 rfl (hG _ (List.mem_of_getElem? (i := 2) rfl)) (of2_0 _) (ce2 T ad _ _) (by decide) (Nst_use (cx_nst C) (w := .fieldLinkNest RX11 170 "RecipeScheduler$State" "completions" "[I" "RecipeScheduler") 463 (by decide +kernel) rfl) (fun _ h => h) (v := .ref (ad 2 0 5)) rfl dX11_completions_7 ?_
  refine fw_aload_n C dX11_completions_10 rfl 0 rfl ?_
  refine fw_get C (ci := 11) (Cn := RX11) (Tc := TX11) (N := 11) (j := 5) ly_X11_completions_11 rfl (hG _ (List.mem_of_getElem? (i := 0) rfl)) (of0_0 _) (ce0 T ad _ _) (by decide) (cx_ts C _ fl_X11_completions_67) (fun _ h => h) (v := .ref (ad 1 0 0)) rfl dX11_completions_11 ?_
  refine fw_getN C (ci := 3) (Cn := RX3) (Tc := TX3) (N := 5) (j := 0) ly_X11_completions_3 rfl (hG _ (List.mem_of_getElem? (i := 1) rfl)) (of1_0 _) (ce1 T ad _ _) (by decide) (Nst_use (cx_nst C) (w := .fieldLinkNest RX11 117 "RecipeScheduler$Kitchen" "recipe" "LRecipeScheduler$Recipe;" "RecipeScheduler") 507 (by decide +kernel) rfl) (fun _ h => h) (v := .ref (ad 3 ((Y 1 0 0 0).toNatClampNeg) 0)) rfl dX11_completions_14 ?_
  obtain ⟨b1, h⟩ := gd_some h
  have b1 := of_decide_eq_true b1
  refine fw_getN C (ci := 5) (Cn := RX5) (Tc := TX5) (N := 17) (j := 7) ly_X11_completions_5 rfl ((fun q hq => hG q (List.mem_append_right _ hq)) _ (allG_3 b1)) (of3_0 _) (ce3 T ad _ _) (by decide) (Nst_use (cx_nst C) (w := .fieldLinkNest RX11 126 "RecipeScheduler$Recipe" "steps" "LRecipeScheduler$Names;" "RecipeScheduler") 144 (by decide +kernel) rfl) (fun _ h => h) (v := .ref (ad 4 (2*((Y 1 0 0 0).toNatClampNeg)+1) 0)) rfl dX11_completions_17 ?_
  obtain ⟨b2, h⟩ := gd_some h
  have b2 := of_decide_eq_true b2
  refine fw_getN C (ci := 4) (Cn := RX4) (Tc := TX4) (N := 3) (j := 2) ly_X11_completions_4 rfl ((fun q hq => hG q (List.mem_append_right _ hq)) _ (allG_4b b2)) (of4_0 _) (ce4 T ad _ _) (by decide) (Nst_use (cx_nst C) (w := .fieldLinkNest RX11 130 "RecipeScheduler$Names" "count" "I" "RecipeScheduler") 113 (by decide +kernel) rfl) (fun _ h => h) (v := .int (Y 4 (2*((Y 1 0 0 0).toNatClampNeg)+1) 0 2)) rfl dX11_completions_20 ?_
  obtain ⟨r3, q4, h⟩ := bd1_some h
  refine fw_callSi C (As := [.ref (ad 2 0 5), .int (Y 4 (2*((Y 1 0 0 0).toNatClampNeg)+1) 0 2)]) (c_X11_sum (gac (hG _ (List.mem_of_getElem? (i := 2) rfl)) ga0) (ca2_5 T ad _) (of2_5 _) (Nat.le_of_ble_eq_true rfl) q4) (va_cwS 2 (cx_ts C) gX11_completions_X11_sum rfl rfl rfl (by decide +kernel) ⟨Nat.le_of_ble_eq_true rfl, Nat.le_of_ble_eq_true rfl⟩) rfl (st := []) rfl (Nat.le_of_ble_eq_true rfl) ⟨Nat.le_refl 0, Nat.le_refl 0⟩ dX11_completions_23 (pp2 ?_)
  exact fw_iret C hrt Y ⟨Option.some.inj h, rfl⟩ (fun t ht => ht) dX11_completions_26
end
set_option maxRecDepth 100000 in
set_option maxHeartbeats 4000000 in
theorem c_X11_completions {l : Launch} {N0 : Nat} {T : Nat → ClassId} {D : va_G} {gr : List (Nat × Nat)} {ad : Nat → Nat → Nat → Nat} {Y : Mem} {res : Int32} (hG : ∀ q ∈ ([(0, 0), (1, 0), (2, 0)] ++ allG), q ∈ gr) (h : X11_completions Y = some res) : CI l yX11_completions wsX11_completions (Rm 1) N0 T D gr ad Y [.ref (ad 0 0 0)] (fun r Y1 => r = res ∧ Y1 = Y) :=
  fw_body (by decide +kernel) rfl (Nat.le_of_ble_eq_true rfl) (fun p e s m below meth c C hrt => w_X11_completions C hrt hG  h)
theorem ly_X11_cookMinutes_11 : ∀ w ∈ u_ws RX11 TX11 11, w ∈ wsX11_cookMinutes := by decide +kernel
theorem fl_X11_cookMinutes_67 : Cond.fieldLink RX11 67 "RecipeScheduler" "now" "LRecipeScheduler$Kitchen;" ∈ wsX11_cookMinutes := by decide +kernel
theorem ly_X11_cookMinutes_3 : ∀ w ∈ u_ws RX3 TX3 5, w ∈ wsX11_cookMinutes := by decide +kernel
theorem ly_X11_cookMinutes_8 : ∀ w ∈ u_ws RX8 TX8 15, w ∈ wsX11_cookMinutes := by decide +kernel
section
variable {p : Program} {l : Launch} {e : Env} {s : State} {m : MethodId} {below : List Frame} {meth : Method} {c : Code} {N0 : Nat} {T : Nat → ClassId} {D : va_G} {gr : List (Nat × Nat)} {ad : Nat → Nat → Nat → Nat}
set_option maxRecDepth 100000 in
set_option maxHeartbeats 4000000 in
theorem w_X11_cookMinutes {Y : Mem} (C : Cx p s m [.ref (ad 0 0 0)].toArray meth c cX11_cookMinutes 1 wsX11_cookMinutes RX11 N0 T D gr ad) (hrt : meth.sig.returnType = (some .int)) (hG : ∀ q ∈ [(0, 0), (1, 0), (2, 0)], q ∈ gr) {res : Int32} (h : X11_cookMinutes Y = some res) : FW p l e (Rm 0) s m [.ref (ad 0 0 0)].toArray below meth c 1 N0 T D gr ad 0 0 (MQ below (va_Qi (fun r Y1 => r = res ∧ Y1 = Y) (WB T D gr ad) (fun q => N0 ≤ q)) [.ref (ad 0 0 0)].toArray s 0 0 (fun q => N0 ≤ q)) Y 0 [(0, .ref (ad 0 0 0))] [] := by
  unfold X11_cookMinutes at h
  refine fw_aload_n C dX11_cookMinutes_0 rfl 0 rfl ?_
  refine fw_get C (ci := 11) (Cn := RX11) (Tc := TX11) (N := 11) (j := 5) ly_X11_cookMinutes_11 rfl (hG _ (List.mem_of_getElem? (i := 0) rfl)) (of0_0 _) (ce0 T ad _ _) (by decide) (cx_ts C _ fl_X11_cookMinutes_67) (fun _ h => h) (v := .ref (ad 1 0 0)) rfl dX11_cookMinutes_1 ?_
  refine fw_getN C (ci := 3) (Cn := RX3) (Tc := TX3) (N := 5) (j := 1) ly_X11_cookMinutes_3 rfl (hG _ (List.mem_of_getElem? (i := 1) rfl)) (of1_0 _) (ce1 T ad _ _) (by decide) (Nst_use (cx_nst C) (w := .fieldLinkNest RX11 139 "RecipeScheduler$Kitchen" "state" "LRecipeScheduler$State;" "RecipeScheduler") 509 (by decide +kernel) rfl) (fun _ h => h) (v := .ref (ad 2 0 0)) rfl dX11_cookMinutes_4 ?_
  refine fw_getN C (ci := 8) (Cn := RX8) (Tc := TX8) (N := 15) (j := 3) ly_X11_cookMinutes_8 rfl (hG _ (List.mem_of_getElem? (i := 2) rfl)) (of2_0 _) (ce2 T ad _ _) (by decide) (Nst_use (cx_nst C) (w := .fieldLinkNest RX11 176 "RecipeScheduler$State" "cookMinutes" "I" "RecipeScheduler") 437 (by decide +kernel) rfl) (fun _ h => h) (v := .int (Y 2 0 0 3)) rfl dX11_cookMinutes_7 ?_
  exact fw_iret C hrt Y ⟨Option.some.inj h, rfl⟩ (fun t ht => ht) dX11_cookMinutes_10
end
set_option maxRecDepth 100000 in
set_option maxHeartbeats 4000000 in
theorem c_X11_cookMinutes {l : Launch} {N0 : Nat} {T : Nat → ClassId} {D : va_G} {gr : List (Nat × Nat)} {ad : Nat → Nat → Nat → Nat} {Y : Mem} {res : Int32} (hG : ∀ q ∈ [(0, 0), (1, 0), (2, 0)], q ∈ gr) (h : X11_cookMinutes Y = some res) : CI l yX11_cookMinutes wsX11_cookMinutes (Rm 0) N0 T D gr ad Y [.ref (ad 0 0 0)] (fun r Y1 => r = res ∧ Y1 = Y) :=
  fw_body (by decide +kernel) rfl (Nat.le_of_ble_eq_true rfl) (fun p e s m below meth c C hrt => w_X11_cookMinutes C hrt hG  h)
theorem ly_X11_cooks_11 : ∀ w ∈ u_ws RX11 TX11 11, w ∈ wsX11_cooks := by decide +kernel
theorem fl_X11_cooks_67 : Cond.fieldLink RX11 67 "RecipeScheduler" "now" "LRecipeScheduler$Kitchen;" ∈ wsX11_cooks := by decide +kernel
theorem ly_X11_cooks_3 : ∀ w ∈ u_ws RX3 TX3 5, w ∈ wsX11_cooks := by decide +kernel
theorem ly_X11_cooks_8 : ∀ w ∈ u_ws RX8 TX8 15, w ∈ wsX11_cooks := by decide +kernel
section
variable {p : Program} {l : Launch} {e : Env} {s : State} {m : MethodId} {below : List Frame} {meth : Method} {c : Code} {N0 : Nat} {T : Nat → ClassId} {D : va_G} {gr : List (Nat × Nat)} {ad : Nat → Nat → Nat → Nat}
set_option maxRecDepth 100000 in
set_option maxHeartbeats 4000000 in
theorem w_X11_cooks {Y : Mem} (C : Cx p s m [.ref (ad 0 0 0)].toArray meth c cX11_cooks 1 wsX11_cooks RX11 N0 T D gr ad) (hrt : meth.sig.returnType = (some .int)) (hG : ∀ q ∈ [(0, 0), (1, 0), (2, 0)], q ∈ gr) {res : Int32} (h : X11_cooks Y = some res) : FW p l e (Rm 0) s m [.ref (ad 0 0 0)].toArray below meth c 1 N0 T D gr ad 0 0 (MQ below (va_Qi (fun r Y1 => r = res ∧ Y1 = Y) (WB T D gr ad) (fun q => N0 ≤ q)) [.ref (ad 0 0 0)].toArray s 0 0 (fun q => N0 ≤ q)) Y 0 [(0, .ref (ad 0 0 0))] [] := by
  unfold X11_cooks at h
  refine fw_aload_n C dX11_cooks_0 rfl 0 rfl ?_
  refine fw_get C (ci := 11) (Cn := RX11) (Tc := TX11) (N := 11) (j := 5) ly_X11_cooks_11 rfl (hG _ (List.mem_of_getElem? (i := 0) rfl)) (of0_0 _) (ce0 T ad _ _) (by decide) (cx_ts C _ fl_X11_cooks_67) (fun _ h => h) (v := .ref (ad 1 0 0)) rfl dX11_cooks_1 ?_
  refine fw_getN C (ci := 3) (Cn := RX3) (Tc := TX3) (N := 5) (j := 1) ly_X11_cooks_3 rfl (hG _ (List.mem_of_getElem? (i := 1) rfl)) (of1_0 _) (ce1 T ad _ _) (by decide) (Nst_use (cx_nst C) (w := .fieldLinkNest RX11 139 "RecipeScheduler$Kitchen" "state" "LRecipeScheduler$State;" "RecipeScheduler") 509 (by decide +kernel) rfl) (fun _ h => h) (v := .ref (ad 2 0 0)) rfl dX11_cooks_4 ?_
  refine fw_getN C (ci := 8) (Cn := RX8) (Tc := TX8) (N := 15) (j := 0) ly_X11_cooks_8 rfl (hG _ (List.mem_of_getElem? (i := 2) rfl)) (of2_0 _) (ce2 T ad _ _) (by decide) (Nst_use (cx_nst C) (w := .fieldLinkNest RX11 143 "RecipeScheduler$State" "cooks" "I" "RecipeScheduler") 427 (by decide +kernel) rfl) (fun _ h => h) (v := .int (Y 2 0 0 0)) rfl dX11_cooks_7 ?_
  exact fw_iret C hrt Y ⟨Option.some.inj h, rfl⟩ (fun t ht => ht) dX11_cooks_10
end
set_option maxRecDepth 100000 in
set_option maxHeartbeats 4000000 in
theorem c_X11_cooks {l : Launch} {N0 : Nat} {T : Nat → ClassId} {D : va_G} {gr : List (Nat × Nat)} {ad : Nat → Nat → Nat → Nat} {Y : Mem} {res : Int32} (hG : ∀ q ∈ [(0, 0), (1, 0), (2, 0)], q ∈ gr) (h : X11_cooks Y = some res) : CI l yX11_cooks wsX11_cooks (Rm 0) N0 T D gr ad Y [.ref (ad 0 0 0)] (fun r Y1 => r = res ∧ Y1 = Y) :=
  fw_body (by decide +kernel) rfl (Nat.le_of_ble_eq_true rfl) (fun p e s m below meth c C hrt => w_X11_cooks C hrt hG  h)
theorem ly_X11_duration_11 : ∀ w ∈ u_ws RX11 TX11 11, w ∈ wsX11_duration := by decide +kernel
theorem fl_X11_duration_67 : Cond.fieldLink RX11 67 "RecipeScheduler" "now" "LRecipeScheduler$Kitchen;" ∈ wsX11_duration := by decide +kernel
theorem ly_X11_duration_3 : ∀ w ∈ u_ws RX3 TX3 5, w ∈ wsX11_duration := by decide +kernel
theorem ly_X11_duration_8 : ∀ w ∈ u_ws RX8 TX8 15, w ∈ wsX11_duration := by decide +kernel
section
variable {p : Program} {l : Launch} {e : Env} {s : State} {m : MethodId} {below : List Frame} {meth : Method} {c : Code} {N0 : Nat} {T : Nat → ClassId} {D : va_G} {gr : List (Nat × Nat)} {ad : Nat → Nat → Nat → Nat}
set_option maxRecDepth 100000 in
set_option maxHeartbeats 4000000 in
theorem w_X11_duration {Y : Mem} {a1 : Int32} (C : Cx p s m [.ref (ad 0 0 0), .int a1].toArray meth c cX11_duration 2 wsX11_duration RX11 N0 T D gr ad) (hrt : meth.sig.returnType = (some .int)) (hG : ∀ q ∈ ([(1, 0), (0, 0), (2, 0)] ++ allG), q ∈ gr) {res : Int32} (h : X11_duration Y a1 = some res) : FW p l e (Rm 2) s m [.ref (ad 0 0 0), .int a1].toArray below meth c 2 N0 T D gr ad 0 0 (MQ below (va_Qi (fun r Y1 => r = res ∧ Y1 = Y) (WB T D gr ad) (fun q => N0 ≤ q)) [.ref (ad 0 0 0), .int a1].toArray s 0 0 (fun q => N0 ≤ q)) Y 0 [(0, .ref (ad 0 0 0)), (1, .int a1)] [] := by
  unfold X11_duration at h
  refine fw_aload_n C dX11_duration_0 rfl 0 rfl ?_
  refine fw_iload_n C dX11_duration_1 rfl 1 rfl ?_
  obtain ⟨_, q2, h⟩ := bd1_some h
  refine fw_callVv C (ci := 11) (Cn := RX11) (Tc := TX11) (N := 11) (As := [.int a1]) (c_X11_requireStep (gac (hG _ (List.mem_of_getElem? (i := 1) rfl)) (gac (hG _ (List.mem_of_getElem? (i := 0) rfl)) (fun q hq => hG q (List.mem_append_right _ hq)))) q2) (cwV 1 (cx_ts C) gX11_duration_X11_requireStep rfl rfl rfl (by decide +kernel) ⟨Nat.le_of_ble_eq_true rfl, Nat.le_of_ble_eq_true rfl⟩) rfl (hG _ (List.mem_of_getElem? (i := 1) rfl)) (of0_0 _) (ce0 T ad _ _) rfl (st := []) rfl (Nat.le_of_ble_eq_true rfl) ⟨Nat.le_refl 0, Nat.le_refl 0⟩ dX11_duration_2 (ppv ?_)
  refine fw_aload_n C dX11_duration_5 rfl 0 rfl ?_
  refine fw_get C (ci := 11) (Cn := RX11) (Tc := TX11) (N := 11) (j := 5) ly_X11_duration_11 rfl (hG _ (List.mem_of_getElem? (i := 1) rfl)) (of0_0 _) (ce0 T ad _ _) (by decide) (cx_ts C _ fl_X11_duration_67) (fun _ h => h) (v := .ref (ad 1 0 0)) rfl dX11_duration_6 ?_
  refine fw_getN C (ci := 3) (Cn := RX3) (Tc := TX3) (N := 5) (j := 1) ly_X11_duration_3 rfl (hG _ (List.mem_of_getElem? (i := 0) rfl)) (of1_0 _) (ce1 T ad _ _) (by decide) (Nst_use (cx_nst C) (w := .fieldLinkNest RX11 139 "RecipeScheduler$Kitchen" "state" "LRecipeScheduler$State;" "RecipeScheduler") 509 (by decide +kernel) rfl) (fun _ h => h) (v := .ref (ad 2 0 0)) rfl dX11_duration_9 ?_
  refine fw_getN C (ci := 8) (Cn := RX8) (Tc := TX8) (N := 15) (j := 9) ly_X11_duration_8 rfl (hG _ (List.mem_of_getElem? (i := 2) rfl)) (of2_0 _) (ce2 T ad _ _) (by decide) (Nst_use (cx_nst C) (w := .fieldLinkNest RX11 196 "RecipeScheduler$State" "duration" "[I" "RecipeScheduler") 453 (by decide +kernel) rfl) (fun _ h => h) (v := .ref (ad 2 0 1)) rfl dX11_duration_12 ?_
  refine fw_iload_n C dX11_duration_15 rfl 1 rfl ?_
  obtain ⟨b3, h⟩ := gd_some h
  refine fw_iald2 C (hG _ (List.mem_of_getElem? (i := 2) rfl)) (of2_1 _) (ca2_1 T ad _ _) b3 (Nat.le_of_ble_eq_true rfl) dX11_duration_16 ?_
  exact fw_iret C hrt Y ⟨Option.some.inj h, rfl⟩ (fun t ht => ht) dX11_duration_17
end
set_option maxRecDepth 100000 in
set_option maxHeartbeats 4000000 in
theorem c_X11_duration {l : Launch} {N0 : Nat} {T : Nat → ClassId} {D : va_G} {gr : List (Nat × Nat)} {ad : Nat → Nat → Nat → Nat} {Y : Mem} {a1 : Int32} {res : Int32} (hG : ∀ q ∈ ([(1, 0), (0, 0), (2, 0)] ++ allG), q ∈ gr) (h : X11_duration Y a1 = some res) : CI l yX11_duration wsX11_duration (Rm 2) N0 T D gr ad Y [.ref (ad 0 0 0), .int a1] (fun r Y1 => r = res ∧ Y1 = Y) :=
  fw_body (by decide +kernel) rfl (Nat.le_of_ble_eq_true rfl) (fun p e s m below meth c C hrt => w_X11_duration C hrt hG  h)
theorem ly_X11_fitsClock_11 : ∀ w ∈ u_ws RX11 TX11 11, w ∈ wsX11_fitsClock := by decide +kernel
theorem fl_X11_fitsClock_67 : Cond.fieldLink RX11 67 "RecipeScheduler" "now" "LRecipeScheduler$Kitchen;" ∈ wsX11_fitsClock := by decide +kernel
theorem ly_X11_fitsClock_3 : ∀ w ∈ u_ws RX3 TX3 5, w ∈ wsX11_fitsClock := by decide +kernel
theorem ly_X11_fitsClock_8 : ∀ w ∈ u_ws RX8 TX8 15, w ∈ wsX11_fitsClock := by decide +kernel
section
variable {p : Program} {l : Launch} {e : Env} {s : State} {m : MethodId} {below : List Frame} {meth : Method} {c : Code} {N0 : Nat} {T : Nat → ClassId} {D : va_G} {gr : List (Nat × Nat)} {ad : Nat → Nat → Nat → Nat}
set_option maxRecDepth 100000 in
set_option maxHeartbeats 4000000 in
theorem w_X11_fitsClock {Y : Mem} {a1 : Int32} (C : Cx p s m [.ref (ad 0 0 0), .int a1].toArray meth c cX11_fitsClock 2 wsX11_fitsClock RX11 N0 T D gr ad) (hrt : meth.sig.returnType = (some .boolean)) (hG : ∀ q ∈ [(0, 0), (1, 0), (2, 0)], q ∈ gr) {res : Int32} (h : X11_fitsClock Y a1 = some res) : FW p l e (Rm 0) s m [.ref (ad 0 0 0), .int a1].toArray below meth c 2 N0 T D gr ad 0 0 (MQ below (va_Qi (fun r Y1 => r = res ∧ Y1 = Y) (WB T D gr ad) (fun q => N0 ≤ q)) [.ref (ad 0 0 0), .int a1].toArray s 0 0 (fun q => N0 ≤ q)) Y 0 [(0, .ref (ad 0 0 0)), (1, .int a1)] [] := by
  unfold X11_fitsClock at h
  refine fw_aload_n C dX11_fitsClock_0 rfl 0 rfl ?_
  refine fw_get C (ci := 11) (Cn := RX11) (Tc := TX11) (N := 11) (j := 5) ly_X11_fitsClock_11 rfl (hG _ (List.mem_of_getElem? (i := 0) rfl)) (of0_0 _) (ce0 T ad _ _) (by decide) (cx_ts C _ fl_X11_fitsClock_67) (fun _ h => h) (v := .ref (ad 1 0 0)) rfl dX11_fitsClock_1 ?_
  refine fw_getN C (ci := 3) (Cn := RX3) (Tc := TX3) (N := 5) (j := 1) ly_X11_fitsClock_3 rfl (hG _ (List.mem_of_getElem? (i := 1) rfl)) (of1_0 _) (ce1 T ad _ _) (by decide) (Nst_use (cx_nst C) (w := .fieldLinkNest RX11 139 "RecipeScheduler$Kitchen" "state" "LRecipeScheduler$State;" "RecipeScheduler") 509 (by decide +kernel) rfl) (fun _ h => h) (v := .ref (ad 2 0 0)) rfl dX11_fitsClock_4 ?_
  refine fw_getN C (ci := 8) (Cn := RX8) (Tc := TX8) (N := 15) (j := 1) ly_X11_fitsClock_8 rfl (hG _ (List.mem_of_getElem? (i := 2) rfl)) (of2_0 _) (ce2 T ad _ _) (by decide) (Nst_use (cx_nst C) (w := .fieldLinkNest RX11 146 "RecipeScheduler$State" "minute" "I" "RecipeScheduler") 431 (by decide +kernel) rfl) (fun _ h => h) (v := .int (Y 2 0 0 1)) rfl dX11_fitsClock_7 ?_
  refine fw_iload_n C dX11_fitsClock_10 rfl 1 rfl ?_
  refine fw_iadd C dX11_fitsClock_11 ?_
  refine fw_sipush C dX11_fitsClock_12 (v := 9999) rfl ?_
  refine fw_icmp_gt C dX11_fitsClock_15 (tgt := 22) rfl (fun c1 => ?_) (fun c1 => ?_)
  · have h := ite_t c1 h
    refine fw_iconst C dX11_fitsClock_22 (v := 0) rfl ?_
    exact fw_zret C hrt (by decide) Y ⟨Option.some.inj h, rfl⟩ (fun t ht => ht) dX11_fitsClock_23
  · have h := ite_f c1 h
    refine fw_iconst C dX11_fitsClock_18 (v := 1) rfl ?_
    refine fw_goto C dX11_fitsClock_19 (tgt := 23) rfl ?_
    exact fw_zret C hrt (by decide) Y ⟨Option.some.inj h, rfl⟩ (fun t ht => ht) dX11_fitsClock_23
end
set_option maxRecDepth 100000 in
set_option maxHeartbeats 4000000 in
theorem c_X11_fitsClock {l : Launch} {N0 : Nat} {T : Nat → ClassId} {D : va_G} {gr : List (Nat × Nat)} {ad : Nat → Nat → Nat → Nat} {Y : Mem} {a1 : Int32} {res : Int32} (hG : ∀ q ∈ [(0, 0), (1, 0), (2, 0)], q ∈ gr) (h : X11_fitsClock Y a1 = some res) : CI l yX11_fitsClock wsX11_fitsClock (Rm 0) N0 T D gr ad Y [.ref (ad 0 0 0), .int a1] (fun r Y1 => r = res ∧ Y1 = Y) :=
  fw_body (by decide +kernel) rfl (Nat.le_of_ble_eq_true rfl) (fun p e s m below meth c C hrt => w_X11_fitsClock C hrt hG  h)
theorem kc_J6_bitCount_0f7a4_265 : Cond.constant RJ6 265 (1431655765) ∈ wsJ6_bitCount_0f7a4 := by decide +kernel
theorem kc_J6_bitCount_0f7a4_266 : Cond.constant RJ6 266 (858993459) ∈ wsJ6_bitCount_0f7a4 := by decide +kernel
theorem kc_J6_bitCount_0f7a4_267 : Cond.constant RJ6 267 (252645135) ∈ wsJ6_bitCount_0f7a4 := by decide +kernel
section
variable {p : Program} {l : Launch} {e : Env} {s : State} {m : MethodId} {below : List Frame} {meth : Method} {c : Code} {N0 : Nat} {T : Nat → ClassId} {D : va_G} {gr : List (Nat × Nat)} {ad : Nat → Nat → Nat → Nat}
set_option maxRecDepth 100000 in
set_option maxHeartbeats 4000000 in
theorem w_J6_bitCount_0f7a4 {Y : Mem} {a0 : Int32} (C : Cx p s m [.int a0].toArray meth c cJ6_bitCount_0f7a4 1 wsJ6_bitCount_0f7a4 RJ6 N0 T D gr ad) (hrt : meth.sig.returnType = (some .int)) (hG : ∀ q ∈ [], q ∈ gr) {res : Int32} (h : J6_bitCount_0f7a4 Y a0 = some res) : FW p l e (Rm 0) s m [.int a0].toArray below meth c 1 N0 T D gr ad 0 0 (MQ below (va_Qi (fun r Y1 => r = res ∧ Y1 = Y) (WB T D gr ad) (fun q => N0 ≤ q)) [.int a0].toArray s 0 0 (fun q => N0 ≤ q)) Y 0 [(0, .int a0)] [] := by
  unfold J6_bitCount_0f7a4 at h
  refine fw_iload_n C dJ6_bitCount_0f7a4_0 rfl 0 rfl ?_
  refine fw_iload_n C dJ6_bitCount_0f7a4_1 rfl 0 rfl ?_
  refine fw_iconst C dJ6_bitCount_0f7a4_2 (v := 1) rfl ?_
  refine fw_iushr C dJ6_bitCount_0f7a4_3 (v := us a0 1) rfl ?_
  refine fw_ldc_w C (cx_ts C _ kc_J6_bitCount_0f7a4_265) dJ6_bitCount_0f7a4_4 ?_
  refine fw_iand C dJ6_bitCount_0f7a4_7 ?_
  refine fw_isub C dJ6_bitCount_0f7a4_8 ?_
  obtain ⟨v1, e2, h⟩ := lt_some h
  refine fw_top (v' := .int v1) (by rw [e2]) ?_
  refine fw_istore_n C dJ6_bitCount_0f7a4_9 rfl (by decide) (L' := [(0, .int v1)]) rfl ?_
  refine fw_iload_n C dJ6_bitCount_0f7a4_10 rfl 0 rfl ?_
  refine fw_ldc_w C (cx_ts C _ kc_J6_bitCount_0f7a4_266) dJ6_bitCount_0f7a4_11 ?_
  refine fw_iand C dJ6_bitCount_0f7a4_14 ?_
  refine fw_iload_n C dJ6_bitCount_0f7a4_15 rfl 0 rfl ?_
  refine fw_iconst C dJ6_bitCount_0f7a4_16 (v := 2) rfl ?_
  refine fw_iushr C dJ6_bitCount_0f7a4_17 (v := us v1 2) rfl ?_
  refine fw_ldc_w C (cx_ts C _ kc_J6_bitCount_0f7a4_266) dJ6_bitCount_0f7a4_18 ?_
  refine fw_iand C dJ6_bitCount_0f7a4_21 ?_
  refine fw_iadd C dJ6_bitCount_0f7a4_22 ?_
  obtain ⟨v3, e4, h⟩ := lt_some h
  refine fw_top (v' := .int v3) (by rw [e4]) ?_
  refine fw_istore_n C dJ6_bitCount_0f7a4_23 rfl (by decide) (L' := [(0, .int v3)]) rfl ?_
  refine fw_iload_n C dJ6_bitCount_0f7a4_24 rfl 0 rfl ?_
  refine fw_iload_n C dJ6_bitCount_0f7a4_25 rfl 0 rfl ?_
  refine fw_iconst C dJ6_bitCount_0f7a4_26 (v := 4) rfl ?_
  refine fw_iushr C dJ6_bitCount_0f7a4_27 (v := us v3 4) rfl ?_
  refine fw_iadd C dJ6_bitCount_0f7a4_28 ?_
  refine fw_ldc_w C (cx_ts C _ kc_J6_bitCount_0f7a4_267) dJ6_bitCount_0f7a4_29 ?_
  refine fw_iand C dJ6_bitCount_0f7a4_32 ?_
  obtain ⟨v5, e6, h⟩ := lt_some h
  refine fw_top (v' := .int v5) (by rw [e6]) ?_
  refine fw_istore_n C dJ6_bitCount_0f7a4_33 rfl (by decide) (L' := [(0, .int v5)]) rfl ?_
  refine fw_iload_n C dJ6_bitCount_0f7a4_34 rfl 0 rfl ?_
  refine fw_iload_n C dJ6_bitCount_0f7a4_35 rfl 0 rfl ?_
  refine fw_bipush C dJ6_bitCount_0f7a4_36 (v := 8) rfl ?_
  refine fw_iushr C dJ6_bitCount_0f7a4_38 (v := us v5 8) rfl ?_
  refine fw_iadd C dJ6_bitCount_0f7a4_39 ?_
  obtain ⟨v7, e8, h⟩ := lt_some h
  refine fw_top (v' := .int v7) (by rw [e8]) ?_
  refine fw_istore_n C dJ6_bitCount_0f7a4_40 rfl (by decide) (L' := [(0, .int v7)]) rfl ?_
  refine fw_iload_n C dJ6_bitCount_0f7a4_41 rfl 0 rfl ?_
  refine fw_iload_n C dJ6_bitCount_0f7a4_42 rfl 0 rfl ?_
  refine fw_bipush C dJ6_bitCount_0f7a4_43 (v := 16) rfl ?_
  refine fw_iushr C dJ6_bitCount_0f7a4_45 (v := us v7 16) rfl ?_
  refine fw_iadd C dJ6_bitCount_0f7a4_46 ?_
  obtain ⟨v9, e10, h⟩ := lt_some h
  refine fw_top (v' := .int v9) (by rw [e10]) ?_
  refine fw_istore_n C dJ6_bitCount_0f7a4_47 rfl (by decide) (L' := [(0, .int v9)]) rfl ?_
  refine fw_iload_n C dJ6_bitCount_0f7a4_48 rfl 0 rfl ?_
  refine fw_bipush C dJ6_bitCount_0f7a4_49 (v := 63) rfl ?_
  refine fw_iand C dJ6_bitCount_0f7a4_51 ?_
  exact fw_iret C hrt Y ⟨Option.some.inj h, rfl⟩ (fun t ht => ht) dJ6_bitCount_0f7a4_52
end
set_option maxRecDepth 100000 in
set_option maxHeartbeats 4000000 in
theorem c_J6_bitCount_0f7a4 {l : Launch} {N0 : Nat} {T : Nat → ClassId} {D : va_G} {gr : List (Nat × Nat)} {ad : Nat → Nat → Nat → Nat} {Y : Mem} {a0 : Int32} {res : Int32} (hG : ∀ q ∈ [], q ∈ gr) (h : J6_bitCount_0f7a4 Y a0 = some res) : CI l yJ6_bitCount_0f7a4 wsJ6_bitCount_0f7a4 (Rm 0) N0 T D gr ad Y [.int a0] (fun r Y1 => r = res ∧ Y1 = Y) :=
  fw_body (by decide +kernel) rfl (Nat.le_of_ble_eq_true rfl) (fun p e s m below meth c C hrt => w_J6_bitCount_0f7a4 C hrt hG  h)
