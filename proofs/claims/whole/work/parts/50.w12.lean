section
variable {p : Program} {l : Launch} {e : Env} {s : State} {m : MethodId} {below : List Frame} {meth : Method} {c : Code} {N0 : Nat} {T : Nat → ClassId} {D : va_G} {gr : List (Nat × Nat)} {ad : Nat → Nat → Nat → Nat}
set_option maxRecDepth 100000 in
set_option maxHeartbeats 4000000 in
theorem w_X11_sum_b4 {Y : Mem} {k0 : Nat} {g0 : Nat} {o0 : Nat} {n0 : Nat} {a1 : Int32} (C : Cx p s m [.ref (ad k0 g0 o0), .int a1].toArray meth c cX11_sum 4 wsX11_sum RX11 N0 T D gr ad) (hrt : meth.sig.returnType = (some .int)) (hG : ∀ q ∈ [(k0, g0)], q ∈ gr) (hA0 : ∀ y, cell T ad k0 g0 o0 y = .inl (T 0, n0, .inl y)) (hO0 : o0 ∈ offs k0 g0) (hN0 : n0 < 2 ^ 31) {res : Int32} : ∀ (n : Nat) (l3 : Int32) (l2 : Int32), X11_sum_b4 Y k0 g0 o0 n0 a1  n l3 l2 = some res → FW p l e (Rm 0) s m [.ref (ad k0 g0 o0), .int a1].toArray below meth c 4 N0 T D gr ad 0 0 (MQ below (va_Qi (fun r Y1 => r = res ∧ Y1 = Y) (WB T D gr ad) (fun q => N0 ≤ q)) [.ref (ad k0 g0 o0), .int a1].toArray s 0 0 (fun q => N0 ≤ q)) Y 4 [(3, .int l3), (2, .int l2), (0, .ref (ad k0 g0 o0)), (1, .int a1)] [] := by
  intro n
  induction n with
  | zero =>
    intro l3 l2 h
    unfold X11_sum_b4 at h
    cases h
  | succ n ih =>
    intro l3 l2 h
    unfold X11_sum_b4 at h
    refine fw_iload_n C dX11_sum_4 rfl 0 rfl ?_
    refine fw_iload_n C dX11_sum_5 rfl 3 rfl ?_
    refine fw_icmp_ge C dX11_sum_6 (tgt := 27) rfl (fun c1 => ?_) (fun c1 => ?_)
    · have h := ite_t c1 h
      refine fw_iload_n C dX11_sum_27 rfl 1 rfl ?_
      exact fw_iret C hrt Y ⟨Option.some.inj h, rfl⟩ (fun t ht => ht) dX11_sum_28
    · have h := ite_f c1 h
      refine fw_iload_n C dX11_sum_9 rfl 0 rfl ?_
      refine fw_aload_n C dX11_sum_10 rfl 2 rfl ?_
      refine fw_alen C 0 (hG _ (List.mem_of_getElem? (i := 0) rfl)) hO0 (hA0 _) rfl (v := (Int32.ofNat n0)) rfl dX11_sum_11 ?_
      refine fw_icmp_ge C dX11_sum_12 (tgt := 27) rfl (fun c2 => ?_) (fun c2 => ?_)
      · have h := ite_t c2 h
        refine fw_iload_n C dX11_sum_27 rfl 1 rfl ?_
        exact fw_iret C hrt Y ⟨Option.some.inj h, rfl⟩ (fun t ht => ht) dX11_sum_28
      · have h := ite_f c2 h
        refine fw_iload_n C dX11_sum_15 rfl 1 rfl ?_
        refine fw_aload_n C dX11_sum_16 rfl 2 rfl ?_
        refine fw_iload_n C dX11_sum_17 rfl 0 rfl ?_
        obtain ⟨b3, h⟩ := gd_some h
        refine fw_iald2 C (hG _ (List.mem_of_getElem? (i := 0) rfl)) hO0 (hA0 _) b3 hN0 dX11_sum_18 ?_
        refine fw_iadd C dX11_sum_19 ?_
        obtain ⟨v4, e5, h⟩ := lt_some h
        refine fw_top (v' := .int v4) (by rw [e5]) ?_
        refine fw_istore_n C dX11_sum_20 rfl (by decide) (L' := [(2, .int v4), (3, .int l3), (0, .ref (ad k0 g0 o0)), (1, .int a1)]) rfl ?_
        refine fw_iinc C dX11_sum_21 (kk := 1) (v := l3 + 1) rfl rfl (by decide) (L' := [(3, .int (l3 + 1)), (2, .int v4), (0, .ref (ad k0 g0 o0)), (1, .int a1)]) rfl ?_
        refine fw_goto C dX11_sum_24 (tgt := 4) rfl ?_
        exact ih _ _ h
set_option maxRecDepth 100000 in
set_option maxHeartbeats 4000000 in
theorem w_X11_sum {Y : Mem} {k0 : Nat} {g0 : Nat} {o0 : Nat} {n0 : Nat} {a1 : Int32} (C : Cx p s m [.ref (ad k0 g0 o0), .int a1].toArray meth c cX11_sum 4 wsX11_sum RX11 N0 T D gr ad) (hrt : meth.sig.returnType = (some .int)) (hG : ∀ q ∈ [(k0, g0)], q ∈ gr) (hA0 : ∀ y, cell T ad k0 g0 o0 y = .inl (T 0, n0, .inl y)) (hO0 : o0 ∈ offs k0 g0) (hN0 : n0 < 2 ^ 31) {res : Int32} (h : X11_sum Y k0 g0 o0 n0 a1 = some res) : FW p l e (Rm 0) s m [.ref (ad k0 g0 o0), .int a1].toArray below meth c 4 N0 T D gr ad 0 0 (MQ below (va_Qi (fun r Y1 => r = res ∧ Y1 = Y) (WB T D gr ad) (fun q => N0 ≤ q)) [.ref (ad k0 g0 o0), .int a1].toArray s 0 0 (fun q => N0 ≤ q)) Y 0 [(0, .ref (ad k0 g0 o0)), (1, .int a1)] [] := by
  unfold X11_sum at h
  refine fw_iconst C dX11_sum_0 (v := 0) rfl ?_
  refine fw_istore_n C dX11_sum_1 rfl (by decide) (L' := [(2, .int 0), (0, .ref (ad k0 g0 o0)), (1, .int a1)]) rfl ?_
  refine fw_iconst C dX11_sum_2 (v := 0) rfl ?_
  refine fw_istore_n C dX11_sum_3 rfl (by decide) (L' := [(3, .int 0), (2, .int 0), (0, .ref (ad k0 g0 o0)), (1, .int a1)]) rfl ?_
  exact w_X11_sum_b4 C hrt hG hA0 hO0 hN0  _ _ _ h
end
set_option maxRecDepth 100000 in
set_option maxHeartbeats 4000000 in
theorem c_X11_sum {l : Launch} {N0 : Nat} {T : Nat → ClassId} {D : va_G} {gr : List (Nat × Nat)} {ad : Nat → Nat → Nat → Nat} {Y : Mem} {k0 : Nat} {g0 : Nat} {o0 : Nat} {n0 : Nat} {a1 : Int32} {res : Int32} (hG : ∀ q ∈ [(k0, g0)], q ∈ gr) (hA0 : ∀ y, cell T ad k0 g0 o0 y = .inl (T 0, n0, .inl y)) (hO0 : o0 ∈ offs k0 g0) (hN0 : n0 < 2 ^ 31) (h : X11_sum Y k0 g0 o0 n0 a1 = some res) : CI l yX11_sum wsX11_sum (Rm 0) N0 T D gr ad Y [.ref (ad k0 g0 o0), .int a1] (fun r Y1 => r = res ∧ Y1 = Y) :=
  fw_body (by decide +kernel) rfl (Nat.le_of_ble_eq_true rfl) (fun p e s m below meth c C hrt => w_X11_sum C hrt hG hA0 hO0 hN0 h)
theorem ly_X11_burns_11 : ∀ w ∈ u_ws RX11 TX11 11, w ∈ wsX11_burns := by decide +kernel
theorem fl_X11_burns_67 : Cond.fieldLink RX11 67 "RecipeScheduler" "now" "LRecipeScheduler$Kitchen;" ∈ wsX11_burns := by decide +kernel
theorem ly_X11_burns_3 : ∀ w ∈ u_ws RX3 TX3 5, w ∈ wsX11_burns := by decide +kernel
theorem ly_X11_burns_8 : ∀ w ∈ u_ws RX8 TX8 15, w ∈ wsX11_burns := by decide +kernel
theorem ly_X11_burns_5 : ∀ w ∈ u_ws RX5 TX5 17, w ∈ wsX11_burns := by decide +kernel
theorem ly_X11_burns_4 : ∀ w ∈ u_ws RX4 TX4 3, w ∈ wsX11_burns := by decide +kernel
section
variable {p : Program} {l : Launch} {e : Env} {s : State} {m : MethodId} {below : List Frame} {meth : Method} {c : Code} {N0 : Nat} {T : Nat → ClassId} {D : va_G} {gr : List (Nat × Nat)} {ad : Nat → Nat → Nat → Nat}
set_option maxRecDepth 100000 in
set_option maxHeartbeats 4000000 in
theorem w_X11_burns {Y : Mem} (C : Cx p s m [.ref (ad 0 0 0)].toArray meth c cX11_burns 1 wsX11_burns RX11 N0 T D gr ad) (hrt : meth.sig.returnType = (some .int)) (hG : ∀ q ∈ ([(0, 0), (1, 0), (2, 0)] ++ allG), q ∈ gr) {res : Int32} (h : X11_burns Y = some res) : FW p l e (Rm 1) s m [.ref (ad 0 0 0)].toArray below meth c 1 N0 T D gr ad 0 0 (MQ below (va_Qi (fun r Y1 => r = res ∧ Y1 = Y) (WB T D gr ad) (fun q => N0 ≤ q)) [.ref (ad 0 0 0)].toArray s 0 0 (fun q => N0 ≤ q)) Y 0 [(0, .ref (ad 0 0 0))] [] := by
  unfold X11_burns at h
  refine fw_aload_n C dX11_burns_0 rfl 0 rfl ?_
  refine fw_get C (ci := 9) (Cn := RX11) (Tc := TX11) (N := 11) (j := 5) ly_X11_burns_11 rfl (hG _ (List.mem_of_getElem? (i := 0) rfl)) (of0_0 _) (ce0 T ad _ _) (by decide) (cx_ts C _ fl_X11_burns_67) (fun _ h => h) (v := .ref (ad 1 0 0)) rfl dX11_burns_1 ?_
  refine fw_getN C (ci := 1) (Cn := RX3) (Tc := TX3) (N := 5) (j := 1) ly_X11_burns_3 rfl (hG _ (List.mem_of_getElem? (i := 1) rfl)) (of1_0 _) (ce1 T ad _ _) (by decide) (Nst_use (cx_nst C) (w := .fieldLinkNest RX11 139 "RecipeScheduler$Kitchen" "state" "LRecipeScheduler$State;" "RecipeScheduler") 518 (by decide +kernel) rfl) (fun _ h => h) (v := .ref (ad 2 0 0)) rfl dX11_burns_4 ?_
  refine fw_getN C (ci := 6) (Cn := RX8) (Tc := TX8) (N := 15) (j := 14) ly_X11_burns_8 rfl (hG _ (List.mem_of_getElem? (i := 2) rfl)) (of2_0 _) (ce2 T ad _ _) (by decide) (Nst_use (cx_nst C) (w := .fieldLinkNest RX11 173 "RecipeScheduler$State" "burns" "[I" "RecipeScheduler") 475 (by decide +kernel) rfl) (fun _ h => h) (v := .ref (ad 2 0 6)) rfl dX11_burns_7 ?_
  refine fw_aload_n C dX11_burns_10 rfl 0 rfl ?_
  refine fw_get C (ci := 9) (Cn := RX11) (Tc := TX11) (N := 11) (j := 5) ly_X11_burns_11 rfl (hG _ (List.mem_of_getElem? (i := 0) rfl)) (of0_0 _) (ce0 T ad _ _) (by decide) (cx_ts C _ fl_X11_burns_67) (fun _ h => h) (v := .ref (ad 1 0 0)) rfl dX11_burns_11 ?_
  refine fw_getN C (ci := 1) (Cn := RX3) (Tc := TX3) (N := 5) (j := 0) ly_X11_burns_3 rfl (hG _ (List.mem_of_getElem? (i := 1) rfl)) (of1_0 _) (ce1 T ad _ _) (by decide) (Nst_use (cx_nst C) (w := .fieldLinkNest RX11 117 "RecipeScheduler$Kitchen" "recipe" "LRecipeScheduler$Recipe;" "RecipeScheduler") 516 (by decide +kernel) rfl) (fun _ h => h) (v := .ref (ad 3 ((Y 1 0 0 0).toNatClampNeg) 0)) rfl dX11_burns_14 ?_
  obtain ⟨b1, h⟩ := gd_some h
  have b1 := of_decide_eq_true b1
  refine fw_getN C (ci := 3) (Cn := RX5) (Tc := TX5) (N := 17) (j := 7) ly_X11_burns_5 rfl ((fun q hq => hG q (List.mem_append_right _ hq)) _ (allG_3 b1)) (of3_0 _) (ce3 T ad _ _) (by decide) (Nst_use (cx_nst C) (w := .fieldLinkNest RX11 126 "RecipeScheduler$Recipe" "steps" "LRecipeScheduler$Names;" "RecipeScheduler") 146 (by decide +kernel) rfl) (fun _ h => h) (v := .ref (ad 4 (2*((Y 1 0 0 0).toNatClampNeg)+1) 0)) rfl dX11_burns_17 ?_
  obtain ⟨b2, h⟩ := gd_some h
  have b2 := of_decide_eq_true b2
  refine fw_getN C (ci := 2) (Cn := RX4) (Tc := TX4) (N := 3) (j := 2) ly_X11_burns_4 rfl ((fun q hq => hG q (List.mem_append_right _ hq)) _ (allG_4b b2)) (of4_0 _) (ce4 T ad _ _) (by decide) (Nst_use (cx_nst C) (w := .fieldLinkNest RX11 130 "RecipeScheduler$Names" "count" "I" "RecipeScheduler") 113 (by decide +kernel) rfl) (fun _ h => h) (v := .int (Y 4 (2*((Y 1 0 0 0).toNatClampNeg)+1) 0 2)) rfl dX11_burns_20 ?_
  obtain ⟨r3, q4, h⟩ := bd1_some h
  refine fw_callSi C (As := [.ref (ad 2 0 6), .int (Y 4 (2*((Y 1 0 0 0).toNatClampNeg)+1) 0 2)]) (c_X11_sum (gac (hG _ (List.mem_of_getElem? (i := 2) rfl)) ga0) (ca2_6 T ad _) (of2_6 _) (Nat.le_of_ble_eq_true rfl) q4) (va_cwS 2 (cx_ts C) gX11_burns_X11_sum rfl rfl rfl (by decide +kernel) ⟨Nat.le_of_ble_eq_true rfl, Nat.le_of_ble_eq_true rfl⟩) rfl (st := []) rfl (Nat.le_of_ble_eq_true rfl) ⟨Nat.le_refl 0, Nat.le_refl 0⟩ dX11_burns_23 (pp2 ?_)
  exact fw_iret C hrt Y ⟨Option.some.inj h, rfl⟩ (fun t ht => ht) dX11_burns_26
end
set_option maxRecDepth 100000 in
set_option maxHeartbeats 4000000 in
theorem c_X11_burns {l : Launch} {N0 : Nat} {T : Nat → ClassId} {D : va_G} {gr : List (Nat × Nat)} {ad : Nat → Nat → Nat → Nat} {Y : Mem} {res : Int32} (hG : ∀ q ∈ ([(0, 0), (1, 0), (2, 0)] ++ allG), q ∈ gr) (h : X11_burns Y = some res) : CI l yX11_burns wsX11_burns (Rm 1) N0 T D gr ad Y [.ref (ad 0 0 0)] (fun r Y1 => r = res ∧ Y1 = Y) :=
  fw_body (by decide +kernel) rfl (Nat.le_of_ble_eq_true rfl) (fun p e s m below meth c C hrt => w_X11_burns C hrt hG  h)
section
variable {p : Program} {l : Launch} {e : Env} {s : State} {m : MethodId} {below : List Frame} {meth : Method} {c : Code} {N0 : Nat} {T : Nat → ClassId} {D : va_G} {gr : List (Nat × Nat)} {ad : Nat → Nat → Nat → Nat}
set_option maxRecDepth 100000 in
set_option maxHeartbeats 4000000 in
theorem w_X3_runMinutes_b8 {g0 : Nat} {a1 : Int32} (C : Cx p s m [.ref (ad 1 g0 0), .int a1].toArray meth c cX3_runMinutes 4 wsX3_runMinutes RX3 N0 T D gr ad) (hrt : meth.sig.returnType = (some .int)) (hG : ∀ q ∈ ([(2, g0), (1, g0)] ++ allG), q ∈ gr) {res : Int32 × Mem} : ∀ (n : Nat) (Y : Mem) (l3 : Int32) (l2 : Int32), X3_runMinutes_b8 g0 a1  n Y l3 l2 = some res → FW p l e (Rm 4) s m [.ref (ad 1 g0 0), .int a1].toArray below meth c 4 N0 T D gr ad 0 0 (MQ below (va_Qi (fun r Y1 => (r, Y1) = res) (WB T D gr ad) (fun q => N0 ≤ q)) [.ref (ad 1 g0 0), .int a1].toArray s 0 0 (fun q => N0 ≤ q)) Y 8 [(3, .int l3), (2, .int l2), (0, .ref (ad 1 g0 0)), (1, .int a1)] [] := by
  intro n
  induction n with
  | zero =>
    intro Y l3 l2 h
    unfold X3_runMinutes_b8 at h
    cases h
  | succ n ih =>
    intro Y l3 l2 h
    unfold X3_runMinutes_b8 at h
    refine fw_iload_n C dX3_runMinutes_8 rfl 0 rfl ?_
    refine fw_iload_n C dX3_runMinutes_9 rfl 3 rfl ?_
    refine fw_icmp_ge C dX3_runMinutes_10 (tgt := 26) rfl (fun c4 => ?_) (fun c4 => ?_)
    · have h := ite_t c4 h
      refine fw_iload_n C dX3_runMinutes_26 rfl 1 rfl ?_
      exact fw_iret C hrt Y (Option.some.inj h) (fun t ht => ht) dX3_runMinutes_27
    · have h := ite_f c4 h
      refine fw_iload_n C dX3_runMinutes_13 rfl 1 rfl ?_
      refine fw_aload_n C dX3_runMinutes_14 rfl 2 rfl ?_
      obtain ⟨r5, Y7, q6, h⟩ := bd2_some h
      refine fw_callVi C (ci := 1) (Cn := RX3) (Tc := TX3) (N := 5) (As := []) (c_X3_runMinute (gac (hG _ (List.mem_of_getElem? (i := 1) rfl)) (gac (hG _ (List.mem_of_getElem? (i := 0) rfl)) (fun q hq => hG q (List.mem_append_right _ hq)))) q6) (cwV 0 (cx_ts C) gX3_runMinutes_X3_runMinute rfl rfl rfl (by decide +kernel) ⟨Nat.le_of_ble_eq_true rfl, Nat.le_of_ble_eq_true rfl⟩) rfl (hG _ (List.mem_of_getElem? (i := 1) rfl)) (of1_0 _) (ce1 T ad _ _) rfl (st := [.int l2]) rfl (Nat.le_of_ble_eq_true rfl) ⟨Nat.le_refl 0, Nat.le_refl 0⟩ dX3_runMinutes_15 (ppw ?_)
      refine fw_iadd C dX3_runMinutes_18 ?_
      obtain ⟨v8, e9, h⟩ := lt_some h
      refine fw_top (v' := .int v8) (by rw [e9]) ?_
      refine fw_istore_n C dX3_runMinutes_19 rfl (by decide) (L' := [(2, .int v8), (3, .int l3), (0, .ref (ad 1 g0 0)), (1, .int a1)]) rfl ?_
      refine fw_iinc C dX3_runMinutes_20 (kk := 1) (v := l3 + 1) rfl rfl (by decide) (L' := [(3, .int (l3 + 1)), (2, .int v8), (0, .ref (ad 1 g0 0)), (1, .int a1)]) rfl ?_
      refine fw_goto C dX3_runMinutes_23 (tgt := 8) rfl ?_
      exact ih _ _ _ h
set_option maxRecDepth 100000 in
set_option maxHeartbeats 4000000 in
theorem w_X3_runMinutes {Y : Mem} {g0 : Nat} {a1 : Int32} (C : Cx p s m [.ref (ad 1 g0 0), .int a1].toArray meth c cX3_runMinutes 4 wsX3_runMinutes RX3 N0 T D gr ad) (hrt : meth.sig.returnType = (some .int)) (hG : ∀ q ∈ ([(2, g0), (1, g0)] ++ allG), q ∈ gr) {res : Int32 × Mem} (h : X3_runMinutes Y g0 a1 = some res) : FW p l e (Rm 4) s m [.ref (ad 1 g0 0), .int a1].toArray below meth c 4 N0 T D gr ad 0 0 (MQ below (va_Qi (fun r Y1 => (r, Y1) = res) (WB T D gr ad) (fun q => N0 ≤ q)) [.ref (ad 1 g0 0), .int a1].toArray s 0 0 (fun q => N0 ≤ q)) Y 0 [(0, .ref (ad 1 g0 0)), (1, .int a1)] [] := by
  unfold X3_runMinutes at h
  refine fw_aload_n C dX3_runMinutes_0 rfl 0 rfl ?_
  obtain ⟨Y3, q2, h⟩ := bd1_some h
  refine fw_callVv C (ci := 1) (Cn := RX3) (Tc := TX3) (N := 5) (As := []) (c_X3_rank (gac (hG _ (List.mem_of_getElem? (i := 1) rfl)) (gac (hG _ (List.mem_of_getElem? (i := 0) rfl)) (fun q hq => hG q (List.mem_append_right _ hq)))) q2) (cwV 0 (cx_ts C) gX3_runMinutes_X3_rank rfl rfl rfl (by decide +kernel) ⟨Nat.le_of_ble_eq_true rfl, Nat.le_of_ble_eq_true rfl⟩) rfl (hG _ (List.mem_of_getElem? (i := 1) rfl)) (of1_0 _) (ce1 T ad _ _) rfl (st := []) rfl (Nat.le_of_ble_eq_true rfl) ⟨Nat.le_refl 0, Nat.le_refl 0⟩ dX3_runMinutes_1 (ppv ?_)
  refine fw_iconst C dX3_runMinutes_4 (v := 0) rfl ?_
  refine fw_istore_n C dX3_runMinutes_5 rfl (by decide) (L' := [(2, .int 0), (0, .ref (ad 1 g0 0)), (1, .int a1)]) rfl ?_
  refine fw_iconst C dX3_runMinutes_6 (v := 0) rfl ?_
  refine fw_istore_n C dX3_runMinutes_7 rfl (by decide) (L' := [(3, .int 0), (2, .int 0), (0, .ref (ad 1 g0 0)), (1, .int a1)]) rfl ?_
  exact w_X3_runMinutes_b8 C hrt hG   _ _ _ _ h
end
set_option maxRecDepth 100000 in
set_option maxHeartbeats 4000000 in
theorem c_X3_runMinutes {l : Launch} {N0 : Nat} {T : Nat → ClassId} {D : va_G} {gr : List (Nat × Nat)} {ad : Nat → Nat → Nat → Nat} {Y : Mem} {g0 : Nat} {a1 : Int32} {res : Int32 × Mem} (hG : ∀ q ∈ ([(2, g0), (1, g0)] ++ allG), q ∈ gr) (h : X3_runMinutes Y g0 a1 = some res) : CI l yX3_runMinutes wsX3_runMinutes (Rm 4) N0 T D gr ad Y [.ref (ad 1 g0 0), .int a1] (fun r Y1 => (r, Y1) = res) :=
  fw_body (by decide +kernel) rfl (Nat.le_of_ble_eq_true rfl) (fun p e s m below meth c C hrt => w_X3_runMinutes C hrt hG  h)
theorem ly_X8_halt_8 : ∀ w ∈ u_ws RX8 TX8 15, w ∈ wsX8_halt := by decide +kernel
theorem fl_X8_halt_15 : Cond.fieldLink RX8 15 "RecipeScheduler$State" "remaining" "[I" ∈ wsX8_halt := by decide +kernel
theorem fl_X8_halt_53 : Cond.fieldLink RX8 53 "RecipeScheduler$State" "running" "I" ∈ wsX8_halt := by decide +kernel
theorem fl_X8_halt_46 : Cond.fieldLink RX8 46 "RecipeScheduler$State" "stops" "I" ∈ wsX8_halt := by decide +kernel
section
variable {p : Program} {l : Launch} {e : Env} {s : State} {m : MethodId} {below : List Frame} {meth : Method} {c : Code} {N0 : Nat} {T : Nat → ClassId} {D : va_G} {gr : List (Nat × Nat)} {ad : Nat → Nat → Nat → Nat}
set_option maxRecDepth 100000 in
set_option maxHeartbeats 4000000 in
theorem w_X8_halt {Y : Mem} {g0 : Nat} {a1 : Int32} (C : Cx p s m [.ref (ad 2 g0 0), .int a1].toArray meth c cX8_halt 3 wsX8_halt RX8 N0 T D gr ad) (hrt : meth.sig.returnType = (some .int)) (hG : ∀ q ∈ [(2, g0)], q ∈ gr) {res : Int32 × Mem} (h : X8_halt Y g0 a1 = some res) : FW p l e (Rm 0) s m [.ref (ad 2 g0 0), .int a1].toArray below meth c 3 N0 T D gr ad 0 0 (MQ below (va_Qi (fun r Y1 => (r, Y1) = res) (WB T D gr ad) (fun q => N0 ≤ q)) [.ref (ad 2 g0 0), .int a1].toArray s 0 0 (fun q => N0 ≤ q)) Y 0 [(0, .ref (ad 2 g0 0)), (1, .int a1)] [] := by
  unfold X8_halt at h
  refine fw_aload_n C dX8_halt_0 rfl 0 rfl ?_
  refine fw_get C (ci := 6) (Cn := RX8) (Tc := TX8) (N := 15) (j := 10) ly_X8_halt_8 rfl (hG _ (List.mem_of_getElem? (i := 0) rfl)) (of2_0 _) (ce2 T ad _ _) (by decide) (cx_ts C _ fl_X8_halt_15) (fun _ h => h) (v := .ref (ad 2 g0 2)) rfl dX8_halt_1 ?_
  refine fw_iload_n C dX8_halt_4 rfl 1 rfl ?_
  obtain ⟨b1, h⟩ := gd_some h
  refine fw_iald2 C (hG _ (List.mem_of_getElem? (i := 0) rfl)) (of2_2 _) (ca2_2 T ad _ _) b1 (Nat.le_of_ble_eq_true rfl) dX8_halt_5 ?_
  obtain ⟨v2, e3, h⟩ := lt_some h
  refine fw_top (v' := .int v2) (by rw [e3]) ?_
  refine fw_istore_n C dX8_halt_6 rfl (by decide) (L' := [(2, .int v2), (0, .ref (ad 2 g0 0)), (1, .int a1)]) rfl ?_
  refine fw_aload_n C dX8_halt_7 rfl 1 rfl ?_
  refine fw_dup C dX8_halt_8 rfl ?_
  refine fw_get C (ci := 6) (Cn := RX8) (Tc := TX8) (N := 15) (j := 6) ly_X8_halt_8 rfl (hG _ (List.mem_of_getElem? (i := 0) rfl)) (of2_0 _) (ce2 T ad _ _) (by decide) (cx_ts C _ fl_X8_halt_53) (fun _ h => h) (v := .int (Y 2 g0 0 6)) rfl dX8_halt_9 ?_
  refine fw_iconst C dX8_halt_12 (v := 1) rfl ?_
  refine fw_iload_n C dX8_halt_13 rfl 2 rfl ?_
  refine fw_ishl C dX8_halt_14 ?_
  refine fw_iconst C dX8_halt_15 (v := (-1)) rfl ?_
  refine fw_ixor C dX8_halt_16 ?_
  refine fw_iand C dX8_halt_17 ?_
  obtain ⟨Y4, e5, h⟩ := lt_some h
  refine fw_put C (ci := 6) (Cn := RX8) (Tc := TX8) (N := 15) (j := 6) (ty := .int) (upd (Y 2 g0 0) 6 ((Y 2 g0 0 6) &&& ((1 <<< (a1 &&& 31)) ^^^ ((-1))))) ly_X8_halt_8 rfl tyX8_ok nmX8 (hG _ (List.mem_of_getElem? (i := 0) rfl)) (of2_0 _) (ce2 T ad _ _) (by decide) (cx_ts C _ fl_X8_halt_53) (fun _ h => h) rfl (by decide +kernel) rfl rfl (Nat.le_of_ble_eq_true rfl) (ce2_put6 T ad _ _ _) dX8_halt_18 ?_
  refine fw_mem ((up_eq _ _ _ _ _ _).symm.trans e5) ?_
  refine fw_aload_n C dX8_halt_21 rfl 1 rfl ?_
  refine fw_get C (ci := 6) (Cn := RX8) (Tc := TX8) (N := 15) (j := 10) ly_X8_halt_8 rfl (hG _ (List.mem_of_getElem? (i := 0) rfl)) (of2_0 _) (ce2 T ad _ _) (by decide) (cx_ts C _ fl_X8_halt_15) (fun _ h => h) (v := .ref (ad 2 g0 2)) rfl dX8_halt_22 ?_
  refine fw_iload_n C dX8_halt_25 rfl 2 rfl ?_
  refine fw_iconst C dX8_halt_26 (v := 0) rfl ?_
  obtain ⟨Y6, e7, h⟩ := lt_some h
  refine fw_iast2 C (hG _ (List.mem_of_getElem? (i := 0) rfl)) (of2_2 _) (ca2_2 T ad _) b1 (Nat.le_of_ble_eq_true rfl) dX8_halt_27 ?_
  refine fw_mem e7 ?_
  refine fw_aload_n C dX8_halt_28 rfl 1 rfl ?_
  refine fw_dup C dX8_halt_29 rfl ?_
  refine fw_get C (ci := 6) (Cn := RX8) (Tc := TX8) (N := 15) (j := 4) ly_X8_halt_8 rfl (hG _ (List.mem_of_getElem? (i := 0) rfl)) (of2_0 _) (ce2 T ad _ _) (by decide) (cx_ts C _ fl_X8_halt_46) (fun _ h => h) (v := .int (Y6 2 g0 0 4)) rfl dX8_halt_30 ?_
  refine fw_iconst C dX8_halt_33 (v := 1) rfl ?_
  refine fw_iadd C dX8_halt_34 ?_
  obtain ⟨Y8, e9, h⟩ := lt_some h
  refine fw_put C (ci := 6) (Cn := RX8) (Tc := TX8) (N := 15) (j := 4) (ty := .int) (upd (Y6 2 g0 0) 4 ((Y6 2 g0 0 4) + 1)) ly_X8_halt_8 rfl tyX8_ok nmX8 (hG _ (List.mem_of_getElem? (i := 0) rfl)) (of2_0 _) (ce2 T ad _ _) (by decide) (cx_ts C _ fl_X8_halt_46) (fun _ h => h) rfl (by decide +kernel) rfl rfl (Nat.le_of_ble_eq_true rfl) (ce2_put4 T ad _ _ _) dX8_halt_35 ?_
  refine fw_mem ((up_eq _ _ _ _ _ _).symm.trans e9) ?_
  refine fw_iload_n C dX8_halt_38 rfl 0 rfl ?_
  exact fw_iret C hrt Y8 (Option.some.inj h) (fun t ht => ht) dX8_halt_39
end
set_option maxRecDepth 100000 in
set_option maxHeartbeats 4000000 in
theorem c_X8_halt {l : Launch} {N0 : Nat} {T : Nat → ClassId} {D : va_G} {gr : List (Nat × Nat)} {ad : Nat → Nat → Nat → Nat} {Y : Mem} {g0 : Nat} {a1 : Int32} {res : Int32 × Mem} (hG : ∀ q ∈ [(2, g0)], q ∈ gr) (h : X8_halt Y g0 a1 = some res) : CI l yX8_halt wsX8_halt (Rm 0) N0 T D gr ad Y [.ref (ad 2 g0 0), .int a1] (fun r Y1 => (r, Y1) = res) :=
  fw_body (by decide +kernel) rfl (Nat.le_of_ble_eq_true rfl) (fun p e s m below meth c C hrt => w_X8_halt C hrt hG  h)
theorem ly_X8_discard_8 : ∀ w ∈ u_ws RX8 TX8 15, w ∈ wsX8_discard := by decide +kernel
theorem fl_X8_discard_18 : Cond.fieldLink RX8 18 "RecipeScheduler$State" "age" "[I" ∈ wsX8_discard := by decide +kernel
theorem fl_X8_discard_56 : Cond.fieldLink RX8 56 "RecipeScheduler$State" "done" "I" ∈ wsX8_discard := by decide +kernel
section
variable {p : Program} {l : Launch} {e : Env} {s : State} {m : MethodId} {below : List Frame} {meth : Method} {c : Code} {N0 : Nat} {T : Nat → ClassId} {D : va_G} {gr : List (Nat × Nat)} {ad : Nat → Nat → Nat → Nat}
set_option maxRecDepth 100000 in
set_option maxHeartbeats 4000000 in
theorem w_X8_discard {Y : Mem} {g0 : Nat} {a1 : Int32} (C : Cx p s m [.ref (ad 2 g0 0), .int a1].toArray meth c cX8_discard 3 wsX8_discard RX8 N0 T D gr ad) (hrt : meth.sig.returnType = (some .int)) (hG : ∀ q ∈ [(2, g0)], q ∈ gr) {res : Int32 × Mem} (h : X8_discard Y g0 a1 = some res) : FW p l e (Rm 0) s m [.ref (ad 2 g0 0), .int a1].toArray below meth c 3 N0 T D gr ad 0 0 (MQ below (va_Qi (fun r Y1 => (r, Y1) = res) (WB T D gr ad) (fun q => N0 ≤ q)) [.ref (ad 2 g0 0), .int a1].toArray s 0 0 (fun q => N0 ≤ q)) Y 0 [(0, .ref (ad 2 g0 0)), (1, .int a1)] [] := by
  unfold X8_discard at h
  refine fw_aload_n C dX8_discard_0 rfl 0 rfl ?_
  refine fw_get C (ci := 6) (Cn := RX8) (Tc := TX8) (N := 15) (j := 11) ly_X8_discard_8 rfl (hG _ (List.mem_of_getElem? (i := 0) rfl)) (of2_0 _) (ce2 T ad _ _) (by decide) (cx_ts C _ fl_X8_discard_18) (fun _ h => h) (v := .ref (ad 2 g0 3)) rfl dX8_discard_1 ?_
  refine fw_iload_n C dX8_discard_4 rfl 1 rfl ?_
  obtain ⟨b1, h⟩ := gd_some h
  refine fw_iald2 C (hG _ (List.mem_of_getElem? (i := 0) rfl)) (of2_3 _) (ca2_3 T ad _ _) b1 (Nat.le_of_ble_eq_true rfl) dX8_discard_5 ?_
  obtain ⟨v2, e3, h⟩ := lt_some h
  refine fw_top (v' := .int v2) (by rw [e3]) ?_
  refine fw_istore_n C dX8_discard_6 rfl (by decide) (L' := [(2, .int v2), (0, .ref (ad 2 g0 0)), (1, .int a1)]) rfl ?_
  refine fw_aload_n C dX8_discard_7 rfl 1 rfl ?_
  refine fw_dup C dX8_discard_8 rfl ?_
  refine fw_get C (ci := 6) (Cn := RX8) (Tc := TX8) (N := 15) (j := 7) ly_X8_discard_8 rfl (hG _ (List.mem_of_getElem? (i := 0) rfl)) (of2_0 _) (ce2 T ad _ _) (by decide) (cx_ts C _ fl_X8_discard_56) (fun _ h => h) (v := .int (Y 2 g0 0 7)) rfl dX8_discard_9 ?_
  refine fw_iconst C dX8_discard_12 (v := 1) rfl ?_
  refine fw_iload_n C dX8_discard_13 rfl 2 rfl ?_
  refine fw_ishl C dX8_discard_14 ?_
  refine fw_iconst C dX8_discard_15 (v := (-1)) rfl ?_
  refine fw_ixor C dX8_discard_16 ?_
  refine fw_iand C dX8_discard_17 ?_
  obtain ⟨Y4, e5, h⟩ := lt_some h
  refine fw_put C (ci := 6) (Cn := RX8) (Tc := TX8) (N := 15) (j := 7) (ty := .int) (upd (Y 2 g0 0) 7 ((Y 2 g0 0 7) &&& ((1 <<< (a1 &&& 31)) ^^^ ((-1))))) ly_X8_discard_8 rfl tyX8_ok nmX8 (hG _ (List.mem_of_getElem? (i := 0) rfl)) (of2_0 _) (ce2 T ad _ _) (by decide) (cx_ts C _ fl_X8_discard_56) (fun _ h => h) rfl (by decide +kernel) rfl rfl (Nat.le_of_ble_eq_true rfl) (ce2_put7 T ad _ _ _) dX8_discard_18 ?_
  refine fw_mem ((up_eq _ _ _ _ _ _).symm.trans e5) ?_
  refine fw_aload_n C dX8_discard_21 rfl 1 rfl ?_
  refine fw_get C (ci := 6) (Cn := RX8) (Tc := TX8) (N := 15) (j := 11) ly_X8_discard_8 rfl (hG _ (List.mem_of_getElem? (i := 0) rfl)) (of2_0 _) (ce2 T ad _ _) (by decide) (cx_ts C _ fl_X8_discard_18) (fun _ h => h) (v := .ref (ad 2 g0 3)) rfl dX8_discard_22 ?_
  refine fw_iload_n C dX8_discard_25 rfl 2 rfl ?_
  refine fw_iconst C dX8_discard_26 (v := 0) rfl ?_
  obtain ⟨Y6, e7, h⟩ := lt_some h
  refine fw_iast2 C (hG _ (List.mem_of_getElem? (i := 0) rfl)) (of2_3 _) (ca2_3 T ad _) b1 (Nat.le_of_ble_eq_true rfl) dX8_discard_27 ?_
  refine fw_mem e7 ?_
  refine fw_iload_n C dX8_discard_28 rfl 0 rfl ?_
  exact fw_iret C hrt Y6 (Option.some.inj h) (fun t ht => ht) dX8_discard_29
end
set_option maxRecDepth 100000 in
set_option maxHeartbeats 4000000 in
theorem c_X8_discard {l : Launch} {N0 : Nat} {T : Nat → ClassId} {D : va_G} {gr : List (Nat × Nat)} {ad : Nat → Nat → Nat → Nat} {Y : Mem} {g0 : Nat} {a1 : Int32} {res : Int32 × Mem} (hG : ∀ q ∈ [(2, g0)], q ∈ gr) (h : X8_discard Y g0 a1 = some res) : CI l yX8_discard wsX8_discard (Rm 0) N0 T D gr ad Y [.ref (ad 2 g0 0), .int a1] (fun r Y1 => (r, Y1) = res) :=
  fw_body (by decide +kernel) rfl (Nat.le_of_ble_eq_true rfl) (fun p e s m below meth c C hrt => w_X8_discard C hrt hG  h)
theorem fl_X11_carryOut_439 : Cond.fieldLink RX11 439 "RecipeScheduler$1" "$SwitchMap$RecipeScheduler$Command" "[I" ∈ wsX11_carryOut := by decide +kernel
theorem ly_X11_carryOut_11 : ∀ w ∈ u_ws RX11 TX11 11, w ∈ wsX11_carryOut := by decide +kernel
theorem fl_X11_carryOut_67 : Cond.fieldLink RX11 67 "RecipeScheduler" "now" "LRecipeScheduler$Kitchen;" ∈ wsX11_carryOut := by decide +kernel
theorem ly_X11_carryOut_3 : ∀ w ∈ u_ws RX3 TX3 5, w ∈ wsX11_carryOut := by decide +kernel
theorem ly_X11_carryOut_8 : ∀ w ∈ u_ws RX8 TX8 15, w ∈ wsX11_carryOut := by decide +kernel
section
variable {p : Program} {l : Launch} {e : Env} {s : State} {m : MethodId} {below : List Frame} {meth : Method} {c : Code} {N0 : Nat} {T : Nat → ClassId} {D : va_G} {gr : List (Nat × Nat)} {ad : Nat → Nat → Nat → Nat}
set_option maxRecDepth 100000 in
set_option maxHeartbeats 4000000 in
theorem w_X11_carryOut {Y : Mem} {w1 : Nat} {a2 : Int32} {a3 : Int32} (C : Cx p s m [.ref (ad 0 0 0), .ref (ad 20 w1 0), .int a2, .int a3].toArray meth c cX11_carryOut 4 wsX11_carryOut RX11 N0 T D gr ad) (hrt : meth.sig.returnType = none) (hG : ∀ q ∈ ([(0, 0), (1, 0), (2, 0)] ++ allG), q ∈ gr) {res : Mem} (h : X11_carryOut Y w1 a2 a3 = some res) : FW p l e (Rm 5) s m [.ref (ad 0 0 0), .ref (ad 20 w1 0), .int a2, .int a3].toArray below meth c 4 N0 T D gr ad 0 0 (MQ below (va_Qv (fun Y1 => Y1 = res) (WB T D gr ad) (fun q => N0 ≤ q)) [.ref (ad 0 0 0), .ref (ad 20 w1 0), .int a2, .int a3].toArray s 0 0 (fun q => N0 ≤ q)) Y 0 [(0, .ref (ad 0 0 0)), (1, .ref (ad 20 w1 0)), (2, .int a2), (3, .int a3)] [] := by
  unfold X11_carryOut at h
  refine fw_gets C (v := .ref (ad 25 0 0)) (cx_st C).2.2.2.2.1.1 (cx_ts C _ fl_X11_carryOut_439) (fun _ h => h) dX11_carryOut_0 ?_
  refine fw_aload_n C dX11_carryOut_3 rfl 1 rfl ?_
  obtain ⟨b1, h⟩ := gd_some h
  have b1 := of_decide_eq_true b1
  refine fw_callUi C (Cn := RX1) (As := []) (c_ordinal ga0 b1) (va_cwU 0 (cx_ts C) gX11_carryOut_Jx29ce0_ordinal_8abf5_u444X1 rfl rfl rfl rfl (by decide +kernel) ⟨Nat.le_of_ble_eq_true rfl, Nat.le_of_ble_eq_true rfl⟩) ((cx_st C).2.2.1 _ b1).1 rfl (st := [.ref (ad 25 0 0)]) rfl (Nat.le_of_ble_eq_true rfl) ⟨Nat.le_refl 0, Nat.le_refl 0⟩ dX11_carryOut_4 (pp2 ?_)
  obtain ⟨b2, h⟩ := gd_some h
  refine fw_ti C (cx_st C).2.2.2.2.1.2 b2 (v := .int (sSw (ix ((Int32.ofNat w1))))) rfl dX11_carryOut_7 ?_
  by_cases c3 : (sSw (ix ((Int32.ofNat w1)))) = 1
  · have h := ite_t c3 h
    refine fw_tableIn C dX11_carryOut_8 (by rw [c3]; decide) (by rw [c3]; decide) (off := 44) (by rw [c3]; rfl) (tgt := 52) rfl ?_
    refine fw_aload_n C dX11_carryOut_52 rfl 0 rfl ?_
    refine fw_get C (ci := 9) (Cn := RX11) (Tc := TX11) (N := 11) (j := 5) ly_X11_carryOut_11 rfl (hG _ (List.mem_of_getElem? (i := 0) rfl)) (of0_0 _) (ce0 T ad _ _) (by decide) (cx_ts C _ fl_X11_carryOut_67) (fun _ h => h) (v := .ref (ad 1 0 0)) rfl dX11_carryOut_53 ?_
    refine fw_iload_n C dX11_carryOut_56 rfl 3 rfl ?_
    obtain ⟨r4, Y6, q5, h⟩ := bd2_some h
    refine fw_callVi C (ci := 1) (Cn := RX3) (Tc := TX3) (N := 5) (As := [.int a3]) (c_X3_runMinutes (gac (hG _ (List.mem_of_getElem? (i := 2) rfl)) (gac (hG _ (List.mem_of_getElem? (i := 1) rfl)) (fun q hq => hG q (List.mem_append_right _ hq)))) q5) (cwV 1 (cx_ts C) gX11_carryOut_X3_runMinutes rfl rfl rfl (by decide +kernel) ⟨Nat.le_of_ble_eq_true rfl, Nat.le_of_ble_eq_true rfl⟩) rfl (hG _ (List.mem_of_getElem? (i := 1) rfl)) (of1_0 _) (ce1 T ad _ _) rfl (st := []) rfl (Nat.le_of_ble_eq_true rfl) ⟨Nat.le_refl 0, Nat.le_refl 0⟩ dX11_carryOut_57 (ppw ?_)
    refine fw_pop C dX11_carryOut_60 rfl ?_
    refine fw_goto C dX11_carryOut_61 (tgt := 173) rfl ?_
    exact fw_vret C hrt Y6 (Option.some.inj h) (fun t ht => ht) dX11_carryOut_173
  · have h := ite_f c3 h
    by_cases c7 : (sSw (ix ((Int32.ofNat w1)))) = 2
    · have h := ite_t c7 h
      refine fw_tableIn C dX11_carryOut_8 (by rw [c7]; decide) (by rw [c7]; decide) (off := 56) (by rw [c7]; rfl) (tgt := 64) rfl ?_
      refine fw_aload_n C dX11_carryOut_64 rfl 0 rfl ?_
      refine fw_get C (ci := 9) (Cn := RX11) (Tc := TX11) (N := 11) (j := 5) ly_X11_carryOut_11 rfl (hG _ (List.mem_of_getElem? (i := 0) rfl)) (of0_0 _) (ce0 T ad _ _) (by decide) (cx_ts C _ fl_X11_carryOut_67) (fun _ h => h) (v := .ref (ad 1 0 0)) rfl dX11_carryOut_65 ?_
      refine fw_getN C (ci := 1) (Cn := RX3) (Tc := TX3) (N := 5) (j := 1) ly_X11_carryOut_3 rfl (hG _ (List.mem_of_getElem? (i := 1) rfl)) (of1_0 _) (ce1 T ad _ _) (by decide) (Nst_use (cx_nst C) (w := .fieldLinkNest RX11 139 "RecipeScheduler$Kitchen" "state" "LRecipeScheduler$State;" "RecipeScheduler") 518 (by decide +kernel) rfl) (fun _ h => h) (v := .ref (ad 2 0 0)) rfl dX11_carryOut_68 ?_
      refine fw_dup C dX11_carryOut_71 rfl ?_
      refine fw_getN C (ci := 6) (Cn := RX8) (Tc := TX8) (N := 15) (j := 2) ly_X11_carryOut_8 rfl (hG _ (List.mem_of_getElem? (i := 2) rfl)) (of2_0 _) (ce2 T ad _ _) (by decide) (Nst_use (cx_nst C) (w := .fieldLinkNest RX11 149 "RecipeScheduler$State" "salt" "I" "RecipeScheduler") 441 (by decide +kernel) rfl) (fun _ h => h) (v := .int (Y 2 0 0 2)) rfl dX11_carryOut_72 ?_
      refine fw_iload_n C dX11_carryOut_75 rfl 3 rfl ?_
      refine fw_iadd C dX11_carryOut_76 ?_
      obtain ⟨Y8, e9, h⟩ := lt_some h
      refine fw_putN C (ci := 6) (Cn := RX8) (Tc := TX8) (N := 15) (j := 2) (ty := .int) (upd (Y 2 0 0) 2 ((Y 2 0 0 2) + a3)) ly_X11_carryOut_8 rfl tyX8_ok nmX8 (hG _ (List.mem_of_getElem? (i := 2) rfl)) (of2_0 _) (ce2 T ad _ _) (by decide) (Nst_use (cx_nst C) (w := .fieldLinkNest RX11 149 "RecipeScheduler$State" "salt" "I" "RecipeScheduler") 441 (by decide +kernel) rfl) (fun _ h => h) rfl (by decide +kernel) rfl rfl (Nat.le_of_ble_eq_true rfl) (ce2_put2 T ad _ _ _) dX11_carryOut_77 ?_
      refine fw_mem ((up_eq _ _ _ _ _ _).symm.trans e9) ?_
      refine fw_goto C dX11_carryOut_80 (tgt := 173) rfl ?_
      exact fw_vret C hrt Y8 (Option.some.inj h) (fun t ht => ht) dX11_carryOut_173
    · have h := ite_f c7 h
      by_cases c10 : (sSw (ix ((Int32.ofNat w1)))) = 3
      · have h := ite_t c10 h
        refine fw_tableIn C dX11_carryOut_8 (by rw [c10]; decide) (by rw [c10]; decide) (off := 75) (by rw [c10]; rfl) (tgt := 83) rfl ?_
        refine fw_aload_n C dX11_carryOut_83 rfl 0 rfl ?_
        refine fw_get C (ci := 9) (Cn := RX11) (Tc := TX11) (N := 11) (j := 5) ly_X11_carryOut_11 rfl (hG _ (List.mem_of_getElem? (i := 0) rfl)) (of0_0 _) (ce0 T ad _ _) (by decide) (cx_ts C _ fl_X11_carryOut_67) (fun _ h => h) (v := .ref (ad 1 0 0)) rfl dX11_carryOut_84 ?_
        refine fw_getN C (ci := 1) (Cn := RX3) (Tc := TX3) (N := 5) (j := 1) ly_X11_carryOut_3 rfl (hG _ (List.mem_of_getElem? (i := 1) rfl)) (of1_0 _) (ce1 T ad _ _) (by decide) (Nst_use (cx_nst C) (w := .fieldLinkNest RX11 139 "RecipeScheduler$Kitchen" "state" "LRecipeScheduler$State;" "RecipeScheduler") 518 (by decide +kernel) rfl) (fun _ h => h) (v := .ref (ad 2 0 0)) rfl dX11_carryOut_87 ?_
        refine fw_dup C dX11_carryOut_90 rfl ?_
        refine fw_getN C (ci := 6) (Cn := RX8) (Tc := TX8) (N := 15) (j := 2) ly_X11_carryOut_8 rfl (hG _ (List.mem_of_getElem? (i := 2) rfl)) (of2_0 _) (ce2 T ad _ _) (by decide) (Nst_use (cx_nst C) (w := .fieldLinkNest RX11 149 "RecipeScheduler$State" "salt" "I" "RecipeScheduler") 441 (by decide +kernel) rfl) (fun _ h => h) (v := .int (Y 2 0 0 2)) rfl dX11_carryOut_91 ?_
        refine fw_iload_n C dX11_carryOut_94 rfl 3 rfl ?_
        refine fw_isub C dX11_carryOut_95 ?_
        obtain ⟨Y11, e12, h⟩ := lt_some h
        refine fw_putN C (ci := 6) (Cn := RX8) (Tc := TX8) (N := 15) (j := 2) (ty := .int) (upd (Y 2 0 0) 2 ((Y 2 0 0 2) - a3)) ly_X11_carryOut_8 rfl tyX8_ok nmX8 (hG _ (List.mem_of_getElem? (i := 2) rfl)) (of2_0 _) (ce2 T ad _ _) (by decide) (Nst_use (cx_nst C) (w := .fieldLinkNest RX11 149 "RecipeScheduler$State" "salt" "I" "RecipeScheduler") 441 (by decide +kernel) rfl) (fun _ h => h) rfl (by decide +kernel) rfl rfl (Nat.le_of_ble_eq_true rfl) (ce2_put2 T ad _ _ _) dX11_carryOut_96 ?_
        refine fw_mem ((up_eq _ _ _ _ _ _).symm.trans e12) ?_
        refine fw_goto C dX11_carryOut_99 (tgt := 173) rfl ?_
        exact fw_vret C hrt Y11 (Option.some.inj h) (fun t ht => ht) dX11_carryOut_173
      · have h := ite_f c10 h
        by_cases c13 : (sSw (ix ((Int32.ofNat w1)))) = 4
        · have h := ite_t c13 h
          refine fw_tableIn C dX11_carryOut_8 (by rw [c13]; decide) (by rw [c13]; decide) (off := 94) (by rw [c13]; rfl) (tgt := 102) rfl ?_
          refine fw_aload_n C dX11_carryOut_102 rfl 0 rfl ?_
          refine fw_get C (ci := 9) (Cn := RX11) (Tc := TX11) (N := 11) (j := 5) ly_X11_carryOut_11 rfl (hG _ (List.mem_of_getElem? (i := 0) rfl)) (of0_0 _) (ce0 T ad _ _) (by decide) (cx_ts C _ fl_X11_carryOut_67) (fun _ h => h) (v := .ref (ad 1 0 0)) rfl dX11_carryOut_103 ?_
          refine fw_getN C (ci := 1) (Cn := RX3) (Tc := TX3) (N := 5) (j := 1) ly_X11_carryOut_3 rfl (hG _ (List.mem_of_getElem? (i := 1) rfl)) (of1_0 _) (ce1 T ad _ _) (by decide) (Nst_use (cx_nst C) (w := .fieldLinkNest RX11 139 "RecipeScheduler$Kitchen" "state" "LRecipeScheduler$State;" "RecipeScheduler") 518 (by decide +kernel) rfl) (fun _ h => h) (v := .ref (ad 2 0 0)) rfl dX11_carryOut_106 ?_
          refine fw_iload_n C dX11_carryOut_109 rfl 2 rfl ?_
          obtain ⟨r14, Y16, q15, h⟩ := bd2_some h
          refine fw_callVi C (ci := 6) (Cn := RX8) (Tc := TX8) (N := 15) (As := [.int a2]) (c_X8_halt (gac (hG _ (List.mem_of_getElem? (i := 2) rfl)) ga0) q15) (cwV 1 (cx_ts C) gX11_carryOut_X8_halt rfl rfl rfl (by decide +kernel) ⟨Nat.le_of_ble_eq_true rfl, Nat.le_of_ble_eq_true rfl⟩) rfl (hG _ (List.mem_of_getElem? (i := 2) rfl)) (of2_0 _) (ce2 T ad _ _) rfl (st := []) rfl (Nat.le_of_ble_eq_true rfl) ⟨Nat.le_refl 0, Nat.le_refl 0⟩ dX11_carryOut_110 (ppw ?_)
          refine fw_pop C dX11_carryOut_113 rfl ?_
          refine fw_goto C dX11_carryOut_114 (tgt := 173) rfl ?_
          exact fw_vret C hrt Y16 (Option.some.inj h) (fun t ht => ht) dX11_carryOut_173
        · have h := ite_f c13 h
          by_cases c17 : (sSw (ix ((Int32.ofNat w1)))) = 5
          · have h := ite_t c17 h
            refine fw_tableIn C dX11_carryOut_8 (by rw [c17]; decide) (by rw [c17]; decide) (off := 109) (by rw [c17]; rfl) (tgt := 117) rfl ?_
            refine fw_aload_n C dX11_carryOut_117 rfl 0 rfl ?_
            refine fw_get C (ci := 9) (Cn := RX11) (Tc := TX11) (N := 11) (j := 5) ly_X11_carryOut_11 rfl (hG _ (List.mem_of_getElem? (i := 0) rfl)) (of0_0 _) (ce0 T ad _ _) (by decide) (cx_ts C _ fl_X11_carryOut_67) (fun _ h => h) (v := .ref (ad 1 0 0)) rfl dX11_carryOut_118 ?_
            refine fw_getN C (ci := 1) (Cn := RX3) (Tc := TX3) (N := 5) (j := 1) ly_X11_carryOut_3 rfl (hG _ (List.mem_of_getElem? (i := 1) rfl)) (of1_0 _) (ce1 T ad _ _) (by decide) (Nst_use (cx_nst C) (w := .fieldLinkNest RX11 139 "RecipeScheduler$Kitchen" "state" "LRecipeScheduler$State;" "RecipeScheduler") 518 (by decide +kernel) rfl) (fun _ h => h) (v := .ref (ad 2 0 0)) rfl dX11_carryOut_121 ?_
            refine fw_iload_n C dX11_carryOut_124 rfl 2 rfl ?_
            obtain ⟨r18, Y20, q19, h⟩ := bd2_some h
            refine fw_callVi C (ci := 6) (Cn := RX8) (Tc := TX8) (N := 15) (As := [.int a2]) (c_X8_discard (gac (hG _ (List.mem_of_getElem? (i := 2) rfl)) ga0) q19) (cwV 1 (cx_ts C) gX11_carryOut_X8_discard rfl rfl rfl (by decide +kernel) ⟨Nat.le_of_ble_eq_true rfl, Nat.le_of_ble_eq_true rfl⟩) rfl (hG _ (List.mem_of_getElem? (i := 2) rfl)) (of2_0 _) (ce2 T ad _ _) rfl (st := []) rfl (Nat.le_of_ble_eq_true rfl) ⟨Nat.le_refl 0, Nat.le_refl 0⟩ dX11_carryOut_125 (ppw ?_)
            refine fw_pop C dX11_carryOut_128 rfl ?_
            refine fw_goto C dX11_carryOut_129 (tgt := 173) rfl ?_
            exact fw_vret C hrt Y20 (Option.some.inj h) (fun t ht => ht) dX11_carryOut_173
          · have h := ite_f c17 h
            by_cases c21 : (sSw (ix ((Int32.ofNat w1)))) = 6
            · have h := ite_t c21 h
              refine fw_tableIn C dX11_carryOut_8 (by rw [c21]; decide) (by rw [c21]; decide) (off := 124) (by rw [c21]; rfl) (tgt := 132) rfl ?_
              refine fw_aload_n C dX11_carryOut_132 rfl 0 rfl ?_
              refine fw_get C (ci := 9) (Cn := RX11) (Tc := TX11) (N := 11) (j := 5) ly_X11_carryOut_11 rfl (hG _ (List.mem_of_getElem? (i := 0) rfl)) (of0_0 _) (ce0 T ad _ _) (by decide) (cx_ts C _ fl_X11_carryOut_67) (fun _ h => h) (v := .ref (ad 1 0 0)) rfl dX11_carryOut_133 ?_
              refine fw_getN C (ci := 1) (Cn := RX3) (Tc := TX3) (N := 5) (j := 1) ly_X11_carryOut_3 rfl (hG _ (List.mem_of_getElem? (i := 1) rfl)) (of1_0 _) (ce1 T ad _ _) (by decide) (Nst_use (cx_nst C) (w := .fieldLinkNest RX11 139 "RecipeScheduler$Kitchen" "state" "LRecipeScheduler$State;" "RecipeScheduler") 518 (by decide +kernel) rfl) (fun _ h => h) (v := .ref (ad 2 0 0)) rfl dX11_carryOut_136 ?_
              refine fw_iload_n C dX11_carryOut_139 rfl 3 rfl ?_
              obtain ⟨Y22, e23, h⟩ := lt_some h
              refine fw_putN C (ci := 6) (Cn := RX8) (Tc := TX8) (N := 15) (j := 0) (ty := .int) (upd (Y 2 0 0) 0 a3) ly_X11_carryOut_8 rfl tyX8_ok nmX8 (hG _ (List.mem_of_getElem? (i := 2) rfl)) (of2_0 _) (ce2 T ad _ _) (by decide) (Nst_use (cx_nst C) (w := .fieldLinkNest RX11 143 "RecipeScheduler$State" "cooks" "I" "RecipeScheduler") 435 (by decide +kernel) rfl) (fun _ h => h) rfl (by decide +kernel) rfl rfl (Nat.le_of_ble_eq_true rfl) (ce2_put0 T ad _ _ _) dX11_carryOut_140 ?_
              refine fw_mem ((up_eq _ _ _ _ _ _).symm.trans e23) ?_
              refine fw_goto C dX11_carryOut_143 (tgt := 173) rfl ?_
              exact fw_vret C hrt Y22 (Option.some.inj h) (fun t ht => ht) dX11_carryOut_173
            · have h := ite_f c21 h
              by_cases c24 : (sSw (ix ((Int32.ofNat w1)))) = 7
              · have h := ite_t c24 h
                refine fw_tableIn C dX11_carryOut_8 (by rw [c24]; decide) (by rw [c24]; decide) (off := 138) (by rw [c24]; rfl) (tgt := 146) rfl ?_
                refine fw_aload_n C dX11_carryOut_146 rfl 0 rfl ?_
                refine fw_get C (ci := 9) (Cn := RX11) (Tc := TX11) (N := 11) (j := 5) ly_X11_carryOut_11 rfl (hG _ (List.mem_of_getElem? (i := 0) rfl)) (of0_0 _) (ce0 T ad _ _) (by decide) (cx_ts C _ fl_X11_carryOut_67) (fun _ h => h) (v := .ref (ad 1 0 0)) rfl dX11_carryOut_147 ?_
                refine fw_getN C (ci := 1) (Cn := RX3) (Tc := TX3) (N := 5) (j := 1) ly_X11_carryOut_3 rfl (hG _ (List.mem_of_getElem? (i := 1) rfl)) (of1_0 _) (ce1 T ad _ _) (by decide) (Nst_use (cx_nst C) (w := .fieldLinkNest RX11 139 "RecipeScheduler$Kitchen" "state" "LRecipeScheduler$State;" "RecipeScheduler") 518 (by decide +kernel) rfl) (fun _ h => h) (v := .ref (ad 2 0 0)) rfl dX11_carryOut_150 ?_
                refine fw_getN C (ci := 6) (Cn := RX8) (Tc := TX8) (N := 15) (j := 9) ly_X11_carryOut_8 rfl (hG _ (List.mem_of_getElem? (i := 2) rfl)) (of2_0 _) (ce2 T ad _ _) (by decide) (Nst_use (cx_nst C) (w := .fieldLinkNest RX11 196 "RecipeScheduler$State" "duration" "[I" "RecipeScheduler") 461 (by decide +kernel) rfl) (fun _ h => h) (v := .ref (ad 2 0 1)) rfl dX11_carryOut_153 ?_
                refine fw_iload_n C dX11_carryOut_156 rfl 2 rfl ?_
                refine fw_iload_n C dX11_carryOut_157 rfl 3 rfl ?_
                obtain ⟨b25, h⟩ := gd_some h
                obtain ⟨Y26, e27, h⟩ := lt_some h
                refine fw_iast2 C (hG _ (List.mem_of_getElem? (i := 2) rfl)) (of2_1 _) (ca2_1 T ad _) b25 (Nat.le_of_ble_eq_true rfl) dX11_carryOut_158 ?_
                refine fw_mem e27 ?_
                refine fw_goto C dX11_carryOut_159 (tgt := 173) rfl ?_
                exact fw_vret C hrt Y26 (Option.some.inj h) (fun t ht => ht) dX11_carryOut_173
              · have h := ite_f c24 h
                have c3 : ¬ ((sSw (ix ((Int32.ofNat w1))))).toInt = 1 := fun q => c3 (Int32.toInt_inj.mp (by rw [q]; rfl))
                have c7 : ¬ ((sSw (ix ((Int32.ofNat w1))))).toInt = 2 := fun q => c7 (Int32.toInt_inj.mp (by rw [q]; rfl))
                have c10 : ¬ ((sSw (ix ((Int32.ofNat w1))))).toInt = 3 := fun q => c10 (Int32.toInt_inj.mp (by rw [q]; rfl))
                have c13 : ¬ ((sSw (ix ((Int32.ofNat w1))))).toInt = 4 := fun q => c13 (Int32.toInt_inj.mp (by rw [q]; rfl))
                have c17 : ¬ ((sSw (ix ((Int32.ofNat w1))))).toInt = 5 := fun q => c17 (Int32.toInt_inj.mp (by rw [q]; rfl))
                have c21 : ¬ ((sSw (ix ((Int32.ofNat w1))))).toInt = 6 := fun q => c21 (Int32.toInt_inj.mp (by rw [q]; rfl))
                have c24 : ¬ ((sSw (ix ((Int32.ofNat w1))))).toInt = 7 := fun q => c24 (Int32.toInt_inj.mp (by rw [q]; rfl))
                refine fw_tableOut C dX11_carryOut_8 (by omega) (tgt := 162) rfl ?_
                refine fw_aload_n C dX11_carryOut_162 rfl 0 rfl ?_
                refine fw_get C (ci := 9) (Cn := RX11) (Tc := TX11) (N := 11) (j := 5) ly_X11_carryOut_11 rfl (hG _ (List.mem_of_getElem? (i := 0) rfl)) (of0_0 _) (ce0 T ad _ _) (by decide) (cx_ts C _ fl_X11_carryOut_67) (fun _ h => h) (v := .ref (ad 1 0 0)) rfl dX11_carryOut_163 ?_
                refine fw_getN C (ci := 1) (Cn := RX3) (Tc := TX3) (N := 5) (j := 1) ly_X11_carryOut_3 rfl (hG _ (List.mem_of_getElem? (i := 1) rfl)) (of1_0 _) (ce1 T ad _ _) (by decide) (Nst_use (cx_nst C) (w := .fieldLinkNest RX11 139 "RecipeScheduler$Kitchen" "state" "LRecipeScheduler$State;" "RecipeScheduler") 518 (by decide +kernel) rfl) (fun _ h => h) (v := .ref (ad 2 0 0)) rfl dX11_carryOut_166 ?_
                refine fw_iconst C dX11_carryOut_169 (v := 1) rfl ?_
                obtain ⟨Y28, e29, h⟩ := lt_some h
                refine fw_putN C (ci := 6) (Cn := RX8) (Tc := TX8) (N := 15) (j := 5) (ty := .boolean) (upd (Y 2 0 0) 5 1) ly_X11_carryOut_8 rfl tyX8_ok nmX8 (hG _ (List.mem_of_getElem? (i := 2) rfl)) (of2_0 _) (ce2 T ad _ _) (by decide) (Nst_use (cx_nst C) (w := .fieldLinkNest RX11 347 "RecipeScheduler$State" "served" "Z" "RecipeScheduler") 450 (by decide +kernel) rfl) (fun _ h => h) rfl (by decide +kernel) rfl rfl (Nat.le_of_ble_eq_true rfl) (ce2_put5 T ad _ _ _) dX11_carryOut_170 ?_
                refine fw_mem ((up_eq _ _ _ _ _ _).symm.trans e29) ?_
                exact fw_vret C hrt Y28 (Option.some.inj h) (fun t ht => ht) dX11_carryOut_173
end
set_option maxRecDepth 100000 in
set_option maxHeartbeats 4000000 in
theorem c_X11_carryOut {l : Launch} {N0 : Nat} {T : Nat → ClassId} {D : va_G} {gr : List (Nat × Nat)} {ad : Nat → Nat → Nat → Nat} {Y : Mem} {w1 : Nat} {a2 : Int32} {a3 : Int32} {res : Mem} (hG : ∀ q ∈ ([(0, 0), (1, 0), (2, 0)] ++ allG), q ∈ gr) (h : X11_carryOut Y w1 a2 a3 = some res) : CV l yX11_carryOut wsX11_carryOut (Rm 5) N0 T D gr ad Y [.ref (ad 0 0 0), .ref (ad 20 w1 0), .int a2, .int a3] (fun Y1 => Y1 = res) :=
  fw_body (by decide +kernel) rfl (Nat.le_of_ble_eq_true rfl) (fun p e s m below meth c C hrt => w_X11_carryOut C hrt hG  h)
theorem ly_X11_completions_11 : ∀ w ∈ u_ws RX11 TX11 11, w ∈ wsX11_completions := by decide +kernel
theorem fl_X11_completions_67 : Cond.fieldLink RX11 67 "RecipeScheduler" "now" "LRecipeScheduler$Kitchen;" ∈ wsX11_completions := by decide +kernel
theorem ly_X11_completions_3 : ∀ w ∈ u_ws RX3 TX3 5, w ∈ wsX11_completions := by decide +kernel
theorem ly_X11_completions_8 : ∀ w ∈ u_ws RX8 TX8 15, w ∈ wsX11_completions := by decide +kernel
theorem ly_X11_completions_5 : ∀ w ∈ u_ws RX5 TX5 17, w ∈ wsX11_completions := by decide +kernel
theorem ly_X11_completions_4 : ∀ w ∈ u_ws RX4 TX4 3, w ∈ wsX11_completions := by decide +kernel
section
variable {p : Program} {l : Launch} {e : Env} {s : State} {m : MethodId} {below : List Frame} {meth : Method} {c : Code} {N0 : Nat} {T : Nat → ClassId} {D : va_G} {gr : List (Nat × Nat)} {ad : Nat → Nat → Nat → Nat}
set_option maxRecDepth 100000 in
set_option maxHeartbeats 4000000 in
theorem w_X11_completions {Y : Mem} (C : Cx p s m [.ref (ad 0 0 0)].toArray meth c cX11_completions 1 wsX11_completions RX11 N0 T D gr ad) (hrt : meth.sig.returnType = (some .int)) (hG : ∀ q ∈ ([(0, 0), (1, 0), (2, 0)] ++ allG), q ∈ gr) {res : Int32} (h : X11_completions Y = some res) : FW p l e (Rm 1) s m [.ref (ad 0 0 0)].toArray below meth c 1 N0 T D gr ad 0 0 (MQ below (va_Qi (fun r Y1 => r = res ∧ Y1 = Y) (WB T D gr ad) (fun q => N0 ≤ q)) [.ref (ad 0 0 0)].toArray s 0 0 (fun q => N0 ≤ q)) Y 0 [(0, .ref (ad 0 0 0))] [] := by
  unfold X11_completions at h
  refine fw_aload_n C dX11_completions_0 rfl 0 rfl ?_
  refine fw_get C (ci := 9) (Cn := RX11) (Tc := TX11) (N := 11) (j := 5) ly_X11_completions_11 rfl (hG _ (List.mem_of_getElem? (i := 0) rfl)) (of0_0 _) (ce0 T ad _ _) (by decide) (cx_ts C _ fl_X11_completions_67) (fun _ h => h) (v := .ref (ad 1 0 0)) rfl dX11_completions_1 ?_
  refine fw_getN C (ci := 1) (Cn := RX3) (Tc := TX3) (N := 5) (j := 1) ly_X11_completions_3 rfl (hG _ (List.mem_of_getElem? (i := 1) rfl)) (of1_0 _) (ce1 T ad _ _) (by decide) (Nst_use (cx_nst C) (w := .fieldLinkNest RX11 139 "RecipeScheduler$Kitchen" "state" "LRecipeScheduler$State;" "RecipeScheduler") 518 (by decide +kernel) rfl) (fun _ h => h) (v := .ref (ad 2 0 0)) rfl dX11_completions_4 ?_
  refine fw_getN C (ci := 6) (Cn := RX8) (Tc := TX8) (N := 15) (j := 13) ly_X11_completions_8 rfl (hG _ (List.mem_of_getElem? (i := 2) rfl)) (of2_0 _) (ce2 T ad _ _) (by decide) (Nst_use (cx_nst C) (w := .fieldLinkNest RX11 170 "RecipeScheduler$State" "completions" "[I" "RecipeScheduler") 471 (by decide +kernel) rfl) (fun _ h => h) (v := .ref (ad 2 0 5)) rfl dX11_completions_7 ?_
  refine fw_aload_n C dX11_completions_10 rfl 0 rfl ?_
  refine fw_get C (ci := 9) (Cn := RX11) (Tc := TX11) (N := 11) (j := 5) ly_X11_completions_11 rfl (hG _ (List.mem_of_getElem? (i := 0) rfl)) (of0_0 _) (ce0 T ad _ _) (by decide) (cx_ts C _ fl_X11_completions_67) (fun _ h => h) (v := .ref (ad 1 0 0)) rfl dX11_completions_11 ?_
  refine fw_getN C (ci := 1) (Cn := RX3) (Tc := TX3) (N := 5) (j := 0) ly_X11_completions_3 rfl (hG _ (List.mem_of_getElem? (i := 1) rfl)) (of1_0 _) (ce1 T ad _ _) (by decide) (Nst_use (cx_nst C) (w := .fieldLinkNest RX11 117 "RecipeScheduler$Kitchen" "recipe" "LRecipeScheduler$Recipe;" "RecipeScheduler") 516 (by decide +kernel) rfl) (fun _ h => h) (v := .ref (ad 3 ((Y 1 0 0 0).toNatClampNeg) 0)) rfl dX11_completions_14 ?_
  obtain ⟨b1, h⟩ := gd_some h
  have b1 := of_decide_eq_true b1
  refine fw_getN C (ci := 3) (Cn := RX5) (Tc := TX5) (N := 17) (j := 7) ly_X11_completions_5 rfl ((fun q hq => hG q (List.mem_append_right _ hq)) _ (allG_3 b1)) (of3_0 _) (ce3 T ad _ _) (by decide) (Nst_use (cx_nst C) (w := .fieldLinkNest RX11 126 "RecipeScheduler$Recipe" "steps" "LRecipeScheduler$Names;" "RecipeScheduler") 146 (by decide +kernel) rfl) (fun _ h => h) (v := .ref (ad 4 (2*((Y 1 0 0 0).toNatClampNeg)+1) 0)) rfl dX11_completions_17 ?_
  obtain ⟨b2, h⟩ := gd_some h
  have b2 := of_decide_eq_true b2
  refine fw_getN C (ci := 2) (Cn := RX4) (Tc := TX4) (N := 3) (j := 2) ly_X11_completions_4 rfl ((fun q hq => hG q (List.mem_append_right _ hq)) _ (allG_4b b2)) (of4_0 _) (ce4 T ad _ _) (by decide) (Nst_use (cx_nst C) (w := .fieldLinkNest RX11 130 "RecipeScheduler$Names" "count" "I" "RecipeScheduler") 113 (by decide +kernel) rfl) (fun _ h => h) (v := .int (Y 4 (2*((Y 1 0 0 0).toNatClampNeg)+1) 0 2)) rfl dX11_completions_20 ?_
  obtain ⟨r3, q4, h⟩ := bd1_some h
  refine fw_callSi C (As := [.ref (ad 2 0 5), .int (Y 4 (2*((Y 1 0 0 0).toNatClampNeg)+1) 0 2)]) (c_X11_sum (gac (hG _ (List.mem_of_getElem? (i := 2) rfl)) ga0) (ca2_5 T ad _) (of2_5 _) (Nat.le_of_ble_eq_true rfl) q4) (va_cwS 2 (cx_ts C) gX11_completions_X11_sum rfl rfl rfl (by decide +kernel) ⟨Nat.le_of_ble_eq_true rfl, Nat.le_of_ble_eq_true rfl⟩) rfl (st := []) rfl (Nat.le_of_ble_eq_true rfl) ⟨Nat.le_refl 0, Nat.le_refl 0⟩ dX11_completions_23 (pp2 ?_)
  exact fw_iret C hrt Y ⟨Option.some.inj h, rfl⟩ (fun t ht => ht) dX11_completions_26
end
set_option maxRecDepth 100000 in
set_option maxHeartbeats 4000000 in
theorem c_X11_completions {l : Launch} {N0 : Nat} {T : Nat → ClassId} {D : va_G} {gr : List (Nat × Nat)} {ad : Nat → Nat → Nat → Nat} {Y : Mem} {res : Int32} (hG : ∀ q ∈ ([(0, 0), (1, 0), (2, 0)] ++ allG), q ∈ gr) (h : X11_completions Y = some res) : CI l yX11_completions wsX11_completions (Rm 1) N0 T D gr ad Y [.ref (ad 0 0 0)] (fun r Y1 => r = res ∧ Y1 = Y) :=
  fw_body (by decide +kernel) rfl (Nat.le_of_ble_eq_true rfl) (fun p e s m below meth c C hrt => w_X11_completions C hrt hG  h)
theorem ly_X11_cookMinutes_11 : ∀ w ∈ u_ws RX11 TX11 11, w ∈ wsX11_cookMinutes := by decide +kernel
theorem fl_X11_cookMinutes_67 : Cond.fieldLink RX11 67 "RecipeScheduler" "now" "LRecipeScheduler$Kitchen;" ∈ wsX11_cookMinutes := by decide +kernel
theorem ly_X11_cookMinutes_3 : ∀ w ∈ u_ws RX3 TX3 5, w ∈ wsX11_cookMinutes := by decide +kernel
theorem ly_X11_cookMinutes_8 : ∀ w ∈ u_ws RX8 TX8 15, w ∈ wsX11_cookMinutes := by decide +kernel
section
variable {p : Program} {l : Launch} {e : Env} {s : State} {m : MethodId} {below : List Frame} {meth : Method} {c : Code} {N0 : Nat} {T : Nat → ClassId} {D : va_G} {gr : List (Nat × Nat)} {ad : Nat → Nat → Nat → Nat}
set_option maxRecDepth 100000 in
set_option maxHeartbeats 4000000 in
theorem w_X11_cookMinutes {Y : Mem} (C : Cx p s m [.ref (ad 0 0 0)].toArray meth c cX11_cookMinutes 1 wsX11_cookMinutes RX11 N0 T D gr ad) (hrt : meth.sig.returnType = (some .int)) (hG : ∀ q ∈ [(0, 0), (1, 0), (2, 0)], q ∈ gr) {res : Int32} (h : X11_cookMinutes Y = some res) : FW p l e (Rm 0) s m [.ref (ad 0 0 0)].toArray below meth c 1 N0 T D gr ad 0 0 (MQ below (va_Qi (fun r Y1 => r = res ∧ Y1 = Y) (WB T D gr ad) (fun q => N0 ≤ q)) [.ref (ad 0 0 0)].toArray s 0 0 (fun q => N0 ≤ q)) Y 0 [(0, .ref (ad 0 0 0))] [] := by
  unfold X11_cookMinutes at h
  refine fw_aload_n C dX11_cookMinutes_0 rfl 0 rfl ?_
  refine fw_get C (ci := 9) (Cn := RX11) (Tc := TX11) (N := 11) (j := 5) ly_X11_cookMinutes_11 rfl (hG _ (List.mem_of_getElem? (i := 0) rfl)) (of0_0 _) (ce0 T ad _ _) (by decide) (cx_ts C _ fl_X11_cookMinutes_67) (fun _ h => h) (v := .ref (ad 1 0 0)) rfl dX11_cookMinutes_1 ?_
  refine fw_getN C (ci := 1) (Cn := RX3) (Tc := TX3) (N := 5) (j := 1) ly_X11_cookMinutes_3 rfl (hG _ (List.mem_of_getElem? (i := 1) rfl)) (of1_0 _) (ce1 T ad _ _) (by decide) (Nst_use (cx_nst C) (w := .fieldLinkNest RX11 139 "RecipeScheduler$Kitchen" "state" "LRecipeScheduler$State;" "RecipeScheduler") 518 (by decide +kernel) rfl) (fun _ h => h) (v := .ref (ad 2 0 0)) rfl dX11_cookMinutes_4 ?_
  refine fw_getN C (ci := 6) (Cn := RX8) (Tc := TX8) (N := 15) (j := 3) ly_X11_cookMinutes_8 rfl (hG _ (List.mem_of_getElem? (i := 2) rfl)) (of2_0 _) (ce2 T ad _ _) (by decide) (Nst_use (cx_nst C) (w := .fieldLinkNest RX11 176 "RecipeScheduler$State" "cookMinutes" "I" "RecipeScheduler") 445 (by decide +kernel) rfl) (fun _ h => h) (v := .int (Y 2 0 0 3)) rfl dX11_cookMinutes_7 ?_
  exact fw_iret C hrt Y ⟨Option.some.inj h, rfl⟩ (fun t ht => ht) dX11_cookMinutes_10
end
set_option maxRecDepth 100000 in
set_option maxHeartbeats 4000000 in
theorem c_X11_cookMinutes {l : Launch} {N0 : Nat} {T : Nat → ClassId} {D : va_G} {gr : List (Nat × Nat)} {ad : Nat → Nat → Nat → Nat} {Y : Mem} {res : Int32} (hG : ∀ q ∈ [(0, 0), (1, 0), (2, 0)], q ∈ gr) (h : X11_cookMinutes Y = some res) : CI l yX11_cookMinutes wsX11_cookMinutes (Rm 0) N0 T D gr ad Y [.ref (ad 0 0 0)] (fun r Y1 => r = res ∧ Y1 = Y) :=
  fw_body (by decide +kernel) rfl (Nat.le_of_ble_eq_true rfl) (fun p e s m below meth c C hrt => w_X11_cookMinutes C hrt hG  h)
theorem ly_X11_cooks_11 : ∀ w ∈ u_ws RX11 TX11 11, w ∈ wsX11_cooks := by decide +kernel
theorem fl_X11_cooks_67 : Cond.fieldLink RX11 67 "RecipeScheduler" "now" "LRecipeScheduler$Kitchen;" ∈ wsX11_cooks := by decide +kernel
theorem ly_X11_cooks_3 : ∀ w ∈ u_ws RX3 TX3 5, w ∈ wsX11_cooks := by decide +kernel
theorem ly_X11_cooks_8 : ∀ w ∈ u_ws RX8 TX8 15, w ∈ wsX11_cooks := by decide +kernel
section
variable {p : Program} {l : Launch} {e : Env} {s : State} {m : MethodId} {below : List Frame} {meth : Method} {c : Code} {N0 : Nat} {T : Nat → ClassId} {D : va_G} {gr : List (Nat × Nat)} {ad : Nat → Nat → Nat → Nat}
set_option maxRecDepth 100000 in
set_option maxHeartbeats 4000000 in
theorem w_X11_cooks {Y : Mem} (C : Cx p s m [.ref (ad 0 0 0)].toArray meth c cX11_cooks 1 wsX11_cooks RX11 N0 T D gr ad) (hrt : meth.sig.returnType = (some .int)) (hG : ∀ q ∈ [(0, 0), (1, 0), (2, 0)], q ∈ gr) {res : Int32} (h : X11_cooks Y = some res) : FW p l e (Rm 0) s m [.ref (ad 0 0 0)].toArray below meth c 1 N0 T D gr ad 0 0 (MQ below (va_Qi (fun r Y1 => r = res ∧ Y1 = Y) (WB T D gr ad) (fun q => N0 ≤ q)) [.ref (ad 0 0 0)].toArray s 0 0 (fun q => N0 ≤ q)) Y 0 [(0, .ref (ad 0 0 0))] [] := by
  unfold X11_cooks at h
  refine fw_aload_n C dX11_cooks_0 rfl 0 rfl ?_
  refine fw_get C (ci := 9) (Cn := RX11) (Tc := TX11) (N := 11) (j := 5) ly_X11_cooks_11 rfl (hG _ (List.mem_of_getElem? (i := 0) rfl)) (of0_0 _) (ce0 T ad _ _) (by decide) (cx_ts C _ fl_X11_cooks_67) (fun _ h => h) (v := .ref (ad 1 0 0)) rfl dX11_cooks_1 ?_
  refine fw_getN C (ci := 1) (Cn := RX3) (Tc := TX3) (N := 5) (j := 1) ly_X11_cooks_3 rfl (hG _ (List.mem_of_getElem? (i := 1) rfl)) (of1_0 _) (ce1 T ad _ _) (by decide) (Nst_use (cx_nst C) (w := .fieldLinkNest RX11 139 "RecipeScheduler$Kitchen" "state" "LRecipeScheduler$State;" "RecipeScheduler") 518 (by decide +kernel) rfl) (fun _ h => h) (v := .ref (ad 2 0 0)) rfl dX11_cooks_4 ?_
  refine fw_getN C (ci := 6) (Cn := RX8) (Tc := TX8) (N := 15) (j := 0) ly_X11_cooks_8 rfl (hG _ (List.mem_of_getElem? (i := 2) rfl)) (of2_0 _) (ce2 T ad _ _) (by decide) (Nst_use (cx_nst C) (w := .fieldLinkNest RX11 143 "RecipeScheduler$State" "cooks" "I" "RecipeScheduler") 435 (by decide +kernel) rfl) (fun _ h => h) (v := .int (Y 2 0 0 0)) rfl dX11_cooks_7 ?_
  exact fw_iret C hrt Y ⟨Option.some.inj h, rfl⟩ (fun t ht => ht) dX11_cooks_10
end
set_option maxRecDepth 100000 in
set_option maxHeartbeats 4000000 in
theorem c_X11_cooks {l : Launch} {N0 : Nat} {T : Nat → ClassId} {D : va_G} {gr : List (Nat × Nat)} {ad : Nat → Nat → Nat → Nat} {Y : Mem} {res : Int32} (hG : ∀ q ∈ [(0, 0), (1, 0), (2, 0)], q ∈ gr) (h : X11_cooks Y = some res) : CI l yX11_cooks wsX11_cooks (Rm 0) N0 T D gr ad Y [.ref (ad 0 0 0)] (fun r Y1 => r = res ∧ Y1 = Y) :=
  fw_body (by decide +kernel) rfl (Nat.le_of_ble_eq_true rfl) (fun p e s m below meth c C hrt => w_X11_cooks C hrt hG  h)
theorem ly_X8_statusOf_8 : ∀ w ∈ u_ws RX8 TX8 15, w ∈ wsX8_statusOf := by decide +kernel
theorem fl_X8_statusOf_53 : Cond.fieldLink RX8 53 "RecipeScheduler$State" "running" "I" ∈ wsX8_statusOf := by decide +kernel
theorem in_X8_statusOf_11 : Cond.initialized RX11 ∈ wsX8_statusOf := by decide +kernel
theorem sw_X8_statusOf_X11_contains : Cond.static yX11_contains ∈ wsX8_statusOf := by decide +kernel
theorem fl_X8_statusOf_56 : Cond.fieldLink RX8 56 "RecipeScheduler$State" "done" "I" ∈ wsX8_statusOf := by decide +kernel
theorem fl_X8_statusOf_59 : Cond.fieldLink RX8 59 "RecipeScheduler$State" "burnt" "I" ∈ wsX8_statusOf := by decide +kernel
section
variable {p : Program} {l : Launch} {e : Env} {s : State} {m : MethodId} {below : List Frame} {meth : Method} {c : Code} {N0 : Nat} {T : Nat → ClassId} {D : va_G} {gr : List (Nat × Nat)} {ad : Nat → Nat → Nat → Nat}
set_option maxRecDepth 100000 in
set_option maxHeartbeats 4000000 in
theorem w_X8_statusOf {Y : Mem} {g0 : Nat} {a1 : Int32} (C : Cx p s m [.ref (ad 2 g0 0), .int a1].toArray meth c cX8_statusOf 2 wsX8_statusOf RX8 N0 T D gr ad) (hrt : meth.sig.returnType = (some .int)) (hG : ∀ q ∈ [(2, g0)], q ∈ gr) {res : Int32} (h : X8_statusOf Y g0 a1 = some res) : FW p l e (Rm 1) s m [.ref (ad 2 g0 0), .int a1].toArray below meth c 2 N0 T D gr ad 0 0 (MQ below (va_Qi (fun r Y1 => r = res ∧ Y1 = Y) (WB T D gr ad) (fun q => N0 ≤ q)) [.ref (ad 2 g0 0), .int a1].toArray s 0 0 (fun q => N0 ≤ q)) Y 0 [(0, .ref (ad 2 g0 0)), (1, .int a1)] [] := by
  unfold X8_statusOf at h
  refine fw_aload_n C dX8_statusOf_0 rfl 0 rfl ?_
  refine fw_get C (ci := 6) (Cn := RX8) (Tc := TX8) (N := 15) (j := 6) ly_X8_statusOf_8 rfl (hG _ (List.mem_of_getElem? (i := 0) rfl)) (of2_0 _) (ce2 T ad _ _) (by decide) (cx_ts C _ fl_X8_statusOf_53) (fun _ h => h) (v := .int (Y 2 g0 0 6)) rfl dX8_statusOf_1 ?_
  refine fw_iload_n C dX8_statusOf_4 rfl 1 rfl ?_
  obtain ⟨r1, q2, h⟩ := bd1_some h
  refine fw_callSNi C (As := [.int (Y 2 g0 0 6), .int a1]) (c_X11_contains ga0 q2) ⟨(va_cnB 2 (cx_ts C) gX8_statusOf_X11_contains_n75 rfl rfl rfl (cx_nw C (w := .methodLinkNest RX8 75 yX11_contains "RecipeScheduler") 798 (by decide +kernel) rfl) (cx_ts C _ in_X8_statusOf_11) (by decide +kernel) ⟨Nat.le_of_ble_eq_true rfl, Nat.le_of_ble_eq_true rfl⟩), cx_ts C _ sw_X8_statusOf_X11_contains, trivial⟩ rfl (st := []) rfl (Nat.le_of_ble_eq_true rfl) ⟨Nat.le_refl 0, Nat.le_refl 0⟩ dX8_statusOf_5 (pp2 ?_)
  refine fw_if_eq C dX8_statusOf_8 (tgt := 13) rfl (fun c3 => ?_) (fun c3 => ?_)
  · have h := ite_t c3 h
    refine fw_aload_n C dX8_statusOf_13 rfl 0 rfl ?_
    refine fw_get C (ci := 6) (Cn := RX8) (Tc := TX8) (N := 15) (j := 7) ly_X8_statusOf_8 rfl (hG _ (List.mem_of_getElem? (i := 0) rfl)) (of2_0 _) (ce2 T ad _ _) (by decide) (cx_ts C _ fl_X8_statusOf_56) (fun _ h => h) (v := .int (Y 2 g0 0 7)) rfl dX8_statusOf_14 ?_
    refine fw_iload_n C dX8_statusOf_17 rfl 1 rfl ?_
    obtain ⟨r4, q5, h⟩ := bd1_some h
    refine fw_callSNi C (As := [.int (Y 2 g0 0 7), .int a1]) (c_X11_contains ga0 q5) ⟨(va_cnB 2 (cx_ts C) gX8_statusOf_X11_contains_n75 rfl rfl rfl (cx_nw C (w := .methodLinkNest RX8 75 yX11_contains "RecipeScheduler") 798 (by decide +kernel) rfl) (cx_ts C _ in_X8_statusOf_11) (by decide +kernel) ⟨Nat.le_of_ble_eq_true rfl, Nat.le_of_ble_eq_true rfl⟩), cx_ts C _ sw_X8_statusOf_X11_contains, trivial⟩ rfl (st := []) rfl (Nat.le_of_ble_eq_true rfl) ⟨Nat.le_refl 0, Nat.le_refl 0⟩ dX8_statusOf_18 (pp2 ?_)
    refine fw_if_eq C dX8_statusOf_21 (tgt := 26) rfl (fun c6 => ?_) (fun c6 => ?_)
    · have h := ite_t c6 h
      refine fw_aload_n C dX8_statusOf_26 rfl 0 rfl ?_
      refine fw_get C (ci := 6) (Cn := RX8) (Tc := TX8) (N := 15) (j := 8) ly_X8_statusOf_8 rfl (hG _ (List.mem_of_getElem? (i := 0) rfl)) (of2_0 _) (ce2 T ad _ _) (by decide) (cx_ts C _ fl_X8_statusOf_59) (fun _ h => h) (v := .int (Y 2 g0 0 8)) rfl dX8_statusOf_27 ?_
      refine fw_iload_n C dX8_statusOf_30 rfl 1 rfl ?_
      obtain ⟨r7, q8, h⟩ := bd1_some h
      refine fw_callSNi C (As := [.int (Y 2 g0 0 8), .int a1]) (c_X11_contains ga0 q8) ⟨(va_cnB 2 (cx_ts C) gX8_statusOf_X11_contains_n75 rfl rfl rfl (cx_nw C (w := .methodLinkNest RX8 75 yX11_contains "RecipeScheduler") 798 (by decide +kernel) rfl) (cx_ts C _ in_X8_statusOf_11) (by decide +kernel) ⟨Nat.le_of_ble_eq_true rfl, Nat.le_of_ble_eq_true rfl⟩), cx_ts C _ sw_X8_statusOf_X11_contains, trivial⟩ rfl (st := []) rfl (Nat.le_of_ble_eq_true rfl) ⟨Nat.le_refl 0, Nat.le_refl 0⟩ dX8_statusOf_31 (pp2 ?_)
      refine fw_if_eq C dX8_statusOf_34 (tgt := 41) rfl (fun c9 => ?_) (fun c9 => ?_)
      · have h := ite_t c9 h
        refine fw_iconst C dX8_statusOf_41 (v := 0) rfl ?_
        exact fw_iret C hrt Y ⟨Option.some.inj h, rfl⟩ (fun t ht => ht) dX8_statusOf_42
      · have h := ite_f c9 h
        refine fw_iconst C dX8_statusOf_37 (v := 3) rfl ?_
        refine fw_goto C dX8_statusOf_38 (tgt := 42) rfl ?_
        exact fw_iret C hrt Y ⟨Option.some.inj h, rfl⟩ (fun t ht => ht) dX8_statusOf_42
    · have h := ite_f c6 h
      refine fw_iconst C dX8_statusOf_24 (v := 2) rfl ?_
      exact fw_iret C hrt Y ⟨Option.some.inj h, rfl⟩ (fun t ht => ht) dX8_statusOf_25
  · have h := ite_f c3 h
    refine fw_iconst C dX8_statusOf_11 (v := 1) rfl ?_
    exact fw_iret C hrt Y ⟨Option.some.inj h, rfl⟩ (fun t ht => ht) dX8_statusOf_12
end
set_option maxRecDepth 100000 in
set_option maxHeartbeats 4000000 in
theorem c_X8_statusOf {l : Launch} {N0 : Nat} {T : Nat → ClassId} {D : va_G} {gr : List (Nat × Nat)} {ad : Nat → Nat → Nat → Nat} {Y : Mem} {g0 : Nat} {a1 : Int32} {res : Int32} (hG : ∀ q ∈ [(2, g0)], q ∈ gr) (h : X8_statusOf Y g0 a1 = some res) : CI l yX8_statusOf wsX8_statusOf (Rm 1) N0 T D gr ad Y [.ref (ad 2 g0 0), .int a1] (fun r Y1 => r = res ∧ Y1 = Y) :=
  fw_body (by decide +kernel) rfl (Nat.le_of_ble_eq_true rfl) (fun p e s m below meth c C hrt => w_X8_statusOf C hrt hG  h)
theorem ly_X11_countWithStatus_11 : ∀ w ∈ u_ws RX11 TX11 11, w ∈ wsX11_countWithStatus := by decide +kernel
theorem fl_X11_countWithStatus_67 : Cond.fieldLink RX11 67 "RecipeScheduler" "now" "LRecipeScheduler$Kitchen;" ∈ wsX11_countWithStatus := by decide +kernel
theorem ly_X11_countWithStatus_3 : ∀ w ∈ u_ws RX3 TX3 5, w ∈ wsX11_countWithStatus := by decide +kernel
theorem ly_X11_countWithStatus_5 : ∀ w ∈ u_ws RX5 TX5 17, w ∈ wsX11_countWithStatus := by decide +kernel
theorem ly_X11_countWithStatus_4 : ∀ w ∈ u_ws RX4 TX4 3, w ∈ wsX11_countWithStatus := by decide +kernel
theorem th_X11_countWithStatus_9 : Cond.classLink RX11 109 "java/lang/IllegalArgumentException" ∈ wsX11_countWithStatus ∧ Cond.initialized "java/lang/IllegalArgumentException" ∈ wsX11_countWithStatus ∧ ∀ w ∈ vx_atS RX11 113 "java/lang/IllegalArgumentException" ["java/lang/RuntimeException", "java/lang/Exception"], w ∈ wsX11_countWithStatus := by decide +kernel
section
variable {p : Program} {l : Launch} {e : Env} {s : State} {m : MethodId} {below : List Frame} {meth : Method} {c : Code} {N0 : Nat} {T : Nat → ClassId} {D : va_G} {gr : List (Nat × Nat)} {ad : Nat → Nat → Nat → Nat}
set_option maxRecDepth 100000 in
set_option maxHeartbeats 4000000 in
theorem w_X11_countWithStatus_b58 {a1 : Int32} (C : Cx p s m [.ref (ad 0 0 0), .int a1].toArray meth c cX11_countWithStatus 4 wsX11_countWithStatus RX11 N0 T D gr ad) (hrt : meth.sig.returnType = (some .int)) (hG : ∀ q ∈ ([(0, 0), (1, 0), (2, 0)] ++ allG), q ∈ gr) (hl : l.stackTraces = false) (hX : ∀ x ∈ c.exceptionTable.toList, False) {res : (Nat × Mem) ⊕ (Int32 × Mem)} {k23 : Mem → Int32 → Int32 → Option ((Nat × Mem) ⊕ (Int32 × Mem))} (hk23 : ∀ (Y : Mem) (l3 : Int32) (l2 : Int32), k23 Y l3 l2 = some res → FW p l e (Rx 6 1) s m [.ref (ad 0 0 0), .int a1].toArray below meth c 4 N0 T D gr ad 0 0 (vx_MQ below (va_Qi (fun r Y1 => Sum.inr (r, Y1) = res) (WB T D gr ad) (fun q => N0 ≤ q)) (vx_X (fun u => Sum.inl u = res) (XB T D gr ad) (fun q => N0 ≤ q)) [.ref (ad 0 0 0), .int a1].toArray s 1 6 (fun q => N0 ≤ q)) Y 23 [(3, .int l3), (2, .int l2), (0, .ref (ad 0 0 0)), (1, .int a1)] []) (Y : Mem) (l3 : Int32) (l2 : Int32) (h : X11_countWithStatus_b58 a1 k23 Y l3 l2 = some res) : FW p l e (Rx 6 1) s m [.ref (ad 0 0 0), .int a1].toArray below meth c 4 N0 T D gr ad 0 0 (vx_MQ below (va_Qi (fun r Y1 => Sum.inr (r, Y1) = res) (WB T D gr ad) (fun q => N0 ≤ q)) (vx_X (fun u => Sum.inl u = res) (XB T D gr ad) (fun q => N0 ≤ q)) [.ref (ad 0 0 0), .int a1].toArray s 1 6 (fun q => N0 ≤ q)) Y 58 [(3, .int l3), (2, .int l2), (0, .ref (ad 0 0 0)), (1, .int a1)] [] := by
  unfold X11_countWithStatus_b58 at h
  refine fw_iinc C dX11_countWithStatus_58 (kk := 0) (v := l3 + 1) rfl rfl (by decide) (L' := [(3, .int (l3 + 1)), (2, .int l2), (0, .ref (ad 0 0 0)), (1, .int a1)]) rfl ?_
  refine fw_goto C dX11_countWithStatus_61 (tgt := 23) rfl ?_
  exact hk23 _ _ _ h
set_option maxRecDepth 100000 in
set_option maxHeartbeats 4000000 in
theorem w_X11_countWithStatus_b23 {a1 : Int32} (C : Cx p s m [.ref (ad 0 0 0), .int a1].toArray meth c cX11_countWithStatus 4 wsX11_countWithStatus RX11 N0 T D gr ad) (hrt : meth.sig.returnType = (some .int)) (hG : ∀ q ∈ ([(0, 0), (1, 0), (2, 0)] ++ allG), q ∈ gr) (hl : l.stackTraces = false) (hX : ∀ x ∈ c.exceptionTable.toList, False) {res : (Nat × Mem) ⊕ (Int32 × Mem)} : ∀ (n : Nat) (Y : Mem) (l3 : Int32) (l2 : Int32), X11_countWithStatus_b23 a1  n Y l3 l2 = some res → FW p l e (Rx 6 1) s m [.ref (ad 0 0 0), .int a1].toArray below meth c 4 N0 T D gr ad 0 0 (vx_MQ below (va_Qi (fun r Y1 => Sum.inr (r, Y1) = res) (WB T D gr ad) (fun q => N0 ≤ q)) (vx_X (fun u => Sum.inl u = res) (XB T D gr ad) (fun q => N0 ≤ q)) [.ref (ad 0 0 0), .int a1].toArray s 1 6 (fun q => N0 ≤ q)) Y 23 [(3, .int l3), (2, .int l2), (0, .ref (ad 0 0 0)), (1, .int a1)] [] := by
  intro n
  induction n with
  | zero =>
    intro Y l3 l2 h
    unfold X11_countWithStatus_b23 at h
    cases h
  | succ n ih =>
    intro Y l3 l2 h
    unfold X11_countWithStatus_b23 at h
    refine fw_iload_n C dX11_countWithStatus_23 rfl 0 rfl ?_
    refine fw_aload_n C dX11_countWithStatus_24 rfl 2 rfl ?_
    refine fw_get C (ci := 9) (Cn := RX11) (Tc := TX11) (N := 11) (j := 5) ly_X11_countWithStatus_11 rfl (hG _ (List.mem_of_getElem? (i := 0) rfl)) (of0_0 _) (ce0 T ad _ _) (by decide) (cx_ts C _ fl_X11_countWithStatus_67) (fun _ h => h) (v := .ref (ad 1 0 0)) rfl dX11_countWithStatus_25 ?_
    refine fw_getN C (ci := 1) (Cn := RX3) (Tc := TX3) (N := 5) (j := 0) ly_X11_countWithStatus_3 rfl (hG _ (List.mem_of_getElem? (i := 1) rfl)) (of1_0 _) (ce1 T ad _ _) (by decide) (Nst_use (cx_nst C) (w := .fieldLinkNest RX11 117 "RecipeScheduler$Kitchen" "recipe" "LRecipeScheduler$Recipe;" "RecipeScheduler") 516 (by decide +kernel) rfl) (fun _ h => h) (v := .ref (ad 3 ((Y 1 0 0 0).toNatClampNeg) 0)) rfl dX11_countWithStatus_28 ?_
    obtain ⟨b4, h⟩ := gd_some h
    have b4 := of_decide_eq_true b4
    refine fw_getN C (ci := 3) (Cn := RX5) (Tc := TX5) (N := 17) (j := 7) ly_X11_countWithStatus_5 rfl ((fun q hq => hG q (List.mem_append_right _ hq)) _ (allG_3 b4)) (of3_0 _) (ce3 T ad _ _) (by decide) (Nst_use (cx_nst C) (w := .fieldLinkNest RX11 126 "RecipeScheduler$Recipe" "steps" "LRecipeScheduler$Names;" "RecipeScheduler") 146 (by decide +kernel) rfl) (fun _ h => h) (v := .ref (ad 4 (2*((Y 1 0 0 0).toNatClampNeg)+1) 0)) rfl dX11_countWithStatus_31 ?_
    obtain ⟨b5, h⟩ := gd_some h
    have b5 := of_decide_eq_true b5
    refine fw_getN C (ci := 2) (Cn := RX4) (Tc := TX4) (N := 3) (j := 2) ly_X11_countWithStatus_4 rfl ((fun q hq => hG q (List.mem_append_right _ hq)) _ (allG_4b b5)) (of4_0 _) (ce4 T ad _ _) (by decide) (Nst_use (cx_nst C) (w := .fieldLinkNest RX11 130 "RecipeScheduler$Names" "count" "I" "RecipeScheduler") 113 (by decide +kernel) rfl) (fun _ h => h) (v := .int (Y 4 (2*((Y 1 0 0 0).toNatClampNeg)+1) 0 2)) rfl dX11_countWithStatus_34 ?_
    refine fw_icmp_ge C dX11_countWithStatus_37 (tgt := 64) rfl (fun c6 => ?_) (fun c6 => ?_)
    · have h := ite_t c6 h
      refine fw_iload_n C dX11_countWithStatus_64 rfl 1 rfl ?_
      refine fw_xr (Nat.le_of_ble_eq_true rfl) (Nat.le_of_ble_eq_true rfl) ?_
      exact fw_iret C hrt Y (Option.some.inj h) (fun t ht => ht) dX11_countWithStatus_65
    · have h := ite_f c6 h
      refine fw_aload_n C dX11_countWithStatus_40 rfl 2 rfl ?_
      refine fw_get C (ci := 9) (Cn := RX11) (Tc := TX11) (N := 11) (j := 5) ly_X11_countWithStatus_11 rfl (hG _ (List.mem_of_getElem? (i := 0) rfl)) (of0_0 _) (ce0 T ad _ _) (by decide) (cx_ts C _ fl_X11_countWithStatus_67) (fun _ h => h) (v := .ref (ad 1 0 0)) rfl dX11_countWithStatus_41 ?_
      refine fw_getN C (ci := 1) (Cn := RX3) (Tc := TX3) (N := 5) (j := 1) ly_X11_countWithStatus_3 rfl (hG _ (List.mem_of_getElem? (i := 1) rfl)) (of1_0 _) (ce1 T ad _ _) (by decide) (Nst_use (cx_nst C) (w := .fieldLinkNest RX11 139 "RecipeScheduler$Kitchen" "state" "LRecipeScheduler$State;" "RecipeScheduler") 518 (by decide +kernel) rfl) (fun _ h => h) (v := .ref (ad 2 0 0)) rfl dX11_countWithStatus_44 ?_
      refine fw_iload_n C dX11_countWithStatus_47 rfl 0 rfl ?_
      obtain ⟨r7, q8, h⟩ := bd1_some h
      refine fw_callVi C (ci := 6) (Cn := RX8) (Tc := TX8) (N := 15) (As := [.int l3]) (c_X8_statusOf (gac (hG _ (List.mem_of_getElem? (i := 2) rfl)) ga0) q8) (cwV 1 (cx_ts C) gX11_countWithStatus_X8_statusOf rfl rfl rfl (by decide +kernel) ⟨Nat.le_of_ble_eq_true rfl, Nat.le_of_ble_eq_true rfl⟩) rfl (hG _ (List.mem_of_getElem? (i := 2) rfl)) (of2_0 _) (ce2 T ad _ _) rfl (st := []) rfl (Nat.le_of_ble_eq_true rfl) ⟨Nat.le_refl 0, Nat.le_refl 0⟩ dX11_countWithStatus_48 (pp2 ?_)
      refine fw_iload_n C dX11_countWithStatus_51 rfl 3 rfl ?_
      refine fw_icmp_ne C dX11_countWithStatus_52 (tgt := 58) rfl (fun c9 => ?_) (fun c9 => ?_)
      · have h := ite_f c9 h
        exact w_X11_countWithStatus_b58 C hrt hG  hl hX ih _ _ _ h
      · have h := ite_t c9 h
        refine fw_iinc C dX11_countWithStatus_55 (kk := 1) (v := l2 + 1) rfl rfl (by decide) (L' := [(2, .int (l2 + 1)), (3, .int l3), (0, .ref (ad 0 0 0)), (1, .int a1)]) rfl ?_
        refine fw_sub [1, 0, 2, 3] (L' := [(3, .int l3), (2, .int (l2 + 1)), (0, .ref (ad 0 0 0)), (1, .int a1)]) rfl ?_
        exact w_X11_countWithStatus_b58 C hrt hG  hl hX ih _ _ _ h
set_option maxRecDepth 100000 in
set_option maxHeartbeats 4000000 in
theorem w_X11_countWithStatus {Y : Mem} {a1 : Int32} (C : Cx p s m [.ref (ad 0 0 0), .int a1].toArray meth c cX11_countWithStatus 4 wsX11_countWithStatus RX11 N0 T D gr ad) (hrt : meth.sig.returnType = (some .int)) (hG : ∀ q ∈ ([(0, 0), (1, 0), (2, 0)] ++ allG), q ∈ gr) (hl : l.stackTraces = false) (hX : ∀ x ∈ c.exceptionTable.toList, False) {res : (Nat × Mem) ⊕ (Int32 × Mem)} (h : X11_countWithStatus Y a1 = some res) : FW p l e (Rx 6 1) s m [.ref (ad 0 0 0), .int a1].toArray below meth c 4 N0 T D gr ad 0 0 (vx_MQ below (va_Qi (fun r Y1 => Sum.inr (r, Y1) = res) (WB T D gr ad) (fun q => N0 ≤ q)) (vx_X (fun u => Sum.inl u = res) (XB T D gr ad) (fun q => N0 ≤ q)) [.ref (ad 0 0 0), .int a1].toArray s 1 6 (fun q => N0 ≤ q)) Y 0 [(0, .ref (ad 0 0 0)), (1, .int a1)] [] := by
  unfold X11_countWithStatus at h
  refine fw_iload_n C dX11_countWithStatus_0 rfl 1 rfl ?_
  refine fw_iconst C dX11_countWithStatus_1 (v := 0) rfl ?_
  refine fw_iconst C dX11_countWithStatus_2 (v := 3) rfl ?_
  obtain ⟨r1, q2, h⟩ := bd1_some h
  refine fw_callSi C (As := [.int a1, .int 0, .int 3]) (c_X11_isWithin ga0 q2) (va_cwS 3 (cx_ts C) gX11_countWithStatus_X11_isWithin rfl rfl rfl (by decide +kernel) ⟨Nat.le_of_ble_eq_true rfl, Nat.le_of_ble_eq_true rfl⟩) rfl (st := []) rfl (Nat.le_of_ble_eq_true rfl) ⟨Nat.le_refl 0, Nat.le_refl 0⟩ dX11_countWithStatus_3 (pp2 ?_)
  refine fw_if_ne C dX11_countWithStatus_6 (tgt := 19) rfl (fun c3 => ?_) (fun c3 => ?_)
  · have h := ite_f c3 h
    refine fw_iconst C dX11_countWithStatus_19 (v := 0) rfl ?_
    refine fw_istore_n C dX11_countWithStatus_20 rfl (by decide) (L' := [(2, .int 0), (0, .ref (ad 0 0 0)), (1, .int a1)]) rfl ?_
    refine fw_iconst C dX11_countWithStatus_21 (v := 0) rfl ?_
    refine fw_istore_n C dX11_countWithStatus_22 rfl (by decide) (L' := [(3, .int 0), (2, .int 0), (0, .ref (ad 0 0 0)), (1, .int a1)]) rfl ?_
    exact w_X11_countWithStatus_b23 C hrt hG  hl hX  _ _ _ _ h
  · have h := ite_t c3 h
    exact fw_throwS C hl hX (cls := "java/lang/IllegalArgumentException") (names := ["java/lang/RuntimeException", "java/lang/Exception"]) 2 rfl (by decide +kernel) (by decide +kernel) (cx_ts C _ th_X11_countWithStatus_9.1) (cx_ts C _ th_X11_countWithStatus_9.2.1) ((cx_st C).2.1 _ (List.mem_of_getElem? (i := 11) rfl)) (fun w hw => cx_ts C _ (th_X11_countWithStatus_9.2.2 w hw)) tg_2_113_109 dX11_countWithStatus_9 dX11_countWithStatus_12 dX11_countWithStatus_13 dX11_countWithStatus_15 dX11_countWithStatus_18 (Nat.le_of_ble_eq_true rfl) (Nat.le_of_ble_eq_true rfl) (Nat.le_of_ble_eq_true rfl) (Nat.le_of_ble_eq_true rfl) (Nat.le_of_ble_eq_true rfl) (Nat.le_of_ble_eq_true rfl) (Option.some.inj h)
end
set_option maxRecDepth 100000 in
set_option maxHeartbeats 4000000 in
theorem c_X11_countWithStatus {l : Launch} {N0 : Nat} {T : Nat → ClassId} {D : va_G} {gr : List (Nat × Nat)} {ad : Nat → Nat → Nat → Nat} {Y : Mem} {a1 : Int32} {res : (Nat × Mem) ⊕ (Int32 × Mem)} (hl : l.stackTraces = false) (hG : ∀ q ∈ ([(0, 0), (1, 0), (2, 0)] ++ allG), q ∈ gr) (h : X11_countWithStatus Y a1 = some res) : CXi l yX11_countWithStatus wsX11_countWithStatus (Rx 6 1) N0 T D gr ad Y [.ref (ad 0 0 0), .int a1] 1 res :=
  fw_xbody (by decide +kernel) rfl (Nat.le_of_ble_eq_true rfl) (fun p e s m below meth c C hrt hX => w_X11_countWithStatus C hrt hG hl hX h)
theorem ly_X3_criticalAt_3 : ∀ w ∈ u_ws RX3 TX3 5, w ∈ wsX3_criticalAt := by decide +kernel
theorem fl_X3_criticalAt_28 : Cond.fieldLink RX3 28 "RecipeScheduler$Kitchen" "recipe" "LRecipeScheduler$Recipe;" ∈ wsX3_criticalAt := by decide +kernel
theorem ly_X3_criticalAt_5 : ∀ w ∈ u_ws RX5 TX5 17, w ∈ wsX3_criticalAt := by decide +kernel
theorem ly_X3_criticalAt_4 : ∀ w ∈ u_ws RX4 TX4 3, w ∈ wsX3_criticalAt := by decide +kernel
theorem in_X3_criticalAt_11 : Cond.initialized RX11 ∈ wsX3_criticalAt := by decide +kernel
theorem sw_X3_criticalAt_X11_isWithin : Cond.static yX11_isWithin ∈ wsX3_criticalAt := by decide +kernel
section
variable {p : Program} {l : Launch} {e : Env} {s : State} {m : MethodId} {below : List Frame} {meth : Method} {c : Code} {N0 : Nat} {T : Nat → ClassId} {D : va_G} {gr : List (Nat × Nat)} {ad : Nat → Nat → Nat → Nat}
set_option maxRecDepth 100000 in
set_option maxHeartbeats 4000000 in
theorem w_X3_criticalAt_b40 {g0 : Nat} {a1 : Int32} (C : Cx p s m [.ref (ad 1 g0 0), .int a1].toArray meth c cX3_criticalAt 4 wsX3_criticalAt RX3 N0 T D gr ad) (hrt : meth.sig.returnType = (some .int)) (hG : ∀ q ∈ ([(1, g0), (2, g0)] ++ allG), q ∈ gr) {res : Int32 × Mem} : ∀ (n : Nat) (Y : Mem) (l3 : Int32) (l2 : Int32), X3_criticalAt_b40 g0 a1  n Y l3 l2 = some res → FW p l e (Rm 3) s m [.ref (ad 1 g0 0), .int a1].toArray below meth c 4 N0 T D gr ad 0 0 (MQ below (va_Qi (fun r Y1 => (r, Y1) = res) (WB T D gr ad) (fun q => N0 ≤ q)) [.ref (ad 1 g0 0), .int a1].toArray s 0 0 (fun q => N0 ≤ q)) Y 40 [(3, .int l3), (2, .int l2), (0, .ref (ad 1 g0 0)), (1, .int a1)] [] := by
  intro n
  induction n with
  | zero =>
    intro Y l3 l2 h
    unfold X3_criticalAt_b40 at h
    cases h
  | succ n ih =>
    intro Y l3 l2 h
    unfold X3_criticalAt_b40 at h
    refine fw_iload_n C dX3_criticalAt_40 rfl 0 rfl ?_
    refine fw_iload_n C dX3_criticalAt_41 rfl 3 rfl ?_
    refine fw_icmp_ge C dX3_criticalAt_42 (tgt := 70) rfl (fun c15 => ?_) (fun c15 => ?_)
    · have h := ite_t c15 h
      refine fw_iload_n C dX3_criticalAt_70 rfl 1 rfl ?_
      exact fw_iret C hrt Y (Option.some.inj h) (fun t ht => ht) dX3_criticalAt_71
    · have h := ite_f c15 h
      refine fw_iload_n C dX3_criticalAt_45 rfl 1 rfl ?_
      refine fw_iconst C dX3_criticalAt_46 (v := (-1)) rfl ?_
      refine fw_icmp_eq C dX3_criticalAt_47 (tgt := 70) rfl (fun c16 => ?_) (fun c16 => ?_)
      · have h := ite_t c16 h
        refine fw_iload_n C dX3_criticalAt_70 rfl 1 rfl ?_
        exact fw_iret C hrt Y (Option.some.inj h) (fun t ht => ht) dX3_criticalAt_71
      · have h := ite_f c16 h
        refine fw_aload_n C dX3_criticalAt_50 rfl 2 rfl ?_
        refine fw_aload_n C dX3_criticalAt_51 rfl 2 rfl ?_
        refine fw_get C (ci := 1) (Cn := RX3) (Tc := TX3) (N := 5) (j := 0) ly_X3_criticalAt_3 rfl (hG _ (List.mem_of_getElem? (i := 0) rfl)) (of1_0 _) (ce1 T ad _ _) (by decide) (cx_ts C _ fl_X3_criticalAt_28) (fun _ h => h) (v := .ref (ad 3 ((Y 1 g0 0 0).toNatClampNeg) 0)) rfl dX3_criticalAt_52 ?_
        obtain ⟨b17, h⟩ := gd_some h
        have b17 := of_decide_eq_true b17
        refine fw_getN C (ci := 3) (Cn := RX5) (Tc := TX5) (N := 17) (j := 14) ly_X3_criticalAt_5 rfl ((fun q hq => hG q (List.mem_append_right _ hq)) _ (allG_3 b17)) (of3_0 _) (ce3 T ad _ _) (by decide) (Nst_use (cx_nst C) (w := .fieldLinkNest RX3 141 "RecipeScheduler$Recipe" "successorSet" "[I" "RecipeScheduler") 171 (by decide +kernel) rfl) (fun _ h => h) (v := .ref (ad 3 (((Y 1 g0 0 0).toNatClampNeg)) 9)) rfl dX3_criticalAt_55 ?_
        refine fw_iload_n C dX3_criticalAt_58 rfl 1 rfl ?_
        obtain ⟨b18, h⟩ := gd_some h
        refine fw_iald2 C ((fun q hq => hG q (List.mem_append_right _ hq)) _ (allG_3 b17)) (of3_9 _) (ca3_9 T ad _ _) b18 (Nat.le_of_ble_eq_true rfl) dX3_criticalAt_59 ?_
        obtain ⟨r19, q20, h⟩ := bd1_some h
        refine fw_callVi C (ci := 1) (Cn := RX3) (Tc := TX3) (N := 5) (As := [.int (Y 3 (((Y 1 g0 0 0).toNatClampNeg)) 9 (ix l2))]) (c_X3_longestOf (gac (hG _ (List.mem_of_getElem? (i := 0) rfl)) (fun q hq => hG q (List.mem_append_right _ hq))) q20) (cwV 1 (cx_ts C) gX3_criticalAt_X3_longestOf rfl rfl rfl (by decide +kernel) ⟨Nat.le_of_ble_eq_true rfl, Nat.le_of_ble_eq_true rfl⟩) rfl (hG _ (List.mem_of_getElem? (i := 0) rfl)) (of1_0 _) (ce1 T ad _ _) rfl (st := []) rfl (Nat.le_of_ble_eq_true rfl) ⟨Nat.le_refl 0, Nat.le_refl 0⟩ dX3_criticalAt_60 (pp2 ?_)
        refine fw_istore_n C dX3_criticalAt_63 rfl (by decide) (L' := [(2, .int r19), (3, .int l3), (0, .ref (ad 1 g0 0)), (1, .int a1)]) rfl ?_
        refine fw_iinc C dX3_criticalAt_64 (kk := 1) (v := l3 + 1) rfl rfl (by decide) (L' := [(3, .int (l3 + 1)), (2, .int r19), (0, .ref (ad 1 g0 0)), (1, .int a1)]) rfl ?_
        refine fw_goto C dX3_criticalAt_67 (tgt := 40) rfl ?_
        exact ih _ _ _ h
set_option maxRecDepth 100000 in
set_option maxHeartbeats 4000000 in
theorem w_X3_criticalAt {Y : Mem} {g0 : Nat} {a1 : Int32} (C : Cx p s m [.ref (ad 1 g0 0), .int a1].toArray meth c cX3_criticalAt 4 wsX3_criticalAt RX3 N0 T D gr ad) (hrt : meth.sig.returnType = (some .int)) (hG : ∀ q ∈ ([(1, g0), (2, g0)] ++ allG), q ∈ gr) {res : Int32 × Mem} (h : X3_criticalAt Y g0 a1 = some res) : FW p l e (Rm 3) s m [.ref (ad 1 g0 0), .int a1].toArray below meth c 4 N0 T D gr ad 0 0 (MQ below (va_Qi (fun r Y1 => (r, Y1) = res) (WB T D gr ad) (fun q => N0 ≤ q)) [.ref (ad 1 g0 0), .int a1].toArray s 0 0 (fun q => N0 ≤ q)) Y 0 [(0, .ref (ad 1 g0 0)), (1, .int a1)] [] := by
  unfold X3_criticalAt at h
  refine fw_iload_n C dX3_criticalAt_0 rfl 1 rfl ?_
  refine fw_iconst C dX3_criticalAt_1 (v := 0) rfl ?_
  refine fw_aload_n C dX3_criticalAt_2 rfl 0 rfl ?_
  refine fw_get C (ci := 1) (Cn := RX3) (Tc := TX3) (N := 5) (j := 0) ly_X3_criticalAt_3 rfl (hG _ (List.mem_of_getElem? (i := 0) rfl)) (of1_0 _) (ce1 T ad _ _) (by decide) (cx_ts C _ fl_X3_criticalAt_28) (fun _ h => h) (v := .ref (ad 3 ((Y 1 g0 0 0).toNatClampNeg) 0)) rfl dX3_criticalAt_3 ?_
  obtain ⟨b1, h⟩ := gd_some h
  have b1 := of_decide_eq_true b1
  refine fw_getN C (ci := 3) (Cn := RX5) (Tc := TX5) (N := 17) (j := 7) ly_X3_criticalAt_5 rfl ((fun q hq => hG q (List.mem_append_right _ hq)) _ (allG_3 b1)) (of3_0 _) (ce3 T ad _ _) (by decide) (Nst_use (cx_nst C) (w := .fieldLinkNest RX3 91 "RecipeScheduler$Recipe" "steps" "LRecipeScheduler$Names;" "RecipeScheduler") 148 (by decide +kernel) rfl) (fun _ h => h) (v := .ref (ad 4 (2*((Y 1 g0 0 0).toNatClampNeg)+1) 0)) rfl dX3_criticalAt_6 ?_
  obtain ⟨b2, h⟩ := gd_some h
  have b2 := of_decide_eq_true b2
  refine fw_getN C (ci := 2) (Cn := RX4) (Tc := TX4) (N := 3) (j := 2) ly_X3_criticalAt_4 rfl ((fun q hq => hG q (List.mem_append_right _ hq)) _ (allG_4b b2)) (of4_0 _) (ce4 T ad _ _) (by decide) (Nst_use (cx_nst C) (w := .fieldLinkNest RX3 95 "RecipeScheduler$Names" "count" "I" "RecipeScheduler") 114 (by decide +kernel) rfl) (fun _ h => h) (v := .int (Y 4 (2*((Y 1 g0 0 0).toNatClampNeg)+1) 0 2)) rfl dX3_criticalAt_9 ?_
  refine fw_iconst C dX3_criticalAt_12 (v := 1) rfl ?_
  refine fw_isub C dX3_criticalAt_13 ?_
  obtain ⟨r3, q4, h⟩ := bd1_some h
  refine fw_callSNi C (As := [.int a1, .int 0, .int ((Y 4 (2*((Y 1 g0 0 0).toNatClampNeg)+1) 0 2) - 1)]) (c_X11_isWithin ga0 q4) ⟨(va_cnB 3 (cx_ts C) gX3_criticalAt_X11_isWithin_n165 rfl rfl rfl (cx_nw C (w := .methodLinkNest RX3 165 yX11_isWithin "RecipeScheduler") 684 (by decide +kernel) rfl) (cx_ts C _ in_X3_criticalAt_11) (by decide +kernel) ⟨Nat.le_of_ble_eq_true rfl, Nat.le_of_ble_eq_true rfl⟩), cx_ts C _ sw_X3_criticalAt_X11_isWithin, trivial⟩ rfl (st := []) rfl (Nat.le_of_ble_eq_true rfl) ⟨Nat.le_refl 0, Nat.le_refl 0⟩ dX3_criticalAt_14 (pp2 ?_)
  refine fw_if_ne C dX3_criticalAt_17 (tgt := 22) rfl (fun c5 => ?_) (fun c5 => ?_)
  · have h := ite_f c5 h
    refine fw_aload_n C dX3_criticalAt_22 rfl 0 rfl ?_
    obtain ⟨Y8, q7, h⟩ := bd1_some h
    refine fw_callVv C (ci := 1) (Cn := RX3) (Tc := TX3) (N := 5) (As := []) (c_X3_rank (gac (hG _ (List.mem_of_getElem? (i := 0) rfl)) (gac (hG _ (List.mem_of_getElem? (i := 1) rfl)) (fun q hq => hG q (List.mem_append_right _ hq)))) q7) (cwV 0 (cx_ts C) gX3_criticalAt_X3_rank rfl rfl rfl (by decide +kernel) ⟨Nat.le_of_ble_eq_true rfl, Nat.le_of_ble_eq_true rfl⟩) rfl (hG _ (List.mem_of_getElem? (i := 0) rfl)) (of1_0 _) (ce1 T ad _ _) rfl (st := []) rfl (Nat.le_of_ble_eq_true rfl) ⟨Nat.le_refl 0, Nat.le_refl 0⟩ dX3_criticalAt_23 (ppv ?_)
    refine fw_aload_n C dX3_criticalAt_26 rfl 0 rfl ?_
    refine fw_aload_n C dX3_criticalAt_27 rfl 0 rfl ?_
    refine fw_get C (ci := 1) (Cn := RX3) (Tc := TX3) (N := 5) (j := 0) ly_X3_criticalAt_3 rfl (hG _ (List.mem_of_getElem? (i := 0) rfl)) (of1_0 _) (ce1 T ad _ _) (by decide) (cx_ts C _ fl_X3_criticalAt_28) (fun _ h => h) (v := .ref (ad 3 ((Y8 1 g0 0 0).toNatClampNeg) 0)) rfl dX3_criticalAt_28 ?_
    obtain ⟨b9, h⟩ := gd_some h
    have b9 := of_decide_eq_true b9
    obtain ⟨b10, h⟩ := gd_some h
    have b10 := of_decide_eq_true b10
    obtain ⟨r11, q12, h⟩ := bd1_some h
    refine fw_callVi C (ci := 3) (Cn := RX5) (Tc := TX5) (N := 17) (As := []) (c_X5_allSteps (gac ((fun q hq => hG q (List.mem_append_right _ hq)) _ (allG_3 b10)) (gac ((fun q hq => hG q (List.mem_append_right _ hq)) _ (allG_4b b9)) ga0)) q12) (cwV 0 (cx_ts C) gX3_criticalAt_X5_allSteps rfl rfl rfl (by decide +kernel) ⟨Nat.le_of_ble_eq_true rfl, Nat.le_of_ble_eq_true rfl⟩) rfl ((fun q hq => hG q (List.mem_append_right _ hq)) _ (allG_3 b10)) (of3_0 _) (ce3 T ad _ _) rfl (st := [.ref (ad 1 g0 0)]) rfl (Nat.le_of_ble_eq_true rfl) ⟨Nat.le_refl 0, Nat.le_refl 0⟩ dX3_criticalAt_31 (pp2 ?_)
    obtain ⟨r13, q14, h⟩ := bd1_some h
    refine fw_callVi C (ci := 1) (Cn := RX3) (Tc := TX3) (N := 5) (As := [.int r11]) (c_X3_longestOf (gac (hG _ (List.mem_of_getElem? (i := 0) rfl)) (fun q hq => hG q (List.mem_append_right _ hq))) q14) (cwV 1 (cx_ts C) gX3_criticalAt_X3_longestOf rfl rfl rfl (by decide +kernel) ⟨Nat.le_of_ble_eq_true rfl, Nat.le_of_ble_eq_true rfl⟩) rfl (hG _ (List.mem_of_getElem? (i := 0) rfl)) (of1_0 _) (ce1 T ad _ _) rfl (st := []) rfl (Nat.le_of_ble_eq_true rfl) ⟨Nat.le_refl 0, Nat.le_refl 0⟩ dX3_criticalAt_34 (pp2 ?_)
    refine fw_istore_n C dX3_criticalAt_37 rfl (by decide) (L' := [(2, .int r13), (0, .ref (ad 1 g0 0)), (1, .int a1)]) rfl ?_
    refine fw_iconst C dX3_criticalAt_38 (v := 0) rfl ?_
    refine fw_istore_n C dX3_criticalAt_39 rfl (by decide) (L' := [(3, .int 0), (2, .int r13), (0, .ref (ad 1 g0 0)), (1, .int a1)]) rfl ?_
    exact w_X3_criticalAt_b40 C hrt hG   _ _ _ _ h
  · have h := ite_t c5 h
    refine fw_iconst C dX3_criticalAt_20 (v := (-1)) rfl ?_
    exact fw_iret C hrt Y (Option.some.inj h) (fun t ht => ht) dX3_criticalAt_21
end
set_option maxRecDepth 100000 in
set_option maxHeartbeats 4000000 in
theorem c_X3_criticalAt {l : Launch} {N0 : Nat} {T : Nat → ClassId} {D : va_G} {gr : List (Nat × Nat)} {ad : Nat → Nat → Nat → Nat} {Y : Mem} {g0 : Nat} {a1 : Int32} {res : Int32 × Mem} (hG : ∀ q ∈ ([(1, g0), (2, g0)] ++ allG), q ∈ gr) (h : X3_criticalAt Y g0 a1 = some res) : CI l yX3_criticalAt wsX3_criticalAt (Rm 3) N0 T D gr ad Y [.ref (ad 1 g0 0), .int a1] (fun r Y1 => (r, Y1) = res) :=
  fw_body (by decide +kernel) rfl (Nat.le_of_ble_eq_true rfl) (fun p e s m below meth c C hrt => w_X3_criticalAt C hrt hG  h)
theorem ly_X11_criticalStep_11 : ∀ w ∈ u_ws RX11 TX11 11, w ∈ wsX11_criticalStep := by decide +kernel
theorem fl_X11_criticalStep_67 : Cond.fieldLink RX11 67 "RecipeScheduler" "now" "LRecipeScheduler$Kitchen;" ∈ wsX11_criticalStep := by decide +kernel
section
variable {p : Program} {l : Launch} {e : Env} {s : State} {m : MethodId} {below : List Frame} {meth : Method} {c : Code} {N0 : Nat} {T : Nat → ClassId} {D : va_G} {gr : List (Nat × Nat)} {ad : Nat → Nat → Nat → Nat}
set_option maxRecDepth 100000 in
set_option maxHeartbeats 4000000 in
theorem w_X11_criticalStep {Y : Mem} {a1 : Int32} (C : Cx p s m [.ref (ad 0 0 0), .int a1].toArray meth c cX11_criticalStep 2 wsX11_criticalStep RX11 N0 T D gr ad) (hrt : meth.sig.returnType = (some .int)) (hG : ∀ q ∈ ([(0, 0), (2, 0), (1, 0)] ++ allG), q ∈ gr) {res : Int32 × Mem} (h : X11_criticalStep Y a1 = some res) : FW p l e (Rm 4) s m [.ref (ad 0 0 0), .int a1].toArray below meth c 2 N0 T D gr ad 0 0 (MQ below (va_Qi (fun r Y1 => (r, Y1) = res) (WB T D gr ad) (fun q => N0 ≤ q)) [.ref (ad 0 0 0), .int a1].toArray s 0 0 (fun q => N0 ≤ q)) Y 0 [(0, .ref (ad 0 0 0)), (1, .int a1)] [] := by
  unfold X11_criticalStep at h
  refine fw_aload_n C dX11_criticalStep_0 rfl 0 rfl ?_
  refine fw_get C (ci := 9) (Cn := RX11) (Tc := TX11) (N := 11) (j := 5) ly_X11_criticalStep_11 rfl (hG _ (List.mem_of_getElem? (i := 0) rfl)) (of0_0 _) (ce0 T ad _ _) (by decide) (cx_ts C _ fl_X11_criticalStep_67) (fun _ h => h) (v := .ref (ad 1 0 0)) rfl dX11_criticalStep_1 ?_
  refine fw_iload_n C dX11_criticalStep_4 rfl 1 rfl ?_
  obtain ⟨r1, Y3, q2, h⟩ := bd2_some h
  refine fw_callVi C (ci := 1) (Cn := RX3) (Tc := TX3) (N := 5) (As := [.int a1]) (c_X3_criticalAt (gac (hG _ (List.mem_of_getElem? (i := 2) rfl)) (gac (hG _ (List.mem_of_getElem? (i := 1) rfl)) (fun q hq => hG q (List.mem_append_right _ hq)))) q2) (cwV 1 (cx_ts C) gX11_criticalStep_X3_criticalAt rfl rfl rfl (by decide +kernel) ⟨Nat.le_of_ble_eq_true rfl, Nat.le_of_ble_eq_true rfl⟩) rfl (hG _ (List.mem_of_getElem? (i := 2) rfl)) (of1_0 _) (ce1 T ad _ _) rfl (st := []) rfl (Nat.le_of_ble_eq_true rfl) ⟨Nat.le_refl 0, Nat.le_refl 0⟩ dX11_criticalStep_5 (ppw ?_)
  exact fw_iret C hrt Y3 (Option.some.inj h) (fun t ht => ht) dX11_criticalStep_8
end
set_option maxRecDepth 100000 in
set_option maxHeartbeats 4000000 in
theorem c_X11_criticalStep {l : Launch} {N0 : Nat} {T : Nat → ClassId} {D : va_G} {gr : List (Nat × Nat)} {ad : Nat → Nat → Nat → Nat} {Y : Mem} {a1 : Int32} {res : Int32 × Mem} (hG : ∀ q ∈ ([(0, 0), (2, 0), (1, 0)] ++ allG), q ∈ gr) (h : X11_criticalStep Y a1 = some res) : CI l yX11_criticalStep wsX11_criticalStep (Rm 4) N0 T D gr ad Y [.ref (ad 0 0 0), .int a1] (fun r Y1 => (r, Y1) = res) :=
  fw_body (by decide +kernel) rfl (Nat.le_of_ble_eq_true rfl) (fun p e s m below meth c C hrt => w_X11_criticalStep C hrt hG  h)
theorem ly_X5_allBefore_5 : ∀ w ∈ u_ws RX5 TX5 17, w ∈ wsX5_allBefore := by decide +kernel
theorem fl_X5_allBefore_47 : Cond.fieldLink RX5 47 "RecipeScheduler$Recipe" "predecessorSet" "[I" ∈ wsX5_allBefore := by decide +kernel
theorem in_X5_allBefore_11 : Cond.initialized RX11 ∈ wsX5_allBefore := by decide +kernel
theorem sw_X5_allBefore_X11_contains : Cond.static yX11_contains ∈ wsX5_allBefore := by decide +kernel
section
variable {p : Program} {l : Launch} {e : Env} {s : State} {m : MethodId} {below : List Frame} {meth : Method} {c : Code} {N0 : Nat} {T : Nat → ClassId} {D : va_G} {gr : List (Nat × Nat)} {ad : Nat → Nat → Nat → Nat}
set_option maxRecDepth 100000 in
set_option maxHeartbeats 4000000 in
theorem w_X5_allBefore_b32 {Y : Mem} {g0 : Nat} {a1 : Int32} (C : Cx p s m [.ref (ad 3 g0 0), .int a1].toArray meth c cX5_allBefore 4 wsX5_allBefore RX5 N0 T D gr ad) (hrt : meth.sig.returnType = (some .int)) (hG : ∀ q ∈ [(3, g0)], q ∈ gr) {res : Int32} {k11 : Int32 → Int32 → Option (Int32)} (hk11 : ∀ (l3 : Int32) (l2 : Int32), k11 l3 l2 = some res → FW p l e (Rm 1) s m [.ref (ad 3 g0 0), .int a1].toArray below meth c 4 N0 T D gr ad 0 0 (MQ below (va_Qi (fun r Y1 => r = res ∧ Y1 = Y) (WB T D gr ad) (fun q => N0 ≤ q)) [.ref (ad 3 g0 0), .int a1].toArray s 0 0 (fun q => N0 ≤ q)) Y 11 [(3, .int l3), (2, .int l2), (0, .ref (ad 3 g0 0))] []) (l3 : Int32) (l2 : Int32) (h : X5_allBefore_b32 Y g0 a1 k11 l3 l2 = some res) : FW p l e (Rm 1) s m [.ref (ad 3 g0 0), .int a1].toArray below meth c 4 N0 T D gr ad 0 0 (MQ below (va_Qi (fun r Y1 => r = res ∧ Y1 = Y) (WB T D gr ad) (fun q => N0 ≤ q)) [.ref (ad 3 g0 0), .int a1].toArray s 0 0 (fun q => N0 ≤ q)) Y 32 [(3, .int l3), (2, .int l2), (0, .ref (ad 3 g0 0))] [] := by
  unfold X5_allBefore_b32 at h
  refine fw_iinc C dX5_allBefore_32 (kk := 0) (v := l3 + (-1)) rfl rfl (by decide) (L' := [(3, .int (l3 + (-1))), (2, .int l2), (0, .ref (ad 3 g0 0))]) rfl ?_
  refine fw_goto C dX5_allBefore_35 (tgt := 11) rfl ?_
  exact hk11 _ _ h
set_option maxRecDepth 100000 in
set_option maxHeartbeats 4000000 in
theorem w_X5_allBefore_b11 {Y : Mem} {g0 : Nat} {a1 : Int32} (C : Cx p s m [.ref (ad 3 g0 0), .int a1].toArray meth c cX5_allBefore 4 wsX5_allBefore RX5 N0 T D gr ad) (hrt : meth.sig.returnType = (some .int)) (hG : ∀ q ∈ [(3, g0)], q ∈ gr) {res : Int32} : ∀ (n : Nat) (l3 : Int32) (l2 : Int32), X5_allBefore_b11 Y g0 a1  n l3 l2 = some res → FW p l e (Rm 1) s m [.ref (ad 3 g0 0), .int a1].toArray below meth c 4 N0 T D gr ad 0 0 (MQ below (va_Qi (fun r Y1 => r = res ∧ Y1 = Y) (WB T D gr ad) (fun q => N0 ≤ q)) [.ref (ad 3 g0 0), .int a1].toArray s 0 0 (fun q => N0 ≤ q)) Y 11 [(3, .int l3), (2, .int l2), (0, .ref (ad 3 g0 0))] [] := by
  intro n
  induction n with
  | zero =>
    intro l3 l2 h
    unfold X5_allBefore_b11 at h
    cases h
  | succ n ih =>
    intro l3 l2 h
    unfold X5_allBefore_b11 at h
    refine fw_iload_n C dX5_allBefore_11 rfl 0 rfl ?_
    refine fw_if_lt C dX5_allBefore_12 (tgt := 38) rfl (fun c6 => ?_) (fun c6 => ?_)
    · have h := ite_t c6 h
      refine fw_iload_n C dX5_allBefore_38 rfl 1 rfl ?_
      exact fw_iret C hrt Y ⟨Option.some.inj h, rfl⟩ (fun t ht => ht) dX5_allBefore_39
    · have h := ite_f c6 h
      refine fw_iload_n C dX5_allBefore_15 rfl 1 rfl ?_
      refine fw_iload_n C dX5_allBefore_16 rfl 0 rfl ?_
      obtain ⟨r7, q8, h⟩ := bd1_some h
      refine fw_callSNi C (As := [.int l2, .int l3]) (c_X11_contains ga0 q8) ⟨(va_cnB 2 (cx_ts C) gX5_allBefore_X11_contains_n69 rfl rfl rfl (cx_nw C (w := .methodLinkNest RX5 69 yX11_contains "RecipeScheduler") 1034 (by decide +kernel) rfl) (cx_ts C _ in_X5_allBefore_11) (by decide +kernel) ⟨Nat.le_of_ble_eq_true rfl, Nat.le_of_ble_eq_true rfl⟩), cx_ts C _ sw_X5_allBefore_X11_contains, trivial⟩ rfl (st := []) rfl (Nat.le_of_ble_eq_true rfl) ⟨Nat.le_refl 0, Nat.le_refl 0⟩ dX5_allBefore_17 (pp2 ?_)
      refine fw_if_eq C dX5_allBefore_20 (tgt := 32) rfl (fun c9 => ?_) (fun c9 => ?_)
      · have h := ite_t c9 h
        exact w_X5_allBefore_b32 C hrt hG  ih _ _ h
      · have h := ite_f c9 h
        refine fw_iload_n C dX5_allBefore_23 rfl 1 rfl ?_
        refine fw_aload_n C dX5_allBefore_24 rfl 2 rfl ?_
        refine fw_get C (ci := 3) (Cn := RX5) (Tc := TX5) (N := 17) (j := 13) ly_X5_allBefore_5 rfl (hG _ (List.mem_of_getElem? (i := 0) rfl)) (of3_0 _) (ce3 T ad _ _) (by decide) (cx_ts C _ fl_X5_allBefore_47) (fun _ h => h) (v := .ref (ad 3 g0 8)) rfl dX5_allBefore_25 ?_
        refine fw_iload_n C dX5_allBefore_28 rfl 0 rfl ?_
        obtain ⟨b10, h⟩ := gd_some h
        refine fw_iald2 C (hG _ (List.mem_of_getElem? (i := 0) rfl)) (of3_8 _) (ca3_8 T ad _ _) b10 (Nat.le_of_ble_eq_true rfl) dX5_allBefore_29 ?_
        refine fw_ior C dX5_allBefore_30 ?_
        obtain ⟨v11, e12, h⟩ := lt_some h
        refine fw_top (v' := .int v11) (by rw [e12]) ?_
        refine fw_istore_n C dX5_allBefore_31 rfl (by decide) (L' := [(2, .int v11), (3, .int l3), (0, .ref (ad 3 g0 0))]) rfl ?_
        refine fw_sub [1, 0, 2] (L' := [(3, .int l3), (2, .int v11), (0, .ref (ad 3 g0 0))]) rfl ?_
        exact w_X5_allBefore_b32 C hrt hG  ih _ _ h
set_option maxRecDepth 100000 in
set_option maxHeartbeats 4000000 in
theorem w_X5_allBefore {Y : Mem} {g0 : Nat} {a1 : Int32} (C : Cx p s m [.ref (ad 3 g0 0), .int a1].toArray meth c cX5_allBefore 4 wsX5_allBefore RX5 N0 T D gr ad) (hrt : meth.sig.returnType = (some .int)) (hG : ∀ q ∈ [(3, g0)], q ∈ gr) {res : Int32} (h : X5_allBefore Y g0 a1 = some res) : FW p l e (Rm 1) s m [.ref (ad 3 g0 0), .int a1].toArray below meth c 4 N0 T D gr ad 0 0 (MQ below (va_Qi (fun r Y1 => r = res ∧ Y1 = Y) (WB T D gr ad) (fun q => N0 ≤ q)) [.ref (ad 3 g0 0), .int a1].toArray s 0 0 (fun q => N0 ≤ q)) Y 0 [(0, .ref (ad 3 g0 0)), (1, .int a1)] [] := by
  unfold X5_allBefore at h
  refine fw_aload_n C dX5_allBefore_0 rfl 0 rfl ?_
  refine fw_get C (ci := 3) (Cn := RX5) (Tc := TX5) (N := 17) (j := 13) ly_X5_allBefore_5 rfl (hG _ (List.mem_of_getElem? (i := 0) rfl)) (of3_0 _) (ce3 T ad _ _) (by decide) (cx_ts C _ fl_X5_allBefore_47) (fun _ h => h) (v := .ref (ad 3 g0 8)) rfl dX5_allBefore_1 ?_
  refine fw_iload_n C dX5_allBefore_4 rfl 1 rfl ?_
  obtain ⟨b1, h⟩ := gd_some h
  refine fw_iald2 C (hG _ (List.mem_of_getElem? (i := 0) rfl)) (of3_8 _) (ca3_8 T ad _ _) b1 (Nat.le_of_ble_eq_true rfl) dX5_allBefore_5 ?_
  obtain ⟨v2, e3, h⟩ := lt_some h
  refine fw_top (v' := .int v2) (by rw [e3]) ?_
  refine fw_istore_n C dX5_allBefore_6 rfl (by decide) (L' := [(2, .int v2), (0, .ref (ad 3 g0 0)), (1, .int a1)]) rfl ?_
  refine fw_iload_n C dX5_allBefore_7 rfl 2 rfl ?_
  refine fw_iconst C dX5_allBefore_8 (v := 1) rfl ?_
  refine fw_isub C dX5_allBefore_9 ?_
  obtain ⟨v4, e5, h⟩ := lt_some h
  refine fw_top (v' := .int v4) (by rw [e5]) ?_
  refine fw_istore_n C dX5_allBefore_10 rfl (by decide) (L' := [(3, .int v4), (2, .int v2), (0, .ref (ad 3 g0 0)), (1, .int a1)]) rfl ?_
  refine fw_sub [0, 1, 2] (L' := [(3, .int v4), (2, .int v2), (0, .ref (ad 3 g0 0))]) rfl ?_
  exact w_X5_allBefore_b11 C hrt hG   _ _ _ h
end
set_option maxRecDepth 100000 in
set_option maxHeartbeats 4000000 in
theorem c_X5_allBefore {l : Launch} {N0 : Nat} {T : Nat → ClassId} {D : va_G} {gr : List (Nat × Nat)} {ad : Nat → Nat → Nat → Nat} {Y : Mem} {g0 : Nat} {a1 : Int32} {res : Int32} (hG : ∀ q ∈ [(3, g0)], q ∈ gr) (h : X5_allBefore Y g0 a1 = some res) : CI l yX5_allBefore wsX5_allBefore (Rm 1) N0 T D gr ad Y [.ref (ad 3 g0 0), .int a1] (fun r Y1 => r = res ∧ Y1 = Y) :=
  fw_body (by decide +kernel) rfl (Nat.le_of_ble_eq_true rfl) (fun p e s m below meth c C hrt => w_X5_allBefore C hrt hG  h)
theorem ly_X11_dependsOn_11 : ∀ w ∈ u_ws RX11 TX11 11, w ∈ wsX11_dependsOn := by decide +kernel
theorem fl_X11_dependsOn_67 : Cond.fieldLink RX11 67 "RecipeScheduler" "now" "LRecipeScheduler$Kitchen;" ∈ wsX11_dependsOn := by decide +kernel
theorem ly_X11_dependsOn_3 : ∀ w ∈ u_ws RX3 TX3 5, w ∈ wsX11_dependsOn := by decide +kernel
section
variable {p : Program} {l : Launch} {e : Env} {s : State} {m : MethodId} {below : List Frame} {meth : Method} {c : Code} {N0 : Nat} {T : Nat → ClassId} {D : va_G} {gr : List (Nat × Nat)} {ad : Nat → Nat → Nat → Nat}
set_option maxRecDepth 100000 in
set_option maxHeartbeats 4000000 in
theorem w_X11_dependsOn {Y : Mem} {a1 : Int32} {a2 : Int32} (C : Cx p s m [.ref (ad 0 0 0), .int a1, .int a2].toArray meth c cX11_dependsOn 3 wsX11_dependsOn RX11 N0 T D gr ad) (hrt : meth.sig.returnType = (some .boolean)) (hG : ∀ q ∈ ([(1, 0), (0, 0)] ++ allG), q ∈ gr) (hl : l.stackTraces = false) (hX : ∀ x ∈ c.exceptionTable.toList, False) {res : (Nat × Mem) ⊕ (Int32 × Mem)} (h : X11_dependsOn Y a1 a2 = some res) : FW p l e (Rx 7 2) s m [.ref (ad 0 0 0), .int a1, .int a2].toArray below meth c 3 N0 T D gr ad 0 0 (vx_MQ below (va_Qi (fun r Y1 => Sum.inr (r, Y1) = res) (WB T D gr ad) (fun q => N0 ≤ q)) (vx_X (fun u => Sum.inl u = res) (XB T D gr ad) (fun q => N0 ≤ q)) [.ref (ad 0 0 0), .int a1, .int a2].toArray s 2 12 (fun q => N0 ≤ q)) Y 0 [(0, .ref (ad 0 0 0)), (1, .int a1), (2, .int a2)] [] := by
  unfold X11_dependsOn at h
  refine fw_aload_n C dX11_dependsOn_0 rfl 0 rfl ?_
  refine fw_iload_n C dX11_dependsOn_1 rfl 1 rfl ?_
  rcases bdxv_some h with ⟨x5, q2, e6⟩ | ⟨Y4, q2, h⟩
  · exact fw_callXVv_l C (ci := 9) (Cn := RX11) (Tc := TX11) (N := 11) (As := [.int a1]) (c_X11_requireStep hl (gac (hG _ (List.mem_of_getElem? (i := 1) rfl)) (gac (hG _ (List.mem_of_getElem? (i := 0) rfl)) (fun q hq => hG q (List.mem_append_right _ hq)))) q2) (cwV 1 (cx_ts C) gX11_dependsOn_X11_requireStep rfl rfl rfl (by decide +kernel) ⟨Nat.le_of_ble_eq_true rfl, Nat.le_of_ble_eq_true rfl⟩) rfl (hG _ (List.mem_of_getElem? (i := 1) rfl)) (of0_0 _) (ce0 T ad _ _) rfl (st := []) rfl (Nat.le_of_ble_eq_true rfl) ⟨Nat.le_of_ble_eq_true rfl, Nat.le_of_ble_eq_true rfl⟩ dX11_dependsOn_2 hX e6 (Nat.le_of_ble_eq_true rfl) (Nat.le_of_ble_eq_true rfl)
  refine fw_callXVv_r C (ci := 9) (Cn := RX11) (Tc := TX11) (N := 11) (As := [.int a1]) (c_X11_requireStep hl (gac (hG _ (List.mem_of_getElem? (i := 1) rfl)) (gac (hG _ (List.mem_of_getElem? (i := 0) rfl)) (fun q hq => hG q (List.mem_append_right _ hq)))) q2) (cwV 1 (cx_ts C) gX11_dependsOn_X11_requireStep rfl rfl rfl (by decide +kernel) ⟨Nat.le_of_ble_eq_true rfl, Nat.le_of_ble_eq_true rfl⟩) rfl (hG _ (List.mem_of_getElem? (i := 1) rfl)) (of0_0 _) (ce0 T ad _ _) rfl (st := []) rfl (Nat.le_of_ble_eq_true rfl) ⟨Nat.le_of_ble_eq_true rfl, Nat.le_of_ble_eq_true rfl⟩ dX11_dependsOn_2 ?_
  refine fw_aload_n C dX11_dependsOn_5 rfl 0 rfl ?_
  refine fw_iload_n C dX11_dependsOn_6 rfl 2 rfl ?_
  rcases bdxv_some h with ⟨x11, q8, e12⟩ | ⟨Y10, q8, h⟩
  · exact fw_callXVv_l C (ci := 9) (Cn := RX11) (Tc := TX11) (N := 11) (As := [.int a2]) (c_X11_requireStep hl (gac (hG _ (List.mem_of_getElem? (i := 1) rfl)) (gac (hG _ (List.mem_of_getElem? (i := 0) rfl)) (fun q hq => hG q (List.mem_append_right _ hq)))) q8) (cwV 1 (cx_ts C) gX11_dependsOn_X11_requireStep rfl rfl rfl (by decide +kernel) ⟨Nat.le_of_ble_eq_true rfl, Nat.le_of_ble_eq_true rfl⟩) rfl (hG _ (List.mem_of_getElem? (i := 1) rfl)) (of0_0 _) (ce0 T ad _ _) rfl (st := []) rfl (Nat.le_of_ble_eq_true rfl) ⟨Nat.le_of_ble_eq_true rfl, Nat.le_of_ble_eq_true rfl⟩ dX11_dependsOn_7 hX e12 (Nat.le_of_ble_eq_true rfl) (Nat.le_of_ble_eq_true rfl)
  refine fw_callXVv_r C (ci := 9) (Cn := RX11) (Tc := TX11) (N := 11) (As := [.int a2]) (c_X11_requireStep hl (gac (hG _ (List.mem_of_getElem? (i := 1) rfl)) (gac (hG _ (List.mem_of_getElem? (i := 0) rfl)) (fun q hq => hG q (List.mem_append_right _ hq)))) q8) (cwV 1 (cx_ts C) gX11_dependsOn_X11_requireStep rfl rfl rfl (by decide +kernel) ⟨Nat.le_of_ble_eq_true rfl, Nat.le_of_ble_eq_true rfl⟩) rfl (hG _ (List.mem_of_getElem? (i := 1) rfl)) (of0_0 _) (ce0 T ad _ _) rfl (st := []) rfl (Nat.le_of_ble_eq_true rfl) ⟨Nat.le_of_ble_eq_true rfl, Nat.le_of_ble_eq_true rfl⟩ dX11_dependsOn_7 ?_
  refine fw_aload_n C dX11_dependsOn_10 rfl 0 rfl ?_
  refine fw_get C (ci := 9) (Cn := RX11) (Tc := TX11) (N := 11) (j := 5) ly_X11_dependsOn_11 rfl (hG _ (List.mem_of_getElem? (i := 1) rfl)) (of0_0 _) (ce0 T ad _ _) (by decide) (cx_ts C _ fl_X11_dependsOn_67) (fun _ h => h) (v := .ref (ad 1 0 0)) rfl dX11_dependsOn_11 ?_
  refine fw_getN C (ci := 1) (Cn := RX3) (Tc := TX3) (N := 5) (j := 0) ly_X11_dependsOn_3 rfl (hG _ (List.mem_of_getElem? (i := 0) rfl)) (of1_0 _) (ce1 T ad _ _) (by decide) (Nst_use (cx_nst C) (w := .fieldLinkNest RX11 117 "RecipeScheduler$Kitchen" "recipe" "LRecipeScheduler$Recipe;" "RecipeScheduler") 516 (by decide +kernel) rfl) (fun _ h => h) (v := .ref (ad 3 ((Y10 1 0 0 0).toNatClampNeg) 0)) rfl dX11_dependsOn_14 ?_
  refine fw_iload_n C dX11_dependsOn_17 rfl 1 rfl ?_
  obtain ⟨b13, h⟩ := gd_some h
  have b13 := of_decide_eq_true b13
  obtain ⟨r14, q15, h⟩ := bd1_some h
  refine fw_callVi C (ci := 3) (Cn := RX5) (Tc := TX5) (N := 17) (As := [.int a1]) (c_X5_allBefore (gac ((fun q hq => hG q (List.mem_append_right _ hq)) _ (allG_3 b13)) ga0) q15) (cwV 1 (cx_ts C) gX11_dependsOn_X5_allBefore rfl rfl rfl (by decide +kernel) ⟨Nat.le_of_ble_eq_true rfl, Nat.le_of_ble_eq_true rfl⟩) rfl ((fun q hq => hG q (List.mem_append_right _ hq)) _ (allG_3 b13)) (of3_0 _) (ce3 T ad _ _) rfl (st := []) rfl (Nat.le_of_ble_eq_true rfl) ⟨Nat.le_refl 0, Nat.le_refl 0⟩ dX11_dependsOn_18 (pp2 ?_)
  refine fw_iload_n C dX11_dependsOn_21 rfl 2 rfl ?_
  obtain ⟨r16, q17, h⟩ := bd1_some h
  refine fw_callSi C (As := [.int r14, .int a2]) (c_X11_contains ga0 q17) (va_cwS 2 (cx_ts C) gX11_dependsOn_X11_contains rfl rfl rfl (by decide +kernel) ⟨Nat.le_of_ble_eq_true rfl, Nat.le_of_ble_eq_true rfl⟩) rfl (st := []) rfl (Nat.le_of_ble_eq_true rfl) ⟨Nat.le_refl 0, Nat.le_refl 0⟩ dX11_dependsOn_22 (pp2 ?_)
  refine fw_xr (Nat.le_of_ble_eq_true rfl) (Nat.le_of_ble_eq_true rfl) ?_
  obtain ⟨b18, h⟩ := gd_some h
  exact fw_zret C hrt (of_decide_eq_true b18) Y10 (Option.some.inj h) (fun t ht => ht) dX11_dependsOn_25
end
set_option maxRecDepth 100000 in
set_option maxHeartbeats 4000000 in
theorem c_X11_dependsOn {l : Launch} {N0 : Nat} {T : Nat → ClassId} {D : va_G} {gr : List (Nat × Nat)} {ad : Nat → Nat → Nat → Nat} {Y : Mem} {a1 : Int32} {a2 : Int32} {res : (Nat × Mem) ⊕ (Int32 × Mem)} (hl : l.stackTraces = false) (hG : ∀ q ∈ ([(1, 0), (0, 0)] ++ allG), q ∈ gr) (h : X11_dependsOn Y a1 a2 = some res) : CXi l yX11_dependsOn wsX11_dependsOn (Rx 7 2) N0 T D gr ad Y [.ref (ad 0 0 0), .int a1, .int a2] 2 res :=
  fw_xbody (by decide +kernel) rfl (Nat.le_of_ble_eq_true rfl) (fun p e s m below meth c C hrt hX => w_X11_dependsOn C hrt hG hl hX h)
theorem ly_X11_doneShare_11 : ∀ w ∈ u_ws RX11 TX11 11, w ∈ wsX11_doneShare := by decide +kernel
theorem fl_X11_doneShare_67 : Cond.fieldLink RX11 67 "RecipeScheduler" "now" "LRecipeScheduler$Kitchen;" ∈ wsX11_doneShare := by decide +kernel
theorem ly_X11_doneShare_3 : ∀ w ∈ u_ws RX3 TX3 5, w ∈ wsX11_doneShare := by decide +kernel
theorem ly_X11_doneShare_8 : ∀ w ∈ u_ws RX8 TX8 15, w ∈ wsX11_doneShare := by decide +kernel
theorem ly_X11_doneShare_5 : ∀ w ∈ u_ws RX5 TX5 17, w ∈ wsX11_doneShare := by decide +kernel
theorem ly_X11_doneShare_4 : ∀ w ∈ u_ws RX4 TX4 3, w ∈ wsX11_doneShare := by decide +kernel
section
variable {p : Program} {l : Launch} {e : Env} {s : State} {m : MethodId} {below : List Frame} {meth : Method} {c : Code} {N0 : Nat} {T : Nat → ClassId} {D : va_G} {gr : List (Nat × Nat)} {ad : Nat → Nat → Nat → Nat}
set_option maxRecDepth 100000 in
set_option maxHeartbeats 4000000 in
theorem w_X11_doneShare {Y : Mem} (C : Cx p s m [.ref (ad 0 0 0)].toArray meth c cX11_doneShare 1 wsX11_doneShare RX11 N0 T D gr ad) (hrt : meth.sig.returnType = (some .float)) (hG : ∀ q ∈ ([(0, 0), (1, 0), (2, 0)] ++ allG), q ∈ gr) {res : UInt32} (h : X11_doneShare Y = some res) : FW p l e (Rm 1) s m [.ref (ad 0 0 0)].toArray below meth c 1 N0 T D gr ad 0 0 (MQ below (va_Qf (fun r Y1 => r = res ∧ Y1 = Y) (WB T D gr ad) (fun q => N0 ≤ q)) [.ref (ad 0 0 0)].toArray s 0 0 (fun q => N0 ≤ q)) Y 0 [(0, .ref (ad 0 0 0))] [] := by
  unfold X11_doneShare at h
  refine fw_aload_n C dX11_doneShare_0 rfl 0 rfl ?_
  refine fw_get C (ci := 9) (Cn := RX11) (Tc := TX11) (N := 11) (j := 5) ly_X11_doneShare_11 rfl (hG _ (List.mem_of_getElem? (i := 0) rfl)) (of0_0 _) (ce0 T ad _ _) (by decide) (cx_ts C _ fl_X11_doneShare_67) (fun _ h => h) (v := .ref (ad 1 0 0)) rfl dX11_doneShare_1 ?_
  refine fw_getN C (ci := 1) (Cn := RX3) (Tc := TX3) (N := 5) (j := 1) ly_X11_doneShare_3 rfl (hG _ (List.mem_of_getElem? (i := 1) rfl)) (of1_0 _) (ce1 T ad _ _) (by decide) (Nst_use (cx_nst C) (w := .fieldLinkNest RX11 139 "RecipeScheduler$Kitchen" "state" "LRecipeScheduler$State;" "RecipeScheduler") 518 (by decide +kernel) rfl) (fun _ h => h) (v := .ref (ad 2 0 0)) rfl dX11_doneShare_4 ?_
  refine fw_getN C (ci := 6) (Cn := RX8) (Tc := TX8) (N := 15) (j := 7) ly_X11_doneShare_8 rfl (hG _ (List.mem_of_getElem? (i := 2) rfl)) (of2_0 _) (ce2 T ad _ _) (by decide) (Nst_use (cx_nst C) (w := .fieldLinkNest RX11 261 "RecipeScheduler$State" "done" "I" "RecipeScheduler") 456 (by decide +kernel) rfl) (fun _ h => h) (v := .int (Y 2 0 0 7)) rfl dX11_doneShare_7 ?_
  obtain ⟨r1, q2, h⟩ := bd1_some h
  refine fw_callSi C (As := [.int (Y 2 0 0 7)]) (c_J6_bitCount_0f7a4 ga0 q2) (va_cwS 1 (cx_ts C) gX11_doneShare_J6_bitCount_0f7a4 rfl rfl rfl (by decide +kernel) ⟨Nat.le_of_ble_eq_true rfl, Nat.le_of_ble_eq_true rfl⟩) rfl (st := []) rfl (Nat.le_of_ble_eq_true rfl) ⟨Nat.le_refl 0, Nat.le_refl 0⟩ dX11_doneShare_10 (pp2 ?_)
  refine fw_i2f C dX11_doneShare_13 ?_
  refine fw_aload_n C dX11_doneShare_14 rfl 0 rfl ?_
  refine fw_get C (ci := 9) (Cn := RX11) (Tc := TX11) (N := 11) (j := 5) ly_X11_doneShare_11 rfl (hG _ (List.mem_of_getElem? (i := 0) rfl)) (of0_0 _) (ce0 T ad _ _) (by decide) (cx_ts C _ fl_X11_doneShare_67) (fun _ h => h) (v := .ref (ad 1 0 0)) rfl dX11_doneShare_15 ?_
  refine fw_getN C (ci := 1) (Cn := RX3) (Tc := TX3) (N := 5) (j := 0) ly_X11_doneShare_3 rfl (hG _ (List.mem_of_getElem? (i := 1) rfl)) (of1_0 _) (ce1 T ad _ _) (by decide) (Nst_use (cx_nst C) (w := .fieldLinkNest RX11 117 "RecipeScheduler$Kitchen" "recipe" "LRecipeScheduler$Recipe;" "RecipeScheduler") 516 (by decide +kernel) rfl) (fun _ h => h) (v := .ref (ad 3 ((Y 1 0 0 0).toNatClampNeg) 0)) rfl dX11_doneShare_18 ?_
  obtain ⟨b3, h⟩ := gd_some h
  have b3 := of_decide_eq_true b3
  refine fw_getN C (ci := 3) (Cn := RX5) (Tc := TX5) (N := 17) (j := 7) ly_X11_doneShare_5 rfl ((fun q hq => hG q (List.mem_append_right _ hq)) _ (allG_3 b3)) (of3_0 _) (ce3 T ad _ _) (by decide) (Nst_use (cx_nst C) (w := .fieldLinkNest RX11 126 "RecipeScheduler$Recipe" "steps" "LRecipeScheduler$Names;" "RecipeScheduler") 146 (by decide +kernel) rfl) (fun _ h => h) (v := .ref (ad 4 (2*((Y 1 0 0 0).toNatClampNeg)+1) 0)) rfl dX11_doneShare_21 ?_
  obtain ⟨b4, h⟩ := gd_some h
  have b4 := of_decide_eq_true b4
  refine fw_getN C (ci := 2) (Cn := RX4) (Tc := TX4) (N := 3) (j := 2) ly_X11_doneShare_4 rfl ((fun q hq => hG q (List.mem_append_right _ hq)) _ (allG_4b b4)) (of4_0 _) (ce4 T ad _ _) (by decide) (Nst_use (cx_nst C) (w := .fieldLinkNest RX11 130 "RecipeScheduler$Names" "count" "I" "RecipeScheduler") 113 (by decide +kernel) rfl) (fun _ h => h) (v := .int (Y 4 (2*((Y 1 0 0 0).toNatClampNeg)+1) 0 2)) rfl dX11_doneShare_24 ?_
  refine fw_i2f C dX11_doneShare_27 ?_
  obtain ⟨b5, h⟩ := gd_some h
  refine fw_fdiv C (of_decide_eq_true b5) dX11_doneShare_28 ?_
  exact fw_fret C hrt Y ⟨Option.some.inj h, rfl⟩ (fun t ht => ht) dX11_doneShare_29
end
set_option maxRecDepth 100000 in
set_option maxHeartbeats 4000000 in
theorem c_X11_doneShare {l : Launch} {N0 : Nat} {T : Nat → ClassId} {D : va_G} {gr : List (Nat × Nat)} {ad : Nat → Nat → Nat → Nat} {Y : Mem} {res : UInt32} (hG : ∀ q ∈ ([(0, 0), (1, 0), (2, 0)] ++ allG), q ∈ gr) (h : X11_doneShare Y = some res) : CF l yX11_doneShare wsX11_doneShare (Rm 1) N0 T D gr ad Y [.ref (ad 0 0 0)] (fun r Y1 => r = res ∧ Y1 = Y) :=
  fw_body (by decide +kernel) rfl (Nat.le_of_ble_eq_true rfl) (fun p e s m below meth c C hrt => w_X11_doneShare C hrt hG  h)
theorem ly_X11_duration_11 : ∀ w ∈ u_ws RX11 TX11 11, w ∈ wsX11_duration := by decide +kernel
theorem fl_X11_duration_67 : Cond.fieldLink RX11 67 "RecipeScheduler" "now" "LRecipeScheduler$Kitchen;" ∈ wsX11_duration := by decide +kernel
theorem ly_X11_duration_3 : ∀ w ∈ u_ws RX3 TX3 5, w ∈ wsX11_duration := by decide +kernel
theorem ly_X11_duration_8 : ∀ w ∈ u_ws RX8 TX8 15, w ∈ wsX11_duration := by decide +kernel
section
variable {p : Program} {l : Launch} {e : Env} {s : State} {m : MethodId} {below : List Frame} {meth : Method} {c : Code} {N0 : Nat} {T : Nat → ClassId} {D : va_G} {gr : List (Nat × Nat)} {ad : Nat → Nat → Nat → Nat}
set_option maxRecDepth 100000 in
set_option maxHeartbeats 4000000 in
theorem w_X11_duration {Y : Mem} {a1 : Int32} (C : Cx p s m [.ref (ad 0 0 0), .int a1].toArray meth c cX11_duration 2 wsX11_duration RX11 N0 T D gr ad) (hrt : meth.sig.returnType = (some .int)) (hG : ∀ q ∈ ([(1, 0), (0, 0), (2, 0)] ++ allG), q ∈ gr) (hl : l.stackTraces = false) (hX : ∀ x ∈ c.exceptionTable.toList, False) {res : (Nat × Mem) ⊕ (Int32 × Mem)} (h : X11_duration Y a1 = some res) : FW p l e (Rx 7 1) s m [.ref (ad 0 0 0), .int a1].toArray below meth c 2 N0 T D gr ad 0 0 (vx_MQ below (va_Qi (fun r Y1 => Sum.inr (r, Y1) = res) (WB T D gr ad) (fun q => N0 ≤ q)) (vx_X (fun u => Sum.inl u = res) (XB T D gr ad) (fun q => N0 ≤ q)) [.ref (ad 0 0 0), .int a1].toArray s 1 6 (fun q => N0 ≤ q)) Y 0 [(0, .ref (ad 0 0 0)), (1, .int a1)] [] := by
  unfold X11_duration at h
  refine fw_aload_n C dX11_duration_0 rfl 0 rfl ?_
  refine fw_iload_n C dX11_duration_1 rfl 1 rfl ?_
  rcases bdxv_some h with ⟨x5, q2, e6⟩ | ⟨Y4, q2, h⟩
  · exact fw_callXVv_l C (ci := 9) (Cn := RX11) (Tc := TX11) (N := 11) (As := [.int a1]) (c_X11_requireStep hl (gac (hG _ (List.mem_of_getElem? (i := 1) rfl)) (gac (hG _ (List.mem_of_getElem? (i := 0) rfl)) (fun q hq => hG q (List.mem_append_right _ hq)))) q2) (cwV 1 (cx_ts C) gX11_duration_X11_requireStep rfl rfl rfl (by decide +kernel) ⟨Nat.le_of_ble_eq_true rfl, Nat.le_of_ble_eq_true rfl⟩) rfl (hG _ (List.mem_of_getElem? (i := 1) rfl)) (of0_0 _) (ce0 T ad _ _) rfl (st := []) rfl (Nat.le_of_ble_eq_true rfl) ⟨Nat.le_of_ble_eq_true rfl, Nat.le_of_ble_eq_true rfl⟩ dX11_duration_2 hX e6 (Nat.le_of_ble_eq_true rfl) (Nat.le_of_ble_eq_true rfl)
  refine fw_callXVv_r C (ci := 9) (Cn := RX11) (Tc := TX11) (N := 11) (As := [.int a1]) (c_X11_requireStep hl (gac (hG _ (List.mem_of_getElem? (i := 1) rfl)) (gac (hG _ (List.mem_of_getElem? (i := 0) rfl)) (fun q hq => hG q (List.mem_append_right _ hq)))) q2) (cwV 1 (cx_ts C) gX11_duration_X11_requireStep rfl rfl rfl (by decide +kernel) ⟨Nat.le_of_ble_eq_true rfl, Nat.le_of_ble_eq_true rfl⟩) rfl (hG _ (List.mem_of_getElem? (i := 1) rfl)) (of0_0 _) (ce0 T ad _ _) rfl (st := []) rfl (Nat.le_of_ble_eq_true rfl) ⟨Nat.le_of_ble_eq_true rfl, Nat.le_of_ble_eq_true rfl⟩ dX11_duration_2 ?_
  refine fw_aload_n C dX11_duration_5 rfl 0 rfl ?_
  refine fw_get C (ci := 9) (Cn := RX11) (Tc := TX11) (N := 11) (j := 5) ly_X11_duration_11 rfl (hG _ (List.mem_of_getElem? (i := 1) rfl)) (of0_0 _) (ce0 T ad _ _) (by decide) (cx_ts C _ fl_X11_duration_67) (fun _ h => h) (v := .ref (ad 1 0 0)) rfl dX11_duration_6 ?_
  refine fw_getN C (ci := 1) (Cn := RX3) (Tc := TX3) (N := 5) (j := 1) ly_X11_duration_3 rfl (hG _ (List.mem_of_getElem? (i := 0) rfl)) (of1_0 _) (ce1 T ad _ _) (by decide) (Nst_use (cx_nst C) (w := .fieldLinkNest RX11 139 "RecipeScheduler$Kitchen" "state" "LRecipeScheduler$State;" "RecipeScheduler") 518 (by decide +kernel) rfl) (fun _ h => h) (v := .ref (ad 2 0 0)) rfl dX11_duration_9 ?_
  refine fw_getN C (ci := 6) (Cn := RX8) (Tc := TX8) (N := 15) (j := 9) ly_X11_duration_8 rfl (hG _ (List.mem_of_getElem? (i := 2) rfl)) (of2_0 _) (ce2 T ad _ _) (by decide) (Nst_use (cx_nst C) (w := .fieldLinkNest RX11 196 "RecipeScheduler$State" "duration" "[I" "RecipeScheduler") 461 (by decide +kernel) rfl) (fun _ h => h) (v := .ref (ad 2 0 1)) rfl dX11_duration_12 ?_
  refine fw_iload_n C dX11_duration_15 rfl 1 rfl ?_
  obtain ⟨b7, h⟩ := gd_some h
  refine fw_iald2 C (hG _ (List.mem_of_getElem? (i := 2) rfl)) (of2_1 _) (ca2_1 T ad _ _) b7 (Nat.le_of_ble_eq_true rfl) dX11_duration_16 ?_
  refine fw_xr (Nat.le_of_ble_eq_true rfl) (Nat.le_of_ble_eq_true rfl) ?_
  exact fw_iret C hrt Y4 (Option.some.inj h) (fun t ht => ht) dX11_duration_17
end
set_option maxRecDepth 100000 in
set_option maxHeartbeats 4000000 in
theorem c_X11_duration {l : Launch} {N0 : Nat} {T : Nat → ClassId} {D : va_G} {gr : List (Nat × Nat)} {ad : Nat → Nat → Nat → Nat} {Y : Mem} {a1 : Int32} {res : (Nat × Mem) ⊕ (Int32 × Mem)} (hl : l.stackTraces = false) (hG : ∀ q ∈ ([(1, 0), (0, 0), (2, 0)] ++ allG), q ∈ gr) (h : X11_duration Y a1 = some res) : CXi l yX11_duration wsX11_duration (Rx 7 1) N0 T D gr ad Y [.ref (ad 0 0 0), .int a1] 1 res :=
  fw_xbody (by decide +kernel) rfl (Nat.le_of_ble_eq_true rfl) (fun p e s m below meth c C hrt hX => w_X11_duration C hrt hG hl hX h)
theorem ly_X11_errorCode_11 : ∀ w ∈ u_ws RX11 TX11 11, w ∈ wsX11_errorCode := by decide +kernel
theorem fl_X11_errorCode_48 : Cond.fieldLink RX11 48 "RecipeScheduler" "tokens" "LRecipeScheduler$Tokens;" ∈ wsX11_errorCode := by decide +kernel
theorem ly_X11_errorCode_10 : ∀ w ∈ u_ws RX10 TX10 6, w ∈ wsX11_errorCode := by decide +kernel
section
variable {p : Program} {l : Launch} {e : Env} {s : State} {m : MethodId} {below : List Frame} {meth : Method} {c : Code} {N0 : Nat} {T : Nat → ClassId} {D : va_G} {gr : List (Nat × Nat)} {ad : Nat → Nat → Nat → Nat}
set_option maxRecDepth 100000 in
set_option maxHeartbeats 4000000 in
theorem w_X11_errorCode {Y : Mem} (C : Cx p s m [.ref (ad 0 0 0)].toArray meth c cX11_errorCode 1 wsX11_errorCode RX11 N0 T D gr ad) (hrt : meth.sig.returnType = (some .int)) (hG : ∀ q ∈ [(0, 0), (6, 0)], q ∈ gr) {res : Int32} (h : X11_errorCode Y = some res) : FW p l e (Rm 0) s m [.ref (ad 0 0 0)].toArray below meth c 1 N0 T D gr ad 0 0 (MQ below (va_Qi (fun r Y1 => r = res ∧ Y1 = Y) (WB T D gr ad) (fun q => N0 ≤ q)) [.ref (ad 0 0 0)].toArray s 0 0 (fun q => N0 ≤ q)) Y 0 [(0, .ref (ad 0 0 0))] [] := by
  unfold X11_errorCode at h
  refine fw_aload_n C dX11_errorCode_0 rfl 0 rfl ?_
  refine fw_get C (ci := 9) (Cn := RX11) (Tc := TX11) (N := 11) (j := 2) ly_X11_errorCode_11 rfl (hG _ (List.mem_of_getElem? (i := 0) rfl)) (of0_0 _) (ce0 T ad _ _) (by decide) (cx_ts C _ fl_X11_errorCode_48) (fun _ h => h) (v := .ref (ad 6 0 0)) rfl dX11_errorCode_1 ?_
  refine fw_getN C (ci := 8) (Cn := RX10) (Tc := TX10) (N := 6) (j := 4) ly_X11_errorCode_10 rfl (hG _ (List.mem_of_getElem? (i := 1) rfl)) (of6_0 _) (ce6 T ad _ _) (by decide) (Nst_use (cx_nst C) (w := .fieldLinkNest RX11 133 "RecipeScheduler$Tokens" "errorCode" "I" "RecipeScheduler") 66 (by decide +kernel) rfl) (fun _ h => h) (v := .int (Y 6 0 0 4)) rfl dX11_errorCode_4 ?_
  exact fw_iret C hrt Y ⟨Option.some.inj h, rfl⟩ (fun t ht => ht) dX11_errorCode_7
end
set_option maxRecDepth 100000 in
set_option maxHeartbeats 4000000 in
theorem c_X11_errorCode {l : Launch} {N0 : Nat} {T : Nat → ClassId} {D : va_G} {gr : List (Nat × Nat)} {ad : Nat → Nat → Nat → Nat} {Y : Mem} {res : Int32} (hG : ∀ q ∈ [(0, 0), (6, 0)], q ∈ gr) (h : X11_errorCode Y = some res) : CI l yX11_errorCode wsX11_errorCode (Rm 0) N0 T D gr ad Y [.ref (ad 0 0 0)] (fun r Y1 => r = res ∧ Y1 = Y) :=
  fw_body (by decide +kernel) rfl (Nat.le_of_ble_eq_true rfl) (fun p e s m below meth c C hrt => w_X11_errorCode C hrt hG  h)
theorem ly_X11_errorPosition_11 : ∀ w ∈ u_ws RX11 TX11 11, w ∈ wsX11_errorPosition := by decide +kernel
theorem fl_X11_errorPosition_48 : Cond.fieldLink RX11 48 "RecipeScheduler" "tokens" "LRecipeScheduler$Tokens;" ∈ wsX11_errorPosition := by decide +kernel
theorem ly_X11_errorPosition_10 : ∀ w ∈ u_ws RX10 TX10 6, w ∈ wsX11_errorPosition := by decide +kernel
section
variable {p : Program} {l : Launch} {e : Env} {s : State} {m : MethodId} {below : List Frame} {meth : Method} {c : Code} {N0 : Nat} {T : Nat → ClassId} {D : va_G} {gr : List (Nat × Nat)} {ad : Nat → Nat → Nat → Nat}
set_option maxRecDepth 100000 in
set_option maxHeartbeats 4000000 in
theorem w_X11_errorPosition {Y : Mem} (C : Cx p s m [.ref (ad 0 0 0)].toArray meth c cX11_errorPosition 1 wsX11_errorPosition RX11 N0 T D gr ad) (hrt : meth.sig.returnType = (some .int)) (hG : ∀ q ∈ [(0, 0), (6, 0)], q ∈ gr) {res : Int32} (h : X11_errorPosition Y = some res) : FW p l e (Rm 0) s m [.ref (ad 0 0 0)].toArray below meth c 1 N0 T D gr ad 0 0 (MQ below (va_Qi (fun r Y1 => r = res ∧ Y1 = Y) (WB T D gr ad) (fun q => N0 ≤ q)) [.ref (ad 0 0 0)].toArray s 0 0 (fun q => N0 ≤ q)) Y 0 [(0, .ref (ad 0 0 0))] [] := by
  unfold X11_errorPosition at h
  refine fw_aload_n C dX11_errorPosition_0 rfl 0 rfl ?_
  refine fw_get C (ci := 9) (Cn := RX11) (Tc := TX11) (N := 11) (j := 2) ly_X11_errorPosition_11 rfl (hG _ (List.mem_of_getElem? (i := 0) rfl)) (of0_0 _) (ce0 T ad _ _) (by decide) (cx_ts C _ fl_X11_errorPosition_48) (fun _ h => h) (v := .ref (ad 6 0 0)) rfl dX11_errorPosition_1 ?_
  refine fw_getN C (ci := 8) (Cn := RX10) (Tc := TX10) (N := 6) (j := 5) ly_X11_errorPosition_10 rfl (hG _ (List.mem_of_getElem? (i := 1) rfl)) (of6_0 _) (ce6 T ad _ _) (by decide) (Nst_use (cx_nst C) (w := .fieldLinkNest RX11 136 "RecipeScheduler$Tokens" "errorPosition" "I" "RecipeScheduler") 68 (by decide +kernel) rfl) (fun _ h => h) (v := .int (Y 6 0 0 5)) rfl dX11_errorPosition_4 ?_
  exact fw_iret C hrt Y ⟨Option.some.inj h, rfl⟩ (fun t ht => ht) dX11_errorPosition_7
end
set_option maxRecDepth 100000 in
set_option maxHeartbeats 4000000 in
theorem c_X11_errorPosition {l : Launch} {N0 : Nat} {T : Nat → ClassId} {D : va_G} {gr : List (Nat × Nat)} {ad : Nat → Nat → Nat → Nat} {Y : Mem} {res : Int32} (hG : ∀ q ∈ [(0, 0), (6, 0)], q ∈ gr) (h : X11_errorPosition Y = some res) : CI l yX11_errorPosition wsX11_errorPosition (Rm 0) N0 T D gr ad Y [.ref (ad 0 0 0)] (fun r Y1 => r = res ∧ Y1 = Y) :=
  fw_body (by decide +kernel) rfl (Nat.le_of_ble_eq_true rfl) (fun p e s m below meth c C hrt => w_X11_errorPosition C hrt hG  h)
