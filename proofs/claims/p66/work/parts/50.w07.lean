theorem ly_X11_isTakenUp_11 : ∀ w ∈ u_ws RX11 TX11 11, w ∈ wsX11_isTakenUp := by decide +kernel
theorem fl_X11_isTakenUp_67 : Cond.fieldLink RX11 67 "RecipeScheduler" "now" "LRecipeScheduler$Kitchen;" ∈ wsX11_isTakenUp := by decide +kernel
theorem ly_X11_isTakenUp_3 : ∀ w ∈ u_ws RX3 TX3 5, w ∈ wsX11_isTakenUp := by decide +kernel
theorem ly_X11_isTakenUp_8 : ∀ w ∈ u_ws RX8 TX8 15, w ∈ wsX11_isTakenUp := by decide +kernel
section
variable {p : Program} {l : Launch} {e : Env} {s : State} {m : MethodId} {below : List Frame} {meth : Method} {c : Code} {N0 : Nat} {T : Nat → ClassId} {D : va_G} {gr : List (Nat × Nat)} {ad : Nat → Nat → Nat → Nat}
set_option maxRecDepth 100000 in
set_option maxHeartbeats 4000000 in
theorem w_X11_isTakenUp {Y : Mem} {a1 : Int32} (C : Cx p s m [.ref (ad 0 0 0), .int a1].toArray meth c cX11_isTakenUp 2 wsX11_isTakenUp RX11 N0 T D gr ad) (hrt : meth.sig.returnType = (some .boolean)) (hG : ∀ q ∈ ([(1, 0), (0, 0), (2, 0)] ++ allG), q ∈ gr) {res : Int32} (h : X11_isTakenUp Y a1 = some res) : FW p l e (Rm 2) s m [.ref (ad 0 0 0), .int a1].toArray below meth c 2 N0 T D gr ad 0 0 (MQ below (va_Qi (fun r Y1 => r = res ∧ Y1 = Y) (WB T D gr ad) (fun q => N0 ≤ q)) [.ref (ad 0 0 0), .int a1].toArray s 0 0 (fun q => N0 ≤ q)) Y 0 [(0, .ref (ad 0 0 0)), (1, .int a1)] [] := by
  unfold X11_isTakenUp at h
  refine fw_aload_n C dX11_isTakenUp_0 rfl 0 rfl ?_
  refine fw_iload_n C dX11_isTakenUp_1 rfl 1 rfl ?_
  obtain ⟨_, q2, h⟩ := bd1_some h
  refine fw_callVv C (ci := 11) (Cn := RX11) (Tc := TX11) (N := 11) (As := [.int a1]) (c_X11_requireStep (gac (hG _ (List.mem_of_getElem? (i := 1) rfl)) (gac (hG _ (List.mem_of_getElem? (i := 0) rfl)) (fun q hq => hG q (List.mem_append_right _ hq)))) q2) (cwV 1 (cx_ts C) gX11_isTakenUp_X11_requireStep rfl rfl rfl (by decide +kernel) ⟨Nat.le_of_ble_eq_true rfl, Nat.le_of_ble_eq_true rfl⟩) rfl (hG _ (List.mem_of_getElem? (i := 1) rfl)) (of0_0 _) (ce0 T ad _ _) rfl (st := []) rfl (Nat.le_of_ble_eq_true rfl) ⟨Nat.le_refl 0, Nat.le_refl 0⟩ dX11_isTakenUp_2 (ppv ?_)
  refine fw_aload_n C dX11_isTakenUp_5 rfl 0 rfl ?_
  refine fw_get C (ci := 11) (Cn := RX11) (Tc := TX11) (N := 11) (j := 5) ly_X11_isTakenUp_11 rfl (hG _ (List.mem_of_getElem? (i := 1) rfl)) (of0_0 _) (ce0 T ad _ _) (by decide) (cx_ts C _ fl_X11_isTakenUp_67) (fun _ h => h) (v := .ref (ad 1 0 0)) rfl dX11_isTakenUp_6 ?_
  refine fw_getN C (ci := 3) (Cn := RX3) (Tc := TX3) (N := 5) (j := 1) ly_X11_isTakenUp_3 rfl (hG _ (List.mem_of_getElem? (i := 0) rfl)) (of1_0 _) (ce1 T ad _ _) (by decide) (Nst_use (cx_nst C) (w := .fieldLinkNest RX11 139 "RecipeScheduler$Kitchen" "state" "LRecipeScheduler$State;" "RecipeScheduler") 509 (by decide +kernel) rfl) (fun _ h => h) (v := .ref (ad 2 0 0)) rfl dX11_isTakenUp_9 ?_
  refine fw_getN C (ci := 8) (Cn := RX8) (Tc := TX8) (N := 15) (j := 7) ly_X11_isTakenUp_8 rfl (hG _ (List.mem_of_getElem? (i := 2) rfl)) (of2_0 _) (ce2 T ad _ _) (by decide) (Nst_use (cx_nst C) (w := .fieldLinkNest RX11 261 "RecipeScheduler$State" "done" "I" "RecipeScheduler") 448 (by decide +kernel) rfl) (fun _ h => h) (v := .int (Y 2 0 0 7)) rfl dX11_isTakenUp_12 ?_
  refine fw_iload_n C dX11_isTakenUp_15 rfl 1 rfl ?_
  obtain ⟨r3, q4, h⟩ := bd1_some h
  refine fw_callSi C (As := [.int (Y 2 0 0 7), .int a1]) (c_X11_contains ga0 q4) (va_cwS 2 (cx_ts C) gX11_isTakenUp_X11_contains rfl rfl rfl (by decide +kernel) ⟨Nat.le_of_ble_eq_true rfl, Nat.le_of_ble_eq_true rfl⟩) rfl (st := []) rfl (Nat.le_of_ble_eq_true rfl) ⟨Nat.le_refl 0, Nat.le_refl 0⟩ dX11_isTakenUp_16 (pp2 ?_)
  refine fw_if_eq C dX11_isTakenUp_19 (tgt := 37) rfl (fun c5 => ?_) (fun c5 => ?_)
  · have h := ite_t c5 h
    refine fw_iconst C dX11_isTakenUp_37 (v := 0) rfl ?_
    exact fw_zret C hrt (by decide) Y ⟨Option.some.inj h, rfl⟩ (fun t ht => ht) dX11_isTakenUp_38
  · have h := ite_f c5 h
    refine fw_aload_n C dX11_isTakenUp_22 rfl 0 rfl ?_
    refine fw_get C (ci := 11) (Cn := RX11) (Tc := TX11) (N := 11) (j := 5) ly_X11_isTakenUp_11 rfl (hG _ (List.mem_of_getElem? (i := 1) rfl)) (of0_0 _) (ce0 T ad _ _) (by decide) (cx_ts C _ fl_X11_isTakenUp_67) (fun _ h => h) (v := .ref (ad 1 0 0)) rfl dX11_isTakenUp_23 ?_
    refine fw_iload_n C dX11_isTakenUp_26 rfl 1 rfl ?_
    obtain ⟨r6, q7, h⟩ := bd1_some h
    refine fw_callVi C (ci := 3) (Cn := RX3) (Tc := TX3) (N := 5) (As := [.int a1]) (c_X3_isContinued (gac (hG _ (List.mem_of_getElem? (i := 0) rfl)) (gac (hG _ (List.mem_of_getElem? (i := 2) rfl)) (fun q hq => hG q (List.mem_append_right _ hq)))) q7) (cwV 1 (cx_ts C) gX11_isTakenUp_X3_isContinued rfl rfl rfl (by decide +kernel) ⟨Nat.le_of_ble_eq_true rfl, Nat.le_of_ble_eq_true rfl⟩) rfl (hG _ (List.mem_of_getElem? (i := 0) rfl)) (of1_0 _) (ce1 T ad _ _) rfl (st := []) rfl (Nat.le_of_ble_eq_true rfl) ⟨Nat.le_refl 0, Nat.le_refl 0⟩ dX11_isTakenUp_27 (pp2 ?_)
    refine fw_if_eq C dX11_isTakenUp_30 (tgt := 37) rfl (fun c8 => ?_) (fun c8 => ?_)
    · have h := ite_t c8 h
      refine fw_iconst C dX11_isTakenUp_37 (v := 0) rfl ?_
      exact fw_zret C hrt (by decide) Y ⟨Option.some.inj h, rfl⟩ (fun t ht => ht) dX11_isTakenUp_38
    · have h := ite_f c8 h
      refine fw_iconst C dX11_isTakenUp_33 (v := 1) rfl ?_
      refine fw_goto C dX11_isTakenUp_34 (tgt := 38) rfl ?_
      exact fw_zret C hrt (by decide) Y ⟨Option.some.inj h, rfl⟩ (fun t ht => ht) dX11_isTakenUp_38
end
set_option maxRecDepth 100000 in
set_option maxHeartbeats 4000000 in
theorem c_X11_isTakenUp {l : Launch} {N0 : Nat} {T : Nat → ClassId} {D : va_G} {gr : List (Nat × Nat)} {ad : Nat → Nat → Nat → Nat} {Y : Mem} {a1 : Int32} {res : Int32} (hG : ∀ q ∈ ([(1, 0), (0, 0), (2, 0)] ++ allG), q ∈ gr) (h : X11_isTakenUp Y a1 = some res) : CI l yX11_isTakenUp wsX11_isTakenUp (Rm 2) N0 T D gr ad Y [.ref (ad 0 0 0), .int a1] (fun r Y1 => r = res ∧ Y1 = Y) :=
  fw_body (by decide +kernel) rfl (Nat.le_of_ble_eq_true rfl) (fun p e s m below meth c C hrt => w_X11_isTakenUp C hrt hG  h)
theorem ly_X11_isUnattended_11 : ∀ w ∈ u_ws RX11 TX11 11, w ∈ wsX11_isUnattended := by decide +kernel
theorem fl_X11_isUnattended_67 : Cond.fieldLink RX11 67 "RecipeScheduler" "now" "LRecipeScheduler$Kitchen;" ∈ wsX11_isUnattended := by decide +kernel
theorem ly_X11_isUnattended_3 : ∀ w ∈ u_ws RX3 TX3 5, w ∈ wsX11_isUnattended := by decide +kernel
theorem ly_X11_isUnattended_5 : ∀ w ∈ u_ws RX5 TX5 17, w ∈ wsX11_isUnattended := by decide +kernel
section
variable {p : Program} {l : Launch} {e : Env} {s : State} {m : MethodId} {below : List Frame} {meth : Method} {c : Code} {N0 : Nat} {T : Nat → ClassId} {D : va_G} {gr : List (Nat × Nat)} {ad : Nat → Nat → Nat → Nat}
set_option maxRecDepth 100000 in
set_option maxHeartbeats 4000000 in
theorem w_X11_isUnattended {Y : Mem} {a1 : Int32} (C : Cx p s m [.ref (ad 0 0 0), .int a1].toArray meth c cX11_isUnattended 2 wsX11_isUnattended RX11 N0 T D gr ad) (hrt : meth.sig.returnType = (some .boolean)) (hG : ∀ q ∈ ([(1, 0), (0, 0)] ++ allG), q ∈ gr) {res : Int32} (h : X11_isUnattended Y a1 = some res) : FW p l e (Rm 2) s m [.ref (ad 0 0 0), .int a1].toArray below meth c 2 N0 T D gr ad 0 0 (MQ below (va_Qi (fun r Y1 => r = res ∧ Y1 = Y) (WB T D gr ad) (fun q => N0 ≤ q)) [.ref (ad 0 0 0), .int a1].toArray s 0 0 (fun q => N0 ≤ q)) Y 0 [(0, .ref (ad 0 0 0)), (1, .int a1)] [] := by
  unfold X11_isUnattended at h
  refine fw_aload_n C dX11_isUnattended_0 rfl 0 rfl ?_
  refine fw_iload_n C dX11_isUnattended_1 rfl 1 rfl ?_
  obtain ⟨_, q2, h⟩ := bd1_some h
  refine fw_callVv C (ci := 11) (Cn := RX11) (Tc := TX11) (N := 11) (As := [.int a1]) (c_X11_requireStep (gac (hG _ (List.mem_of_getElem? (i := 1) rfl)) (gac (hG _ (List.mem_of_getElem? (i := 0) rfl)) (fun q hq => hG q (List.mem_append_right _ hq)))) q2) (cwV 1 (cx_ts C) gX11_isUnattended_X11_requireStep rfl rfl rfl (by decide +kernel) ⟨Nat.le_of_ble_eq_true rfl, Nat.le_of_ble_eq_true rfl⟩) rfl (hG _ (List.mem_of_getElem? (i := 1) rfl)) (of0_0 _) (ce0 T ad _ _) rfl (st := []) rfl (Nat.le_of_ble_eq_true rfl) ⟨Nat.le_refl 0, Nat.le_refl 0⟩ dX11_isUnattended_2 (ppv ?_)
  refine fw_aload_n C dX11_isUnattended_5 rfl 0 rfl ?_
  refine fw_get C (ci := 11) (Cn := RX11) (Tc := TX11) (N := 11) (j := 5) ly_X11_isUnattended_11 rfl (hG _ (List.mem_of_getElem? (i := 1) rfl)) (of0_0 _) (ce0 T ad _ _) (by decide) (cx_ts C _ fl_X11_isUnattended_67) (fun _ h => h) (v := .ref (ad 1 0 0)) rfl dX11_isUnattended_6 ?_
  refine fw_getN C (ci := 3) (Cn := RX3) (Tc := TX3) (N := 5) (j := 0) ly_X11_isUnattended_3 rfl (hG _ (List.mem_of_getElem? (i := 0) rfl)) (of1_0 _) (ce1 T ad _ _) (by decide) (Nst_use (cx_nst C) (w := .fieldLinkNest RX11 117 "RecipeScheduler$Kitchen" "recipe" "LRecipeScheduler$Recipe;" "RecipeScheduler") 507 (by decide +kernel) rfl) (fun _ h => h) (v := .ref (ad 3 ((Y 1 0 0 0).toNatClampNeg) 0)) rfl dX11_isUnattended_9 ?_
  obtain ⟨b3, h⟩ := gd_some h
  have b3 := of_decide_eq_true b3
  refine fw_getN C (ci := 5) (Cn := RX5) (Tc := TX5) (N := 17) (j := 16) ly_X11_isUnattended_5 rfl ((fun q hq => hG q (List.mem_append_right _ hq)) _ (allG_3 b3)) (of3_0 _) (ce3 T ad _ _) (by decide) (Nst_use (cx_nst C) (w := .fieldLinkNest RX11 212 "RecipeScheduler$Recipe" "alone" "I" "RecipeScheduler") 175 (by decide +kernel) rfl) (fun _ h => h) (v := .int (Y 3 ((Y 1 0 0 0).toNatClampNeg) 0 16)) rfl dX11_isUnattended_12 ?_
  refine fw_iload_n C dX11_isUnattended_15 rfl 1 rfl ?_
  obtain ⟨r4, q5, h⟩ := bd1_some h
  refine fw_callSi C (As := [.int (Y 3 ((Y 1 0 0 0).toNatClampNeg) 0 16), .int a1]) (c_X11_contains ga0 q5) (va_cwS 2 (cx_ts C) gX11_isUnattended_X11_contains rfl rfl rfl (by decide +kernel) ⟨Nat.le_of_ble_eq_true rfl, Nat.le_of_ble_eq_true rfl⟩) rfl (st := []) rfl (Nat.le_of_ble_eq_true rfl) ⟨Nat.le_refl 0, Nat.le_refl 0⟩ dX11_isUnattended_16 (pp2 ?_)
  obtain ⟨b6, h⟩ := gd_some h
  exact fw_zret C hrt (of_decide_eq_true b6) Y ⟨Option.some.inj h, rfl⟩ (fun t ht => ht) dX11_isUnattended_19
end
set_option maxRecDepth 100000 in
set_option maxHeartbeats 4000000 in
theorem c_X11_isUnattended {l : Launch} {N0 : Nat} {T : Nat → ClassId} {D : va_G} {gr : List (Nat × Nat)} {ad : Nat → Nat → Nat → Nat} {Y : Mem} {a1 : Int32} {res : Int32} (hG : ∀ q ∈ ([(1, 0), (0, 0)] ++ allG), q ∈ gr) (h : X11_isUnattended Y a1 = some res) : CI l yX11_isUnattended wsX11_isUnattended (Rm 2) N0 T D gr ad Y [.ref (ad 0 0 0), .int a1] (fun r Y1 => r = res ∧ Y1 = Y) :=
  fw_body (by decide +kernel) rfl (Nat.le_of_ble_eq_true rfl) (fun p e s m below meth c C hrt => w_X11_isUnattended C hrt hG  h)
section
variable {p : Program} {l : Launch} {e : Env} {s : State} {m : MethodId} {below : List Frame} {meth : Method} {c : Code} {N0 : Nat} {T : Nat → ClassId} {D : va_G} {gr : List (Nat × Nat)} {ad : Nat → Nat → Nat → Nat}
set_option maxRecDepth 100000 in
set_option maxHeartbeats 4000000 in
theorem w_J7_fill_53178_b5 {k0 : Nat} {g0 : Nat} {o0 : Nat} {n0 : Nat} {a1 : Int32} (C : Cx p s m [.ref (ad k0 g0 o0), .int a1].toArray meth c cJ7_fill_53178 4 wsJ7_fill_53178 RJ7 N0 T D gr ad) (hrt : meth.sig.returnType = none) (hG : ∀ q ∈ [(k0, g0)], q ∈ gr) (hA0 : ∀ y, cell T ad k0 g0 o0 y = .inl (T 0, n0, .inl y)) (hO0 : o0 ∈ offs k0 g0) (hN0 : n0 < 2 ^ 31) {res : Mem} : ∀ (n : Nat) (Y : Mem) (l3 : Int32) (l2 : Int32), J7_fill_53178_b5 k0 g0 o0 n0 a1  n Y l3 l2 = some res → FW p l e (Rm 0) s m [.ref (ad k0 g0 o0), .int a1].toArray below meth c 4 N0 T D gr ad 0 0 (MQ below (va_Qv (fun Y1 => Y1 = res) (WB T D gr ad) (fun q => N0 ≤ q)) [.ref (ad k0 g0 o0), .int a1].toArray s 0 0 (fun q => N0 ≤ q)) Y 5 [(3, .int l3), (2, .int l2), (0, .ref (ad k0 g0 o0)), (1, .int a1)] [] := by
  intro n
  induction n with
  | zero =>
    intro Y l3 l2 h
    unfold J7_fill_53178_b5 at h
    cases h
  | succ n ih =>
    intro Y l3 l2 h
    unfold J7_fill_53178_b5 at h
    refine fw_iload_n C dJ7_fill_53178_5 rfl 1 rfl ?_
    refine fw_iload_n C dJ7_fill_53178_6 rfl 0 rfl ?_
    refine fw_icmp_ge C dJ7_fill_53178_7 (tgt := 20) rfl (fun c3 => ?_) (fun c3 => ?_)
    · have h := ite_t c3 h
      exact fw_vret C hrt Y (Option.some.inj h) (fun t ht => ht) dJ7_fill_53178_20
    · have h := ite_f c3 h
      refine fw_aload_n C dJ7_fill_53178_10 rfl 2 rfl ?_
      refine fw_iload_n C dJ7_fill_53178_11 rfl 1 rfl ?_
      refine fw_iload_n C dJ7_fill_53178_12 rfl 3 rfl ?_
      obtain ⟨b4, h⟩ := gd_some h
      obtain ⟨Y5, e6, h⟩ := lt_some h
      refine fw_iast2 C (hG _ (List.mem_of_getElem? (i := 0) rfl)) hO0 hA0 b4 hN0 dJ7_fill_53178_13 ?_
      refine fw_mem e6 ?_
      refine fw_iinc C dJ7_fill_53178_14 (kk := 1) (v := l2 + 1) rfl rfl (by decide) (L' := [(2, .int (l2 + 1)), (3, .int l3), (0, .ref (ad k0 g0 o0)), (1, .int a1)]) rfl ?_
      refine fw_goto C dJ7_fill_53178_17 (tgt := 5) rfl ?_
      refine fw_sub [1, 0, 2, 3] (L' := [(3, .int l3), (2, .int (l2 + 1)), (0, .ref (ad k0 g0 o0)), (1, .int a1)]) rfl ?_
      exact ih _ _ _ h
set_option maxRecDepth 100000 in
set_option maxHeartbeats 4000000 in
theorem w_J7_fill_53178 {Y : Mem} {k0 : Nat} {g0 : Nat} {o0 : Nat} {n0 : Nat} {a1 : Int32} (C : Cx p s m [.ref (ad k0 g0 o0), .int a1].toArray meth c cJ7_fill_53178 4 wsJ7_fill_53178 RJ7 N0 T D gr ad) (hrt : meth.sig.returnType = none) (hG : ∀ q ∈ [(k0, g0)], q ∈ gr) (hA0 : ∀ y, cell T ad k0 g0 o0 y = .inl (T 0, n0, .inl y)) (hO0 : o0 ∈ offs k0 g0) (hN0 : n0 < 2 ^ 31) {res : Mem} (h : J7_fill_53178 Y k0 g0 o0 n0 a1 = some res) : FW p l e (Rm 0) s m [.ref (ad k0 g0 o0), .int a1].toArray below meth c 4 N0 T D gr ad 0 0 (MQ below (va_Qv (fun Y1 => Y1 = res) (WB T D gr ad) (fun q => N0 ≤ q)) [.ref (ad k0 g0 o0), .int a1].toArray s 0 0 (fun q => N0 ≤ q)) Y 0 [(0, .ref (ad k0 g0 o0)), (1, .int a1)] [] := by
  unfold J7_fill_53178 at h
  refine fw_iconst C dJ7_fill_53178_0 (v := 0) rfl ?_
  refine fw_istore_n C dJ7_fill_53178_1 rfl (by decide) (L' := [(2, .int 0), (0, .ref (ad k0 g0 o0)), (1, .int a1)]) rfl ?_
  refine fw_aload_n C dJ7_fill_53178_2 rfl 1 rfl ?_
  refine fw_alen C 0 (hG _ (List.mem_of_getElem? (i := 0) rfl)) hO0 (hA0 _) rfl (v := (Int32.ofNat n0)) rfl dJ7_fill_53178_3 ?_
  obtain ⟨v1, e2, h⟩ := lt_some h
  refine fw_top (v' := .int v1) (by rw [e2]) ?_
  refine fw_istore_n C dJ7_fill_53178_4 rfl (by decide) (L' := [(3, .int v1), (2, .int 0), (0, .ref (ad k0 g0 o0)), (1, .int a1)]) rfl ?_
  exact w_J7_fill_53178_b5 C hrt hG hA0 hO0 hN0  _ _ _ _ h
end
set_option maxRecDepth 100000 in
set_option maxHeartbeats 4000000 in
theorem c_J7_fill_53178 {l : Launch} {N0 : Nat} {T : Nat → ClassId} {D : va_G} {gr : List (Nat × Nat)} {ad : Nat → Nat → Nat → Nat} {Y : Mem} {k0 : Nat} {g0 : Nat} {o0 : Nat} {n0 : Nat} {a1 : Int32} {res : Mem} (hG : ∀ q ∈ [(k0, g0)], q ∈ gr) (hA0 : ∀ y, cell T ad k0 g0 o0 y = .inl (T 0, n0, .inl y)) (hO0 : o0 ∈ offs k0 g0) (hN0 : n0 < 2 ^ 31) (h : J7_fill_53178 Y k0 g0 o0 n0 a1 = some res) : CV l yJ7_fill_53178 wsJ7_fill_53178 (Rm 0) N0 T D gr ad Y [.ref (ad k0 g0 o0), .int a1] (fun Y1 => Y1 = res) :=
  fw_body (by decide +kernel) rfl (Nat.le_of_ble_eq_true rfl) (fun p e s m below meth c C hrt => w_J7_fill_53178 C hrt hG hA0 hO0 hN0 h)
theorem ly_X5_clear_5 : ∀ w ∈ u_ws RX5 TX5 17, w ∈ wsX5_clear := by decide +kernel
theorem fl_X5_clear_14 : Cond.fieldLink RX5 14 "RecipeScheduler$Recipe" "pans" "LRecipeScheduler$Names;" ∈ wsX5_clear := by decide +kernel
theorem ly_X5_clear_4 : ∀ w ∈ u_ws RX4 TX4 3, w ∈ wsX5_clear := by decide +kernel
theorem fl_X5_clear_27 : Cond.fieldLink RX5 27 "RecipeScheduler$Recipe" "steps" "LRecipeScheduler$Names;" ∈ wsX5_clear := by decide +kernel
theorem fl_X5_clear_57 : Cond.fieldLink RX5 57 "RecipeScheduler$Recipe" "hot" "I" ∈ wsX5_clear := by decide +kernel
theorem fl_X5_clear_60 : Cond.fieldLink RX5 60 "RecipeScheduler$Recipe" "alone" "I" ∈ wsX5_clear := by decide +kernel
theorem fl_X5_clear_24 : Cond.fieldLink RX5 24 "RecipeScheduler$Recipe" "panUsers" "[I" ∈ wsX5_clear := by decide +kernel
theorem fl_X5_clear_44 : Cond.fieldLink RX5 44 "RecipeScheduler$Recipe" "predecessorCount" "[I" ∈ wsX5_clear := by decide +kernel
theorem fl_X5_clear_47 : Cond.fieldLink RX5 47 "RecipeScheduler$Recipe" "predecessorSet" "[I" ∈ wsX5_clear := by decide +kernel
theorem fl_X5_clear_50 : Cond.fieldLink RX5 50 "RecipeScheduler$Recipe" "successorSet" "[I" ∈ wsX5_clear := by decide +kernel
section
variable {p : Program} {l : Launch} {e : Env} {s : State} {m : MethodId} {below : List Frame} {meth : Method} {c : Code} {N0 : Nat} {T : Nat → ClassId} {D : va_G} {gr : List (Nat × Nat)} {ad : Nat → Nat → Nat → Nat}
set_option maxRecDepth 100000 in
set_option maxHeartbeats 4000000 in
theorem w_X5_clear {Y : Mem} {g0 : Nat} (C : Cx p s m [.ref (ad 3 g0 0)].toArray meth c cX5_clear 1 wsX5_clear RX5 N0 T D gr ad) (hrt : meth.sig.returnType = none) (hG : ∀ q ∈ [(3, g0), (4, 2*g0), (4, 2*g0+1)], q ∈ gr) {res : Mem} (h : X5_clear Y g0 = some res) : FW p l e (Rm 1) s m [.ref (ad 3 g0 0)].toArray below meth c 1 N0 T D gr ad 0 0 (MQ below (va_Qv (fun Y1 => Y1 = res) (WB T D gr ad) (fun q => N0 ≤ q)) [.ref (ad 3 g0 0)].toArray s 0 0 (fun q => N0 ≤ q)) Y 0 [(0, .ref (ad 3 g0 0))] [] := by
  unfold X5_clear at h
  refine fw_aload_n C dX5_clear_0 rfl 0 rfl ?_
  refine fw_get C (ci := 5) (Cn := RX5) (Tc := TX5) (N := 17) (j := 4) ly_X5_clear_5 rfl (hG _ (List.mem_of_getElem? (i := 0) rfl)) (of3_0 _) (ce3 T ad _ _) (by decide) (cx_ts C _ fl_X5_clear_14) (fun _ h => h) (v := .ref (ad 4 (2*g0) 0)) rfl dX5_clear_1 ?_
  refine fw_iconst C dX5_clear_4 (v := 0) rfl ?_
  obtain ⟨Y1, e2, h⟩ := lt_some h
  refine fw_putN C (ci := 4) (Cn := RX4) (Tc := TX4) (N := 3) (j := 2) (ty := .int) (upd (Y 4 (2*g0) 0) 2 0) ly_X5_clear_4 rfl tyX4_ok nmX4 (hG _ (List.mem_of_getElem? (i := 1) rfl)) (of4_0 _) (ce4 T ad _ _) (by decide) (Nst_use (cx_nst C) (w := .fieldLinkNest RX5 53 "RecipeScheduler$Names" "count" "I" "RecipeScheduler") 111 (by decide +kernel) rfl) (fun _ h => h) rfl (by decide +kernel) rfl rfl (Nat.le_of_ble_eq_true rfl) (ce4_put2 T ad _ _ _) dX5_clear_5 ?_
  refine fw_mem ((up_eq _ _ _ _ _ _).symm.trans e2) ?_
  refine fw_aload_n C dX5_clear_8 rfl 0 rfl ?_
  refine fw_get C (ci := 5) (Cn := RX5) (Tc := TX5) (N := 17) (j := 7) ly_X5_clear_5 rfl (hG _ (List.mem_of_getElem? (i := 0) rfl)) (of3_0 _) (ce3 T ad _ _) (by decide) (cx_ts C _ fl_X5_clear_27) (fun _ h => h) (v := .ref (ad 4 (2*g0+1) 0)) rfl dX5_clear_9 ?_
  refine fw_iconst C dX5_clear_12 (v := 0) rfl ?_
  obtain ⟨Y3, e4, h⟩ := lt_some h
  refine fw_putN C (ci := 4) (Cn := RX4) (Tc := TX4) (N := 3) (j := 2) (ty := .int) (upd (Y1 4 (2*g0+1) 0) 2 0) ly_X5_clear_4 rfl tyX4_ok nmX4 (hG _ (List.mem_of_getElem? (i := 2) rfl)) (of4_0 _) (ce4 T ad _ _) (by decide) (Nst_use (cx_nst C) (w := .fieldLinkNest RX5 53 "RecipeScheduler$Names" "count" "I" "RecipeScheduler") 111 (by decide +kernel) rfl) (fun _ h => h) rfl (by decide +kernel) rfl rfl (Nat.le_of_ble_eq_true rfl) (ce4_put2 T ad _ _ _) dX5_clear_13 ?_
  refine fw_mem ((up_eq _ _ _ _ _ _).symm.trans e4) ?_
  refine fw_aload_n C dX5_clear_16 rfl 0 rfl ?_
  refine fw_iconst C dX5_clear_17 (v := 0) rfl ?_
  obtain ⟨Y5, e6, h⟩ := lt_some h
  refine fw_put C (ci := 5) (Cn := RX5) (Tc := TX5) (N := 17) (j := 15) (ty := .int) (upd (Y3 3 g0 0) 15 0) ly_X5_clear_5 rfl tyX5_ok nmX5 (hG _ (List.mem_of_getElem? (i := 0) rfl)) (of3_0 _) (ce3 T ad _ _) (by decide) (cx_ts C _ fl_X5_clear_57) (fun _ h => h) rfl (by decide +kernel) rfl rfl (Nat.le_of_ble_eq_true rfl) (ce3_put15 T ad _ _ _) dX5_clear_18 ?_
  refine fw_mem ((up_eq _ _ _ _ _ _).symm.trans e6) ?_
  refine fw_aload_n C dX5_clear_21 rfl 0 rfl ?_
  refine fw_iconst C dX5_clear_22 (v := 0) rfl ?_
  obtain ⟨Y7, e8, h⟩ := lt_some h
  refine fw_put C (ci := 5) (Cn := RX5) (Tc := TX5) (N := 17) (j := 16) (ty := .int) (upd (Y5 3 g0 0) 16 0) ly_X5_clear_5 rfl tyX5_ok nmX5 (hG _ (List.mem_of_getElem? (i := 0) rfl)) (of3_0 _) (ce3 T ad _ _) (by decide) (cx_ts C _ fl_X5_clear_60) (fun _ h => h) rfl (by decide +kernel) rfl rfl (Nat.le_of_ble_eq_true rfl) (ce3_put16 T ad _ _ _) dX5_clear_23 ?_
  refine fw_mem ((up_eq _ _ _ _ _ _).symm.trans e8) ?_
  refine fw_aload_n C dX5_clear_26 rfl 0 rfl ?_
  refine fw_get C (ci := 5) (Cn := RX5) (Tc := TX5) (N := 17) (j := 6) ly_X5_clear_5 rfl (hG _ (List.mem_of_getElem? (i := 0) rfl)) (of3_0 _) (ce3 T ad _ _) (by decide) (cx_ts C _ fl_X5_clear_24) (fun _ h => h) (v := .ref (ad 3 g0 2)) rfl dX5_clear_27 ?_
  refine fw_iconst C dX5_clear_30 (v := 0) rfl ?_
  obtain ⟨Y11, q10, h⟩ := bd1_some h
  refine fw_callSv C (As := [.ref (ad 3 g0 2), .int 0]) (c_J7_fill_53178 (gac (hG _ (List.mem_of_getElem? (i := 0) rfl)) ga0) (ca3_2 T ad _) (of3_2 _) (Nat.le_of_ble_eq_true rfl) q10) (va_cwS 2 (cx_ts C) gX5_clear_J7_fill_53178 rfl rfl rfl (by decide +kernel) ⟨Nat.le_of_ble_eq_true rfl, Nat.le_of_ble_eq_true rfl⟩) rfl (st := []) rfl (Nat.le_of_ble_eq_true rfl) ⟨Nat.le_refl 0, Nat.le_refl 0⟩ dX5_clear_31 (ppv ?_)
  refine fw_aload_n C dX5_clear_34 rfl 0 rfl ?_
  refine fw_get C (ci := 5) (Cn := RX5) (Tc := TX5) (N := 17) (j := 12) ly_X5_clear_5 rfl (hG _ (List.mem_of_getElem? (i := 0) rfl)) (of3_0 _) (ce3 T ad _ _) (by decide) (cx_ts C _ fl_X5_clear_44) (fun _ h => h) (v := .ref (ad 3 g0 7)) rfl dX5_clear_35 ?_
  refine fw_iconst C dX5_clear_38 (v := 0) rfl ?_
  obtain ⟨Y14, q13, h⟩ := bd1_some h
  refine fw_callSv C (As := [.ref (ad 3 g0 7), .int 0]) (c_J7_fill_53178 (gac (hG _ (List.mem_of_getElem? (i := 0) rfl)) ga0) (ca3_7 T ad _) (of3_7 _) (Nat.le_of_ble_eq_true rfl) q13) (va_cwS 2 (cx_ts C) gX5_clear_J7_fill_53178 rfl rfl rfl (by decide +kernel) ⟨Nat.le_of_ble_eq_true rfl, Nat.le_of_ble_eq_true rfl⟩) rfl (st := []) rfl (Nat.le_of_ble_eq_true rfl) ⟨Nat.le_refl 0, Nat.le_refl 0⟩ dX5_clear_39 (ppv ?_)
  refine fw_aload_n C dX5_clear_42 rfl 0 rfl ?_
  refine fw_get C (ci := 5) (Cn := RX5) (Tc := TX5) (N := 17) (j := 13) ly_X5_clear_5 rfl (hG _ (List.mem_of_getElem? (i := 0) rfl)) (of3_0 _) (ce3 T ad _ _) (by decide) (cx_ts C _ fl_X5_clear_47) (fun _ h => h) (v := .ref (ad 3 g0 8)) rfl dX5_clear_43 ?_
  refine fw_iconst C dX5_clear_46 (v := 0) rfl ?_
  obtain ⟨Y17, q16, h⟩ := bd1_some h
  refine fw_callSv C (As := [.ref (ad 3 g0 8), .int 0]) (c_J7_fill_53178 (gac (hG _ (List.mem_of_getElem? (i := 0) rfl)) ga0) (ca3_8 T ad _) (of3_8 _) (Nat.le_of_ble_eq_true rfl) q16) (va_cwS 2 (cx_ts C) gX5_clear_J7_fill_53178 rfl rfl rfl (by decide +kernel) ⟨Nat.le_of_ble_eq_true rfl, Nat.le_of_ble_eq_true rfl⟩) rfl (st := []) rfl (Nat.le_of_ble_eq_true rfl) ⟨Nat.le_refl 0, Nat.le_refl 0⟩ dX5_clear_47 (ppv ?_)
  refine fw_aload_n C dX5_clear_50 rfl 0 rfl ?_
  refine fw_get C (ci := 5) (Cn := RX5) (Tc := TX5) (N := 17) (j := 14) ly_X5_clear_5 rfl (hG _ (List.mem_of_getElem? (i := 0) rfl)) (of3_0 _) (ce3 T ad _ _) (by decide) (cx_ts C _ fl_X5_clear_50) (fun _ h => h) (v := .ref (ad 3 g0 9)) rfl dX5_clear_51 ?_
  refine fw_iconst C dX5_clear_54 (v := 0) rfl ?_
  obtain ⟨Y20, q19, h⟩ := bd1_some h
  refine fw_callSv C (As := [.ref (ad 3 g0 9), .int 0]) (c_J7_fill_53178 (gac (hG _ (List.mem_of_getElem? (i := 0) rfl)) ga0) (ca3_9 T ad _) (of3_9 _) (Nat.le_of_ble_eq_true rfl) q19) (va_cwS 2 (cx_ts C) gX5_clear_J7_fill_53178 rfl rfl rfl (by decide +kernel) ⟨Nat.le_of_ble_eq_true rfl, Nat.le_of_ble_eq_true rfl⟩) rfl (st := []) rfl (Nat.le_of_ble_eq_true rfl) ⟨Nat.le_refl 0, Nat.le_refl 0⟩ dX5_clear_55 (ppv ?_)
  exact fw_vret C hrt Y20 (Option.some.inj h) (fun t ht => ht) dX5_clear_58
end
set_option maxRecDepth 100000 in
set_option maxHeartbeats 4000000 in
theorem c_X5_clear {l : Launch} {N0 : Nat} {T : Nat → ClassId} {D : va_G} {gr : List (Nat × Nat)} {ad : Nat → Nat → Nat → Nat} {Y : Mem} {g0 : Nat} {res : Mem} (hG : ∀ q ∈ [(3, g0), (4, 2*g0), (4, 2*g0+1)], q ∈ gr) (h : X5_clear Y g0 = some res) : CV l yX5_clear wsX5_clear (Rm 1) N0 T D gr ad Y [.ref (ad 3 g0 0)] (fun Y1 => Y1 = res) :=
  fw_body (by decide +kernel) rfl (Nat.le_of_ble_eq_true rfl) (fun p e s m below meth c C hrt => w_X5_clear C hrt hG  h)
theorem ly_X7_readHead_7 : ∀ w ∈ u_ws RX7 TX7 1, w ∈ wsX7_readHead := by decide +kernel
theorem fl_X7_readHead_9 : Cond.fieldLink RX7 9 "RecipeScheduler$SetupReader" "tokens" "LRecipeScheduler$Tokens;" ∈ wsX7_readHead := by decide +kernel
theorem ly_X7_readHead_5 : ∀ w ∈ u_ws RX5 TX5 17, w ∈ wsX7_readHead := by decide +kernel
section
variable {p : Program} {l : Launch} {e : Env} {s : State} {m : MethodId} {below : List Frame} {meth : Method} {c : Code} {N0 : Nat} {T : Nat → ClassId} {D : va_G} {gr : List (Nat × Nat)} {ad : Nat → Nat → Nat → Nat}
set_option maxRecDepth 100000 in
set_option maxHeartbeats 4000000 in
theorem w_X7_readHead_b20 {g1 : Nat} (C : Cx p s m [.ref (ad 7 0 0), .ref (ad 3 g1 0)].toArray meth c cX7_readHead 2 wsX7_readHead RX7 N0 T D gr ad) (hrt : meth.sig.returnType = none) (hG : ∀ q ∈ [(7, 0), (6, 0), (5, 0), (3, g1)], q ∈ gr) {res : Mem} (Y : Mem) (h : X7_readHead_b20 g1  Y = some res) : FW p l e (Rm 6) s m [.ref (ad 7 0 0), .ref (ad 3 g1 0)].toArray below meth c 2 N0 T D gr ad 0 0 (MQ below (va_Qv (fun Y1 => Y1 = res) (WB T D gr ad) (fun q => N0 ≤ q)) [.ref (ad 7 0 0), .ref (ad 3 g1 0)].toArray s 0 0 (fun q => N0 ≤ q)) Y 20 [(0, .ref (ad 7 0 0)), (1, .ref (ad 3 g1 0))] [] := by
  unfold X7_readHead_b20 at h
  refine fw_aload_n C dX7_readHead_20 rfl 1 rfl ?_
  refine fw_aload_n C dX7_readHead_21 rfl 0 rfl ?_
  refine fw_get C (ci := 7) (Cn := RX7) (Tc := TX7) (N := 1) (j := 0) ly_X7_readHead_7 rfl (hG _ (List.mem_of_getElem? (i := 0) rfl)) (of7_0 _) (ce7 T ad _ _) (by decide) (cx_ts C _ fl_X7_readHead_9) (fun _ h => h) (v := .ref (ad 6 0 0)) rfl dX7_readHead_22 ?_
  refine fw_iconst C dX7_readHead_25 (v := 1) rfl ?_
  refine fw_iconst C dX7_readHead_26 (v := 4) rfl ?_
  obtain ⟨r5, Y7, q6, h⟩ := bd2_some h
  refine fw_callVi C (ci := 10) (Cn := RX10) (Tc := TX10) (N := 6) (As := [.int 1, .int 4]) (c_X10_expectNumber (gac (hG _ (List.mem_of_getElem? (i := 1) rfl)) (gac (hG _ (List.mem_of_getElem? (i := 2) rfl)) ga0)) q6) (cwV 2 (cx_ts C) gX7_readHead_X10_expectNumber rfl rfl rfl (by decide +kernel) ⟨Nat.le_of_ble_eq_true rfl, Nat.le_of_ble_eq_true rfl⟩) rfl (hG _ (List.mem_of_getElem? (i := 1) rfl)) (of6_0 _) (ce6 T ad _ _) rfl (st := [.ref (ad 3 g1 0)]) rfl (Nat.le_of_ble_eq_true rfl) ⟨Nat.le_refl 0, Nat.le_refl 0⟩ dX7_readHead_27 (ppw ?_)
  obtain ⟨Y8, e9, h⟩ := lt_some h
  refine fw_putN C (ci := 5) (Cn := RX5) (Tc := TX5) (N := 17) (j := 0) (ty := .int) (upd (Y7 3 g1 0) 0 r5) ly_X7_readHead_5 rfl tyX5_ok nmX5 (hG _ (List.mem_of_getElem? (i := 3) rfl)) (of3_0 _) (ce3 T ad _ _) (by decide) (Nst_use (cx_nst C) (w := .fieldLinkNest RX7 58 "RecipeScheduler$Recipe" "cooks" "I" "RecipeScheduler") 126 (by decide +kernel) rfl) (fun _ h => h) rfl (by decide +kernel) rfl rfl (Nat.le_of_ble_eq_true rfl) (ce3_put0 T ad _ _ _) dX7_readHead_30 ?_
  refine fw_mem ((up_eq _ _ _ _ _ _).symm.trans e9) ?_
  refine fw_aload_n C dX7_readHead_33 rfl 1 rfl ?_
  refine fw_aload_n C dX7_readHead_34 rfl 0 rfl ?_
  refine fw_get C (ci := 7) (Cn := RX7) (Tc := TX7) (N := 1) (j := 0) ly_X7_readHead_7 rfl (hG _ (List.mem_of_getElem? (i := 0) rfl)) (of7_0 _) (ce7 T ad _ _) (by decide) (cx_ts C _ fl_X7_readHead_9) (fun _ h => h) (v := .ref (ad 6 0 0)) rfl dX7_readHead_35 ?_
  refine fw_iconst C dX7_readHead_38 (v := 0) rfl ?_
  refine fw_bipush C dX7_readHead_39 (v := 30) rfl ?_
  obtain ⟨r10, Y12, q11, h⟩ := bd2_some h
  refine fw_callVi C (ci := 10) (Cn := RX10) (Tc := TX10) (N := 6) (As := [.int 0, .int 30]) (c_X10_expectNumber (gac (hG _ (List.mem_of_getElem? (i := 1) rfl)) (gac (hG _ (List.mem_of_getElem? (i := 2) rfl)) ga0)) q11) (cwV 2 (cx_ts C) gX7_readHead_X10_expectNumber rfl rfl rfl (by decide +kernel) ⟨Nat.le_of_ble_eq_true rfl, Nat.le_of_ble_eq_true rfl⟩) rfl (hG _ (List.mem_of_getElem? (i := 1) rfl)) (of6_0 _) (ce6 T ad _ _) rfl (st := [.ref (ad 3 g1 0)]) rfl (Nat.le_of_ble_eq_true rfl) ⟨Nat.le_refl 0, Nat.le_refl 0⟩ dX7_readHead_41 (ppw ?_)
  obtain ⟨Y13, e14, h⟩ := lt_some h
  refine fw_putN C (ci := 5) (Cn := RX5) (Tc := TX5) (N := 17) (j := 1) (ty := .int) (upd (Y12 3 g1 0) 1 r10) ly_X7_readHead_5 rfl tyX5_ok nmX5 (hG _ (List.mem_of_getElem? (i := 3) rfl)) (of3_0 _) (ce3 T ad _ _) (by decide) (Nst_use (cx_nst C) (w := .fieldLinkNest RX7 62 "RecipeScheduler$Recipe" "hold" "I" "RecipeScheduler") 127 (by decide +kernel) rfl) (fun _ h => h) rfl (by decide +kernel) rfl rfl (Nat.le_of_ble_eq_true rfl) (ce3_put1 T ad _ _ _) dX7_readHead_44 ?_
  refine fw_mem ((up_eq _ _ _ _ _ _).symm.trans e14) ?_
  refine fw_aload_n C dX7_readHead_47 rfl 1 rfl ?_
  refine fw_aload_n C dX7_readHead_48 rfl 0 rfl ?_
  refine fw_get C (ci := 7) (Cn := RX7) (Tc := TX7) (N := 1) (j := 0) ly_X7_readHead_7 rfl (hG _ (List.mem_of_getElem? (i := 0) rfl)) (of7_0 _) (ce7 T ad _ _) (by decide) (cx_ts C _ fl_X7_readHead_9) (fun _ h => h) (v := .ref (ad 6 0 0)) rfl dX7_readHead_49 ?_
  refine fw_iconst C dX7_readHead_52 (v := 0) rfl ?_
  refine fw_bipush C dX7_readHead_53 (v := 99) rfl ?_
  obtain ⟨r15, Y17, q16, h⟩ := bd2_some h
  refine fw_callVi C (ci := 10) (Cn := RX10) (Tc := TX10) (N := 6) (As := [.int 0, .int 99]) (c_X10_expectNumber (gac (hG _ (List.mem_of_getElem? (i := 1) rfl)) (gac (hG _ (List.mem_of_getElem? (i := 2) rfl)) ga0)) q16) (cwV 2 (cx_ts C) gX7_readHead_X10_expectNumber rfl rfl rfl (by decide +kernel) ⟨Nat.le_of_ble_eq_true rfl, Nat.le_of_ble_eq_true rfl⟩) rfl (hG _ (List.mem_of_getElem? (i := 1) rfl)) (of6_0 _) (ce6 T ad _ _) rfl (st := [.ref (ad 3 g1 0)]) rfl (Nat.le_of_ble_eq_true rfl) ⟨Nat.le_refl 0, Nat.le_refl 0⟩ dX7_readHead_55 (ppw ?_)
  obtain ⟨Y18, e19, h⟩ := lt_some h
  refine fw_putN C (ci := 5) (Cn := RX5) (Tc := TX5) (N := 17) (j := 2) (ty := .int) (upd (Y17 3 g1 0) 2 r15) ly_X7_readHead_5 rfl tyX5_ok nmX5 (hG _ (List.mem_of_getElem? (i := 3) rfl)) (of3_0 _) (ce3 T ad _ _) (by decide) (Nst_use (cx_nst C) (w := .fieldLinkNest RX7 65 "RecipeScheduler$Recipe" "lowest" "I" "RecipeScheduler") 129 (by decide +kernel) rfl) (fun _ h => h) rfl (by decide +kernel) rfl rfl (Nat.le_of_ble_eq_true rfl) (ce3_put2 T ad _ _ _) dX7_readHead_58 ?_
  refine fw_mem ((up_eq _ _ _ _ _ _).symm.trans e19) ?_
  refine fw_aload_n C dX7_readHead_61 rfl 1 rfl ?_
  refine fw_aload_n C dX7_readHead_62 rfl 0 rfl ?_
  refine fw_get C (ci := 7) (Cn := RX7) (Tc := TX7) (N := 1) (j := 0) ly_X7_readHead_7 rfl (hG _ (List.mem_of_getElem? (i := 0) rfl)) (of7_0 _) (ce7 T ad _ _) (by decide) (cx_ts C _ fl_X7_readHead_9) (fun _ h => h) (v := .ref (ad 6 0 0)) rfl dX7_readHead_63 ?_
  refine fw_aload_n C dX7_readHead_66 rfl 1 rfl ?_
  refine fw_getN C (ci := 5) (Cn := RX5) (Tc := TX5) (N := 17) (j := 2) ly_X7_readHead_5 rfl (hG _ (List.mem_of_getElem? (i := 3) rfl)) (of3_0 _) (ce3 T ad _ _) (by decide) (Nst_use (cx_nst C) (w := .fieldLinkNest RX7 65 "RecipeScheduler$Recipe" "lowest" "I" "RecipeScheduler") 129 (by decide +kernel) rfl) (fun _ h => h) (v := .int (Y18 3 g1 0 2)) rfl dX7_readHead_67 ?_
  refine fw_bipush C dX7_readHead_70 (v := 99) rfl ?_
  obtain ⟨r20, Y22, q21, h⟩ := bd2_some h
  refine fw_callVi C (ci := 10) (Cn := RX10) (Tc := TX10) (N := 6) (As := [.int (Y18 3 g1 0 2), .int 99]) (c_X10_expectNumber (gac (hG _ (List.mem_of_getElem? (i := 1) rfl)) (gac (hG _ (List.mem_of_getElem? (i := 2) rfl)) ga0)) q21) (cwV 2 (cx_ts C) gX7_readHead_X10_expectNumber rfl rfl rfl (by decide +kernel) ⟨Nat.le_of_ble_eq_true rfl, Nat.le_of_ble_eq_true rfl⟩) rfl (hG _ (List.mem_of_getElem? (i := 1) rfl)) (of6_0 _) (ce6 T ad _ _) rfl (st := [.ref (ad 3 g1 0)]) rfl (Nat.le_of_ble_eq_true rfl) ⟨Nat.le_refl 0, Nat.le_refl 0⟩ dX7_readHead_72 (ppw ?_)
  obtain ⟨Y23, e24, h⟩ := lt_some h
  refine fw_putN C (ci := 5) (Cn := RX5) (Tc := TX5) (N := 17) (j := 3) (ty := .int) (upd (Y22 3 g1 0) 3 r20) ly_X7_readHead_5 rfl tyX5_ok nmX5 (hG _ (List.mem_of_getElem? (i := 3) rfl)) (of3_0 _) (ce3 T ad _ _) (by decide) (Nst_use (cx_nst C) (w := .fieldLinkNest RX7 68 "RecipeScheduler$Recipe" "highest" "I" "RecipeScheduler") 131 (by decide +kernel) rfl) (fun _ h => h) rfl (by decide +kernel) rfl rfl (Nat.le_of_ble_eq_true rfl) (ce3_put3 T ad _ _ _) dX7_readHead_75 ?_
  refine fw_mem ((up_eq _ _ _ _ _ _).symm.trans e24) ?_
  refine fw_aload_n C dX7_readHead_78 rfl 0 rfl ?_
  refine fw_get C (ci := 7) (Cn := RX7) (Tc := TX7) (N := 1) (j := 0) ly_X7_readHead_7 rfl (hG _ (List.mem_of_getElem? (i := 0) rfl)) (of7_0 _) (ce7 T ad _ _) (by decide) (cx_ts C _ fl_X7_readHead_9) (fun _ h => h) (v := .ref (ad 6 0 0)) rfl dX7_readHead_79 ?_
  obtain ⟨Y27, q26, h⟩ := bd1_some h
  refine fw_callVv C (ci := 10) (Cn := RX10) (Tc := TX10) (N := 6) (As := []) (c_X10_expectSemicolon (gac (hG _ (List.mem_of_getElem? (i := 1) rfl)) (gac (hG _ (List.mem_of_getElem? (i := 2) rfl)) ga0)) q26) (cwV 0 (cx_ts C) gX7_readHead_X10_expectSemicolon rfl rfl rfl (by decide +kernel) ⟨Nat.le_of_ble_eq_true rfl, Nat.le_of_ble_eq_true rfl⟩) rfl (hG _ (List.mem_of_getElem? (i := 1) rfl)) (of6_0 _) (ce6 T ad _ _) rfl (st := []) rfl (Nat.le_of_ble_eq_true rfl) ⟨Nat.le_refl 0, Nat.le_refl 0⟩ dX7_readHead_82 (ppv ?_)
  exact fw_vret C hrt Y27 (Option.some.inj h) (fun t ht => ht) dX7_readHead_85
set_option maxRecDepth 100000 in
set_option maxHeartbeats 4000000 in
theorem w_X7_readHead {Y : Mem} {g1 : Nat} (C : Cx p s m [.ref (ad 7 0 0), .ref (ad 3 g1 0)].toArray meth c cX7_readHead 2 wsX7_readHead RX7 N0 T D gr ad) (hrt : meth.sig.returnType = none) (hG : ∀ q ∈ [(7, 0), (6, 0), (5, 0), (3, g1)], q ∈ gr) {res : Mem} (h : X7_readHead Y g1 = some res) : FW p l e (Rm 6) s m [.ref (ad 7 0 0), .ref (ad 3 g1 0)].toArray below meth c 2 N0 T D gr ad 0 0 (MQ below (va_Qv (fun Y1 => Y1 = res) (WB T D gr ad) (fun q => N0 ≤ q)) [.ref (ad 7 0 0), .ref (ad 3 g1 0)].toArray s 0 0 (fun q => N0 ≤ q)) Y 0 [(0, .ref (ad 7 0 0)), (1, .ref (ad 3 g1 0))] [] := by
  unfold X7_readHead at h
  refine fw_aload_n C dX7_readHead_0 rfl 0 rfl ?_
  refine fw_get C (ci := 7) (Cn := RX7) (Tc := TX7) (N := 1) (j := 0) ly_X7_readHead_7 rfl (hG _ (List.mem_of_getElem? (i := 0) rfl)) (of7_0 _) (ce7 T ad _ _) (by decide) (cx_ts C _ fl_X7_readHead_9) (fun _ h => h) (v := .ref (ad 6 0 0)) rfl dX7_readHead_1 ?_
  refine fw_ldcS C (sr_1 (cx_st C)) dX7_readHead_4 ?_
  obtain ⟨r1, Y3, q2, h⟩ := bd2_some h
  refine fw_callVi C (ci := 10) (Cn := RX10) (Tc := TX10) (N := 6) (As := [.ref (ad 21 1 0)]) (c_X10_accept (gac (hG _ (List.mem_of_getElem? (i := 2) rfl)) (gac (hG _ (List.mem_of_getElem? (i := 1) rfl)) ga0)) q2) (cwV 1 (cx_ts C) gX7_readHead_X10_accept rfl rfl rfl (by decide +kernel) ⟨Nat.le_of_ble_eq_true rfl, Nat.le_of_ble_eq_true rfl⟩) rfl (hG _ (List.mem_of_getElem? (i := 1) rfl)) (of6_0 _) (ce6 T ad _ _) rfl (st := []) rfl (Nat.le_of_ble_eq_true rfl) ⟨Nat.le_refl 0, Nat.le_refl 0⟩ dX7_readHead_6 (ppw ?_)
  refine fw_if_ne C dX7_readHead_9 (tgt := 20) rfl (fun c4 => ?_) (fun c4 => ?_)
  · have h := ite_f c4 h
    exact w_X7_readHead_b20 C hrt hG   _ h
  · have h := ite_t c4 h
    refine fw_aload_n C dX7_readHead_12 rfl 0 rfl ?_
    refine fw_get C (ci := 7) (Cn := RX7) (Tc := TX7) (N := 1) (j := 0) ly_X7_readHead_7 rfl (hG _ (List.mem_of_getElem? (i := 0) rfl)) (of7_0 _) (ce7 T ad _ _) (by decide) (cx_ts C _ fl_X7_readHead_9) (fun _ h => h) (v := .ref (ad 6 0 0)) rfl dX7_readHead_13 ?_
    refine fw_iconst C dX7_readHead_16 (v := 1) rfl ?_
    obtain ⟨Y30, q29, h⟩ := bd1_some h
    refine fw_callVv C (ci := 10) (Cn := RX10) (Tc := TX10) (N := 6) (As := [.int 1]) (c_X10_fail (gac (hG _ (List.mem_of_getElem? (i := 1) rfl)) ga0) q29) (cwV 1 (cx_ts C) gX7_readHead_X10_fail rfl rfl rfl (by decide +kernel) ⟨Nat.le_of_ble_eq_true rfl, Nat.le_of_ble_eq_true rfl⟩) rfl (hG _ (List.mem_of_getElem? (i := 1) rfl)) (of6_0 _) (ce6 T ad _ _) rfl (st := []) rfl (Nat.le_of_ble_eq_true rfl) ⟨Nat.le_refl 0, Nat.le_refl 0⟩ dX7_readHead_17 (ppv ?_)
    exact w_X7_readHead_b20 C hrt hG   _ h
end
set_option maxRecDepth 100000 in
set_option maxHeartbeats 4000000 in
theorem c_X7_readHead {l : Launch} {N0 : Nat} {T : Nat → ClassId} {D : va_G} {gr : List (Nat × Nat)} {ad : Nat → Nat → Nat → Nat} {Y : Mem} {g1 : Nat} {res : Mem} (hG : ∀ q ∈ [(7, 0), (6, 0), (5, 0), (3, g1)], q ∈ gr) (h : X7_readHead Y g1 = some res) : CV l yX7_readHead wsX7_readHead (Rm 6) N0 T D gr ad Y [.ref (ad 7 0 0), .ref (ad 3 g1 0)] (fun Y1 => Y1 = res) :=
  fw_body (by decide +kernel) rfl (Nat.le_of_ble_eq_true rfl) (fun p e s m below meth c C hrt => w_X7_readHead C hrt hG  h)
