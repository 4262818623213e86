theorem ly_X11_burns_11 : ∀ w ∈ u_ws RX11 TX11 11, w ∈ wsX11_burns := by decide +kernel
theorem fl_X11_burns_67 : Cond.fieldLink RX11 67 "RecipeScheduler" "now" "LRecipeScheduler$Kitchen;" ∈ wsX11_burns := by decide +kernel
theorem ly_X11_burns_3 : ∀ w ∈ u_ws RX3 TX3 5, w ∈ wsX11_burns := by decide +kernel
theorem ly_X11_burns_8 : ∀ w ∈ u_ws RX8 TX8 15, w ∈ wsX11_burns := by decide +kernel
theorem ly_X11_burns_5 : ∀ w ∈ u_ws RX5 TX5 17, w ∈ wsX11_burns := by decide +kernel
theorem ly_X11_burns_4 : ∀ w ∈ u_ws RX4 TX4 3, w ∈ wsX11_burns := by decide +kernel
section
variable {p : Program} {l : Launch} {e : Env} {s : State} {m : MethodId} {below : List Frame} {meth : Method} {c : Code} {N0 : Nat} {T : Nat → ClassId} {D : va_G} {gr : List (Nat × Nat)} {ad : Nat → Nat → Nat → Nat}
set_option maxRecDepth 100000 in
set_option maxHeartbeats 4000000 in
theorem w_X11_burns {Y : Mem} (C : Cx p s m [.ref (ad 0 0 0)].toArray meth c cX11_burns 1 wsX11_burns RX11 N0 T D gr ad) (hrt : meth.sig.returnType = (some .int)) (hG : ∀ q ∈ ([(0, 0), (1, 0), (2, 0)] ++ allG), q ∈ gr) {res : Int32} (h : X11_burns Y = some res) : FW p l e (Rm 1) s m [.ref (ad 0 0 0)].toArray below meth c 1 N0 T D gr ad 0 0 (MQ below (va_Qi (fun r Y1 => r = res ∧ Y1 = Y) (WB T D gr ad) (fun q => N0 ≤ q)) [.ref (ad 0 0 0)].toArray s 0 0 (fun q => N0 ≤ q)) Y 0 [(0, .ref (ad 0 0 0))] [] := by
  unfold X11_burns at h
  refine fw_aload_n C dX11_burns_0 rfl 0 rfl ?_
  refine fw_get C (ci := 9) (Cn := RX11) (Tc := TX11) (N := 11) (j := 5) ly_X11_burns_11 rfl (hG _ (List.mem_of_getElem? (i := 0) rfl)) (of0_0 _) (ce0 T ad _ _) (by decide) (cx_ts C _ fl_X11_burns_67) (fun _ h => h) (v := .ref (ad 1 0 0)) rfl dX11_burns_1 ?_
  refine fw_getN C (ci := 1) (Cn := RX3) (Tc := TX3) (N := 5) (j := 1) ly_X11_burns_3 rfl (hG _ (List.mem_of_getElem? (i := 1) rfl)) (of1_0 _) (ce1 T ad _ _) (by decide) (Nst_use (cx_nst C) (w := .fieldLinkNest RX11 139 "RecipeScheduler$Kitchen" "state" "LRecipeScheduler$State;" "RecipeScheduler") 522 (by decide +kernel) rfl) (fun _ h => h) (v := .ref (ad 2 0 0)) rfl dX11_burns_4 ?_
  refine fw_getN C (ci := 6) (Cn := RX8) (Tc := TX8) (N := 15) (j := 14) ly_X11_burns_8 rfl (hG _ (List.mem_of_getElem? (i := 2) rfl)) (of2_0 _) (ce2 T ad _ _) (by decide) (Nst_use (cx_nst C) (w := .fieldLinkNest RX11 173 "RecipeScheduler$State" "burns" "[I" "RecipeScheduler") 479 (by decide +kernel) rfl) (fun _ h => h) (v := .ref (ad 2 0 6)) rfl dX11_burns_7 ?_
  refine fw_aload_n C dX11_burns_10 rfl 0 rfl ?_
  refine fw_get C (ci := 9) (Cn := RX11) (Tc := TX11) (N := 11) (j := 5) ly_X11_burns_11 rfl (hG _ (List.mem_of_getElem? (i := 0) rfl)) (of0_0 _) (ce0 T ad _ _) (by decide) (cx_ts C _ fl_X11_burns_67) (fun _ h => h) (v := .ref (ad 1 0 0)) rfl dX11_burns_11 ?_
  refine fw_getN C (ci := 1) (Cn := RX3) (Tc := TX3) (N := 5) (j := 0) ly_X11_burns_3 rfl (hG _ (List.mem_of_getElem? (i := 1) rfl)) (of1_0 _) (ce1 T ad _ _) (by decide) (Nst_use (cx_nst C) (w := .fieldLinkNest RX11 117 "RecipeScheduler$Kitchen" "recipe" "LRecipeScheduler$Recipe;" "RecipeScheduler") 520 (by decide +kernel) rfl) (fun _ h => h) (v := .ref (ad 3 ((Y 1 0 0 0).toNatClampNeg) 0)) rfl dX11_burns_14 ?_
  obtain ⟨b1, h⟩ := gd_some h
  have b1 := of_decide_eq_true b1
  refine fw_getN C (ci := 3) (Cn := RX5) (Tc := TX5) (N := 17) (j := 7) ly_X11_burns_5 rfl ((fun q hq => hG q (List.mem_append_right _ hq)) _ (allG_3 b1)) (of3_0 _) (ce3 T ad _ _) (by decide) (Nst_use (cx_nst C) (w := .fieldLinkNest RX11 126 "RecipeScheduler$Recipe" "steps" "LRecipeScheduler$Names;" "RecipeScheduler") 148 (by decide +kernel) rfl) (fun _ h => h) (v := .ref (ad 4 (2*((Y 1 0 0 0).toNatClampNeg)+1) 0)) rfl dX11_burns_17 ?_
  obtain ⟨b2, h⟩ := gd_some h
  have b2 := of_decide_eq_true b2
  refine fw_getN C (ci := 2) (Cn := RX4) (Tc := TX4) (N := 3) (j := 2) ly_X11_burns_4 rfl ((fun q hq => hG q (List.mem_append_right _ hq)) _ (allG_4b b2)) (of4_0 _) (ce4 T ad _ _) (by decide) (Nst_use (cx_nst C) (w := .fieldLinkNest RX11 130 "RecipeScheduler$Names" "count" "I" "RecipeScheduler") 115 (by decide +kernel) rfl) (fun _ h => h) (v := .int (Y 4 (2*((Y 1 0 0 0).toNatClampNeg)+1) 0 2)) rfl dX11_burns_20 ?_
  obtain ⟨r3, q4, h⟩ := bd1_some h
  refine fw_callSi C (As := [.ref (ad 2 0 6), .int (Y 4 (2*((Y 1 0 0 0).toNatClampNeg)+1) 0 2)]) (c_X11_sum (gac (hG _ (List.mem_of_getElem? (i := 2) rfl)) ga0) (ca2_6 T ad _) (of2_6 _) (Nat.le_of_ble_eq_true rfl) q4) (va_cwS 2 (cx_ts C) gX11_burns_X11_sum rfl rfl rfl (by decide +kernel) ⟨Nat.le_of_ble_eq_true rfl, Nat.le_of_ble_eq_true rfl⟩) rfl (st := []) rfl (Nat.le_of_ble_eq_true rfl) ⟨Nat.le_refl 0, Nat.le_refl 0⟩ dX11_burns_23 (pp2 ?_)
  exact fw_iret C hrt Y ⟨Option.some.inj h, rfl⟩ (fun t ht => ht) dX11_burns_26
end
set_option maxRecDepth 100000 in
set_option maxHeartbeats 4000000 in
theorem c_X11_burns {l : Launch} {N0 : Nat} {T : Nat → ClassId} {D : va_G} {gr : List (Nat × Nat)} {ad : Nat → Nat → Nat → Nat} {Y : Mem} {res : Int32} (hG : ∀ q ∈ ([(0, 0), (1, 0), (2, 0)] ++ allG), q ∈ gr) (h : X11_burns Y = some res) : CI l yX11_burns wsX11_burns (Rm 1) N0 T D gr ad Y [.ref (ad 0 0 0)] (fun r Y1 => r = res ∧ Y1 = Y) :=
  fw_body (by decide +kernel) rfl (Nat.le_of_ble_eq_true rfl) (fun p e s m below meth c C hrt => w_X11_burns C hrt hG  h)
section
variable {p : Program} {l : Launch} {e : Env} {s : State} {m : MethodId} {below : List Frame} {meth : Method} {c : Code} {N0 : Nat} {T : Nat → ClassId} {D : va_G} {gr : List (Nat × Nat)} {ad : Nat → Nat → Nat → Nat}
set_option maxRecDepth 100000 in
set_option maxHeartbeats 4000000 in
theorem w_X3_runMinutes_b8 {g0 : Nat} {a1 : Int32} (C : Cx p s m [.ref (ad 1 g0 0), .int a1].toArray meth c cX3_runMinutes 4 wsX3_runMinutes RX3 N0 T D gr ad) (hrt : meth.sig.returnType = (some .int)) (hG : ∀ q ∈ ([(2, g0), (1, g0)] ++ allG), q ∈ gr) {res : Int32 × Mem} : ∀ (n : Nat) (Y : Mem) (l3 : Int32) (l2 : Int32), X3_runMinutes_b8 g0 a1  n Y l3 l2 = some res → FW p l e (Rm 4) s m [.ref (ad 1 g0 0), .int a1].toArray below meth c 4 N0 T D gr ad 0 0 (MQ below (va_Qi (fun r Y1 => (r, Y1) = res) (WB T D gr ad) (fun q => N0 ≤ q)) [.ref (ad 1 g0 0), .int a1].toArray s 0 0 (fun q => N0 ≤ q)) Y 8 [(3, .int l3), (2, .int l2), (0, .ref (ad 1 g0 0)), (1, .int a1)] [] := by
  intro n
  induction n with
  | zero =>
    intro Y l3 l2 h
    unfold X3_runMinutes_b8 at h
    cases h
  | succ n ih =>
    intro Y l3 l2 h
    unfold X3_runMinutes_b8 at h
    refine fw_iload_n C dX3_runMinutes_8 rfl 0 rfl ?_
    refine fw_iload_n C dX3_runMinutes_9 rfl 3 rfl ?_
    refine fw_icmp_ge C dX3_runMinutes_10 (tgt := 26) rfl (fun c4 => ?_) (fun c4 => ?_)
    · have h := ite_t c4 h
      refine fw_iload_n C dX3_runMinutes_26 rfl 1 rfl ?_
      exact fw_iret C hrt Y (Option.some.inj h) (fun t ht => ht) dX3_runMinutes_27
    · have h := ite_f c4 h
      refine fw_iload_n C dX3_runMinutes_13 rfl 1 rfl ?_
      refine fw_aload_n C dX3_runMinutes_14 rfl 2 rfl ?_
      obtain ⟨r5, Y7, q6, h⟩ := bd2_some h
      refine fw_callVi C (ci := 1) (Cn := RX3) (Tc := TX3) (N := 5) (As := []) (c_X3_runMinute (gac (hG _ (List.mem_of_getElem? (i := 1) rfl)) (gac (hG _ (List.mem_of_getElem? (i := 0) rfl)) (fun q hq => hG q (List.mem_append_right _ hq)))) q6) (cwV 0 (cx_ts C) gX3_runMinutes_X3_runMinute rfl rfl rfl (by decide +kernel) ⟨Nat.le_of_ble_eq_true rfl, Nat.le_of_ble_eq_true rfl⟩) rfl (hG _ (List.mem_of_getElem? (i := 1) rfl)) (of1_0 _) (ce1 T ad _ _) rfl (st := [.int l2]) rfl (Nat.le_of_ble_eq_true rfl) ⟨Nat.le_refl 0, Nat.le_refl 0⟩ dX3_runMinutes_15 (ppw ?_)
      refine fw_iadd C dX3_runMinutes_18 ?_
      obtain ⟨v8, e9, h⟩ := lt_some h
      refine fw_top (v' := .int v8) (by rw [e9]) ?_
      refine fw_istore_n C dX3_runMinutes_19 rfl (by decide) (L' := [(2, .int v8), (3, .int l3), (0, .ref (ad 1 g0 0)), (1, .int a1)]) rfl ?_
      refine fw_iinc C dX3_runMinutes_20 (kk := 1) (v := l3 + 1) rfl rfl (by decide) (L' := [(3, .int (l3 + 1)), (2, .int v8), (0, .ref (ad 1 g0 0)), (1, .int a1)]) rfl ?_
      refine fw_goto C dX3_runMinutes_23 (tgt := 8) rfl ?_
      exact ih _ _ _ h
set_option maxRecDepth 100000 in
set_option maxHeartbeats 4000000 in
theorem w_X3_runMinutes {Y : Mem} {g0 : Nat} {a1 : Int32} (C : Cx p s m [.ref (ad 1 g0 0), .int a1].toArray meth c cX3_runMinutes 4 wsX3_runMinutes RX3 N0 T D gr ad) (hrt : meth.sig.returnType = (some .int)) (hG : ∀ q ∈ ([(2, g0), (1, g0)] ++ allG), q ∈ gr) {res : Int32 × Mem} (h : X3_runMinutes Y g0 a1 = some res) : FW p l e (Rm 4) s m [.ref (ad 1 g0 0), .int a1].toArray below meth c 4 N0 T D gr ad 0 0 (MQ below (va_Qi (fun r Y1 => (r, Y1) = res) (WB T D gr ad) (fun q => N0 ≤ q)) [.ref (ad 1 g0 0), .int a1].toArray s 0 0 (fun q => N0 ≤ q)) Y 0 [(0, .ref (ad 1 g0 0)), (1, .int a1)] [] := by
  unfold X3_runMinutes at h
  refine fw_aload_n C dX3_runMinutes_0 rfl 0 rfl ?_
  obtain ⟨Y3, q2, h⟩ := bd1_some h
  refine fw_callVv C (ci := 1) (Cn := RX3) (Tc := TX3) (N := 5) (As := []) (c_X3_rank (gac (hG _ (List.mem_of_getElem? (i := 1) rfl)) (gac (hG _ (List.mem_of_getElem? (i := 0) rfl)) (fun q hq => hG q (List.mem_append_right _ hq)))) q2) (cwV 0 (cx_ts C) gX3_runMinutes_X3_rank rfl rfl rfl (by decide +kernel) ⟨Nat.le_of_ble_eq_true rfl, Nat.le_of_ble_eq_true rfl⟩) rfl (hG _ (List.mem_of_getElem? (i := 1) rfl)) (of1_0 _) (ce1 T ad _ _) rfl (st := []) rfl (Nat.le_of_ble_eq_true rfl) ⟨Nat.le_refl 0, Nat.le_refl 0⟩ dX3_runMinutes_1 (ppv ?_)
  refine fw_iconst C dX3_runMinutes_4 (v := 0) rfl ?_
  refine fw_istore_n C dX3_runMinutes_5 rfl (by decide) (L' := [(2, .int 0), (0, .ref (ad 1 g0 0)), (1, .int a1)]) rfl ?_
  refine fw_iconst C dX3_runMinutes_6 (v := 0) rfl ?_
  refine fw_istore_n C dX3_runMinutes_7 rfl (by decide) (L' := [(3, .int 0), (2, .int 0), (0, .ref (ad 1 g0 0)), (1, .int a1)]) rfl ?_
  exact w_X3_runMinutes_b8 C hrt hG   _ _ _ _ h
end
set_option maxRecDepth 100000 in
set_option maxHeartbeats 4000000 in
theorem c_X3_runMinutes {l : Launch} {N0 : Nat} {T : Nat → ClassId} {D : va_G} {gr : List (Nat × Nat)} {ad : Nat → Nat → Nat → Nat} {Y : Mem} {g0 : Nat} {a1 : Int32} {res : Int32 × Mem} (hG : ∀ q ∈ ([(2, g0), (1, g0)] ++ allG), q ∈ gr) (h : X3_runMinutes Y g0 a1 = some res) : CI l yX3_runMinutes wsX3_runMinutes (Rm 4) N0 T D gr ad Y [.ref (ad 1 g0 0), .int a1] (fun r Y1 => (r, Y1) = res) :=
  fw_body (by decide +kernel) rfl (Nat.le_of_ble_eq_true rfl) (fun p e s m below meth c C hrt => w_X3_runMinutes C hrt hG  h)
theorem ly_X8_halt_8 : ∀ w ∈ u_ws RX8 TX8 15, w ∈ wsX8_halt := by decide +kernel
theorem fl_X8_halt_15 : Cond.fieldLink RX8 15 "RecipeScheduler$State" "remaining" "[I" ∈ wsX8_halt := by decide +kernel
theorem fl_X8_halt_53 : Cond.fieldLink RX8 53 "RecipeScheduler$State" "running" "I" ∈ wsX8_halt := by decide +kernel
theorem fl_X8_halt_46 : Cond.fieldLink RX8 46 "RecipeScheduler$State" "stops" "I" ∈ wsX8_halt := by decide +kernel
section
variable {p : Program} {l : Launch} {e : Env} {s : State} {m : MethodId} {below : List Frame} {meth : Method} {c : Code} {N0 : Nat} {T : Nat → ClassId} {D : va_G} {gr : List (Nat × Nat)} {ad : Nat → Nat → Nat → Nat}
set_option maxRecDepth 100000 in
set_option maxHeartbeats 4000000 in
theorem w_X8_halt {Y : Mem} {g0 : Nat} {a1 : Int32} (C : Cx p s m [.ref (ad 2 g0 0), .int a1].toArray meth c cX8_halt 3 wsX8_halt RX8 N0 T D gr ad) (hrt : meth.sig.returnType = (some .int)) (hG : ∀ q ∈ [(2, g0)], q ∈ gr) {res : Int32 × Mem} (h : X8_halt Y g0 a1 = some res) : FW p l e (Rm 0) s m [.ref (ad 2 g0 0), .int a1].toArray below meth c 3 N0 T D gr ad 0 0 (MQ below (va_Qi (fun r Y1 => (r, Y1) = res) (WB T D gr ad) (fun q => N0 ≤ q)) [.ref (ad 2 g0 0), .int a1].toArray s 0 0 (fun q => N0 ≤ q)) Y 0 [(0, .ref (ad 2 g0 0)), (1, .int a1)] [] := by
  unfold X8_halt at h
  refine fw_aload_n C dX8_halt_0 rfl 0 rfl ?_
  refine fw_get C (ci := 6) (Cn := RX8) (Tc := TX8) (N := 15) (j := 10) ly_X8_halt_8 rfl (hG _ (List.mem_of_getElem? (i := 0) rfl)) (of2_0 _) (ce2 T ad _ _) (by decide) (cx_ts C _ fl_X8_halt_15) (fun _ h => h) (v := .ref (ad 2 g0 2)) rfl dX8_halt_1 ?_
  refine fw_iload_n C dX8_halt_4 rfl 1 rfl ?_
  obtain ⟨b1, h⟩ := gd_some h
  refine fw_iald2 C (hG _ (List.mem_of_getElem? (i := 0) rfl)) (of2_2 _) (ca2_2 T ad _ _) b1 (Nat.le_of_ble_eq_true rfl) dX8_halt_5 ?_
  obtain ⟨v2, e3, h⟩ := lt_some h
  refine fw_top (v' := .int v2) (by rw [e3]) ?_
  refine fw_istore_n C dX8_halt_6 rfl (by decide) (L' := [(2, .int v2), (0, .ref (ad 2 g0 0)), (1, .int a1)]) rfl ?_
  refine fw_aload_n C dX8_halt_7 rfl 1 rfl ?_
  refine fw_dup C dX8_halt_8 rfl ?_
  refine fw_get C (ci := 6) (Cn := RX8) (Tc := TX8) (N := 15) (j := 6) ly_X8_halt_8 rfl (hG _ (List.mem_of_getElem? (i := 0) rfl)) (of2_0 _) (ce2 T ad _ _) (by decide) (cx_ts C _ fl_X8_halt_53) (fun _ h => h) (v := .int (Y 2 g0 0 6)) rfl dX8_halt_9 ?_
  refine fw_iconst C dX8_halt_12 (v := 1) rfl ?_
  refine fw_iload_n C dX8_halt_13 rfl 2 rfl ?_
  refine fw_ishl C dX8_halt_14 ?_
  refine fw_iconst C dX8_halt_15 (v := (-1)) rfl ?_
  refine fw_ixor C dX8_halt_16 ?_
  refine fw_iand C dX8_halt_17 ?_
  obtain ⟨Y4, e5, h⟩ := lt_some h
  refine fw_put C (ci := 6) (Cn := RX8) (Tc := TX8) (N := 15) (j := 6) (ty := .int) (upd (Y 2 g0 0) 6 ((Y 2 g0 0 6) &&& ((1 <<< (a1 &&& 31)) ^^^ ((-1))))) ly_X8_halt_8 rfl tyX8_ok nmX8 (hG _ (List.mem_of_getElem? (i := 0) rfl)) (of2_0 _) (ce2 T ad _ _) (by decide) (cx_ts C _ fl_X8_halt_53) (fun _ h => h) rfl (by decide +kernel) rfl rfl (Nat.le_of_ble_eq_true rfl) (ce2_put6 T ad _ _ _) dX8_halt_18 ?_
  refine fw_mem ((up_eq _ _ _ _ _ _).symm.trans e5) ?_
  refine fw_aload_n C dX8_halt_21 rfl 1 rfl ?_
  refine fw_get C (ci := 6) (Cn := RX8) (Tc := TX8) (N := 15) (j := 10) ly_X8_halt_8 rfl (hG _ (List.mem_of_getElem? (i := 0) rfl)) (of2_0 _) (ce2 T ad _ _) (by decide) (cx_ts C _ fl_X8_halt_15) (fun _ h => h) (v := .ref (ad 2 g0 2)) rfl dX8_halt_22 ?_
  refine fw_iload_n C dX8_halt_25 rfl 2 rfl ?_
  refine fw_iconst C dX8_halt_26 (v := 0) rfl ?_
  obtain ⟨Y6, e7, h⟩ := lt_some h
  refine fw_iast2 C (hG _ (List.mem_of_getElem? (i := 0) rfl)) (of2_2 _) (ca2_2 T ad _) b1 (Nat.le_of_ble_eq_true rfl) dX8_halt_27 ?_
  refine fw_mem e7 ?_
  refine fw_aload_n C dX8_halt_28 rfl 1 rfl ?_
  refine fw_dup C dX8_halt_29 rfl ?_
  refine fw_get C (ci := 6) (Cn := RX8) (Tc := TX8) (N := 15) (j := 4) ly_X8_halt_8 rfl (hG _ (List.mem_of_getElem? (i := 0) rfl)) (of2_0 _) (ce2 T ad _ _) (by decide) (cx_ts C _ fl_X8_halt_46) (fun _ h => h) (v := .int (Y6 2 g0 0 4)) rfl dX8_halt_30 ?_
  refine fw_iconst C dX8_halt_33 (v := 1) rfl ?_
  refine fw_iadd C dX8_halt_34 ?_
  obtain ⟨Y8, e9, h⟩ := lt_some h
  refine fw_put C (ci := 6) (Cn := RX8) (Tc := TX8) (N := 15) (j := 4) (ty := .int) (upd (Y6 2 g0 0) 4 ((Y6 2 g0 0 4) + 1)) ly_X8_halt_8 rfl tyX8_ok nmX8 (hG _ (List.mem_of_getElem? (i := 0) rfl)) (of2_0 _) (ce2 T ad _ _) (by decide) (cx_ts C _ fl_X8_halt_46) (fun _ h => h) rfl (by decide +kernel) rfl rfl (Nat.le_of_ble_eq_true rfl) (ce2_put4 T ad _ _ _) dX8_halt_35 ?_
  refine fw_mem ((up_eq _ _ _ _ _ _).symm.trans e9) ?_
  refine fw_iload_n C dX8_halt_38 rfl 0 rfl ?_
  exact fw_iret C hrt Y8 (Option.some.inj h) (fun t ht => ht) dX8_halt_39
end
set_option maxRecDepth 100000 in
set_option maxHeartbeats 4000000 in
theorem c_X8_halt {l : Launch} {N0 : Nat} {T : Nat → ClassId} {D : va_G} {gr : List (Nat × Nat)} {ad : Nat → Nat → Nat → Nat} {Y : Mem} {g0 : Nat} {a1 : Int32} {res : Int32 × Mem} (hG : ∀ q ∈ [(2, g0)], q ∈ gr) (h : X8_halt Y g0 a1 = some res) : CI l yX8_halt wsX8_halt (Rm 0) N0 T D gr ad Y [.ref (ad 2 g0 0), .int a1] (fun r Y1 => (r, Y1) = res) :=
  fw_body (by decide +kernel) rfl (Nat.le_of_ble_eq_true rfl) (fun p e s m below meth c C hrt => w_X8_halt C hrt hG  h)
theorem ly_X8_discard_8 : ∀ w ∈ u_ws RX8 TX8 15, w ∈ wsX8_discard := by decide +kernel
theorem fl_X8_discard_18 : Cond.fieldLink RX8 18 "RecipeScheduler$State" "age" "[I" ∈ wsX8_discard := by decide +kernel
theorem fl_X8_discard_56 : Cond.fieldLink RX8 56 "RecipeScheduler$State" "done" "I" ∈ wsX8_discard := by decide +kernel
section
variable {p : Program} {l : Launch} {e : Env} {s : State} {m : MethodId} {below : List Frame} {meth : Method} {c : Code} {N0 : Nat} {T : Nat → ClassId} {D : va_G} {gr : List (Nat × Nat)} {ad : Nat → Nat → Nat → Nat}
set_option maxRecDepth 100000 in
set_option maxHeartbeats 4000000 in
theorem w_X8_discard {Y : Mem} {g0 : Nat} {a1 : Int32} (C : Cx p s m [.ref (ad 2 g0 0), .int a1].toArray meth c cX8_discard 3 wsX8_discard RX8 N0 T D gr ad) (hrt : meth.sig.returnType = (some .int)) (hG : ∀ q ∈ [(2, g0)], q ∈ gr) {res : Int32 × Mem} (h : X8_discard Y g0 a1 = some res) : FW p l e (Rm 0) s m [.ref (ad 2 g0 0), .int a1].toArray below meth c 3 N0 T D gr ad 0 0 (MQ below (va_Qi (fun r Y1 => (r, Y1) = res) (WB T D gr ad) (fun q => N0 ≤ q)) [.ref (ad 2 g0 0), .int a1].toArray s 0 0 (fun q => N0 ≤ q)) Y 0 [(0, .ref (ad 2 g0 0)), (1, .int a1)] [] := by
  unfold X8_discard at h
  refine fw_aload_n C dX8_discard_0 rfl 0 rfl ?_
  refine fw_get C (ci := 6) (Cn := RX8) (Tc := TX8) (N := 15) (j := 11) ly_X8_discard_8 rfl (hG _ (List.mem_of_getElem? (i := 0) rfl)) (of2_0 _) (ce2 T ad _ _) (by decide) (cx_ts C _ fl_X8_discard_18) (fun _ h => h) (v := .ref (ad 2 g0 3)) rfl dX8_discard_1 ?_
  refine fw_iload_n C dX8_discard_4 rfl 1 rfl ?_
  obtain ⟨b1, h⟩ := gd_some h
  refine fw_iald2 C (hG _ (List.mem_of_getElem? (i := 0) rfl)) (of2_3 _) (ca2_3 T ad _ _) b1 (Nat.le_of_ble_eq_true rfl) dX8_discard_5 ?_
  obtain ⟨v2, e3, h⟩ := lt_some h
  refine fw_top (v' := .int v2) (by rw [e3]) ?_
  refine fw_istore_n C dX8_discard_6 rfl (by decide) (L' := [(2, .int v2), (0, .ref (ad 2 g0 0)), (1, .int a1)]) rfl ?_
  refine fw_aload_n C dX8_discard_7 rfl 1 rfl ?_
  refine fw_dup C dX8_discard_8 rfl ?_
  refine fw_get C (ci := 6) (Cn := RX8) (Tc := TX8) (N := 15) (j := 7) ly_X8_discard_8 rfl (hG _ (List.mem_of_getElem? (i := 0) rfl)) (of2_0 _) (ce2 T ad _ _) (by decide) (cx_ts C _ fl_X8_discard_56) (fun _ h => h) (v := .int (Y 2 g0 0 7)) rfl dX8_discard_9 ?_
  refine fw_iconst C dX8_discard_12 (v := 1) rfl ?_
  refine fw_iload_n C dX8_discard_13 rfl 2 rfl ?_
  refine fw_ishl C dX8_discard_14 ?_
  refine fw_iconst C dX8_discard_15 (v := (-1)) rfl ?_
  refine fw_ixor C dX8_discard_16 ?_
  refine fw_iand C dX8_discard_17 ?_
  obtain ⟨Y4, e5, h⟩ := lt_some h
  refine fw_put C (ci := 6) (Cn := RX8) (Tc := TX8) (N := 15) (j := 7) (ty := .int) (upd (Y 2 g0 0) 7 ((Y 2 g0 0 7) &&& ((1 <<< (a1 &&& 31)) ^^^ ((-1))))) ly_X8_discard_8 rfl tyX8_ok nmX8 (hG _ (List.mem_of_getElem? (i := 0) rfl)) (of2_0 _) (ce2 T ad _ _) (by decide) (cx_ts C _ fl_X8_discard_56) (fun _ h => h) rfl (by decide +kernel) rfl rfl (Nat.le_of_ble_eq_true rfl) (ce2_put7 T ad _ _ _) dX8_discard_18 ?_
  refine fw_mem ((up_eq _ _ _ _ _ _).symm.trans e5) ?_
  refine fw_aload_n C dX8_discard_21 rfl 1 rfl ?_
  refine fw_get C (ci := 6) (Cn := RX8) (Tc := TX8) (N := 15) (j := 11) ly_X8_discard_8 rfl (hG _ (List.mem_of_getElem? (i := 0) rfl)) (of2_0 _) (ce2 T ad _ _) (by decide) (cx_ts C _ fl_X8_discard_18) (fun _ h => h) (v := .ref (ad 2 g0 3)) rfl dX8_discard_22 ?_
  refine fw_iload_n C dX8_discard_25 rfl 2 rfl ?_
  refine fw_iconst C dX8_discard_26 (v := 0) rfl ?_
  obtain ⟨Y6, e7, h⟩ := lt_some h
  refine fw_iast2 C (hG _ (List.mem_of_getElem? (i := 0) rfl)) (of2_3 _) (ca2_3 T ad _) b1 (Nat.le_of_ble_eq_true rfl) dX8_discard_27 ?_
  refine fw_mem e7 ?_
  refine fw_iload_n C dX8_discard_28 rfl 0 rfl ?_
  exact fw_iret C hrt Y6 (Option.some.inj h) (fun t ht => ht) dX8_discard_29
end
set_option maxRecDepth 100000 in
set_option maxHeartbeats 4000000 in
theorem c_X8_discard {l : Launch} {N0 : Nat} {T : Nat → ClassId} {D : va_G} {gr : List (Nat × Nat)} {ad : Nat → Nat → Nat → Nat} {Y : Mem} {g0 : Nat} {a1 : Int32} {res : Int32 × Mem} (hG : ∀ q ∈ [(2, g0)], q ∈ gr) (h : X8_discard Y g0 a1 = some res) : CI l yX8_discard wsX8_discard (Rm 0) N0 T D gr ad Y [.ref (ad 2 g0 0), .int a1] (fun r Y1 => (r, Y1) = res) :=
  fw_body (by decide +kernel) rfl (Nat.le_of_ble_eq_true rfl) (fun p e s m below meth c C hrt => w_X8_discard C hrt hG  h)
theorem fl_X11_carryOut_442 : Cond.fieldLink RX11 442 "RecipeScheduler$1" "$SwitchMap$RecipeScheduler$Command" "[I" ∈ wsX11_carryOut := by decide +kernel
theorem ly_X11_carryOut_11 : ∀ w ∈ u_ws RX11 TX11 11, w ∈ wsX11_carryOut := by decide +kernel
theorem fl_X11_carryOut_67 : Cond.fieldLink RX11 67 "RecipeScheduler" "now" "LRecipeScheduler$Kitchen;" ∈ wsX11_carryOut := by decide +kernel
theorem ly_X11_carryOut_3 : ∀ w ∈ u_ws RX3 TX3 5, w ∈ wsX11_carryOut := by decide +kernel
theorem ly_X11_carryOut_8 : ∀ w ∈ u_ws RX8 TX8 15, w ∈ wsX11_carryOut := by decide +kernel
section
variable {p : Program} {l : Launch} {e : Env} {s : State} {m : MethodId} {below : List Frame} {meth : Method} {c : Code} {N0 : Nat} {T : Nat → ClassId} {D : va_G} {gr : List (Nat × Nat)} {ad : Nat → Nat → Nat → Nat}
set_option maxRecDepth 100000 in
set_option maxHeartbeats 4000000 in
theorem w_X11_carryOut {Y : Mem} {w1 : Nat} {a2 : Int32} {a3 : Int32} (C : Cx p s m [.ref (ad 0 0 0), .ref (ad 20 w1 0), .int a2, .int a3].toArray meth c cX11_carryOut 4 wsX11_carryOut RX11 N0 T D gr ad) (hrt : meth.sig.returnType = none) (hG : ∀ q ∈ ([(0, 0), (1, 0), (2, 0)] ++ allG), q ∈ gr) {res : Mem} (h : X11_carryOut Y w1 a2 a3 = some res) : FW p l e (Rm 5) s m [.ref (ad 0 0 0), .ref (ad 20 w1 0), .int a2, .int a3].toArray below meth c 4 N0 T D gr ad 0 0 (MQ below (va_Qv (fun Y1 => Y1 = res) (WB T D gr ad) (fun q => N0 ≤ q)) [.ref (ad 0 0 0), .ref (ad 20 w1 0), .int a2, .int a3].toArray s 0 0 (fun q => N0 ≤ q)) Y 0 [(0, .ref (ad 0 0 0)), (1, .ref (ad 20 w1 0)), (2, .int a2), (3, .int a3)] [] := by
  unfold X11_carryOut at h
  refine fw_gets C (v := .ref (ad 25 0 0)) (cx_st C).2.2.2.2.1.1 (cx_ts C _ fl_X11_carryOut_442) (fun _ h => h) dX11_carryOut_0 ?_
  refine fw_aload_n C dX11_carryOut_3 rfl 1 rfl ?_
  obtain ⟨b1, h⟩ := gd_some h
  have b1 := of_decide_eq_true b1
  refine fw_callUi C (Cn := RX1) (As := []) (c_ordinal ga0 b1) (va_cwU 0 (cx_ts C) gX11_carryOut_Jx29ce0_ordinal_8abf5_u447X1 rfl rfl rfl rfl (by decide +kernel) ⟨Nat.le_of_ble_eq_true rfl, Nat.le_of_ble_eq_true rfl⟩) ((cx_st C).2.2.1 _ b1).1 rfl (st := [.ref (ad 25 0 0)]) rfl (Nat.le_of_ble_eq_true rfl) ⟨Nat.zero_le _, Nat.zero_le _⟩ dX11_carryOut_4 (pp2 ?_)
  obtain ⟨b2, h⟩ := gd_some h
  refine fw_ti C (cx_st C).2.2.2.2.1.2 b2 (v := .int (sSw (ix ((Int32.ofNat w1))))) rfl dX11_carryOut_7 ?_
  by_cases c3 : (sSw (ix ((Int32.ofNat w1)))) = 1
  · have h := ite_t c3 h
    refine fw_tableIn C dX11_carryOut_8 (by rw [c3]; decide +kernel) (by rw [c3]; decide +kernel) (off := 44) (by rw [c3]; decide +kernel) (tgt := 52) rfl ?_
    refine fw_aload_n C dX11_carryOut_52 rfl 0 rfl ?_
    refine fw_get C (ci := 9) (Cn := RX11) (Tc := TX11) (N := 11) (j := 5) ly_X11_carryOut_11 rfl (hG _ (List.mem_of_getElem? (i := 0) rfl)) (of0_0 _) (ce0 T ad _ _) (by decide) (cx_ts C _ fl_X11_carryOut_67) (fun _ h => h) (v := .ref (ad 1 0 0)) rfl dX11_carryOut_53 ?_
    refine fw_iload_n C dX11_carryOut_56 rfl 3 rfl ?_
    obtain ⟨r4, Y6, q5, h⟩ := bd2_some h
    refine fw_callVi C (ci := 1) (Cn := RX3) (Tc := TX3) (N := 5) (As := [.int a3]) (c_X3_runMinutes (gac (hG _ (List.mem_of_getElem? (i := 2) rfl)) (gac (hG _ (List.mem_of_getElem? (i := 1) rfl)) (fun q hq => hG q (List.mem_append_right _ hq)))) q5) (cwV 1 (cx_ts C) gX11_carryOut_X3_runMinutes rfl rfl rfl (by decide +kernel) ⟨Nat.le_of_ble_eq_true rfl, Nat.le_of_ble_eq_true rfl⟩) rfl (hG _ (List.mem_of_getElem? (i := 1) rfl)) (of1_0 _) (ce1 T ad _ _) rfl (st := []) rfl (Nat.le_of_ble_eq_true rfl) ⟨Nat.le_refl 0, Nat.le_refl 0⟩ dX11_carryOut_57 (ppw ?_)
    refine fw_pop C dX11_carryOut_60 rfl ?_
    refine fw_goto C dX11_carryOut_61 (tgt := 173) rfl ?_
    exact fw_vret C hrt Y6 (Option.some.inj h) (fun t ht => ht) dX11_carryOut_173
  · have h := ite_f c3 h
    by_cases c7 : (sSw (ix ((Int32.ofNat w1)))) = 2
    · have h := ite_t c7 h
      refine fw_tableIn C dX11_carryOut_8 (by rw [c7]; decide +kernel) (by rw [c7]; decide +kernel) (off := 56) (by rw [c7]; decide +kernel) (tgt := 64) rfl ?_
      refine fw_aload_n C dX11_carryOut_64 rfl 0 rfl ?_
      refine fw_get C (ci := 9) (Cn := RX11) (Tc := TX11) (N := 11) (j := 5) ly_X11_carryOut_11 rfl (hG _ (List.mem_of_getElem? (i := 0) rfl)) (of0_0 _) (ce0 T ad _ _) (by decide) (cx_ts C _ fl_X11_carryOut_67) (fun _ h => h) (v := .ref (ad 1 0 0)) rfl dX11_carryOut_65 ?_
      refine fw_getN C (ci := 1) (Cn := RX3) (Tc := TX3) (N := 5) (j := 1) ly_X11_carryOut_3 rfl (hG _ (List.mem_of_getElem? (i := 1) rfl)) (of1_0 _) (ce1 T ad _ _) (by decide) (Nst_use (cx_nst C) (w := .fieldLinkNest RX11 139 "RecipeScheduler$Kitchen" "state" "LRecipeScheduler$State;" "RecipeScheduler") 522 (by decide +kernel) rfl) (fun _ h => h) (v := .ref (ad 2 0 0)) rfl dX11_carryOut_68 ?_
      refine fw_dup C dX11_carryOut_71 rfl ?_
      refine fw_getN C (ci := 6) (Cn := RX8) (Tc := TX8) (N := 15) (j := 2) ly_X11_carryOut_8 rfl (hG _ (List.mem_of_getElem? (i := 2) rfl)) (of2_0 _) (ce2 T ad _ _) (by decide) (Nst_use (cx_nst C) (w := .fieldLinkNest RX11 149 "RecipeScheduler$State" "salt" "I" "RecipeScheduler") 445 (by decide +kernel) rfl) (fun _ h => h) (v := .int (Y 2 0 0 2)) rfl dX11_carryOut_72 ?_
      refine fw_iload_n C dX11_carryOut_75 rfl 3 rfl ?_
      refine fw_iadd C dX11_carryOut_76 ?_
      obtain ⟨Y8, e9, h⟩ := lt_some h
      refine fw_putN C (ci := 6) (Cn := RX8) (Tc := TX8) (N := 15) (j := 2) (ty := .int) (upd (Y 2 0 0) 2 ((Y 2 0 0 2) + a3)) ly_X11_carryOut_8 rfl tyX8_ok nmX8 (hG _ (List.mem_of_getElem? (i := 2) rfl)) (of2_0 _) (ce2 T ad _ _) (by decide) (Nst_use (cx_nst C) (w := .fieldLinkNest RX11 149 "RecipeScheduler$State" "salt" "I" "RecipeScheduler") 445 (by decide +kernel) rfl) (fun _ h => h) rfl (by decide +kernel) rfl rfl (Nat.le_of_ble_eq_true rfl) (ce2_put2 T ad _ _ _) dX11_carryOut_77 ?_
      refine fw_mem ((up_eq _ _ _ _ _ _).symm.trans e9) ?_
      refine fw_goto C dX11_carryOut_80 (tgt := 173) rfl ?_
      exact fw_vret C hrt Y8 (Option.some.inj h) (fun t ht => ht) dX11_carryOut_173
    · have h := ite_f c7 h
      by_cases c10 : (sSw (ix ((Int32.ofNat w1)))) = 3
      · have h := ite_t c10 h
        refine fw_tableIn C dX11_carryOut_8 (by rw [c10]; decide +kernel) (by rw [c10]; decide +kernel) (off := 75) (by rw [c10]; decide +kernel) (tgt := 83) rfl ?_
        refine fw_aload_n C dX11_carryOut_83 rfl 0 rfl ?_
        refine fw_get C (ci := 9) (Cn := RX11) (Tc := TX11) (N := 11) (j := 5) ly_X11_carryOut_11 rfl (hG _ (List.mem_of_getElem? (i := 0) rfl)) (of0_0 _) (ce0 T ad _ _) (by decide) (cx_ts C _ fl_X11_carryOut_67) (fun _ h => h) (v := .ref (ad 1 0 0)) rfl dX11_carryOut_84 ?_
        refine fw_getN C (ci := 1) (Cn := RX3) (Tc := TX3) (N := 5) (j := 1) ly_X11_carryOut_3 rfl (hG _ (List.mem_of_getElem? (i := 1) rfl)) (of1_0 _) (ce1 T ad _ _) (by decide) (Nst_use (cx_nst C) (w := .fieldLinkNest RX11 139 "RecipeScheduler$Kitchen" "state" "LRecipeScheduler$State;" "RecipeScheduler") 522 (by decide +kernel) rfl) (fun _ h => h) (v := .ref (ad 2 0 0)) rfl dX11_carryOut_87 ?_
        refine fw_dup C dX11_carryOut_90 rfl ?_
        refine fw_getN C (ci := 6) (Cn := RX8) (Tc := TX8) (N := 15) (j := 2) ly_X11_carryOut_8 rfl (hG _ (List.mem_of_getElem? (i := 2) rfl)) (of2_0 _) (ce2 T ad _ _) (by decide) (Nst_use (cx_nst C) (w := .fieldLinkNest RX11 149 "RecipeScheduler$State" "salt" "I" "RecipeScheduler") 445 (by decide +kernel) rfl) (fun _ h => h) (v := .int (Y 2 0 0 2)) rfl dX11_carryOut_91 ?_
        refine fw_iload_n C dX11_carryOut_94 rfl 3 rfl ?_
        refine fw_isub C dX11_carryOut_95 ?_
        obtain ⟨Y11, e12, h⟩ := lt_some h
        refine fw_putN C (ci := 6) (Cn := RX8) (Tc := TX8) (N := 15) (j := 2) (ty := .int) (upd (Y 2 0 0) 2 ((Y 2 0 0 2) - a3)) ly_X11_carryOut_8 rfl tyX8_ok nmX8 (hG _ (List.mem_of_getElem? (i := 2) rfl)) (of2_0 _) (ce2 T ad _ _) (by decide) (Nst_use (cx_nst C) (w := .fieldLinkNest RX11 149 "RecipeScheduler$State" "salt" "I" "RecipeScheduler") 445 (by decide +kernel) rfl) (fun _ h => h) rfl (by decide +kernel) rfl rfl (Nat.le_of_ble_eq_true rfl) (ce2_put2 T ad _ _ _) dX11_carryOut_96 ?_
        refine fw_mem ((up_eq _ _ _ _ _ _).symm.trans e12) ?_
        refine fw_goto C dX11_carryOut_99 (tgt := 173) rfl ?_
        exact fw_vret C hrt Y11 (Option.some.inj h) (fun t ht => ht) dX11_carryOut_173
      · have h := ite_f c10 h
        by_cases c13 : (sSw (ix ((Int32.ofNat w1)))) = 4
        · have h := ite_t c13 h
          refine fw_tableIn C dX11_carryOut_8 (by rw [c13]; decide +kernel) (by rw [c13]; decide +kernel) (off := 94) (by rw [c13]; decide +kernel) (tgt := 102) rfl ?_
          refine fw_aload_n C dX11_carryOut_102 rfl 0 rfl ?_
          refine fw_get C (ci := 9) (Cn := RX11) (Tc := TX11) (N := 11) (j := 5) ly_X11_carryOut_11 rfl (hG _ (List.mem_of_getElem? (i := 0) rfl)) (of0_0 _) (ce0 T ad _ _) (by decide) (cx_ts C _ fl_X11_carryOut_67) (fun _ h => h) (v := .ref (ad 1 0 0)) rfl dX11_carryOut_103 ?_
          refine fw_getN C (ci := 1) (Cn := RX3) (Tc := TX3) (N := 5) (j := 1) ly_X11_carryOut_3 rfl (hG _ (List.mem_of_getElem? (i := 1) rfl)) (of1_0 _) (ce1 T ad _ _) (by decide) (Nst_use (cx_nst C) (w := .fieldLinkNest RX11 139 "RecipeScheduler$Kitchen" "state" "LRecipeScheduler$State;" "RecipeScheduler") 522 (by decide +kernel) rfl) (fun _ h => h) (v := .ref (ad 2 0 0)) rfl dX11_carryOut_106 ?_
          refine fw_iload_n C dX11_carryOut_109 rfl 2 rfl ?_
          obtain ⟨r14, Y16, q15, h⟩ := bd2_some h
          refine fw_callVi C (ci := 6) (Cn := RX8) (Tc := TX8) (N := 15) (As := [.int a2]) (c_X8_halt (gac (hG _ (List.mem_of_getElem? (i := 2) rfl)) ga0) q15) (cwV 1 (cx_ts C) gX11_carryOut_X8_halt rfl rfl rfl (by decide +kernel) ⟨Nat.le_of_ble_eq_true rfl, Nat.le_of_ble_eq_true rfl⟩) rfl (hG _ (List.mem_of_getElem? (i := 2) rfl)) (of2_0 _) (ce2 T ad _ _) rfl (st := []) rfl (Nat.le_of_ble_eq_true rfl) ⟨Nat.le_refl 0, Nat.le_refl 0⟩ dX11_carryOut_110 (ppw ?_)
          refine fw_pop C dX11_carryOut_113 rfl ?_
          refine fw_goto C dX11_carryOut_114 (tgt := 173) rfl ?_
          exact fw_vret C hrt Y16 (Option.some.inj h) (fun t ht => ht) dX11_carryOut_173
        · have h := ite_f c13 h
          by_cases c17 : (sSw (ix ((Int32.ofNat w1)))) = 5
          · have h := ite_t c17 h
            refine fw_tableIn C dX11_carryOut_8 (by rw [c17]; decide +kernel) (by rw [c17]; decide +kernel) (off := 109) (by rw [c17]; decide +kernel) (tgt := 117) rfl ?_
            refine fw_aload_n C dX11_carryOut_117 rfl 0 rfl ?_
            refine fw_get C (ci := 9) (Cn := RX11) (Tc := TX11) (N := 11) (j := 5) ly_X11_carryOut_11 rfl (hG _ (List.mem_of_getElem? (i := 0) rfl)) (of0_0 _) (ce0 T ad _ _) (by decide) (cx_ts C _ fl_X11_carryOut_67) (fun _ h => h) (v := .ref (ad 1 0 0)) rfl dX11_carryOut_118 ?_
            refine fw_getN C (ci := 1) (Cn := RX3) (Tc := TX3) (N := 5) (j := 1) ly_X11_carryOut_3 rfl (hG _ (List.mem_of_getElem? (i := 1) rfl)) (of1_0 _) (ce1 T ad _ _) (by decide) (Nst_use (cx_nst C) (w := .fieldLinkNest RX11 139 "RecipeScheduler$Kitchen" "state" "LRecipeScheduler$State;" "RecipeScheduler") 522 (by decide +kernel) rfl) (fun _ h => h) (v := .ref (ad 2 0 0)) rfl dX11_carryOut_121 ?_
            refine fw_iload_n C dX11_carryOut_124 rfl 2 rfl ?_
            obtain ⟨r18, Y20, q19, h⟩ := bd2_some h
            refine fw_callVi C (ci := 6) (Cn := RX8) (Tc := TX8) (N := 15) (As := [.int a2]) (c_X8_discard (gac (hG _ (List.mem_of_getElem? (i := 2) rfl)) ga0) q19) (cwV 1 (cx_ts C) gX11_carryOut_X8_discard rfl rfl rfl (by decide +kernel) ⟨Nat.le_of_ble_eq_true rfl, Nat.le_of_ble_eq_true rfl⟩) rfl (hG _ (List.mem_of_getElem? (i := 2) rfl)) (of2_0 _) (ce2 T ad _ _) rfl (st := []) rfl (Nat.le_of_ble_eq_true rfl) ⟨Nat.le_refl 0, Nat.le_refl 0⟩ dX11_carryOut_125 (ppw ?_)
            refine fw_pop C dX11_carryOut_128 rfl ?_
            refine fw_goto C dX11_carryOut_129 (tgt := 173) rfl ?_
            exact fw_vret C hrt Y20 (Option.some.inj h) (fun t ht => ht) dX11_carryOut_173
          · have h := ite_f c17 h
            by_cases c21 : (sSw (ix ((Int32.ofNat w1)))) = 6
            · have h := ite_t c21 h
              refine fw_tableIn C dX11_carryOut_8 (by rw [c21]; decide +kernel) (by rw [c21]; decide +kernel) (off := 124) (by rw [c21]; decide +kernel) (tgt := 132) rfl ?_
              refine fw_aload_n C dX11_carryOut_132 rfl 0 rfl ?_
              refine fw_get C (ci := 9) (Cn := RX11) (Tc := TX11) (N := 11) (j := 5) ly_X11_carryOut_11 rfl (hG _ (List.mem_of_getElem? (i := 0) rfl)) (of0_0 _) (ce0 T ad _ _) (by decide) (cx_ts C _ fl_X11_carryOut_67) (fun _ h => h) (v := .ref (ad 1 0 0)) rfl dX11_carryOut_133 ?_
              refine fw_getN C (ci := 1) (Cn := RX3) (Tc := TX3) (N := 5) (j := 1) ly_X11_carryOut_3 rfl (hG _ (List.mem_of_getElem? (i := 1) rfl)) (of1_0 _) (ce1 T ad _ _) (by decide) (Nst_use (cx_nst C) (w := .fieldLinkNest RX11 139 "RecipeScheduler$Kitchen" "state" "LRecipeScheduler$State;" "RecipeScheduler") 522 (by decide +kernel) rfl) (fun _ h => h) (v := .ref (ad 2 0 0)) rfl dX11_carryOut_136 ?_
              refine fw_iload_n C dX11_carryOut_139 rfl 3 rfl ?_
              obtain ⟨Y22, e23, h⟩ := lt_some h
              refine fw_putN C (ci := 6) (Cn := RX8) (Tc := TX8) (N := 15) (j := 0) (ty := .int) (upd (Y 2 0 0) 0 a3) ly_X11_carryOut_8 rfl tyX8_ok nmX8 (hG _ (List.mem_of_getElem? (i := 2) rfl)) (of2_0 _) (ce2 T ad _ _) (by decide) (Nst_use (cx_nst C) (w := .fieldLinkNest RX11 143 "RecipeScheduler$State" "cooks" "I" "RecipeScheduler") 439 (by decide +kernel) rfl) (fun _ h => h) rfl (by decide +kernel) rfl rfl (Nat.le_of_ble_eq_true rfl) (ce2_put0 T ad _ _ _) dX11_carryOut_140 ?_
              refine fw_mem ((up_eq _ _ _ _ _ _).symm.trans e23) ?_
              refine fw_goto C dX11_carryOut_143 (tgt := 173) rfl ?_
              exact fw_vret C hrt Y22 (Option.some.inj h) (fun t ht => ht) dX11_carryOut_173
            · have h := ite_f c21 h
              by_cases c24 : (sSw (ix ((Int32.ofNat w1)))) = 7
              · have h := ite_t c24 h
                refine fw_tableIn C dX11_carryOut_8 (by rw [c24]; decide +kernel) (by rw [c24]; decide +kernel) (off := 138) (by rw [c24]; decide +kernel) (tgt := 146) rfl ?_
                refine fw_aload_n C dX11_carryOut_146 rfl 0 rfl ?_
                refine fw_get C (ci := 9) (Cn := RX11) (Tc := TX11) (N := 11) (j := 5) ly_X11_carryOut_11 rfl (hG _ (List.mem_of_getElem? (i := 0) rfl)) (of0_0 _) (ce0 T ad _ _) (by decide) (cx_ts C _ fl_X11_carryOut_67) (fun _ h => h) (v := .ref (ad 1 0 0)) rfl dX11_carryOut_147 ?_
                refine fw_getN C (ci := 1) (Cn := RX3) (Tc := TX3) (N := 5) (j := 1) ly_X11_carryOut_3 rfl (hG _ (List.mem_of_getElem? (i := 1) rfl)) (of1_0 _) (ce1 T ad _ _) (by decide) (Nst_use (cx_nst C) (w := .fieldLinkNest RX11 139 "RecipeScheduler$Kitchen" "state" "LRecipeScheduler$State;" "RecipeScheduler") 522 (by decide +kernel) rfl) (fun _ h => h) (v := .ref (ad 2 0 0)) rfl dX11_carryOut_150 ?_
                refine fw_getN C (ci := 6) (Cn := RX8) (Tc := TX8) (N := 15) (j := 9) ly_X11_carryOut_8 rfl (hG _ (List.mem_of_getElem? (i := 2) rfl)) (of2_0 _) (ce2 T ad _ _) (by decide) (Nst_use (cx_nst C) (w := .fieldLinkNest RX11 196 "RecipeScheduler$State" "duration" "[I" "RecipeScheduler") 465 (by decide +kernel) rfl) (fun _ h => h) (v := .ref (ad 2 0 1)) rfl dX11_carryOut_153 ?_
                refine fw_iload_n C dX11_carryOut_156 rfl 2 rfl ?_
                refine fw_iload_n C dX11_carryOut_157 rfl 3 rfl ?_
                obtain ⟨b25, h⟩ := gd_some h
                obtain ⟨Y26, e27, h⟩ := lt_some h
                refine fw_iast2 C (hG _ (List.mem_of_getElem? (i := 2) rfl)) (of2_1 _) (ca2_1 T ad _) b25 (Nat.le_of_ble_eq_true rfl) dX11_carryOut_158 ?_
                refine fw_mem e27 ?_
                refine fw_goto C dX11_carryOut_159 (tgt := 173) rfl ?_
                exact fw_vret C hrt Y26 (Option.some.inj h) (fun t ht => ht) dX11_carryOut_173
              · have h := ite_f c24 h
                have c3 : ¬ ((sSw (ix ((Int32.ofNat w1))))).toInt = 1 := fun q => c3 (Int32.toInt_inj.mp (by rw [q]; decide +kernel))
                have c7 : ¬ ((sSw (ix ((Int32.ofNat w1))))).toInt = 2 := fun q => c7 (Int32.toInt_inj.mp (by rw [q]; decide +kernel))
                have c10 : ¬ ((sSw (ix ((Int32.ofNat w1))))).toInt = 3 := fun q => c10 (Int32.toInt_inj.mp (by rw [q]; decide +kernel))
                have c13 : ¬ ((sSw (ix ((Int32.ofNat w1))))).toInt = 4 := fun q => c13 (Int32.toInt_inj.mp (by rw [q]; decide +kernel))
                have c17 : ¬ ((sSw (ix ((Int32.ofNat w1))))).toInt = 5 := fun q => c17 (Int32.toInt_inj.mp (by rw [q]; decide +kernel))
                have c21 : ¬ ((sSw (ix ((Int32.ofNat w1))))).toInt = 6 := fun q => c21 (Int32.toInt_inj.mp (by rw [q]; decide +kernel))
                have c24 : ¬ ((sSw (ix ((Int32.ofNat w1))))).toInt = 7 := fun q => c24 (Int32.toInt_inj.mp (by rw [q]; decide +kernel))
                refine fw_tableOut C dX11_carryOut_8 (by omega) (tgt := 162) rfl ?_
                refine fw_aload_n C dX11_carryOut_162 rfl 0 rfl ?_
                refine fw_get C (ci := 9) (Cn := RX11) (Tc := TX11) (N := 11) (j := 5) ly_X11_carryOut_11 rfl (hG _ (List.mem_of_getElem? (i := 0) rfl)) (of0_0 _) (ce0 T ad _ _) (by decide) (cx_ts C _ fl_X11_carryOut_67) (fun _ h => h) (v := .ref (ad 1 0 0)) rfl dX11_carryOut_163 ?_
                refine fw_getN C (ci := 1) (Cn := RX3) (Tc := TX3) (N := 5) (j := 1) ly_X11_carryOut_3 rfl (hG _ (List.mem_of_getElem? (i := 1) rfl)) (of1_0 _) (ce1 T ad _ _) (by decide) (Nst_use (cx_nst C) (w := .fieldLinkNest RX11 139 "RecipeScheduler$Kitchen" "state" "LRecipeScheduler$State;" "RecipeScheduler") 522 (by decide +kernel) rfl) (fun _ h => h) (v := .ref (ad 2 0 0)) rfl dX11_carryOut_166 ?_
                refine fw_iconst C dX11_carryOut_169 (v := 1) rfl ?_
                obtain ⟨Y28, e29, h⟩ := lt_some h
                refine fw_putN C (ci := 6) (Cn := RX8) (Tc := TX8) (N := 15) (j := 5) (ty := .boolean) (upd (Y 2 0 0) 5 1) ly_X11_carryOut_8 rfl tyX8_ok nmX8 (hG _ (List.mem_of_getElem? (i := 2) rfl)) (of2_0 _) (ce2 T ad _ _) (by decide) (Nst_use (cx_nst C) (w := .fieldLinkNest RX11 350 "RecipeScheduler$State" "served" "Z" "RecipeScheduler") 454 (by decide +kernel) rfl) (fun _ h => h) rfl (by decide +kernel) rfl rfl (Nat.le_of_ble_eq_true rfl) (ce2_put5 T ad _ _ _) dX11_carryOut_170 ?_
                refine fw_mem ((up_eq _ _ _ _ _ _).symm.trans e29) ?_
                exact fw_vret C hrt Y28 (Option.some.inj h) (fun t ht => ht) dX11_carryOut_173
end
set_option maxRecDepth 100000 in
set_option maxHeartbeats 4000000 in
theorem c_X11_carryOut {l : Launch} {N0 : Nat} {T : Nat → ClassId} {D : va_G} {gr : List (Nat × Nat)} {ad : Nat → Nat → Nat → Nat} {Y : Mem} {w1 : Nat} {a2 : Int32} {a3 : Int32} {res : Mem} (hG : ∀ q ∈ ([(0, 0), (1, 0), (2, 0)] ++ allG), q ∈ gr) (h : X11_carryOut Y w1 a2 a3 = some res) : CV l yX11_carryOut wsX11_carryOut (Rm 5) N0 T D gr ad Y [.ref (ad 0 0 0), .ref (ad 20 w1 0), .int a2, .int a3] (fun Y1 => Y1 = res) :=
  fw_body (by decide +kernel) rfl (Nat.le_of_ble_eq_true rfl) (fun p e s m below meth c C hrt => w_X11_carryOut C hrt hG  h)
theorem ly_X11_completions_11 : ∀ w ∈ u_ws RX11 TX11 11, w ∈ wsX11_completions := by decide +kernel
theorem fl_X11_completions_67 : Cond.fieldLink RX11 67 "RecipeScheduler" "now" "LRecipeScheduler$Kitchen;" ∈ wsX11_completions := by decide +kernel
theorem ly_X11_completions_3 : ∀ w ∈ u_ws RX3 TX3 5, w ∈ wsX11_completions := by decide +kernel
theorem ly_X11_completions_8 : ∀ w ∈ u_ws RX8 TX8 15, w ∈ wsX11_completions := by decide +kernel
theorem ly_X11_completions_5 : ∀ w ∈ u_ws RX5 TX5 17, w ∈ wsX11_completions := by decide +kernel
theorem ly_X11_completions_4 : ∀ w ∈ u_ws RX4 TX4 3, w ∈ wsX11_completions := by decide +kernel
section
variable {p : Program} {l : Launch} {e : Env} {s : State} {m : MethodId} {below : List Frame} {meth : Method} {c : Code} {N0 : Nat} {T : Nat → ClassId} {D : va_G} {gr : List (Nat × Nat)} {ad : Nat → Nat → Nat → Nat}
set_option maxRecDepth 100000 in
set_option maxHeartbeats 4000000 in
theorem w_X11_completions {Y : Mem} (C : Cx p s m [.ref (ad 0 0 0)].toArray meth c cX11_completions 1 wsX11_completions RX11 N0 T D gr ad) (hrt : meth.sig.returnType = (some .int)) (hG : ∀ q ∈ ([(0, 0), (1, 0), (2, 0)] ++ allG), q ∈ gr) {res : Int32} (h : X11_completions Y = some res) : FW p l e (Rm 1) s m [.ref (ad 0 0 0)].toArray below meth c 1 N0 T D gr ad 0 0 (MQ below (va_Qi (fun r Y1 => r = res ∧ Y1 = Y) (WB T D gr ad) (fun q => N0 ≤ q)) [.ref (ad 0 0 0)].toArray s 0 0 (fun q => N0 ≤ q)) Y 0 [(0, .ref (ad 0 0 0))] [] := by
  unfold X11_completions at h
  refine fw_aload_n C dX11_completions_0 rfl 0 rfl ?_
  refine fw_get C (ci := 9) (Cn := RX11) (Tc := TX11) (N := 11) (j := 5) ly_X11_completions_11 rfl (hG _ (List.mem_of_getElem? (i := 0) rfl)) (of0_0 _) (ce0 T ad _ _) (by decide) (cx_ts C _ fl_X11_completions_67) (fun _ h => h) (v := .ref (ad 1 0 0)) rfl dX11_completions_1 ?_
  refine fw_getN C (ci := 1) (Cn := RX3) (Tc := TX3) (N := 5) (j := 1) ly_X11_completions_3 rfl (hG _ (List.mem_of_getElem? (i := 1) rfl)) (of1_0 _) (ce1 T ad _ _) (by decide) (Nst_use (cx_nst C) (w := .fieldLinkNest RX11 139 "RecipeScheduler$Kitchen" "state" "LRecipeScheduler$State;" "RecipeScheduler") 522 (by decide +kernel) rfl) (fun _ h => h) (v := .ref (ad 2 0 0)) rfl dX11_completions_4 ?_
  refine fw_getN C (ci := 6) (Cn := RX8) (Tc := TX8) (N := 15) (j := 13) ly_X11_completions_8 rfl (hG _ (List.mem_of_getElem? (i := 2) rfl)) (of2_0 _) (ce2 T ad _ _) (by decide) (Nst_use (cx_nst C) (w := .fieldLinkNest RX11 170 "RecipeScheduler$State" "completions" "[I" "RecipeScheduler") 475 (by decide +kernel) rfl) (fun _ h => h) (v := .ref (ad 2 0 5)) rfl dX11_completions_7 ?_
  refine fw_aload_n C dX11_completions_10 rfl 0 rfl ?_
  refine fw_get C (ci := 9) (Cn := RX11) (Tc := TX11) (N := 11) (j := 5) ly_X11_completions_11 rfl (hG _ (List.mem_of_getElem? (i := 0) rfl)) (of0_0 _) (ce0 T ad _ _) (by decide) (cx_ts C _ fl_X11_completions_67) (fun _ h => h) (v := .ref (ad 1 0 0)) rfl dX11_completions_11 ?_
  refine fw_getN C (ci := 1) (Cn := RX3) (Tc := TX3) (N := 5) (j := 0) ly_X11_completions_3 rfl (hG _ (List.mem_of_getElem? (i := 1) rfl)) (of1_0 _) (ce1 T ad _ _) (by decide) (Nst_use (cx_nst C) (w := .fieldLinkNest RX11 117 "RecipeScheduler$Kitchen" "recipe" "LRecipeScheduler$Recipe;" "RecipeScheduler") 520 (by decide +kernel) rfl) (fun _ h => h) (v := .ref (ad 3 ((Y 1 0 0 0).toNatClampNeg) 0)) rfl dX11_completions_14 ?_
  obtain ⟨b1, h⟩ := gd_some h
  have b1 := of_decide_eq_true b1
  refine fw_getN C (ci := 3) (Cn := RX5) (Tc := TX5) (N := 17) (j := 7) ly_X11_completions_5 rfl ((fun q hq => hG q (List.mem_append_right _ hq)) _ (allG_3 b1)) (of3_0 _) (ce3 T ad _ _) (by decide) (Nst_use (cx_nst C) (w := .fieldLinkNest RX11 126 "RecipeScheduler$Recipe" "steps" "LRecipeScheduler$Names;" "RecipeScheduler") 148 (by decide +kernel) rfl) (fun _ h => h) (v := .ref (ad 4 (2*((Y 1 0 0 0).toNatClampNeg)+1) 0)) rfl dX11_completions_17 ?_
  obtain ⟨b2, h⟩ := gd_some h
  have b2 := of_decide_eq_true b2
  refine fw_getN C (ci := 2) (Cn := RX4) (Tc := TX4) (N := 3) (j := 2) ly_X11_completions_4 rfl ((fun q hq => hG q (List.mem_append_right _ hq)) _ (allG_4b b2)) (of4_0 _) (ce4 T ad _ _) (by decide) (Nst_use (cx_nst C) (w := .fieldLinkNest RX11 130 "RecipeScheduler$Names" "count" "I" "RecipeScheduler") 115 (by decide +kernel) rfl) (fun _ h => h) (v := .int (Y 4 (2*((Y 1 0 0 0).toNatClampNeg)+1) 0 2)) rfl dX11_completions_20 ?_
  obtain ⟨r3, q4, h⟩ := bd1_some h
  refine fw_callSi C (As := [.ref (ad 2 0 5), .int (Y 4 (2*((Y 1 0 0 0).toNatClampNeg)+1) 0 2)]) (c_X11_sum (gac (hG _ (List.mem_of_getElem? (i := 2) rfl)) ga0) (ca2_5 T ad _) (of2_5 _) (Nat.le_of_ble_eq_true rfl) q4) (va_cwS 2 (cx_ts C) gX11_completions_X11_sum rfl rfl rfl (by decide +kernel) ⟨Nat.le_of_ble_eq_true rfl, Nat.le_of_ble_eq_true rfl⟩) rfl (st := []) rfl (Nat.le_of_ble_eq_true rfl) ⟨Nat.le_refl 0, Nat.le_refl 0⟩ dX11_completions_23 (pp2 ?_)
  exact fw_iret C hrt Y ⟨Option.some.inj h, rfl⟩ (fun t ht => ht) dX11_completions_26
end
set_option maxRecDepth 100000 in
set_option maxHeartbeats 4000000 in
theorem c_X11_completions {l : Launch} {N0 : Nat} {T : Nat → ClassId} {D : va_G} {gr : List (Nat × Nat)} {ad : Nat → Nat → Nat → Nat} {Y : Mem} {res : Int32} (hG : ∀ q ∈ ([(0, 0), (1, 0), (2, 0)] ++ allG), q ∈ gr) (h : X11_completions Y = some res) : CI l yX11_completions wsX11_completions (Rm 1) N0 T D gr ad Y [.ref (ad 0 0 0)] (fun r Y1 => r = res ∧ Y1 = Y) :=
  fw_body (by decide +kernel) rfl (Nat.le_of_ble_eq_true rfl) (fun p e s m below meth c C hrt => w_X11_completions C hrt hG  h)
