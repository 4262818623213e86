theorem ly_X8_start_8 : ∀ w ∈ u_ws RX8 TX8 15, w ∈ wsX8_start := by decide +kernel
theorem fl_X8_start_59 : Cond.fieldLink RX8 59 "RecipeScheduler$State" "burnt" "I" ∈ wsX8_start := by decide +kernel
theorem fl_X8_start_53 : Cond.fieldLink RX8 53 "RecipeScheduler$State" "running" "I" ∈ wsX8_start := by decide +kernel
theorem fl_X8_start_15 : Cond.fieldLink RX8 15 "RecipeScheduler$State" "remaining" "[I" ∈ wsX8_start := by decide +kernel
theorem fl_X8_start_9 : Cond.fieldLink RX8 9 "RecipeScheduler$State" "duration" "[I" ∈ wsX8_start := by decide +kernel
theorem fl_X8_start_21 : Cond.fieldLink RX8 21 "RecipeScheduler$State" "starts" "[I" ∈ wsX8_start := by decide +kernel
section
variable {p : Program} {l : Launch} {e : Env} {s : State} {m : MethodId} {below : List Frame} {meth : Method} {c : Code} {N0 : Nat} {T : Nat → ClassId} {D : va_G} {gr : List (Nat × Nat)} {ad : Nat → Nat → Nat → Nat}
set_option maxRecDepth 100000 in
set_option maxHeartbeats 4000000 in
theorem w_X8_start {Y : Mem} {g0 : Nat} {a1 : Int32} (C : Cx p s m [.ref (ad 2 g0 0), .int a1].toArray meth c cX8_start 2 wsX8_start RX8 N0 T D gr ad) (hrt : meth.sig.returnType = none) (hG : ∀ q ∈ [(2, g0)], q ∈ gr) {res : Mem} (h : X8_start Y g0 a1 = some res) : FW p l e (Rm 0) s m [.ref (ad 2 g0 0), .int a1].toArray below meth c 2 N0 T D gr ad 0 0 (MQ below (va_Qv (fun Y1 => Y1 = res) (WB T D gr ad) (fun q => N0 ≤ q)) [.ref (ad 2 g0 0), .int a1].toArray s 0 0 (fun q => N0 ≤ q)) Y 0 [(0, .ref (ad 2 g0 0)), (1, .int a1)] [] := by
  unfold X8_start at h
  refine fw_aload_n C dX8_start_0 rfl 0 rfl ?_
  refine fw_dup C dX8_start_1 rfl ?_
  refine fw_get C (ci := 8) (Cn := RX8) (Tc := TX8) (N := 15) (j := 8) ly_X8_start_8 rfl (hG _ (List.mem_of_getElem? (i := 0) rfl)) (of2_0 _) (ce2 T ad _ _) (by decide) (cx_ts C _ fl_X8_start_59) (fun _ h => h) (v := .int (Y 2 g0 0 8)) rfl dX8_start_2 ?_
  refine fw_iconst C dX8_start_5 (v := 1) rfl ?_
  refine fw_iload_n C dX8_start_6 rfl 1 rfl ?_
  refine fw_ishl C dX8_start_7 ?_
  refine fw_iconst C dX8_start_8 (v := (-1)) rfl ?_
  refine fw_ixor C dX8_start_9 ?_
  refine fw_iand C dX8_start_10 ?_
  obtain ⟨Y1, e2, h⟩ := lt_some h
  refine fw_put C (ci := 8) (Cn := RX8) (Tc := TX8) (N := 15) (j := 8) (ty := .int) (upd (Y 2 g0 0) 8 ((Y 2 g0 0 8) &&& ((1 <<< (a1 &&& 31)) ^^^ ((-1))))) ly_X8_start_8 rfl tyX8_ok nmX8 (hG _ (List.mem_of_getElem? (i := 0) rfl)) (of2_0 _) (ce2 T ad _ _) (by decide) (cx_ts C _ fl_X8_start_59) (fun _ h => h) rfl (by decide +kernel) rfl rfl (Nat.le_of_ble_eq_true rfl) (ce2_put8 T ad _ _ _) dX8_start_11 ?_
  refine fw_mem ((up_eq _ _ _ _ _ _).symm.trans e2) ?_
  refine fw_aload_n C dX8_start_14 rfl 0 rfl ?_
  refine fw_dup C dX8_start_15 rfl ?_
  refine fw_get C (ci := 8) (Cn := RX8) (Tc := TX8) (N := 15) (j := 6) ly_X8_start_8 rfl (hG _ (List.mem_of_getElem? (i := 0) rfl)) (of2_0 _) (ce2 T ad _ _) (by decide) (cx_ts C _ fl_X8_start_53) (fun _ h => h) (v := .int (Y1 2 g0 0 6)) rfl dX8_start_16 ?_
  refine fw_iconst C dX8_start_19 (v := 1) rfl ?_
  refine fw_iload_n C dX8_start_20 rfl 1 rfl ?_
  refine fw_ishl C dX8_start_21 ?_
  refine fw_ior C dX8_start_22 ?_
  obtain ⟨Y3, e4, h⟩ := lt_some h
  refine fw_put C (ci := 8) (Cn := RX8) (Tc := TX8) (N := 15) (j := 6) (ty := .int) (upd (Y1 2 g0 0) 6 ((Y1 2 g0 0 6) ||| (1 <<< (a1 &&& 31)))) ly_X8_start_8 rfl tyX8_ok nmX8 (hG _ (List.mem_of_getElem? (i := 0) rfl)) (of2_0 _) (ce2 T ad _ _) (by decide) (cx_ts C _ fl_X8_start_53) (fun _ h => h) rfl (by decide +kernel) rfl rfl (Nat.le_of_ble_eq_true rfl) (ce2_put6 T ad _ _ _) dX8_start_23 ?_
  refine fw_mem ((up_eq _ _ _ _ _ _).symm.trans e4) ?_
  refine fw_aload_n C dX8_start_26 rfl 0 rfl ?_
  refine fw_get C (ci := 8) (Cn := RX8) (Tc := TX8) (N := 15) (j := 10) ly_X8_start_8 rfl (hG _ (List.mem_of_getElem? (i := 0) rfl)) (of2_0 _) (ce2 T ad _ _) (by decide) (cx_ts C _ fl_X8_start_15) (fun _ h => h) (v := .ref (ad 2 g0 2)) rfl dX8_start_27 ?_
  refine fw_iload_n C dX8_start_30 rfl 1 rfl ?_
  refine fw_aload_n C dX8_start_31 rfl 0 rfl ?_
  refine fw_get C (ci := 8) (Cn := RX8) (Tc := TX8) (N := 15) (j := 9) ly_X8_start_8 rfl (hG _ (List.mem_of_getElem? (i := 0) rfl)) (of2_0 _) (ce2 T ad _ _) (by decide) (cx_ts C _ fl_X8_start_9) (fun _ h => h) (v := .ref (ad 2 g0 1)) rfl dX8_start_32 ?_
  refine fw_iload_n C dX8_start_35 rfl 1 rfl ?_
  obtain ⟨b5, h⟩ := gd_some h
  refine fw_iald2 C (hG _ (List.mem_of_getElem? (i := 0) rfl)) (of2_1 _) (ca2_1 T ad _ _) b5 (Nat.le_of_ble_eq_true rfl) dX8_start_36 ?_
  obtain ⟨Y6, e7, h⟩ := lt_some h
  refine fw_iast2 C (hG _ (List.mem_of_getElem? (i := 0) rfl)) (of2_2 _) (ca2_2 T ad _) b5 (Nat.le_of_ble_eq_true rfl) dX8_start_37 ?_
  refine fw_mem e7 ?_
  refine fw_aload_n C dX8_start_38 rfl 0 rfl ?_
  refine fw_get C (ci := 8) (Cn := RX8) (Tc := TX8) (N := 15) (j := 12) ly_X8_start_8 rfl (hG _ (List.mem_of_getElem? (i := 0) rfl)) (of2_0 _) (ce2 T ad _ _) (by decide) (cx_ts C _ fl_X8_start_21) (fun _ h => h) (v := .ref (ad 2 g0 4)) rfl dX8_start_39 ?_
  refine fw_iload_n C dX8_start_42 rfl 1 rfl ?_
  refine fw_dup2 C dX8_start_43 rfl rfl ?_
  refine fw_iald2 C (hG _ (List.mem_of_getElem? (i := 0) rfl)) (of2_4 _) (ca2_4 T ad _ _) b5 (Nat.le_of_ble_eq_true rfl) dX8_start_44 ?_
  refine fw_iconst C dX8_start_45 (v := 1) rfl ?_
  refine fw_iadd C dX8_start_46 ?_
  obtain ⟨Y8, e9, h⟩ := lt_some h
  refine fw_iast2 C (hG _ (List.mem_of_getElem? (i := 0) rfl)) (of2_4 _) (ca2_4 T ad _) b5 (Nat.le_of_ble_eq_true rfl) dX8_start_47 ?_
  refine fw_mem e9 ?_
  exact fw_vret C hrt Y8 (Option.some.inj h) (fun t ht => ht) dX8_start_48
end
set_option maxRecDepth 100000 in
set_option maxHeartbeats 4000000 in
theorem c_X8_start {l : Launch} {N0 : Nat} {T : Nat → ClassId} {D : va_G} {gr : List (Nat × Nat)} {ad : Nat → Nat → Nat → Nat} {Y : Mem} {g0 : Nat} {a1 : Int32} {res : Mem} (hG : ∀ q ∈ [(2, g0)], q ∈ gr) (h : X8_start Y g0 a1 = some res) : CV l yX8_start wsX8_start (Rm 0) N0 T D gr ad Y [.ref (ad 2 g0 0), .int a1] (fun Y1 => Y1 = res) :=
  fw_body (by decide +kernel) rfl (Nat.le_of_ble_eq_true rfl) (fun p e s m below meth c C hrt => w_X8_start C hrt hG  h)
theorem ly_X3_startSteps_3 : ∀ w ∈ u_ws RX3 TX3 5, w ∈ wsX3_startSteps := by decide +kernel
theorem fl_X3_startSteps_28 : Cond.fieldLink RX3 28 "RecipeScheduler$Kitchen" "recipe" "LRecipeScheduler$Recipe;" ∈ wsX3_startSteps := by decide +kernel
theorem ly_X3_startSteps_5 : ∀ w ∈ u_ws RX5 TX5 17, w ∈ wsX3_startSteps := by decide +kernel
theorem ly_X3_startSteps_4 : ∀ w ∈ u_ws RX4 TX4 3, w ∈ wsX3_startSteps := by decide +kernel
theorem fl_X3_startSteps_22 : Cond.fieldLink RX3 22 "RecipeScheduler$Kitchen" "order" "[I" ∈ wsX3_startSteps := by decide +kernel
theorem in_X3_startSteps_11 : Cond.initialized RX11 ∈ wsX3_startSteps := by decide +kernel
theorem sw_X3_startSteps_X11_contains : Cond.static yX11_contains ∈ wsX3_startSteps := by decide +kernel
theorem fl_X3_startSteps_12 : Cond.fieldLink RX3 12 "RecipeScheduler$Kitchen" "state" "LRecipeScheduler$State;" ∈ wsX3_startSteps := by decide +kernel
section
variable {p : Program} {l : Launch} {e : Env} {s : State} {m : MethodId} {below : List Frame} {meth : Method} {c : Code} {N0 : Nat} {T : Nat → ClassId} {D : va_G} {gr : List (Nat × Nat)} {ad : Nat → Nat → Nat → Nat}
set_option maxRecDepth 100000 in
set_option maxHeartbeats 4000000 in
theorem w_X3_startSteps_b60 {g0 : Nat} (C : Cx p s m [.ref (ad 1 g0 0)].toArray meth c cX3_startSteps 4 wsX3_startSteps RX3 N0 T D gr ad) (hrt : meth.sig.returnType = none) (hG : ∀ q ∈ ([(2, g0), (1, g0)] ++ allG), q ∈ gr) {res : Mem} {k7 : Mem → Int32 → Int32 → Option (Mem)} (hk7 : ∀ (Y : Mem) (l2 : Int32) (l1 : Int32), k7 Y l2 l1 = some res → FW p l e (Rm 2) s m [.ref (ad 1 g0 0)].toArray below meth c 4 N0 T D gr ad 0 0 (MQ below (va_Qv (fun Y1 => Y1 = res) (WB T D gr ad) (fun q => N0 ≤ q)) [.ref (ad 1 g0 0)].toArray s 0 0 (fun q => N0 ≤ q)) Y 7 [(2, .int l2), (1, .int l1), (0, .ref (ad 1 g0 0))] []) (Y : Mem) (l2 : Int32) (l1 : Int32) (h : X3_startSteps_b60 g0 k7 Y l2 l1 = some res) : FW p l e (Rm 2) s m [.ref (ad 1 g0 0)].toArray below meth c 4 N0 T D gr ad 0 0 (MQ below (va_Qv (fun Y1 => Y1 = res) (WB T D gr ad) (fun q => N0 ≤ q)) [.ref (ad 1 g0 0)].toArray s 0 0 (fun q => N0 ≤ q)) Y 60 [(2, .int l2), (1, .int l1), (0, .ref (ad 1 g0 0))] [] := by
  unfold X3_startSteps_b60 at h
  refine fw_iinc C dX3_startSteps_60 (kk := 0) (v := l2 + 1) rfl rfl (by decide) (L' := [(2, .int (l2 + 1)), (1, .int l1), (0, .ref (ad 1 g0 0))]) rfl ?_
  refine fw_goto C dX3_startSteps_63 (tgt := 7) rfl ?_
  exact hk7 _ _ _ h
set_option maxRecDepth 100000 in
set_option maxHeartbeats 4000000 in
theorem w_X3_startSteps_b7 {g0 : Nat} (C : Cx p s m [.ref (ad 1 g0 0)].toArray meth c cX3_startSteps 4 wsX3_startSteps RX3 N0 T D gr ad) (hrt : meth.sig.returnType = none) (hG : ∀ q ∈ ([(2, g0), (1, g0)] ++ allG), q ∈ gr) {res : Mem} : ∀ (n : Nat) (Y : Mem) (l2 : Int32) (l1 : Int32), X3_startSteps_b7 g0  n Y l2 l1 = some res → FW p l e (Rm 2) s m [.ref (ad 1 g0 0)].toArray below meth c 4 N0 T D gr ad 0 0 (MQ below (va_Qv (fun Y1 => Y1 = res) (WB T D gr ad) (fun q => N0 ≤ q)) [.ref (ad 1 g0 0)].toArray s 0 0 (fun q => N0 ≤ q)) Y 7 [(2, .int l2), (1, .int l1), (0, .ref (ad 1 g0 0))] [] := by
  intro n
  induction n with
  | zero =>
    intro Y l2 l1 h
    unfold X3_startSteps_b7 at h
    cases h
  | succ n ih =>
    intro Y l2 l1 h
    unfold X3_startSteps_b7 at h
    refine fw_iload_n C dX3_startSteps_7 rfl 0 rfl ?_
    refine fw_aload_n C dX3_startSteps_8 rfl 2 rfl ?_
    refine fw_get C (ci := 3) (Cn := RX3) (Tc := TX3) (N := 5) (j := 0) ly_X3_startSteps_3 rfl (hG _ (List.mem_of_getElem? (i := 1) rfl)) (of1_0 _) (ce1 T ad _ _) (by decide) (cx_ts C _ fl_X3_startSteps_28) (fun _ h => h) (v := .ref (ad 3 ((Y 1 g0 0 0).toNatClampNeg) 0)) rfl dX3_startSteps_9 ?_
    obtain ⟨b3, h⟩ := gd_some h
    have b3 := of_decide_eq_true b3
    refine fw_getN C (ci := 5) (Cn := RX5) (Tc := TX5) (N := 17) (j := 7) ly_X3_startSteps_5 rfl ((fun q hq => hG q (List.mem_append_right _ hq)) _ (allG_3 b3)) (of3_0 _) (ce3 T ad _ _) (by decide) (Nst_use (cx_nst C) (w := .fieldLinkNest RX3 91 "RecipeScheduler$Recipe" "steps" "LRecipeScheduler$Names;" "RecipeScheduler") 146 (by decide +kernel) rfl) (fun _ h => h) (v := .ref (ad 4 (2*((Y 1 g0 0 0).toNatClampNeg)+1) 0)) rfl dX3_startSteps_12 ?_
    obtain ⟨b4, h⟩ := gd_some h
    have b4 := of_decide_eq_true b4
    refine fw_getN C (ci := 4) (Cn := RX4) (Tc := TX4) (N := 3) (j := 2) ly_X3_startSteps_4 rfl ((fun q hq => hG q (List.mem_append_right _ hq)) _ (allG_4b b4)) (of4_0 _) (ce4 T ad _ _) (by decide) (Nst_use (cx_nst C) (w := .fieldLinkNest RX3 95 "RecipeScheduler$Names" "count" "I" "RecipeScheduler") 114 (by decide +kernel) rfl) (fun _ h => h) (v := .int (Y 4 (2*((Y 1 g0 0 0).toNatClampNeg)+1) 0 2)) rfl dX3_startSteps_15 ?_
    refine fw_icmp_ge C dX3_startSteps_18 (tgt := 66) rfl (fun c5 => ?_) (fun c5 => ?_)
    · have h := ite_t c5 h
      exact fw_vret C hrt Y (Option.some.inj h) (fun t ht => ht) dX3_startSteps_66
    · have h := ite_f c5 h
      refine fw_aload_n C dX3_startSteps_21 rfl 2 rfl ?_
      refine fw_get C (ci := 3) (Cn := RX3) (Tc := TX3) (N := 5) (j := 3) ly_X3_startSteps_3 rfl (hG _ (List.mem_of_getElem? (i := 1) rfl)) (of1_0 _) (ce1 T ad _ _) (by decide) (cx_ts C _ fl_X3_startSteps_22) (fun _ h => h) (v := .ref (ad 1 g0 2)) rfl dX3_startSteps_22 ?_
      refine fw_iload_n C dX3_startSteps_25 rfl 0 rfl ?_
      obtain ⟨b6, h⟩ := gd_some h
      refine fw_iald2 C (hG _ (List.mem_of_getElem? (i := 1) rfl)) (of1_2 _) (ca1_2 T ad _ _) b6 (Nat.le_of_ble_eq_true rfl) dX3_startSteps_26 ?_
      obtain ⟨v7, e8, h⟩ := lt_some h
      refine fw_top (v' := .int v7) (by rw [e8]) ?_
      refine fw_istore_n C dX3_startSteps_27 rfl (by decide) (L' := [(3, .int v7), (2, .int l2), (1, .int l1), (0, .ref (ad 1 g0 0))]) rfl ?_
      refine fw_iload_n C dX3_startSteps_28 rfl 2 rfl ?_
      refine fw_iload_n C dX3_startSteps_29 rfl 0 rfl ?_
      obtain ⟨r9, q10, h⟩ := bd1_some h
      refine fw_callSNi C (As := [.int l1, .int v7]) (c_X11_contains ga0 q10) ⟨(va_cnB 2 (cx_ts C) gX3_startSteps_X11_contains_n100 rfl rfl rfl (cx_nw C (w := .methodLinkNest RX3 100 yX11_contains "RecipeScheduler") 683 (by decide +kernel) rfl) (cx_ts C _ in_X3_startSteps_11) (by decide +kernel) ⟨Nat.le_of_ble_eq_true rfl, Nat.le_of_ble_eq_true rfl⟩), cx_ts C _ sw_X3_startSteps_X11_contains, trivial⟩ rfl (st := []) rfl (Nat.le_of_ble_eq_true rfl) ⟨Nat.le_refl 0, Nat.le_refl 0⟩ dX3_startSteps_30 (pp2 ?_)
      refine fw_if_eq C dX3_startSteps_33 (tgt := 60) rfl (fun c11 => ?_) (fun c11 => ?_)
      · have h := ite_t c11 h
        refine fw_sub [1, 2, 3] (L' := [(2, .int l2), (1, .int l1), (0, .ref (ad 1 g0 0))]) rfl ?_
        exact w_X3_startSteps_b60 C hrt hG  ih _ _ _ h
      · have h := ite_f c11 h
        refine fw_aload_n C dX3_startSteps_36 rfl 3 rfl ?_
        refine fw_iload_n C dX3_startSteps_37 rfl 0 rfl ?_
        obtain ⟨r12, q13, h⟩ := bd1_some h
        refine fw_callVi C (ci := 3) (Cn := RX3) (Tc := TX3) (N := 5) (As := [.int v7]) (c_X3_hasFreeCook (gac (hG _ (List.mem_of_getElem? (i := 1) rfl)) (gac (hG _ (List.mem_of_getElem? (i := 0) rfl)) (fun q hq => hG q (List.mem_append_right _ hq)))) q13) (cwV 1 (cx_ts C) gX3_startSteps_X3_hasFreeCook rfl rfl rfl (by decide +kernel) ⟨Nat.le_of_ble_eq_true rfl, Nat.le_of_ble_eq_true rfl⟩) rfl (hG _ (List.mem_of_getElem? (i := 1) rfl)) (of1_0 _) (ce1 T ad _ _) rfl (st := []) rfl (Nat.le_of_ble_eq_true rfl) ⟨Nat.le_refl 0, Nat.le_refl 0⟩ dX3_startSteps_38 (pp2 ?_)
        refine fw_if_eq C dX3_startSteps_41 (tgt := 60) rfl (fun c14 => ?_) (fun c14 => ?_)
        · have h := ite_t c14 h
          refine fw_sub [1, 2, 3] (L' := [(2, .int l2), (1, .int l1), (0, .ref (ad 1 g0 0))]) rfl ?_
          exact w_X3_startSteps_b60 C hrt hG  ih _ _ _ h
        · have h := ite_f c14 h
          refine fw_aload_n C dX3_startSteps_44 rfl 3 rfl ?_
          refine fw_iload_n C dX3_startSteps_45 rfl 0 rfl ?_
          obtain ⟨r15, q16, h⟩ := bd1_some h
          refine fw_callVi C (ci := 3) (Cn := RX3) (Tc := TX3) (N := 5) (As := [.int v7]) (c_X3_hasFreePan (gac (hG _ (List.mem_of_getElem? (i := 1) rfl)) (gac (hG _ (List.mem_of_getElem? (i := 0) rfl)) (fun q hq => hG q (List.mem_append_right _ hq)))) q16) (cwV 1 (cx_ts C) gX3_startSteps_X3_hasFreePan rfl rfl rfl (by decide +kernel) ⟨Nat.le_of_ble_eq_true rfl, Nat.le_of_ble_eq_true rfl⟩) rfl (hG _ (List.mem_of_getElem? (i := 1) rfl)) (of1_0 _) (ce1 T ad _ _) rfl (st := []) rfl (Nat.le_of_ble_eq_true rfl) ⟨Nat.le_refl 0, Nat.le_refl 0⟩ dX3_startSteps_46 (pp2 ?_)
          refine fw_if_eq C dX3_startSteps_49 (tgt := 60) rfl (fun c17 => ?_) (fun c17 => ?_)
          · have h := ite_t c17 h
            refine fw_sub [1, 2, 3] (L' := [(2, .int l2), (1, .int l1), (0, .ref (ad 1 g0 0))]) rfl ?_
            exact w_X3_startSteps_b60 C hrt hG  ih _ _ _ h
          · have h := ite_f c17 h
            refine fw_aload_n C dX3_startSteps_52 rfl 3 rfl ?_
            refine fw_get C (ci := 3) (Cn := RX3) (Tc := TX3) (N := 5) (j := 1) ly_X3_startSteps_3 rfl (hG _ (List.mem_of_getElem? (i := 1) rfl)) (of1_0 _) (ce1 T ad _ _) (by decide) (cx_ts C _ fl_X3_startSteps_12) (fun _ h => h) (v := .ref (ad 2 g0 0)) rfl dX3_startSteps_53 ?_
            refine fw_iload_n C dX3_startSteps_56 rfl 0 rfl ?_
            obtain ⟨Y20, q19, h⟩ := bd1_some h
            refine fw_callVv C (ci := 8) (Cn := RX8) (Tc := TX8) (N := 15) (As := [.int v7]) (c_X8_start (gac (hG _ (List.mem_of_getElem? (i := 0) rfl)) ga0) q19) (cwV 1 (cx_ts C) gX3_startSteps_X8_start rfl rfl rfl (by decide +kernel) ⟨Nat.le_of_ble_eq_true rfl, Nat.le_of_ble_eq_true rfl⟩) rfl (hG _ (List.mem_of_getElem? (i := 0) rfl)) (of2_0 _) (ce2 T ad _ _) rfl (st := []) rfl (Nat.le_of_ble_eq_true rfl) ⟨Nat.le_refl 0, Nat.le_refl 0⟩ dX3_startSteps_57 (ppv ?_)
            refine fw_sub [1, 2, 3] (L' := [(2, .int l2), (1, .int l1), (0, .ref (ad 1 g0 0))]) rfl ?_
            exact w_X3_startSteps_b60 C hrt hG  ih _ _ _ h
set_option maxRecDepth 100000 in
set_option maxHeartbeats 4000000 in
theorem w_X3_startSteps {Y : Mem} {g0 : Nat} (C : Cx p s m [.ref (ad 1 g0 0)].toArray meth c cX3_startSteps 4 wsX3_startSteps RX3 N0 T D gr ad) (hrt : meth.sig.returnType = none) (hG : ∀ q ∈ ([(2, g0), (1, g0)] ++ allG), q ∈ gr) {res : Mem} (h : X3_startSteps Y g0 = some res) : FW p l e (Rm 2) s m [.ref (ad 1 g0 0)].toArray below meth c 4 N0 T D gr ad 0 0 (MQ below (va_Qv (fun Y1 => Y1 = res) (WB T D gr ad) (fun q => N0 ≤ q)) [.ref (ad 1 g0 0)].toArray s 0 0 (fun q => N0 ≤ q)) Y 0 [(0, .ref (ad 1 g0 0))] [] := by
  unfold X3_startSteps at h
  refine fw_aload_n C dX3_startSteps_0 rfl 0 rfl ?_
  obtain ⟨r1, q2, h⟩ := bd1_some h
  refine fw_callVi C (ci := 3) (Cn := RX3) (Tc := TX3) (N := 5) (As := []) (c_X3_readySteps (gac (hG _ (List.mem_of_getElem? (i := 1) rfl)) (gac (hG _ (List.mem_of_getElem? (i := 0) rfl)) (fun q hq => hG q (List.mem_append_right _ hq)))) q2) (cwV 0 (cx_ts C) gX3_startSteps_X3_readySteps rfl rfl rfl (by decide +kernel) ⟨Nat.le_of_ble_eq_true rfl, Nat.le_of_ble_eq_true rfl⟩) rfl (hG _ (List.mem_of_getElem? (i := 1) rfl)) (of1_0 _) (ce1 T ad _ _) rfl (st := []) rfl (Nat.le_of_ble_eq_true rfl) ⟨Nat.le_refl 0, Nat.le_refl 0⟩ dX3_startSteps_1 (pp2 ?_)
  refine fw_istore_n C dX3_startSteps_4 rfl (by decide) (L' := [(1, .int r1), (0, .ref (ad 1 g0 0))]) rfl ?_
  refine fw_iconst C dX3_startSteps_5 (v := 0) rfl ?_
  refine fw_istore_n C dX3_startSteps_6 rfl (by decide) (L' := [(2, .int 0), (1, .int r1), (0, .ref (ad 1 g0 0))]) rfl ?_
  exact w_X3_startSteps_b7 C hrt hG   _ _ _ _ h
end
set_option maxRecDepth 100000 in
set_option maxHeartbeats 4000000 in
theorem c_X3_startSteps {l : Launch} {N0 : Nat} {T : Nat → ClassId} {D : va_G} {gr : List (Nat × Nat)} {ad : Nat → Nat → Nat → Nat} {Y : Mem} {g0 : Nat} {res : Mem} (hG : ∀ q ∈ ([(2, g0), (1, g0)] ++ allG), q ∈ gr) (h : X3_startSteps Y g0 = some res) : CV l yX3_startSteps wsX3_startSteps (Rm 2) N0 T D gr ad Y [.ref (ad 1 g0 0)] (fun Y1 => Y1 = res) :=
  fw_body (by decide +kernel) rfl (Nat.le_of_ble_eq_true rfl) (fun p e s m below meth c C hrt => w_X3_startSteps C hrt hG  h)
theorem ly_X3_runMinute_3 : ∀ w ∈ u_ws RX3 TX3 5, w ∈ wsX3_runMinute := by decide +kernel
theorem fl_X3_runMinute_12 : Cond.fieldLink RX3 12 "RecipeScheduler$Kitchen" "state" "LRecipeScheduler$State;" ∈ wsX3_runMinute := by decide +kernel
theorem ly_X3_runMinute_8 : ∀ w ∈ u_ws RX8 TX8 15, w ∈ wsX3_runMinute := by decide +kernel
section
variable {p : Program} {l : Launch} {e : Env} {s : State} {m : MethodId} {below : List Frame} {meth : Method} {c : Code} {N0 : Nat} {T : Nat → ClassId} {D : va_G} {gr : List (Nat × Nat)} {ad : Nat → Nat → Nat → Nat}
set_option maxRecDepth 100000 in
set_option maxHeartbeats 4000000 in
theorem w_X3_runMinute_b26 {g0 : Nat} (C : Cx p s m [.ref (ad 1 g0 0)].toArray meth c cX3_runMinute 2 wsX3_runMinute RX3 N0 T D gr ad) (hrt : meth.sig.returnType = (some .int)) (hG : ∀ q ∈ ([(1, g0), (2, g0)] ++ allG), q ∈ gr) {res : Int32 × Mem} (Y : Mem) (l1 : Int32) (h : X3_runMinute_b26 g0  Y l1 = some res) : FW p l e (Rm 3) s m [.ref (ad 1 g0 0)].toArray below meth c 2 N0 T D gr ad 0 0 (MQ below (va_Qi (fun r Y1 => (r, Y1) = res) (WB T D gr ad) (fun q => N0 ≤ q)) [.ref (ad 1 g0 0)].toArray s 0 0 (fun q => N0 ≤ q)) Y 26 [(1, .int l1), (0, .ref (ad 1 g0 0))] [] := by
  unfold X3_runMinute_b26 at h
  refine fw_aload_n C dX3_runMinute_26 rfl 1 rfl ?_
  refine fw_get C (ci := 3) (Cn := RX3) (Tc := TX3) (N := 5) (j := 1) ly_X3_runMinute_3 rfl (hG _ (List.mem_of_getElem? (i := 0) rfl)) (of1_0 _) (ce1 T ad _ _) (by decide) (cx_ts C _ fl_X3_runMinute_12) (fun _ h => h) (v := .ref (ad 2 g0 0)) rfl dX3_runMinute_27 ?_
  refine fw_dup C dX3_runMinute_30 rfl ?_
  refine fw_getN C (ci := 8) (Cn := RX8) (Tc := TX8) (N := 15) (j := 1) ly_X3_runMinute_8 rfl (hG _ (List.mem_of_getElem? (i := 1) rfl)) (of2_0 _) (ce2 T ad _ _) (by decide) (Nst_use (cx_nst C) (w := .fieldLinkNest RX3 73 "RecipeScheduler$State" "minute" "I" "RecipeScheduler") 430 (by decide +kernel) rfl) (fun _ h => h) (v := .int (Y 2 g0 0 1)) rfl dX3_runMinute_31 ?_
  refine fw_iconst C dX3_runMinute_34 (v := 1) rfl ?_
  refine fw_iadd C dX3_runMinute_35 ?_
  obtain ⟨Y2, e3, h⟩ := lt_some h
  refine fw_putN C (ci := 8) (Cn := RX8) (Tc := TX8) (N := 15) (j := 1) (ty := .int) (upd (Y 2 g0 0) 1 ((Y 2 g0 0 1) + 1)) ly_X3_runMinute_8 rfl tyX8_ok nmX8 (hG _ (List.mem_of_getElem? (i := 1) rfl)) (of2_0 _) (ce2 T ad _ _) (by decide) (Nst_use (cx_nst C) (w := .fieldLinkNest RX3 73 "RecipeScheduler$State" "minute" "I" "RecipeScheduler") 430 (by decide +kernel) rfl) (fun _ h => h) rfl (by decide +kernel) rfl rfl (Nat.le_of_ble_eq_true rfl) (ce2_put1 T ad _ _ _) dX3_runMinute_36 ?_
  refine fw_mem ((up_eq _ _ _ _ _ _).symm.trans e3) ?_
  refine fw_iload_n C dX3_runMinute_39 rfl 0 rfl ?_
  obtain ⟨r4, q5, h⟩ := bd1_some h
  refine fw_callSi C (As := [.int l1]) (c_J6_bitCount_0f7a4 ga0 q5) (va_cwS 1 (cx_ts C) gX3_runMinute_J6_bitCount_0f7a4 rfl rfl rfl (by decide +kernel) ⟨Nat.le_of_ble_eq_true rfl, Nat.le_of_ble_eq_true rfl⟩) rfl (st := []) rfl (Nat.le_of_ble_eq_true rfl) ⟨Nat.le_refl 0, Nat.le_refl 0⟩ dX3_runMinute_40 (pp2 ?_)
  exact fw_iret C hrt Y2 (Option.some.inj h) (fun t ht => ht) dX3_runMinute_43
set_option maxRecDepth 100000 in
set_option maxHeartbeats 4000000 in
theorem w_X3_runMinute {Y : Mem} {g0 : Nat} (C : Cx p s m [.ref (ad 1 g0 0)].toArray meth c cX3_runMinute 2 wsX3_runMinute RX3 N0 T D gr ad) (hrt : meth.sig.returnType = (some .int)) (hG : ∀ q ∈ ([(1, g0), (2, g0)] ++ allG), q ∈ gr) {res : Int32 × Mem} (h : X3_runMinute Y g0 = some res) : FW p l e (Rm 3) s m [.ref (ad 1 g0 0)].toArray below meth c 2 N0 T D gr ad 0 0 (MQ below (va_Qi (fun r Y1 => (r, Y1) = res) (WB T D gr ad) (fun q => N0 ≤ q)) [.ref (ad 1 g0 0)].toArray s 0 0 (fun q => N0 ≤ q)) Y 0 [(0, .ref (ad 1 g0 0))] [] := by
  unfold X3_runMinute at h
  refine fw_iconst C dX3_runMinute_0 (v := 0) rfl ?_
  refine fw_istore_n C dX3_runMinute_1 rfl (by decide) (L' := [(1, .int 0), (0, .ref (ad 1 g0 0))]) rfl ?_
  refine fw_aload_n C dX3_runMinute_2 rfl 1 rfl ?_
  refine fw_get C (ci := 3) (Cn := RX3) (Tc := TX3) (N := 5) (j := 1) ly_X3_runMinute_3 rfl (hG _ (List.mem_of_getElem? (i := 0) rfl)) (of1_0 _) (ce1 T ad _ _) (by decide) (cx_ts C _ fl_X3_runMinute_12) (fun _ h => h) (v := .ref (ad 2 g0 0)) rfl dX3_runMinute_3 ?_
  refine fw_getN C (ci := 8) (Cn := RX8) (Tc := TX8) (N := 15) (j := 5) ly_X3_runMinute_8 rfl (hG _ (List.mem_of_getElem? (i := 1) rfl)) (of2_0 _) (ce2 T ad _ _) (by decide) (Nst_use (cx_nst C) (w := .fieldLinkNest RX3 59 "RecipeScheduler$State" "served" "Z" "RecipeScheduler") 441 (by decide +kernel) rfl) (fun _ h => h) (v := .int (Y 2 g0 0 5)) rfl dX3_runMinute_6 ?_
  refine fw_if_ne C dX3_runMinute_9 (tgt := 26) rfl (fun c1 => ?_) (fun c1 => ?_)
  · have h := ite_f c1 h
    exact w_X3_runMinute_b26 C hrt hG   _ _ h
  · have h := ite_t c1 h
    refine fw_aload_n C dX3_runMinute_12 rfl 1 rfl ?_
    obtain ⟨r6, Y8, q7, h⟩ := bd2_some h
    refine fw_callVi C (ci := 3) (Cn := RX3) (Tc := TX3) (N := 5) (As := []) (c_X3_work (gac (hG _ (List.mem_of_getElem? (i := 0) rfl)) (gac (hG _ (List.mem_of_getElem? (i := 1) rfl)) (fun q hq => hG q (List.mem_append_right _ hq)))) q7) (cwV 0 (cx_ts C) gX3_runMinute_X3_work rfl rfl rfl (by decide +kernel) ⟨Nat.le_of_ble_eq_true rfl, Nat.le_of_ble_eq_true rfl⟩) rfl (hG _ (List.mem_of_getElem? (i := 0) rfl)) (of1_0 _) (ce1 T ad _ _) rfl (st := []) rfl (Nat.le_of_ble_eq_true rfl) ⟨Nat.le_refl 0, Nat.le_refl 0⟩ dX3_runMinute_13 (ppw ?_)
    refine fw_istore_n C dX3_runMinute_16 rfl (by decide) (L' := [(1, .int r6), (0, .ref (ad 1 g0 0))]) rfl ?_
    refine fw_aload_n C dX3_runMinute_17 rfl 1 rfl ?_
    refine fw_iload_n C dX3_runMinute_18 rfl 0 rfl ?_
    obtain ⟨Y11, q10, h⟩ := bd1_some h
    refine fw_callVv C (ci := 3) (Cn := RX3) (Tc := TX3) (N := 5) (As := [.int r6]) (c_X3_growOld (gac (hG _ (List.mem_of_getElem? (i := 0) rfl)) (gac (hG _ (List.mem_of_getElem? (i := 1) rfl)) (fun q hq => hG q (List.mem_append_right _ hq)))) q10) (cwV 1 (cx_ts C) gX3_runMinute_X3_growOld rfl rfl rfl (by decide +kernel) ⟨Nat.le_of_ble_eq_true rfl, Nat.le_of_ble_eq_true rfl⟩) rfl (hG _ (List.mem_of_getElem? (i := 0) rfl)) (of1_0 _) (ce1 T ad _ _) rfl (st := []) rfl (Nat.le_of_ble_eq_true rfl) ⟨Nat.le_refl 0, Nat.le_refl 0⟩ dX3_runMinute_19 (ppv ?_)
    refine fw_aload_n C dX3_runMinute_22 rfl 1 rfl ?_
    obtain ⟨Y14, q13, h⟩ := bd1_some h
    refine fw_callVv C (ci := 3) (Cn := RX3) (Tc := TX3) (N := 5) (As := []) (c_X3_startSteps (gac (hG _ (List.mem_of_getElem? (i := 1) rfl)) (gac (hG _ (List.mem_of_getElem? (i := 0) rfl)) (fun q hq => hG q (List.mem_append_right _ hq)))) q13) (cwV 0 (cx_ts C) gX3_runMinute_X3_startSteps rfl rfl rfl (by decide +kernel) ⟨Nat.le_of_ble_eq_true rfl, Nat.le_of_ble_eq_true rfl⟩) rfl (hG _ (List.mem_of_getElem? (i := 0) rfl)) (of1_0 _) (ce1 T ad _ _) rfl (st := []) rfl (Nat.le_of_ble_eq_true rfl) ⟨Nat.le_refl 0, Nat.le_refl 0⟩ dX3_runMinute_23 (ppv ?_)
    exact w_X3_runMinute_b26 C hrt hG   _ _ h
end
set_option maxRecDepth 100000 in
set_option maxHeartbeats 4000000 in
theorem c_X3_runMinute {l : Launch} {N0 : Nat} {T : Nat → ClassId} {D : va_G} {gr : List (Nat × Nat)} {ad : Nat → Nat → Nat → Nat} {Y : Mem} {g0 : Nat} {res : Int32 × Mem} (hG : ∀ q ∈ ([(1, g0), (2, g0)] ++ allG), q ∈ gr) (h : X3_runMinute Y g0 = some res) : CI l yX3_runMinute wsX3_runMinute (Rm 3) N0 T D gr ad Y [.ref (ad 1 g0 0)] (fun r Y1 => (r, Y1) = res) :=
  fw_body (by decide +kernel) rfl (Nat.le_of_ble_eq_true rfl) (fun p e s m below meth c C hrt => w_X3_runMinute C hrt hG  h)
section
variable {p : Program} {l : Launch} {e : Env} {s : State} {m : MethodId} {below : List Frame} {meth : Method} {c : Code} {N0 : Nat} {T : Nat → ClassId} {D : va_G} {gr : List (Nat × Nat)} {ad : Nat → Nat → Nat → Nat}
set_option maxRecDepth 100000 in
set_option maxHeartbeats 4000000 in
theorem w_X3_runMinutes_b8 {g0 : Nat} {a1 : Int32} (C : Cx p s m [.ref (ad 1 g0 0), .int a1].toArray meth c cX3_runMinutes 4 wsX3_runMinutes RX3 N0 T D gr ad) (hrt : meth.sig.returnType = (some .int)) (hG : ∀ q ∈ ([(2, g0), (1, g0)] ++ allG), q ∈ gr) {res : Int32 × Mem} : ∀ (n : Nat) (Y : Mem) (l3 : Int32) (l2 : Int32), X3_runMinutes_b8 g0 a1  n Y l3 l2 = some res → FW p l e (Rm 4) s m [.ref (ad 1 g0 0), .int a1].toArray below meth c 4 N0 T D gr ad 0 0 (MQ below (va_Qi (fun r Y1 => (r, Y1) = res) (WB T D gr ad) (fun q => N0 ≤ q)) [.ref (ad 1 g0 0), .int a1].toArray s 0 0 (fun q => N0 ≤ q)) Y 8 [(3, .int l3), (2, .int l2), (0, .ref (ad 1 g0 0)), (1, .int a1)] [] := by
  intro n
  induction n with
  | zero =>
    intro Y l3 l2 h
    unfold X3_runMinutes_b8 at h
    cases h
  | succ n ih =>
    intro Y l3 l2 h
    unfold X3_runMinutes_b8 at h
    refine fw_iload_n C dX3_runMinutes_8 rfl 0 rfl ?_
    refine fw_iload_n C dX3_runMinutes_9 rfl 3 rfl ?_
    refine fw_icmp_ge C dX3_runMinutes_10 (tgt := 26) rfl (fun c4 => ?_) (fun c4 => ?_)
    · have h := ite_t c4 h
      refine fw_iload_n C dX3_runMinutes_26 rfl 1 rfl ?_
      exact fw_iret C hrt Y (Option.some.inj h) (fun t ht => ht) dX3_runMinutes_27
    · have h := ite_f c4 h
      refine fw_iload_n C dX3_runMinutes_13 rfl 1 rfl ?_
      refine fw_aload_n C dX3_runMinutes_14 rfl 2 rfl ?_
      obtain ⟨r5, Y7, q6, h⟩ := bd2_some h
      refine fw_callVi C (ci := 3) (Cn := RX3) (Tc := TX3) (N := 5) (As := []) (c_X3_runMinute (gac (hG _ (List.mem_of_getElem? (i := 1) rfl)) (gac (hG _ (List.mem_of_getElem? (i := 0) rfl)) (fun q hq => hG q (List.mem_append_right _ hq)))) q6) (cwV 0 (cx_ts C) gX3_runMinutes_X3_runMinute rfl rfl rfl (by decide +kernel) ⟨Nat.le_of_ble_eq_true rfl, Nat.le_of_ble_eq_true rfl⟩) rfl (hG _ (List.mem_of_getElem? (i := 1) rfl)) (of1_0 _) (ce1 T ad _ _) rfl (st := [.int l2]) rfl (Nat.le_of_ble_eq_true rfl) ⟨Nat.le_refl 0, Nat.le_refl 0⟩ dX3_runMinutes_15 (ppw ?_)
      refine fw_iadd C dX3_runMinutes_18 ?_
      obtain ⟨v8, e9, h⟩ := lt_some h
      refine fw_top (v' := .int v8) (by rw [e9]) ?_
      refine fw_istore_n C dX3_runMinutes_19 rfl (by decide) (L' := [(2, .int v8), (3, .int l3), (0, .ref (ad 1 g0 0)), (1, .int a1)]) rfl ?_
      refine fw_iinc C dX3_runMinutes_20 (kk := 1) (v := l3 + 1) rfl rfl (by decide) (L' := [(3, .int (l3 + 1)), (2, .int v8), (0, .ref (ad 1 g0 0)), (1, .int a1)]) rfl ?_
      refine fw_goto C dX3_runMinutes_23 (tgt := 8) rfl ?_
      exact ih _ _ _ h
set_option maxRecDepth 100000 in
set_option maxHeartbeats 4000000 in
theorem w_X3_runMinutes {Y : Mem} {g0 : Nat} {a1 : Int32} (C : Cx p s m [.ref (ad 1 g0 0), .int a1].toArray meth c cX3_runMinutes 4 wsX3_runMinutes RX3 N0 T D gr ad) (hrt : meth.sig.returnType = (some .int)) (hG : ∀ q ∈ ([(2, g0), (1, g0)] ++ allG), q ∈ gr) {res : Int32 × Mem} (h : X3_runMinutes Y g0 a1 = some res) : FW p l e (Rm 4) s m [.ref (ad 1 g0 0), .int a1].toArray below meth c 4 N0 T D gr ad 0 0 (MQ below (va_Qi (fun r Y1 => (r, Y1) = res) (WB T D gr ad) (fun q => N0 ≤ q)) [.ref (ad 1 g0 0), .int a1].toArray s 0 0 (fun q => N0 ≤ q)) Y 0 [(0, .ref (ad 1 g0 0)), (1, .int a1)] [] := by
  unfold X3_runMinutes at h
  refine fw_aload_n C dX3_runMinutes_0 rfl 0 rfl ?_
  obtain ⟨Y3, q2, h⟩ := bd1_some h
  refine fw_callVv C (ci := 3) (Cn := RX3) (Tc := TX3) (N := 5) (As := []) (c_X3_rank (gac (hG _ (List.mem_of_getElem? (i := 1) rfl)) (gac (hG _ (List.mem_of_getElem? (i := 0) rfl)) (fun q hq => hG q (List.mem_append_right _ hq)))) q2) (cwV 0 (cx_ts C) gX3_runMinutes_X3_rank rfl rfl rfl (by decide +kernel) ⟨Nat.le_of_ble_eq_true rfl, Nat.le_of_ble_eq_true rfl⟩) rfl (hG _ (List.mem_of_getElem? (i := 1) rfl)) (of1_0 _) (ce1 T ad _ _) rfl (st := []) rfl (Nat.le_of_ble_eq_true rfl) ⟨Nat.le_refl 0, Nat.le_refl 0⟩ dX3_runMinutes_1 (ppv ?_)
  refine fw_iconst C dX3_runMinutes_4 (v := 0) rfl ?_
  refine fw_istore_n C dX3_runMinutes_5 rfl (by decide) (L' := [(2, .int 0), (0, .ref (ad 1 g0 0)), (1, .int a1)]) rfl ?_
  refine fw_iconst C dX3_runMinutes_6 (v := 0) rfl ?_
  refine fw_istore_n C dX3_runMinutes_7 rfl (by decide) (L' := [(3, .int 0), (2, .int 0), (0, .ref (ad 1 g0 0)), (1, .int a1)]) rfl ?_
  exact w_X3_runMinutes_b8 C hrt hG   _ _ _ _ h
end
set_option maxRecDepth 100000 in
set_option maxHeartbeats 4000000 in
theorem c_X3_runMinutes {l : Launch} {N0 : Nat} {T : Nat → ClassId} {D : va_G} {gr : List (Nat × Nat)} {ad : Nat → Nat → Nat → Nat} {Y : Mem} {g0 : Nat} {a1 : Int32} {res : Int32 × Mem} (hG : ∀ q ∈ ([(2, g0), (1, g0)] ++ allG), q ∈ gr) (h : X3_runMinutes Y g0 a1 = some res) : CI l yX3_runMinutes wsX3_runMinutes (Rm 4) N0 T D gr ad Y [.ref (ad 1 g0 0), .int a1] (fun r Y1 => (r, Y1) = res) :=
  fw_body (by decide +kernel) rfl (Nat.le_of_ble_eq_true rfl) (fun p e s m below meth c C hrt => w_X3_runMinutes C hrt hG  h)
theorem ly_X11_pass_11 : ∀ w ∈ u_ws RX11 TX11 11, w ∈ wsX11_pass := by decide +kernel
theorem fl_X11_pass_77 : Cond.fieldLink RX11 77 "RecipeScheduler" "history" "LRecipeScheduler$History;" ∈ wsX11_pass := by decide +kernel
theorem fl_X11_pass_67 : Cond.fieldLink RX11 67 "RecipeScheduler" "now" "LRecipeScheduler$Kitchen;" ∈ wsX11_pass := by decide +kernel
theorem ly_X11_pass_3 : ∀ w ∈ u_ws RX3 TX3 5, w ∈ wsX11_pass := by decide +kernel
section
variable {p : Program} {l : Launch} {e : Env} {s : State} {m : MethodId} {below : List Frame} {meth : Method} {c : Code} {N0 : Nat} {T : Nat → ClassId} {D : va_G} {gr : List (Nat × Nat)} {ad : Nat → Nat → Nat → Nat}
set_option maxRecDepth 100000 in
set_option maxHeartbeats 4000000 in
theorem w_X11_pass {Y : Mem} {a1 : Int32} (C : Cx p s m [.ref (ad 0 0 0), .int a1].toArray meth c cX11_pass 2 wsX11_pass RX11 N0 T D gr ad) (hrt : meth.sig.returnType = (some .int)) (hG : ∀ q ∈ ([(0, 0), (2, 0), (1, 0), (9, 0)] ++ allG), q ∈ gr) {res : Int32 × Mem} (h : X11_pass Y a1 = some res) : FW p l e (Rm 5) s m [.ref (ad 0 0 0), .int a1].toArray below meth c 2 N0 T D gr ad 0 0 (MQ below (va_Qi (fun r Y1 => (r, Y1) = res) (WB T D gr ad) (fun q => N0 ≤ q)) [.ref (ad 0 0 0), .int a1].toArray s 0 0 (fun q => N0 ≤ q)) Y 0 [(0, .ref (ad 0 0 0)), (1, .int a1)] [] := by
  unfold X11_pass at h
  refine fw_aload_n C dX11_pass_0 rfl 0 rfl ?_
  refine fw_iload_n C dX11_pass_1 rfl 1 rfl ?_
  obtain ⟨r1, q2, h⟩ := bd1_some h
  refine fw_callVi C (ci := 11) (Cn := RX11) (Tc := TX11) (N := 11) (As := [.int a1]) (c_X11_isPassLength ga0 q2) (cwV 1 (cx_ts C) gX11_pass_X11_isPassLength rfl rfl rfl (by decide +kernel) ⟨Nat.le_of_ble_eq_true rfl, Nat.le_of_ble_eq_true rfl⟩) rfl (hG _ (List.mem_of_getElem? (i := 0) rfl)) (of0_0 _) (ce0 T ad _ _) rfl (st := []) rfl (Nat.le_of_ble_eq_true rfl) ⟨Nat.le_refl 0, Nat.le_refl 0⟩ dX11_pass_2 (pp2 ?_)
  refine fw_if_ne C dX11_pass_5 (tgt := 19) rfl (fun c3 => ?_) (fun c3 => ?_)
  · have h := ite_f c3 h
    refine fw_aload_n C dX11_pass_19 rfl 0 rfl ?_
    refine fw_iload_n C dX11_pass_20 rfl 1 rfl ?_
    obtain ⟨r4, q5, h⟩ := bd1_some h
    refine fw_callVi C (ci := 11) (Cn := RX11) (Tc := TX11) (N := 11) (As := [.int a1]) (c_X11_fitsClock (gac (hG _ (List.mem_of_getElem? (i := 0) rfl)) (gac (hG _ (List.mem_of_getElem? (i := 2) rfl)) (gac (hG _ (List.mem_of_getElem? (i := 1) rfl)) ga0))) q5) (cwV 1 (cx_ts C) gX11_pass_X11_fitsClock rfl rfl rfl (by decide +kernel) ⟨Nat.le_of_ble_eq_true rfl, Nat.le_of_ble_eq_true rfl⟩) rfl (hG _ (List.mem_of_getElem? (i := 0) rfl)) (of0_0 _) (ce0 T ad _ _) rfl (st := []) rfl (Nat.le_of_ble_eq_true rfl) ⟨Nat.le_refl 0, Nat.le_refl 0⟩ dX11_pass_21 (pp2 ?_)
    refine fw_if_ne C dX11_pass_24 (tgt := 38) rfl (fun c6 => ?_) (fun c6 => ?_)
    · have h := ite_f c6 h
      refine fw_aload_n C dX11_pass_38 rfl 0 rfl ?_
      refine fw_get C (ci := 11) (Cn := RX11) (Tc := TX11) (N := 11) (j := 7) ly_X11_pass_11 rfl (hG _ (List.mem_of_getElem? (i := 0) rfl)) (of0_0 _) (ce0 T ad _ _) (by decide) (cx_ts C _ fl_X11_pass_77) (fun _ h => h) (v := .ref (ad 9 0 0)) rfl dX11_pass_39 ?_
      refine fw_aload_n C dX11_pass_42 rfl 0 rfl ?_
      refine fw_get C (ci := 11) (Cn := RX11) (Tc := TX11) (N := 11) (j := 5) ly_X11_pass_11 rfl (hG _ (List.mem_of_getElem? (i := 0) rfl)) (of0_0 _) (ce0 T ad _ _) (by decide) (cx_ts C _ fl_X11_pass_67) (fun _ h => h) (v := .ref (ad 1 0 0)) rfl dX11_pass_43 ?_
      refine fw_getN C (ci := 3) (Cn := RX3) (Tc := TX3) (N := 5) (j := 1) ly_X11_pass_3 rfl (hG _ (List.mem_of_getElem? (i := 2) rfl)) (of1_0 _) (ce1 T ad _ _) (by decide) (Nst_use (cx_nst C) (w := .fieldLinkNest RX11 139 "RecipeScheduler$Kitchen" "state" "LRecipeScheduler$State;" "RecipeScheduler") 509 (by decide +kernel) rfl) (fun _ h => h) (v := .ref (ad 2 0 0)) rfl dX11_pass_46 ?_
      obtain ⟨Y9, q8, h⟩ := bd1_some h
      refine fw_callVv C (ci := 2) (Cn := RX2) (Tc := TX2) (N := 3) (As := [.ref (ad 2 0 0)]) (c_X2_push (gac (hG _ (List.mem_of_getElem? (i := 3) rfl)) (gac (hG _ (List.mem_of_getElem? (i := 1) rfl)) (fun q hq => hG q (List.mem_append_right _ hq)))) q8) (cwV 1 (cx_ts C) gX11_pass_X2_push rfl rfl rfl (by decide +kernel) ⟨Nat.le_of_ble_eq_true rfl, Nat.le_of_ble_eq_true rfl⟩) rfl (hG _ (List.mem_of_getElem? (i := 3) rfl)) (of9_0 _) (ce9 T ad _ _) rfl (st := []) rfl (Nat.le_of_ble_eq_true rfl) ⟨Nat.le_refl 0, Nat.le_refl 0⟩ dX11_pass_49 (ppv ?_)
      refine fw_aload_n C dX11_pass_52 rfl 0 rfl ?_
      refine fw_get C (ci := 11) (Cn := RX11) (Tc := TX11) (N := 11) (j := 5) ly_X11_pass_11 rfl (hG _ (List.mem_of_getElem? (i := 0) rfl)) (of0_0 _) (ce0 T ad _ _) (by decide) (cx_ts C _ fl_X11_pass_67) (fun _ h => h) (v := .ref (ad 1 0 0)) rfl dX11_pass_53 ?_
      refine fw_iload_n C dX11_pass_56 rfl 1 rfl ?_
      obtain ⟨r10, Y12, q11, h⟩ := bd2_some h
      refine fw_callVi C (ci := 3) (Cn := RX3) (Tc := TX3) (N := 5) (As := [.int a1]) (c_X3_runMinutes (gac (hG _ (List.mem_of_getElem? (i := 1) rfl)) (gac (hG _ (List.mem_of_getElem? (i := 2) rfl)) (fun q hq => hG q (List.mem_append_right _ hq)))) q11) (cwV 1 (cx_ts C) gX11_pass_X3_runMinutes rfl rfl rfl (by decide +kernel) ⟨Nat.le_of_ble_eq_true rfl, Nat.le_of_ble_eq_true rfl⟩) rfl (hG _ (List.mem_of_getElem? (i := 2) rfl)) (of1_0 _) (ce1 T ad _ _) rfl (st := []) rfl (Nat.le_of_ble_eq_true rfl) ⟨Nat.le_refl 0, Nat.le_refl 0⟩ dX11_pass_57 (ppw ?_)
      exact fw_iret C hrt Y12 (Option.some.inj h) (fun t ht => ht) dX11_pass_60
    · have h := ite_t c6 h
      cases h
  · have h := ite_t c3 h
    cases h
end
set_option maxRecDepth 100000 in
set_option maxHeartbeats 4000000 in
theorem c_X11_pass {l : Launch} {N0 : Nat} {T : Nat → ClassId} {D : va_G} {gr : List (Nat × Nat)} {ad : Nat → Nat → Nat → Nat} {Y : Mem} {a1 : Int32} {res : Int32 × Mem} (hG : ∀ q ∈ ([(0, 0), (2, 0), (1, 0), (9, 0)] ++ allG), q ∈ gr) (h : X11_pass Y a1 = some res) : CI l yX11_pass wsX11_pass (Rm 5) N0 T D gr ad Y [.ref (ad 0 0 0), .int a1] (fun r Y1 => (r, Y1) = res) :=
  fw_body (by decide +kernel) rfl (Nat.le_of_ble_eq_true rfl) (fun p e s m below meth c C hrt => w_X11_pass C hrt hG  h)
theorem ly_X11_predecessor_11 : ∀ w ∈ u_ws RX11 TX11 11, w ∈ wsX11_predecessor := by decide +kernel
theorem fl_X11_predecessor_67 : Cond.fieldLink RX11 67 "RecipeScheduler" "now" "LRecipeScheduler$Kitchen;" ∈ wsX11_predecessor := by decide +kernel
theorem ly_X11_predecessor_3 : ∀ w ∈ u_ws RX3 TX3 5, w ∈ wsX11_predecessor := by decide +kernel
theorem ly_X11_predecessor_5 : ∀ w ∈ u_ws RX5 TX5 17, w ∈ wsX11_predecessor := by decide +kernel
section
variable {p : Program} {l : Launch} {e : Env} {s : State} {m : MethodId} {below : List Frame} {meth : Method} {c : Code} {N0 : Nat} {T : Nat → ClassId} {D : va_G} {gr : List (Nat × Nat)} {ad : Nat → Nat → Nat → Nat}
set_option maxRecDepth 100000 in
set_option maxHeartbeats 4000000 in
theorem w_X11_predecessor {Y : Mem} {a1 : Int32} {a2 : Int32} (C : Cx p s m [.ref (ad 0 0 0), .int a1, .int a2].toArray meth c cX11_predecessor 3 wsX11_predecessor RX11 N0 T D gr ad) (hrt : meth.sig.returnType = (some .int)) (hG : ∀ q ∈ ([(1, 0), (0, 0)] ++ allG), q ∈ gr) {res : Int32} (h : X11_predecessor Y a1 a2 = some res) : FW p l e (Rm 2) s m [.ref (ad 0 0 0), .int a1, .int a2].toArray below meth c 3 N0 T D gr ad 0 0 (MQ below (va_Qi (fun r Y1 => r = res ∧ Y1 = Y) (WB T D gr ad) (fun q => N0 ≤ q)) [.ref (ad 0 0 0), .int a1, .int a2].toArray s 0 0 (fun q => N0 ≤ q)) Y 0 [(0, .ref (ad 0 0 0)), (1, .int a1), (2, .int a2)] [] := by
  unfold X11_predecessor at h
  refine fw_aload_n C dX11_predecessor_0 rfl 0 rfl ?_
  refine fw_iload_n C dX11_predecessor_1 rfl 1 rfl ?_
  obtain ⟨_, q2, h⟩ := bd1_some h
  refine fw_callVv C (ci := 11) (Cn := RX11) (Tc := TX11) (N := 11) (As := [.int a1]) (c_X11_requireStep (gac (hG _ (List.mem_of_getElem? (i := 1) rfl)) (gac (hG _ (List.mem_of_getElem? (i := 0) rfl)) (fun q hq => hG q (List.mem_append_right _ hq)))) q2) (cwV 1 (cx_ts C) gX11_predecessor_X11_requireStep rfl rfl rfl (by decide +kernel) ⟨Nat.le_of_ble_eq_true rfl, Nat.le_of_ble_eq_true rfl⟩) rfl (hG _ (List.mem_of_getElem? (i := 1) rfl)) (of0_0 _) (ce0 T ad _ _) rfl (st := []) rfl (Nat.le_of_ble_eq_true rfl) ⟨Nat.le_refl 0, Nat.le_refl 0⟩ dX11_predecessor_2 (ppv ?_)
  refine fw_iload_n C dX11_predecessor_5 rfl 2 rfl ?_
  refine fw_iconst C dX11_predecessor_6 (v := 0) rfl ?_
  refine fw_aload_n C dX11_predecessor_7 rfl 0 rfl ?_
  refine fw_get C (ci := 11) (Cn := RX11) (Tc := TX11) (N := 11) (j := 5) ly_X11_predecessor_11 rfl (hG _ (List.mem_of_getElem? (i := 1) rfl)) (of0_0 _) (ce0 T ad _ _) (by decide) (cx_ts C _ fl_X11_predecessor_67) (fun _ h => h) (v := .ref (ad 1 0 0)) rfl dX11_predecessor_8 ?_
  refine fw_getN C (ci := 3) (Cn := RX3) (Tc := TX3) (N := 5) (j := 0) ly_X11_predecessor_3 rfl (hG _ (List.mem_of_getElem? (i := 0) rfl)) (of1_0 _) (ce1 T ad _ _) (by decide) (Nst_use (cx_nst C) (w := .fieldLinkNest RX11 117 "RecipeScheduler$Kitchen" "recipe" "LRecipeScheduler$Recipe;" "RecipeScheduler") 507 (by decide +kernel) rfl) (fun _ h => h) (v := .ref (ad 3 ((Y 1 0 0 0).toNatClampNeg) 0)) rfl dX11_predecessor_11 ?_
  obtain ⟨b3, h⟩ := gd_some h
  have b3 := of_decide_eq_true b3
  refine fw_getN C (ci := 5) (Cn := RX5) (Tc := TX5) (N := 17) (j := 12) ly_X11_predecessor_5 rfl ((fun q hq => hG q (List.mem_append_right _ hq)) _ (allG_3 b3)) (of3_0 _) (ce3 T ad _ _) (by decide) (Nst_use (cx_nst C) (w := .fieldLinkNest RX11 215 "RecipeScheduler$Recipe" "predecessorCount" "[I" "RecipeScheduler") 162 (by decide +kernel) rfl) (fun _ h => h) (v := .ref (ad 3 (((Y 1 0 0 0).toNatClampNeg)) 7)) rfl dX11_predecessor_14 ?_
  refine fw_iload_n C dX11_predecessor_17 rfl 1 rfl ?_
  obtain ⟨b4, h⟩ := gd_some h
  refine fw_iald2 C ((fun q hq => hG q (List.mem_append_right _ hq)) _ (allG_3 b3)) (of3_7 _) (ca3_7 T ad _ _) b4 (Nat.le_of_ble_eq_true rfl) dX11_predecessor_18 ?_
  refine fw_iconst C dX11_predecessor_19 (v := 1) rfl ?_
  refine fw_isub C dX11_predecessor_20 ?_
  obtain ⟨r5, q6, h⟩ := bd1_some h
  refine fw_callSi C (As := [.int a2, .int 0, .int ((Y 3 (((Y 1 0 0 0).toNatClampNeg)) 7 (ix a1)) - 1)]) (c_X11_isWithin ga0 q6) (va_cwS 3 (cx_ts C) gX11_predecessor_X11_isWithin rfl rfl rfl (by decide +kernel) ⟨Nat.le_of_ble_eq_true rfl, Nat.le_of_ble_eq_true rfl⟩) rfl (st := []) rfl (Nat.le_of_ble_eq_true rfl) ⟨Nat.le_refl 0, Nat.le_refl 0⟩ dX11_predecessor_21 (pp2 ?_)
  refine fw_if_ne C dX11_predecessor_24 (tgt := 29) rfl (fun c7 => ?_) (fun c7 => ?_)
  · have h := ite_f c7 h
    refine fw_aload_n C dX11_predecessor_29 rfl 0 rfl ?_
    refine fw_get C (ci := 11) (Cn := RX11) (Tc := TX11) (N := 11) (j := 5) ly_X11_predecessor_11 rfl (hG _ (List.mem_of_getElem? (i := 1) rfl)) (of0_0 _) (ce0 T ad _ _) (by decide) (cx_ts C _ fl_X11_predecessor_67) (fun _ h => h) (v := .ref (ad 1 0 0)) rfl dX11_predecessor_30 ?_
    refine fw_getN C (ci := 3) (Cn := RX3) (Tc := TX3) (N := 5) (j := 0) ly_X11_predecessor_3 rfl (hG _ (List.mem_of_getElem? (i := 0) rfl)) (of1_0 _) (ce1 T ad _ _) (by decide) (Nst_use (cx_nst C) (w := .fieldLinkNest RX11 117 "RecipeScheduler$Kitchen" "recipe" "LRecipeScheduler$Recipe;" "RecipeScheduler") 507 (by decide +kernel) rfl) (fun _ h => h) (v := .ref (ad 3 ((Y 1 0 0 0).toNatClampNeg) 0)) rfl dX11_predecessor_33 ?_
    refine fw_getN C (ci := 5) (Cn := RX5) (Tc := TX5) (N := 17) (j := 11) ly_X11_predecessor_5 rfl ((fun q hq => hG q (List.mem_append_right _ hq)) _ (allG_3 b3)) (of3_0 _) (ce3 T ad _ _) (by decide) (Nst_use (cx_nst C) (w := .fieldLinkNest RX11 218 "RecipeScheduler$Recipe" "predecessors" "[[I" "RecipeScheduler") 159 (by decide +kernel) rfl) (fun _ h => h) (v := .ref (ad 3 (((Y 1 0 0 0).toNatClampNeg)) 6)) rfl dX11_predecessor_36 ?_
    refine fw_iload_n C dX11_predecessor_39 rfl 1 rfl ?_
    refine fw_aald2 C 5 ((fun q hq => hG q (List.mem_append_right _ hq)) _ (allG_3 b3)) (of3_6 _) (ca3_6 T ad _ _) rfl rfl b4 (Nat.le_of_ble_eq_true rfl) (v := .ref (ad 3 (((Y 1 0 0 0).toNatClampNeg)) (20+ix a1))) rfl dX11_predecessor_40 ?_
    refine fw_iload_n C dX11_predecessor_41 rfl 2 rfl ?_
    obtain ⟨b8, h⟩ := gd_some h
    refine fw_iald2 C ((fun q hq => hG q (List.mem_append_right _ hq)) _ (allG_3 b3)) (of3_r _ (inb_lt b4)) (ca3_r T ad _ _ _) b8 (Nat.le_of_ble_eq_true rfl) dX11_predecessor_42 ?_
    exact fw_iret C hrt Y ⟨Option.some.inj h, rfl⟩ (fun t ht => ht) dX11_predecessor_43
  · have h := ite_t c7 h
    refine fw_iconst C dX11_predecessor_27 (v := (-1)) rfl ?_
    exact fw_iret C hrt Y ⟨Option.some.inj h, rfl⟩ (fun t ht => ht) dX11_predecessor_28
end
set_option maxRecDepth 100000 in
set_option maxHeartbeats 4000000 in
theorem c_X11_predecessor {l : Launch} {N0 : Nat} {T : Nat → ClassId} {D : va_G} {gr : List (Nat × Nat)} {ad : Nat → Nat → Nat → Nat} {Y : Mem} {a1 : Int32} {a2 : Int32} {res : Int32} (hG : ∀ q ∈ ([(1, 0), (0, 0)] ++ allG), q ∈ gr) (h : X11_predecessor Y a1 a2 = some res) : CI l yX11_predecessor wsX11_predecessor (Rm 2) N0 T D gr ad Y [.ref (ad 0 0 0), .int a1, .int a2] (fun r Y1 => r = res ∧ Y1 = Y) :=
  fw_body (by decide +kernel) rfl (Nat.le_of_ble_eq_true rfl) (fun p e s m below meth c C hrt => w_X11_predecessor C hrt hG  h)
