theorem ly_X3_isRedoable_3 : ∀ w ∈ u_ws RX3 TX3 5, w ∈ wsX3_isRedoable := by decide +kernel
theorem fl_X3_isRedoable_12 : Cond.fieldLink RX3 12 "RecipeScheduler$Kitchen" "state" "LRecipeScheduler$State;" ∈ wsX3_isRedoable := by decide +kernel
theorem ly_X3_isRedoable_8 : ∀ w ∈ u_ws RX8 TX8 15, w ∈ wsX3_isRedoable := by decide +kernel
theorem in_X3_isRedoable_11 : Cond.initialized RX11 ∈ wsX3_isRedoable := by decide +kernel
theorem sw_X3_isRedoable_X11_contains : Cond.static yX11_contains ∈ wsX3_isRedoable := by decide +kernel
section
variable {p : Program} {l : Launch} {e : Env} {s : State} {m : MethodId} {below : List Frame} {meth : Method} {c : Code} {N0 : Nat} {T : Nat → ClassId} {D : va_G} {gr : List (Nat × Nat)} {ad : Nat → Nat → Nat → Nat}
set_option maxRecDepth 100000 in
set_option maxHeartbeats 4000000 in
theorem w_X3_isRedoable {Y : Mem} {g0 : Nat} {a1 : Int32} (C : Cx p s m [.ref (ad 1 g0 0), .int a1].toArray meth c cX3_isRedoable 2 wsX3_isRedoable RX3 N0 T D gr ad) (hrt : meth.sig.returnType = (some .boolean)) (hG : ∀ q ∈ ([(1, g0), (2, g0)] ++ allG), q ∈ gr) {res : Int32} (h : X3_isRedoable Y g0 a1 = some res) : FW p l e (Rm 1) s m [.ref (ad 1 g0 0), .int a1].toArray below meth c 2 N0 T D gr ad 0 0 (MQ below (va_Qi (fun r Y1 => r = res ∧ Y1 = Y) (WB T D gr ad) (fun q => N0 ≤ q)) [.ref (ad 1 g0 0), .int a1].toArray s 0 0 (fun q => N0 ≤ q)) Y 0 [(0, .ref (ad 1 g0 0)), (1, .int a1)] [] := by
  unfold X3_isRedoable at h
  refine fw_aload_n C dX3_isRedoable_0 rfl 0 rfl ?_
  refine fw_get C (ci := 3) (Cn := RX3) (Tc := TX3) (N := 5) (j := 1) ly_X3_isRedoable_3 rfl (hG _ (List.mem_of_getElem? (i := 0) rfl)) (of1_0 _) (ce1 T ad _ _) (by decide) (cx_ts C _ fl_X3_isRedoable_12) (fun _ h => h) (v := .ref (ad 2 g0 0)) rfl dX3_isRedoable_1 ?_
  refine fw_getN C (ci := 8) (Cn := RX8) (Tc := TX8) (N := 15) (j := 7) ly_X3_isRedoable_8 rfl (hG _ (List.mem_of_getElem? (i := 1) rfl)) (of2_0 _) (ce2 T ad _ _) (by decide) (Nst_use (cx_nst C) (w := .fieldLinkNest RX3 47 "RecipeScheduler$State" "done" "I" "RecipeScheduler") 447 (by decide +kernel) rfl) (fun _ h => h) (v := .int (Y 2 g0 0 7)) rfl dX3_isRedoable_4 ?_
  refine fw_iload_n C dX3_isRedoable_7 rfl 1 rfl ?_
  obtain ⟨r1, q2, h⟩ := bd1_some h
  refine fw_callSNi C (As := [.int (Y 2 g0 0 7), .int a1]) (c_X11_contains ga0 q2) ⟨(va_cnB 2 (cx_ts C) gX3_isRedoable_X11_contains_n100 rfl rfl rfl (cx_nw C (w := .methodLinkNest RX3 100 yX11_contains "RecipeScheduler") 683 (by decide +kernel) rfl) (cx_ts C _ in_X3_isRedoable_11) (by decide +kernel) ⟨Nat.le_of_ble_eq_true rfl, Nat.le_of_ble_eq_true rfl⟩), cx_ts C _ sw_X3_isRedoable_X11_contains, trivial⟩ rfl (st := []) rfl (Nat.le_of_ble_eq_true rfl) ⟨Nat.le_refl 0, Nat.le_refl 0⟩ dX3_isRedoable_8 (pp2 ?_)
  refine fw_if_eq C dX3_isRedoable_11 (tgt := 36) rfl (fun c3 => ?_) (fun c3 => ?_)
  · have h := ite_t c3 h
    refine fw_iconst C dX3_isRedoable_36 (v := 0) rfl ?_
    exact fw_zret C hrt (by decide) Y ⟨Option.some.inj h, rfl⟩ (fun t ht => ht) dX3_isRedoable_37
  · have h := ite_f c3 h
    refine fw_aload_n C dX3_isRedoable_14 rfl 0 rfl ?_
    refine fw_iload_n C dX3_isRedoable_15 rfl 1 rfl ?_
    obtain ⟨r4, q5, h⟩ := bd1_some h
    refine fw_callVi C (ci := 3) (Cn := RX3) (Tc := TX3) (N := 5) (As := [.int a1]) (c_X3_isContinued (gac (hG _ (List.mem_of_getElem? (i := 0) rfl)) (gac (hG _ (List.mem_of_getElem? (i := 1) rfl)) (fun q hq => hG q (List.mem_append_right _ hq)))) q5) (cwV 1 (cx_ts C) gX3_isRedoable_X3_isContinued rfl rfl rfl (by decide +kernel) ⟨Nat.le_of_ble_eq_true rfl, Nat.le_of_ble_eq_true rfl⟩) rfl (hG _ (List.mem_of_getElem? (i := 0) rfl)) (of1_0 _) (ce1 T ad _ _) rfl (st := []) rfl (Nat.le_of_ble_eq_true rfl) ⟨Nat.le_refl 0, Nat.le_refl 0⟩ dX3_isRedoable_16 (pp2 ?_)
    refine fw_if_ne C dX3_isRedoable_19 (tgt := 36) rfl (fun c6 => ?_) (fun c6 => ?_)
    · have h := ite_f c6 h
      refine fw_iconst C dX3_isRedoable_36 (v := 0) rfl ?_
      exact fw_zret C hrt (by decide) Y ⟨Option.some.inj h, rfl⟩ (fun t ht => ht) dX3_isRedoable_37
    · have h := ite_t c6 h
      refine fw_aload_n C dX3_isRedoable_22 rfl 0 rfl ?_
      refine fw_get C (ci := 3) (Cn := RX3) (Tc := TX3) (N := 5) (j := 1) ly_X3_isRedoable_3 rfl (hG _ (List.mem_of_getElem? (i := 0) rfl)) (of1_0 _) (ce1 T ad _ _) (by decide) (cx_ts C _ fl_X3_isRedoable_12) (fun _ h => h) (v := .ref (ad 2 g0 0)) rfl dX3_isRedoable_23 ?_
      refine fw_getN C (ci := 8) (Cn := RX8) (Tc := TX8) (N := 15) (j := 5) ly_X3_isRedoable_8 rfl (hG _ (List.mem_of_getElem? (i := 1) rfl)) (of2_0 _) (ce2 T ad _ _) (by decide) (Nst_use (cx_nst C) (w := .fieldLinkNest RX3 59 "RecipeScheduler$State" "served" "Z" "RecipeScheduler") 441 (by decide +kernel) rfl) (fun _ h => h) (v := .int (Y 2 g0 0 5)) rfl dX3_isRedoable_26 ?_
      refine fw_if_ne C dX3_isRedoable_29 (tgt := 36) rfl (fun c7 => ?_) (fun c7 => ?_)
      · have h := ite_f c7 h
        refine fw_iconst C dX3_isRedoable_36 (v := 0) rfl ?_
        exact fw_zret C hrt (by decide) Y ⟨Option.some.inj h, rfl⟩ (fun t ht => ht) dX3_isRedoable_37
      · have h := ite_t c7 h
        refine fw_iconst C dX3_isRedoable_32 (v := 1) rfl ?_
        refine fw_goto C dX3_isRedoable_33 (tgt := 37) rfl ?_
        exact fw_zret C hrt (by decide) Y ⟨Option.some.inj h, rfl⟩ (fun t ht => ht) dX3_isRedoable_37
end
set_option maxRecDepth 100000 in
set_option maxHeartbeats 4000000 in
theorem c_X3_isRedoable {l : Launch} {N0 : Nat} {T : Nat → ClassId} {D : va_G} {gr : List (Nat × Nat)} {ad : Nat → Nat → Nat → Nat} {Y : Mem} {g0 : Nat} {a1 : Int32} {res : Int32} (hG : ∀ q ∈ ([(1, g0), (2, g0)] ++ allG), q ∈ gr) (h : X3_isRedoable Y g0 a1 = some res) : CI l yX3_isRedoable wsX3_isRedoable (Rm 1) N0 T D gr ad Y [.ref (ad 1 g0 0), .int a1] (fun r Y1 => r = res ∧ Y1 = Y) :=
  fw_body (by decide +kernel) rfl (Nat.le_of_ble_eq_true rfl) (fun p e s m below meth c C hrt => w_X3_isRedoable C hrt hG  h)
theorem ly_X8_discard_8 : ∀ w ∈ u_ws RX8 TX8 15, w ∈ wsX8_discard := by decide +kernel
theorem fl_X8_discard_18 : Cond.fieldLink RX8 18 "RecipeScheduler$State" "age" "[I" ∈ wsX8_discard := by decide +kernel
theorem fl_X8_discard_56 : Cond.fieldLink RX8 56 "RecipeScheduler$State" "done" "I" ∈ wsX8_discard := by decide +kernel
section
variable {p : Program} {l : Launch} {e : Env} {s : State} {m : MethodId} {below : List Frame} {meth : Method} {c : Code} {N0 : Nat} {T : Nat → ClassId} {D : va_G} {gr : List (Nat × Nat)} {ad : Nat → Nat → Nat → Nat}
set_option maxRecDepth 100000 in
set_option maxHeartbeats 4000000 in
theorem w_X8_discard {Y : Mem} {g0 : Nat} {a1 : Int32} (C : Cx p s m [.ref (ad 2 g0 0), .int a1].toArray meth c cX8_discard 3 wsX8_discard RX8 N0 T D gr ad) (hrt : meth.sig.returnType = (some .int)) (hG : ∀ q ∈ [(2, g0)], q ∈ gr) {res : Int32 × Mem} (h : X8_discard Y g0 a1 = some res) : FW p l e (Rm 0) s m [.ref (ad 2 g0 0), .int a1].toArray below meth c 3 N0 T D gr ad 0 0 (MQ below (va_Qi (fun r Y1 => (r, Y1) = res) (WB T D gr ad) (fun q => N0 ≤ q)) [.ref (ad 2 g0 0), .int a1].toArray s 0 0 (fun q => N0 ≤ q)) Y 0 [(0, .ref (ad 2 g0 0)), (1, .int a1)] [] := by
  unfold X8_discard at h
  refine fw_aload_n C dX8_discard_0 rfl 0 rfl ?_
  refine fw_get C (ci := 8) (Cn := RX8) (Tc := TX8) (N := 15) (j := 11) ly_X8_discard_8 rfl (hG _ (List.mem_of_getElem? (i := 0) rfl)) (of2_0 _) (ce2 T ad _ _) (by decide) (cx_ts C _ fl_X8_discard_18) (fun _ h => h) (v := .ref (ad 2 g0 3)) rfl dX8_discard_1 ?_
  refine fw_iload_n C dX8_discard_4 rfl 1 rfl ?_
  obtain ⟨b1, h⟩ := gd_some h
  refine fw_iald2 C (hG _ (List.mem_of_getElem? (i := 0) rfl)) (of2_3 _) (ca2_3 T ad _ _) b1 (Nat.le_of_ble_eq_true rfl) dX8_discard_5 ?_
  obtain ⟨v2, e3, h⟩ := lt_some h
  refine fw_top (v' := .int v2) (by rw [e3]) ?_
  refine fw_istore_n C dX8_discard_6 rfl (by decide) (L' := [(2, .int v2), (0, .ref (ad 2 g0 0)), (1, .int a1)]) rfl ?_
  refine fw_aload_n C dX8_discard_7 rfl 1 rfl ?_
  refine fw_dup C dX8_discard_8 rfl ?_
  refine fw_get C (ci := 8) (Cn := RX8) (Tc := TX8) (N := 15) (j := 7) ly_X8_discard_8 rfl (hG _ (List.mem_of_getElem? (i := 0) rfl)) (of2_0 _) (ce2 T ad _ _) (by decide) (cx_ts C _ fl_X8_discard_56) (fun _ h => h) (v := .int (Y 2 g0 0 7)) rfl dX8_discard_9 ?_
  refine fw_iconst C dX8_discard_12 (v := 1) rfl ?_
  refine fw_iload_n C dX8_discard_13 rfl 2 rfl ?_
  refine fw_ishl C dX8_discard_14 ?_
  refine fw_iconst C dX8_discard_15 (v := (-1)) rfl ?_
  refine fw_ixor C dX8_discard_16 ?_
  refine fw_iand C dX8_discard_17 ?_
  obtain ⟨Y4, e5, h⟩ := lt_some h
  refine fw_put C (ci := 8) (Cn := RX8) (Tc := TX8) (N := 15) (j := 7) (ty := .int) (upd (Y 2 g0 0) 7 ((Y 2 g0 0 7) &&& ((1 <<< (a1 &&& 31)) ^^^ ((-1))))) ly_X8_discard_8 rfl tyX8_ok nmX8 (hG _ (List.mem_of_getElem? (i := 0) rfl)) (of2_0 _) (ce2 T ad _ _) (by decide) (cx_ts C _ fl_X8_discard_56) (fun _ h => h) rfl (by decide +kernel) rfl rfl (Nat.le_of_ble_eq_true rfl) (ce2_put7 T ad _ _ _) dX8_discard_18 ?_
  refine fw_mem ((up_eq _ _ _ _ _ _).symm.trans e5) ?_
  refine fw_aload_n C dX8_discard_21 rfl 1 rfl ?_
  refine fw_get C (ci := 8) (Cn := RX8) (Tc := TX8) (N := 15) (j := 11) ly_X8_discard_8 rfl (hG _ (List.mem_of_getElem? (i := 0) rfl)) (of2_0 _) (ce2 T ad _ _) (by decide) (cx_ts C _ fl_X8_discard_18) (fun _ h => h) (v := .ref (ad 2 g0 3)) rfl dX8_discard_22 ?_
  refine fw_iload_n C dX8_discard_25 rfl 2 rfl ?_
  refine fw_iconst C dX8_discard_26 (v := 0) rfl ?_
  obtain ⟨Y6, e7, h⟩ := lt_some h
  refine fw_iast2 C (hG _ (List.mem_of_getElem? (i := 0) rfl)) (of2_3 _) (ca2_3 T ad _) b1 (Nat.le_of_ble_eq_true rfl) dX8_discard_27 ?_
  refine fw_mem e7 ?_
  refine fw_iload_n C dX8_discard_28 rfl 0 rfl ?_
  exact fw_iret C hrt Y6 (Option.some.inj h) (fun t ht => ht) dX8_discard_29
end
set_option maxRecDepth 100000 in
set_option maxHeartbeats 4000000 in
theorem c_X8_discard {l : Launch} {N0 : Nat} {T : Nat → ClassId} {D : va_G} {gr : List (Nat × Nat)} {ad : Nat → Nat → Nat → Nat} {Y : Mem} {g0 : Nat} {a1 : Int32} {res : Int32 × Mem} (hG : ∀ q ∈ [(2, g0)], q ∈ gr) (h : X8_discard Y g0 a1 = some res) : CI l yX8_discard wsX8_discard (Rm 0) N0 T D gr ad Y [.ref (ad 2 g0 0), .int a1] (fun r Y1 => (r, Y1) = res) :=
  fw_body (by decide +kernel) rfl (Nat.le_of_ble_eq_true rfl) (fun p e s m below meth c C hrt => w_X8_discard C hrt hG  h)
theorem ly_X11_redo_11 : ∀ w ∈ u_ws RX11 TX11 11, w ∈ wsX11_redo := by decide +kernel
theorem fl_X11_redo_67 : Cond.fieldLink RX11 67 "RecipeScheduler" "now" "LRecipeScheduler$Kitchen;" ∈ wsX11_redo := by decide +kernel
theorem fl_X11_redo_77 : Cond.fieldLink RX11 77 "RecipeScheduler" "history" "LRecipeScheduler$History;" ∈ wsX11_redo := by decide +kernel
theorem ly_X11_redo_3 : ∀ w ∈ u_ws RX3 TX3 5, w ∈ wsX11_redo := by decide +kernel
section
variable {p : Program} {l : Launch} {e : Env} {s : State} {m : MethodId} {below : List Frame} {meth : Method} {c : Code} {N0 : Nat} {T : Nat → ClassId} {D : va_G} {gr : List (Nat × Nat)} {ad : Nat → Nat → Nat → Nat}
set_option maxRecDepth 100000 in
set_option maxHeartbeats 4000000 in
theorem w_X11_redo {Y : Mem} {a1 : Int32} (C : Cx p s m [.ref (ad 0 0 0), .int a1].toArray meth c cX11_redo 2 wsX11_redo RX11 N0 T D gr ad) (hrt : meth.sig.returnType = (some .int)) (hG : ∀ q ∈ ([(1, 0), (0, 0), (2, 0), (9, 0)] ++ allG), q ∈ gr) {res : Int32 × Mem} (h : X11_redo Y a1 = some res) : FW p l e (Rm 3) s m [.ref (ad 0 0 0), .int a1].toArray below meth c 2 N0 T D gr ad 0 0 (MQ below (va_Qi (fun r Y1 => (r, Y1) = res) (WB T D gr ad) (fun q => N0 ≤ q)) [.ref (ad 0 0 0), .int a1].toArray s 0 0 (fun q => N0 ≤ q)) Y 0 [(0, .ref (ad 0 0 0)), (1, .int a1)] [] := by
  unfold X11_redo at h
  refine fw_aload_n C dX11_redo_0 rfl 0 rfl ?_
  refine fw_iload_n C dX11_redo_1 rfl 1 rfl ?_
  obtain ⟨_, q2, h⟩ := bd1_some h
  refine fw_callVv C (ci := 11) (Cn := RX11) (Tc := TX11) (N := 11) (As := [.int a1]) (c_X11_requireStep (gac (hG _ (List.mem_of_getElem? (i := 1) rfl)) (gac (hG _ (List.mem_of_getElem? (i := 0) rfl)) (fun q hq => hG q (List.mem_append_right _ hq)))) q2) (cwV 1 (cx_ts C) gX11_redo_X11_requireStep rfl rfl rfl (by decide +kernel) ⟨Nat.le_of_ble_eq_true rfl, Nat.le_of_ble_eq_true rfl⟩) rfl (hG _ (List.mem_of_getElem? (i := 1) rfl)) (of0_0 _) (ce0 T ad _ _) rfl (st := []) rfl (Nat.le_of_ble_eq_true rfl) ⟨Nat.le_refl 0, Nat.le_refl 0⟩ dX11_redo_2 (ppv ?_)
  refine fw_aload_n C dX11_redo_5 rfl 0 rfl ?_
  refine fw_get C (ci := 11) (Cn := RX11) (Tc := TX11) (N := 11) (j := 5) ly_X11_redo_11 rfl (hG _ (List.mem_of_getElem? (i := 1) rfl)) (of0_0 _) (ce0 T ad _ _) (by decide) (cx_ts C _ fl_X11_redo_67) (fun _ h => h) (v := .ref (ad 1 0 0)) rfl dX11_redo_6 ?_
  refine fw_iload_n C dX11_redo_9 rfl 1 rfl ?_
  obtain ⟨r3, q4, h⟩ := bd1_some h
  refine fw_callVi C (ci := 3) (Cn := RX3) (Tc := TX3) (N := 5) (As := [.int a1]) (c_X3_isRedoable (gac (hG _ (List.mem_of_getElem? (i := 0) rfl)) (gac (hG _ (List.mem_of_getElem? (i := 2) rfl)) (fun q hq => hG q (List.mem_append_right _ hq)))) q4) (cwV 1 (cx_ts C) gX11_redo_X3_isRedoable rfl rfl rfl (by decide +kernel) ⟨Nat.le_of_ble_eq_true rfl, Nat.le_of_ble_eq_true rfl⟩) rfl (hG _ (List.mem_of_getElem? (i := 0) rfl)) (of1_0 _) (ce1 T ad _ _) rfl (st := []) rfl (Nat.le_of_ble_eq_true rfl) ⟨Nat.le_refl 0, Nat.le_refl 0⟩ dX11_redo_10 (pp2 ?_)
  refine fw_if_ne C dX11_redo_13 (tgt := 27) rfl (fun c5 => ?_) (fun c5 => ?_)
  · have h := ite_f c5 h
    refine fw_aload_n C dX11_redo_27 rfl 0 rfl ?_
    refine fw_get C (ci := 11) (Cn := RX11) (Tc := TX11) (N := 11) (j := 7) ly_X11_redo_11 rfl (hG _ (List.mem_of_getElem? (i := 1) rfl)) (of0_0 _) (ce0 T ad _ _) (by decide) (cx_ts C _ fl_X11_redo_77) (fun _ h => h) (v := .ref (ad 9 0 0)) rfl dX11_redo_28 ?_
    refine fw_aload_n C dX11_redo_31 rfl 0 rfl ?_
    refine fw_get C (ci := 11) (Cn := RX11) (Tc := TX11) (N := 11) (j := 5) ly_X11_redo_11 rfl (hG _ (List.mem_of_getElem? (i := 1) rfl)) (of0_0 _) (ce0 T ad _ _) (by decide) (cx_ts C _ fl_X11_redo_67) (fun _ h => h) (v := .ref (ad 1 0 0)) rfl dX11_redo_32 ?_
    refine fw_getN C (ci := 3) (Cn := RX3) (Tc := TX3) (N := 5) (j := 1) ly_X11_redo_3 rfl (hG _ (List.mem_of_getElem? (i := 0) rfl)) (of1_0 _) (ce1 T ad _ _) (by decide) (Nst_use (cx_nst C) (w := .fieldLinkNest RX11 139 "RecipeScheduler$Kitchen" "state" "LRecipeScheduler$State;" "RecipeScheduler") 509 (by decide +kernel) rfl) (fun _ h => h) (v := .ref (ad 2 0 0)) rfl dX11_redo_35 ?_
    obtain ⟨Y8, q7, h⟩ := bd1_some h
    refine fw_callVv C (ci := 2) (Cn := RX2) (Tc := TX2) (N := 3) (As := [.ref (ad 2 0 0)]) (c_X2_push (gac (hG _ (List.mem_of_getElem? (i := 3) rfl)) (gac (hG _ (List.mem_of_getElem? (i := 2) rfl)) (fun q hq => hG q (List.mem_append_right _ hq)))) q7) (cwV 1 (cx_ts C) gX11_redo_X2_push rfl rfl rfl (by decide +kernel) ⟨Nat.le_of_ble_eq_true rfl, Nat.le_of_ble_eq_true rfl⟩) rfl (hG _ (List.mem_of_getElem? (i := 3) rfl)) (of9_0 _) (ce9 T ad _ _) rfl (st := []) rfl (Nat.le_of_ble_eq_true rfl) ⟨Nat.le_refl 0, Nat.le_refl 0⟩ dX11_redo_38 (ppv ?_)
    refine fw_aload_n C dX11_redo_41 rfl 0 rfl ?_
    refine fw_get C (ci := 11) (Cn := RX11) (Tc := TX11) (N := 11) (j := 5) ly_X11_redo_11 rfl (hG _ (List.mem_of_getElem? (i := 1) rfl)) (of0_0 _) (ce0 T ad _ _) (by decide) (cx_ts C _ fl_X11_redo_67) (fun _ h => h) (v := .ref (ad 1 0 0)) rfl dX11_redo_42 ?_
    refine fw_getN C (ci := 3) (Cn := RX3) (Tc := TX3) (N := 5) (j := 1) ly_X11_redo_3 rfl (hG _ (List.mem_of_getElem? (i := 0) rfl)) (of1_0 _) (ce1 T ad _ _) (by decide) (Nst_use (cx_nst C) (w := .fieldLinkNest RX11 139 "RecipeScheduler$Kitchen" "state" "LRecipeScheduler$State;" "RecipeScheduler") 509 (by decide +kernel) rfl) (fun _ h => h) (v := .ref (ad 2 0 0)) rfl dX11_redo_45 ?_
    refine fw_iload_n C dX11_redo_48 rfl 1 rfl ?_
    obtain ⟨r9, Y11, q10, h⟩ := bd2_some h
    refine fw_callVi C (ci := 8) (Cn := RX8) (Tc := TX8) (N := 15) (As := [.int a1]) (c_X8_discard (gac (hG _ (List.mem_of_getElem? (i := 2) rfl)) ga0) q10) (cwV 1 (cx_ts C) gX11_redo_X8_discard rfl rfl rfl (by decide +kernel) ⟨Nat.le_of_ble_eq_true rfl, Nat.le_of_ble_eq_true rfl⟩) rfl (hG _ (List.mem_of_getElem? (i := 2) rfl)) (of2_0 _) (ce2 T ad _ _) rfl (st := []) rfl (Nat.le_of_ble_eq_true rfl) ⟨Nat.le_refl 0, Nat.le_refl 0⟩ dX11_redo_49 (ppw ?_)
    exact fw_iret C hrt Y11 (Option.some.inj h) (fun t ht => ht) dX11_redo_52
  · have h := ite_t c5 h
    cases h
end
set_option maxRecDepth 100000 in
set_option maxHeartbeats 4000000 in
theorem c_X11_redo {l : Launch} {N0 : Nat} {T : Nat → ClassId} {D : va_G} {gr : List (Nat × Nat)} {ad : Nat → Nat → Nat → Nat} {Y : Mem} {a1 : Int32} {res : Int32 × Mem} (hG : ∀ q ∈ ([(1, 0), (0, 0), (2, 0), (9, 0)] ++ allG), q ∈ gr) (h : X11_redo Y a1 = some res) : CI l yX11_redo wsX11_redo (Rm 3) N0 T D gr ad Y [.ref (ad 0 0 0), .int a1] (fun r Y1 => (r, Y1) = res) :=
  fw_body (by decide +kernel) rfl (Nat.le_of_ble_eq_true rfl) (fun p e s m below meth c C hrt => w_X11_redo C hrt hG  h)
theorem ly_X11_remaining_11 : ∀ w ∈ u_ws RX11 TX11 11, w ∈ wsX11_remaining := by decide +kernel
theorem fl_X11_remaining_67 : Cond.fieldLink RX11 67 "RecipeScheduler" "now" "LRecipeScheduler$Kitchen;" ∈ wsX11_remaining := by decide +kernel
theorem ly_X11_remaining_3 : ∀ w ∈ u_ws RX3 TX3 5, w ∈ wsX11_remaining := by decide +kernel
theorem ly_X11_remaining_8 : ∀ w ∈ u_ws RX8 TX8 15, w ∈ wsX11_remaining := by decide +kernel
section
variable {p : Program} {l : Launch} {e : Env} {s : State} {m : MethodId} {below : List Frame} {meth : Method} {c : Code} {N0 : Nat} {T : Nat → ClassId} {D : va_G} {gr : List (Nat × Nat)} {ad : Nat → Nat → Nat → Nat}
set_option maxRecDepth 100000 in
set_option maxHeartbeats 4000000 in
theorem w_X11_remaining {Y : Mem} {a1 : Int32} (C : Cx p s m [.ref (ad 0 0 0), .int a1].toArray meth c cX11_remaining 2 wsX11_remaining RX11 N0 T D gr ad) (hrt : meth.sig.returnType = (some .int)) (hG : ∀ q ∈ ([(1, 0), (0, 0), (2, 0)] ++ allG), q ∈ gr) {res : Int32} (h : X11_remaining Y a1 = some res) : FW p l e (Rm 2) s m [.ref (ad 0 0 0), .int a1].toArray below meth c 2 N0 T D gr ad 0 0 (MQ below (va_Qi (fun r Y1 => r = res ∧ Y1 = Y) (WB T D gr ad) (fun q => N0 ≤ q)) [.ref (ad 0 0 0), .int a1].toArray s 0 0 (fun q => N0 ≤ q)) Y 0 [(0, .ref (ad 0 0 0)), (1, .int a1)] [] := by
  unfold X11_remaining at h
  refine fw_aload_n C dX11_remaining_0 rfl 0 rfl ?_
  refine fw_iload_n C dX11_remaining_1 rfl 1 rfl ?_
  obtain ⟨_, q2, h⟩ := bd1_some h
  refine fw_callVv C (ci := 11) (Cn := RX11) (Tc := TX11) (N := 11) (As := [.int a1]) (c_X11_requireStep (gac (hG _ (List.mem_of_getElem? (i := 1) rfl)) (gac (hG _ (List.mem_of_getElem? (i := 0) rfl)) (fun q hq => hG q (List.mem_append_right _ hq)))) q2) (cwV 1 (cx_ts C) gX11_remaining_X11_requireStep rfl rfl rfl (by decide +kernel) ⟨Nat.le_of_ble_eq_true rfl, Nat.le_of_ble_eq_true rfl⟩) rfl (hG _ (List.mem_of_getElem? (i := 1) rfl)) (of0_0 _) (ce0 T ad _ _) rfl (st := []) rfl (Nat.le_of_ble_eq_true rfl) ⟨Nat.le_refl 0, Nat.le_refl 0⟩ dX11_remaining_2 (ppv ?_)
  refine fw_aload_n C dX11_remaining_5 rfl 0 rfl ?_
  refine fw_get C (ci := 11) (Cn := RX11) (Tc := TX11) (N := 11) (j := 5) ly_X11_remaining_11 rfl (hG _ (List.mem_of_getElem? (i := 1) rfl)) (of0_0 _) (ce0 T ad _ _) (by decide) (cx_ts C _ fl_X11_remaining_67) (fun _ h => h) (v := .ref (ad 1 0 0)) rfl dX11_remaining_6 ?_
  refine fw_getN C (ci := 3) (Cn := RX3) (Tc := TX3) (N := 5) (j := 1) ly_X11_remaining_3 rfl (hG _ (List.mem_of_getElem? (i := 0) rfl)) (of1_0 _) (ce1 T ad _ _) (by decide) (Nst_use (cx_nst C) (w := .fieldLinkNest RX11 139 "RecipeScheduler$Kitchen" "state" "LRecipeScheduler$State;" "RecipeScheduler") 509 (by decide +kernel) rfl) (fun _ h => h) (v := .ref (ad 2 0 0)) rfl dX11_remaining_9 ?_
  refine fw_getN C (ci := 8) (Cn := RX8) (Tc := TX8) (N := 15) (j := 10) ly_X11_remaining_8 rfl (hG _ (List.mem_of_getElem? (i := 2) rfl)) (of2_0 _) (ce2 T ad _ _) (by decide) (Nst_use (cx_nst C) (w := .fieldLinkNest RX11 255 "RecipeScheduler$State" "remaining" "[I" "RecipeScheduler") 456 (by decide +kernel) rfl) (fun _ h => h) (v := .ref (ad 2 0 2)) rfl dX11_remaining_12 ?_
  refine fw_iload_n C dX11_remaining_15 rfl 1 rfl ?_
  obtain ⟨b3, h⟩ := gd_some h
  refine fw_iald2 C (hG _ (List.mem_of_getElem? (i := 2) rfl)) (of2_2 _) (ca2_2 T ad _ _) b3 (Nat.le_of_ble_eq_true rfl) dX11_remaining_16 ?_
  exact fw_iret C hrt Y ⟨Option.some.inj h, rfl⟩ (fun t ht => ht) dX11_remaining_17
end
set_option maxRecDepth 100000 in
set_option maxHeartbeats 4000000 in
theorem c_X11_remaining {l : Launch} {N0 : Nat} {T : Nat → ClassId} {D : va_G} {gr : List (Nat × Nat)} {ad : Nat → Nat → Nat → Nat} {Y : Mem} {a1 : Int32} {res : Int32} (hG : ∀ q ∈ ([(1, 0), (0, 0), (2, 0)] ++ allG), q ∈ gr) (h : X11_remaining Y a1 = some res) : CI l yX11_remaining wsX11_remaining (Rm 2) N0 T D gr ad Y [.ref (ad 0 0 0), .int a1] (fun r Y1 => r = res ∧ Y1 = Y) :=
  fw_body (by decide +kernel) rfl (Nat.le_of_ble_eq_true rfl) (fun p e s m below meth c C hrt => w_X11_remaining C hrt hG  h)
section
variable {p : Program} {l : Launch} {e : Env} {s : State} {m : MethodId} {below : List Frame} {meth : Method} {c : Code} {N0 : Nat} {T : Nat → ClassId} {D : va_G} {gr : List (Nat × Nat)} {ad : Nat → Nat → Nat → Nat}
set_option maxRecDepth 100000 in
set_option maxHeartbeats 4000000 in
theorem w_X11_requireCooks {Y : Mem} {a1 : Int32} (C : Cx p s m [.ref (ad 0 0 0), .int a1].toArray meth c cX11_requireCooks 2 wsX11_requireCooks RX11 N0 T D gr ad) (hrt : meth.sig.returnType = none) (hG : ∀ q ∈ [(0, 0)], q ∈ gr) {res : Unit} (h : X11_requireCooks Y a1 = some res) : FW p l e (Rm 2) s m [.ref (ad 0 0 0), .int a1].toArray below meth c 2 N0 T D gr ad 0 0 (MQ below (va_Qv (fun Y1 => Y1 = Y) (WB T D gr ad) (fun q => N0 ≤ q)) [.ref (ad 0 0 0), .int a1].toArray s 0 0 (fun q => N0 ≤ q)) Y 0 [(0, .ref (ad 0 0 0)), (1, .int a1)] [] := by
  unfold X11_requireCooks at h
  refine fw_aload_n C dX11_requireCooks_0 rfl 0 rfl ?_
  refine fw_iload_n C dX11_requireCooks_1 rfl 1 rfl ?_
  obtain ⟨r1, q2, h⟩ := bd1_some h
  refine fw_callVi C (ci := 11) (Cn := RX11) (Tc := TX11) (N := 11) (As := [.int a1]) (c_X11_isCookCount ga0 q2) (cwV 1 (cx_ts C) gX11_requireCooks_X11_isCookCount rfl rfl rfl (by decide +kernel) ⟨Nat.le_of_ble_eq_true rfl, Nat.le_of_ble_eq_true rfl⟩) rfl (hG _ (List.mem_of_getElem? (i := 0) rfl)) (of0_0 _) (ce0 T ad _ _) rfl (st := []) rfl (Nat.le_of_ble_eq_true rfl) ⟨Nat.le_refl 0, Nat.le_refl 0⟩ dX11_requireCooks_2 (pp2 ?_)
  refine fw_if_ne C dX11_requireCooks_5 (tgt := 19) rfl (fun c3 => ?_) (fun c3 => ?_)
  · have h := ite_f c3 h
    exact fw_vret C hrt Y rfl (fun t ht => ht) dX11_requireCooks_19
  · have h := ite_t c3 h
    cases h
end
set_option maxRecDepth 100000 in
set_option maxHeartbeats 4000000 in
theorem c_X11_requireCooks {l : Launch} {N0 : Nat} {T : Nat → ClassId} {D : va_G} {gr : List (Nat × Nat)} {ad : Nat → Nat → Nat → Nat} {Y : Mem} {a1 : Int32} {res : Unit} (hG : ∀ q ∈ [(0, 0)], q ∈ gr) (h : X11_requireCooks Y a1 = some res) : CV l yX11_requireCooks wsX11_requireCooks (Rm 2) N0 T D gr ad Y [.ref (ad 0 0 0), .int a1] (fun Y1 => Y1 = Y) :=
  fw_body (by decide +kernel) rfl (Nat.le_of_ble_eq_true rfl) (fun p e s m below meth c C hrt => w_X11_requireCooks C hrt hG  h)
theorem ly_X11_salt_11 : ∀ w ∈ u_ws RX11 TX11 11, w ∈ wsX11_salt := by decide +kernel
theorem fl_X11_salt_67 : Cond.fieldLink RX11 67 "RecipeScheduler" "now" "LRecipeScheduler$Kitchen;" ∈ wsX11_salt := by decide +kernel
theorem ly_X11_salt_3 : ∀ w ∈ u_ws RX3 TX3 5, w ∈ wsX11_salt := by decide +kernel
theorem ly_X11_salt_8 : ∀ w ∈ u_ws RX8 TX8 15, w ∈ wsX11_salt := by decide +kernel
section
variable {p : Program} {l : Launch} {e : Env} {s : State} {m : MethodId} {below : List Frame} {meth : Method} {c : Code} {N0 : Nat} {T : Nat → ClassId} {D : va_G} {gr : List (Nat × Nat)} {ad : Nat → Nat → Nat → Nat}
set_option maxRecDepth 100000 in
set_option maxHeartbeats 4000000 in
theorem w_X11_salt {Y : Mem} (C : Cx p s m [.ref (ad 0 0 0)].toArray meth c cX11_salt 1 wsX11_salt RX11 N0 T D gr ad) (hrt : meth.sig.returnType = (some .int)) (hG : ∀ q ∈ [(0, 0), (1, 0), (2, 0)], q ∈ gr) {res : Int32} (h : X11_salt Y = some res) : FW p l e (Rm 0) s m [.ref (ad 0 0 0)].toArray below meth c 1 N0 T D gr ad 0 0 (MQ below (va_Qi (fun r Y1 => r = res ∧ Y1 = Y) (WB T D gr ad) (fun q => N0 ≤ q)) [.ref (ad 0 0 0)].toArray s 0 0 (fun q => N0 ≤ q)) Y 0 [(0, .ref (ad 0 0 0))] [] := by
  unfold X11_salt at h
  refine fw_aload_n C dX11_salt_0 rfl 0 rfl ?_
  refine fw_get C (ci := 11) (Cn := RX11) (Tc := TX11) (N := 11) (j := 5) ly_X11_salt_11 rfl (hG _ (List.mem_of_getElem? (i := 0) rfl)) (of0_0 _) (ce0 T ad _ _) (by decide) (cx_ts C _ fl_X11_salt_67) (fun _ h => h) (v := .ref (ad 1 0 0)) rfl dX11_salt_1 ?_
  refine fw_getN C (ci := 3) (Cn := RX3) (Tc := TX3) (N := 5) (j := 1) ly_X11_salt_3 rfl (hG _ (List.mem_of_getElem? (i := 1) rfl)) (of1_0 _) (ce1 T ad _ _) (by decide) (Nst_use (cx_nst C) (w := .fieldLinkNest RX11 139 "RecipeScheduler$Kitchen" "state" "LRecipeScheduler$State;" "RecipeScheduler") 509 (by decide +kernel) rfl) (fun _ h => h) (v := .ref (ad 2 0 0)) rfl dX11_salt_4 ?_
  refine fw_getN C (ci := 8) (Cn := RX8) (Tc := TX8) (N := 15) (j := 2) ly_X11_salt_8 rfl (hG _ (List.mem_of_getElem? (i := 2) rfl)) (of2_0 _) (ce2 T ad _ _) (by decide) (Nst_use (cx_nst C) (w := .fieldLinkNest RX11 149 "RecipeScheduler$State" "salt" "I" "RecipeScheduler") 433 (by decide +kernel) rfl) (fun _ h => h) (v := .int (Y 2 0 0 2)) rfl dX11_salt_7 ?_
  exact fw_iret C hrt Y ⟨Option.some.inj h, rfl⟩ (fun t ht => ht) dX11_salt_10
end
set_option maxRecDepth 100000 in
set_option maxHeartbeats 4000000 in
theorem c_X11_salt {l : Launch} {N0 : Nat} {T : Nat → ClassId} {D : va_G} {gr : List (Nat × Nat)} {ad : Nat → Nat → Nat → Nat} {Y : Mem} {res : Int32} (hG : ∀ q ∈ [(0, 0), (1, 0), (2, 0)], q ∈ gr) (h : X11_salt Y = some res) : CI l yX11_salt wsX11_salt (Rm 0) N0 T D gr ad Y [.ref (ad 0 0 0)] (fun r Y1 => r = res ∧ Y1 = Y) :=
  fw_body (by decide +kernel) rfl (Nat.le_of_ble_eq_true rfl) (fun p e s m below meth c C hrt => w_X11_salt C hrt hG  h)
theorem ly_X3_servingObstacle_3 : ∀ w ∈ u_ws RX3 TX3 5, w ∈ wsX3_servingObstacle := by decide +kernel
theorem fl_X3_servingObstacle_12 : Cond.fieldLink RX3 12 "RecipeScheduler$Kitchen" "state" "LRecipeScheduler$State;" ∈ wsX3_servingObstacle := by decide +kernel
theorem ly_X3_servingObstacle_8 : ∀ w ∈ u_ws RX8 TX8 15, w ∈ wsX3_servingObstacle := by decide +kernel
theorem fl_X3_servingObstacle_28 : Cond.fieldLink RX3 28 "RecipeScheduler$Kitchen" "recipe" "LRecipeScheduler$Recipe;" ∈ wsX3_servingObstacle := by decide +kernel
theorem ly_X3_servingObstacle_5 : ∀ w ∈ u_ws RX5 TX5 17, w ∈ wsX3_servingObstacle := by decide +kernel
section
variable {p : Program} {l : Launch} {e : Env} {s : State} {m : MethodId} {below : List Frame} {meth : Method} {c : Code} {N0 : Nat} {T : Nat → ClassId} {D : va_G} {gr : List (Nat × Nat)} {ad : Nat → Nat → Nat → Nat}
set_option maxRecDepth 100000 in
set_option maxHeartbeats 4000000 in
theorem w_X3_servingObstacle {Y : Mem} {g0 : Nat} (C : Cx p s m [.ref (ad 1 g0 0)].toArray meth c cX3_servingObstacle 1 wsX3_servingObstacle RX3 N0 T D gr ad) (hrt : meth.sig.returnType = (some .int)) (hG : ∀ q ∈ ([(1, g0), (2, g0)] ++ allG), q ∈ gr) {res : Int32} (h : X3_servingObstacle Y g0 = some res) : FW p l e (Rm 2) s m [.ref (ad 1 g0 0)].toArray below meth c 1 N0 T D gr ad 0 0 (MQ below (va_Qi (fun r Y1 => r = res ∧ Y1 = Y) (WB T D gr ad) (fun q => N0 ≤ q)) [.ref (ad 1 g0 0)].toArray s 0 0 (fun q => N0 ≤ q)) Y 0 [(0, .ref (ad 1 g0 0))] [] := by
  unfold X3_servingObstacle at h
  refine fw_aload_n C dX3_servingObstacle_0 rfl 0 rfl ?_
  refine fw_get C (ci := 3) (Cn := RX3) (Tc := TX3) (N := 5) (j := 1) ly_X3_servingObstacle_3 rfl (hG _ (List.mem_of_getElem? (i := 0) rfl)) (of1_0 _) (ce1 T ad _ _) (by decide) (cx_ts C _ fl_X3_servingObstacle_12) (fun _ h => h) (v := .ref (ad 2 g0 0)) rfl dX3_servingObstacle_1 ?_
  refine fw_getN C (ci := 8) (Cn := RX8) (Tc := TX8) (N := 15) (j := 5) ly_X3_servingObstacle_8 rfl (hG _ (List.mem_of_getElem? (i := 1) rfl)) (of2_0 _) (ce2 T ad _ _) (by decide) (Nst_use (cx_nst C) (w := .fieldLinkNest RX3 59 "RecipeScheduler$State" "served" "Z" "RecipeScheduler") 441 (by decide +kernel) rfl) (fun _ h => h) (v := .int (Y 2 g0 0 5)) rfl dX3_servingObstacle_4 ?_
  refine fw_if_eq C dX3_servingObstacle_7 (tgt := 12) rfl (fun c1 => ?_) (fun c1 => ?_)
  · have h := ite_t c1 h
    refine fw_aload_n C dX3_servingObstacle_12 rfl 0 rfl ?_
    refine fw_get C (ci := 3) (Cn := RX3) (Tc := TX3) (N := 5) (j := 1) ly_X3_servingObstacle_3 rfl (hG _ (List.mem_of_getElem? (i := 0) rfl)) (of1_0 _) (ce1 T ad _ _) (by decide) (cx_ts C _ fl_X3_servingObstacle_12) (fun _ h => h) (v := .ref (ad 2 g0 0)) rfl dX3_servingObstacle_13 ?_
    refine fw_getN C (ci := 8) (Cn := RX8) (Tc := TX8) (N := 15) (j := 8) ly_X3_servingObstacle_8 rfl (hG _ (List.mem_of_getElem? (i := 1) rfl)) (of2_0 _) (ce2 T ad _ _) (by decide) (Nst_use (cx_nst C) (w := .fieldLinkNest RX3 197 "RecipeScheduler$State" "burnt" "I" "RecipeScheduler") 450 (by decide +kernel) rfl) (fun _ h => h) (v := .int (Y 2 g0 0 8)) rfl dX3_servingObstacle_16 ?_
    refine fw_if_eq C dX3_servingObstacle_19 (tgt := 24) rfl (fun c2 => ?_) (fun c2 => ?_)
    · have h := ite_t c2 h
      refine fw_aload_n C dX3_servingObstacle_24 rfl 0 rfl ?_
      refine fw_get C (ci := 3) (Cn := RX3) (Tc := TX3) (N := 5) (j := 1) ly_X3_servingObstacle_3 rfl (hG _ (List.mem_of_getElem? (i := 0) rfl)) (of1_0 _) (ce1 T ad _ _) (by decide) (cx_ts C _ fl_X3_servingObstacle_12) (fun _ h => h) (v := .ref (ad 2 g0 0)) rfl dX3_servingObstacle_25 ?_
      refine fw_getN C (ci := 8) (Cn := RX8) (Tc := TX8) (N := 15) (j := 7) ly_X3_servingObstacle_8 rfl (hG _ (List.mem_of_getElem? (i := 1) rfl)) (of2_0 _) (ce2 T ad _ _) (by decide) (Nst_use (cx_nst C) (w := .fieldLinkNest RX3 47 "RecipeScheduler$State" "done" "I" "RecipeScheduler") 447 (by decide +kernel) rfl) (fun _ h => h) (v := .int (Y 2 g0 0 7)) rfl dX3_servingObstacle_28 ?_
      refine fw_aload_n C dX3_servingObstacle_31 rfl 0 rfl ?_
      refine fw_get C (ci := 3) (Cn := RX3) (Tc := TX3) (N := 5) (j := 0) ly_X3_servingObstacle_3 rfl (hG _ (List.mem_of_getElem? (i := 0) rfl)) (of1_0 _) (ce1 T ad _ _) (by decide) (cx_ts C _ fl_X3_servingObstacle_28) (fun _ h => h) (v := .ref (ad 3 ((Y 1 g0 0 0).toNatClampNeg) 0)) rfl dX3_servingObstacle_32 ?_
      obtain ⟨b3, h⟩ := gd_some h
      have b3 := of_decide_eq_true b3
      obtain ⟨b4, h⟩ := gd_some h
      have b4 := of_decide_eq_true b4
      obtain ⟨r5, q6, h⟩ := bd1_some h
      refine fw_callVi C (ci := 5) (Cn := RX5) (Tc := TX5) (N := 17) (As := []) (c_X5_allSteps (gac ((fun q hq => hG q (List.mem_append_right _ hq)) _ (allG_3 b4)) (gac ((fun q hq => hG q (List.mem_append_right _ hq)) _ (allG_4b b3)) ga0)) q6) (cwV 0 (cx_ts C) gX3_servingObstacle_X5_allSteps rfl rfl rfl (by decide +kernel) ⟨Nat.le_of_ble_eq_true rfl, Nat.le_of_ble_eq_true rfl⟩) rfl ((fun q hq => hG q (List.mem_append_right _ hq)) _ (allG_3 b4)) (of3_0 _) (ce3 T ad _ _) rfl (st := [.int (Y 2 g0 0 7)]) rfl (Nat.le_of_ble_eq_true rfl) ⟨Nat.le_refl 0, Nat.le_refl 0⟩ dX3_servingObstacle_35 (pp2 ?_)
      refine fw_icmp_eq C dX3_servingObstacle_38 (tgt := 43) rfl (fun c7 => ?_) (fun c7 => ?_)
      · have h := ite_t c7 h
        refine fw_aload_n C dX3_servingObstacle_43 rfl 0 rfl ?_
        obtain ⟨r8, q9, h⟩ := bd1_some h
        refine fw_callVi C (ci := 3) (Cn := RX3) (Tc := TX3) (N := 5) (As := []) (c_X3_dishTaste (gac (hG _ (List.mem_of_getElem? (i := 0) rfl)) (gac (hG _ (List.mem_of_getElem? (i := 1) rfl)) (fun q hq => hG q (List.mem_append_right _ hq)))) q9) (cwV 0 (cx_ts C) gX3_servingObstacle_X3_dishTaste rfl rfl rfl (by decide +kernel) ⟨Nat.le_of_ble_eq_true rfl, Nat.le_of_ble_eq_true rfl⟩) rfl (hG _ (List.mem_of_getElem? (i := 0) rfl)) (of1_0 _) (ce1 T ad _ _) rfl (st := []) rfl (Nat.le_of_ble_eq_true rfl) ⟨Nat.le_refl 0, Nat.le_refl 0⟩ dX3_servingObstacle_44 (pp2 ?_)
        refine fw_aload_n C dX3_servingObstacle_47 rfl 0 rfl ?_
        refine fw_get C (ci := 3) (Cn := RX3) (Tc := TX3) (N := 5) (j := 0) ly_X3_servingObstacle_3 rfl (hG _ (List.mem_of_getElem? (i := 0) rfl)) (of1_0 _) (ce1 T ad _ _) (by decide) (cx_ts C _ fl_X3_servingObstacle_28) (fun _ h => h) (v := .ref (ad 3 ((Y 1 g0 0 0).toNatClampNeg) 0)) rfl dX3_servingObstacle_48 ?_
        refine fw_getN C (ci := 5) (Cn := RX5) (Tc := TX5) (N := 17) (j := 2) ly_X3_servingObstacle_5 rfl ((fun q hq => hG q (List.mem_append_right _ hq)) _ (allG_3 b4)) (of3_0 _) (ce3 T ad _ _) (by decide) (Nst_use (cx_nst C) (w := .fieldLinkNest RX3 203 "RecipeScheduler$Recipe" "lowest" "I" "RecipeScheduler") 130 (by decide +kernel) rfl) (fun _ h => h) (v := .int (Y 3 ((Y 1 g0 0 0).toNatClampNeg) 0 2)) rfl dX3_servingObstacle_51 ?_
        refine fw_icmp_ge C dX3_servingObstacle_54 (tgt := 59) rfl (fun c10 => ?_) (fun c10 => ?_)
        · have h := ite_t c10 h
          refine fw_aload_n C dX3_servingObstacle_59 rfl 0 rfl ?_
          obtain ⟨r11, q12, h⟩ := bd1_some h
          refine fw_callVi C (ci := 3) (Cn := RX3) (Tc := TX3) (N := 5) (As := []) (c_X3_dishTaste (gac (hG _ (List.mem_of_getElem? (i := 0) rfl)) (gac (hG _ (List.mem_of_getElem? (i := 1) rfl)) (fun q hq => hG q (List.mem_append_right _ hq)))) q12) (cwV 0 (cx_ts C) gX3_servingObstacle_X3_dishTaste rfl rfl rfl (by decide +kernel) ⟨Nat.le_of_ble_eq_true rfl, Nat.le_of_ble_eq_true rfl⟩) rfl (hG _ (List.mem_of_getElem? (i := 0) rfl)) (of1_0 _) (ce1 T ad _ _) rfl (st := []) rfl (Nat.le_of_ble_eq_true rfl) ⟨Nat.le_refl 0, Nat.le_refl 0⟩ dX3_servingObstacle_60 (pp2 ?_)
          refine fw_aload_n C dX3_servingObstacle_63 rfl 0 rfl ?_
          refine fw_get C (ci := 3) (Cn := RX3) (Tc := TX3) (N := 5) (j := 0) ly_X3_servingObstacle_3 rfl (hG _ (List.mem_of_getElem? (i := 0) rfl)) (of1_0 _) (ce1 T ad _ _) (by decide) (cx_ts C _ fl_X3_servingObstacle_28) (fun _ h => h) (v := .ref (ad 3 ((Y 1 g0 0 0).toNatClampNeg) 0)) rfl dX3_servingObstacle_64 ?_
          refine fw_getN C (ci := 5) (Cn := RX5) (Tc := TX5) (N := 17) (j := 3) ly_X3_servingObstacle_5 rfl ((fun q hq => hG q (List.mem_append_right _ hq)) _ (allG_3 b4)) (of3_0 _) (ce3 T ad _ _) (by decide) (Nst_use (cx_nst C) (w := .fieldLinkNest RX3 206 "RecipeScheduler$Recipe" "highest" "I" "RecipeScheduler") 132 (by decide +kernel) rfl) (fun _ h => h) (v := .int (Y 3 ((Y 1 g0 0 0).toNatClampNeg) 0 3)) rfl dX3_servingObstacle_67 ?_
          refine fw_icmp_le C dX3_servingObstacle_70 (tgt := 77) rfl (fun c13 => ?_) (fun c13 => ?_)
          · have h := ite_t c13 h
            refine fw_iconst C dX3_servingObstacle_77 (v := 0) rfl ?_
            exact fw_iret C hrt Y ⟨Option.some.inj h, rfl⟩ (fun t ht => ht) dX3_servingObstacle_78
          · have h := ite_f c13 h
            refine fw_iconst C dX3_servingObstacle_73 (v := 5) rfl ?_
            refine fw_goto C dX3_servingObstacle_74 (tgt := 78) rfl ?_
            exact fw_iret C hrt Y ⟨Option.some.inj h, rfl⟩ (fun t ht => ht) dX3_servingObstacle_78
        · have h := ite_f c10 h
          refine fw_iconst C dX3_servingObstacle_57 (v := 4) rfl ?_
          exact fw_iret C hrt Y ⟨Option.some.inj h, rfl⟩ (fun t ht => ht) dX3_servingObstacle_58
      · have h := ite_f c7 h
        refine fw_iconst C dX3_servingObstacle_41 (v := 3) rfl ?_
        exact fw_iret C hrt Y ⟨Option.some.inj h, rfl⟩ (fun t ht => ht) dX3_servingObstacle_42
    · have h := ite_f c2 h
      refine fw_iconst C dX3_servingObstacle_22 (v := 2) rfl ?_
      exact fw_iret C hrt Y ⟨Option.some.inj h, rfl⟩ (fun t ht => ht) dX3_servingObstacle_23
  · have h := ite_f c1 h
    refine fw_iconst C dX3_servingObstacle_10 (v := 1) rfl ?_
    exact fw_iret C hrt Y ⟨Option.some.inj h, rfl⟩ (fun t ht => ht) dX3_servingObstacle_11
end
set_option maxRecDepth 100000 in
set_option maxHeartbeats 4000000 in
theorem c_X3_servingObstacle {l : Launch} {N0 : Nat} {T : Nat → ClassId} {D : va_G} {gr : List (Nat × Nat)} {ad : Nat → Nat → Nat → Nat} {Y : Mem} {g0 : Nat} {res : Int32} (hG : ∀ q ∈ ([(1, g0), (2, g0)] ++ allG), q ∈ gr) (h : X3_servingObstacle Y g0 = some res) : CI l yX3_servingObstacle wsX3_servingObstacle (Rm 2) N0 T D gr ad Y [.ref (ad 1 g0 0)] (fun r Y1 => r = res ∧ Y1 = Y) :=
  fw_body (by decide +kernel) rfl (Nat.le_of_ble_eq_true rfl) (fun p e s m below meth c C hrt => w_X3_servingObstacle C hrt hG  h)
theorem ly_X11_serve_11 : ∀ w ∈ u_ws RX11 TX11 11, w ∈ wsX11_serve := by decide +kernel
theorem fl_X11_serve_67 : Cond.fieldLink RX11 67 "RecipeScheduler" "now" "LRecipeScheduler$Kitchen;" ∈ wsX11_serve := by decide +kernel
theorem fl_X11_serve_77 : Cond.fieldLink RX11 77 "RecipeScheduler" "history" "LRecipeScheduler$History;" ∈ wsX11_serve := by decide +kernel
theorem ly_X11_serve_3 : ∀ w ∈ u_ws RX3 TX3 5, w ∈ wsX11_serve := by decide +kernel
theorem ly_X11_serve_8 : ∀ w ∈ u_ws RX8 TX8 15, w ∈ wsX11_serve := by decide +kernel
section
variable {p : Program} {l : Launch} {e : Env} {s : State} {m : MethodId} {below : List Frame} {meth : Method} {c : Code} {N0 : Nat} {T : Nat → ClassId} {D : va_G} {gr : List (Nat × Nat)} {ad : Nat → Nat → Nat → Nat}
set_option maxRecDepth 100000 in
set_option maxHeartbeats 4000000 in
theorem w_X11_serve {Y : Mem} (C : Cx p s m [.ref (ad 0 0 0)].toArray meth c cX11_serve 1 wsX11_serve RX11 N0 T D gr ad) (hrt : meth.sig.returnType = (some .int)) (hG : ∀ q ∈ ([(0, 0), (2, 0), (1, 0), (9, 0)] ++ allG), q ∈ gr) {res : Int32 × Mem} (h : X11_serve Y = some res) : FW p l e (Rm 3) s m [.ref (ad 0 0 0)].toArray below meth c 1 N0 T D gr ad 0 0 (MQ below (va_Qi (fun r Y1 => (r, Y1) = res) (WB T D gr ad) (fun q => N0 ≤ q)) [.ref (ad 0 0 0)].toArray s 0 0 (fun q => N0 ≤ q)) Y 0 [(0, .ref (ad 0 0 0))] [] := by
  unfold X11_serve at h
  refine fw_aload_n C dX11_serve_0 rfl 0 rfl ?_
  refine fw_get C (ci := 11) (Cn := RX11) (Tc := TX11) (N := 11) (j := 5) ly_X11_serve_11 rfl (hG _ (List.mem_of_getElem? (i := 0) rfl)) (of0_0 _) (ce0 T ad _ _) (by decide) (cx_ts C _ fl_X11_serve_67) (fun _ h => h) (v := .ref (ad 1 0 0)) rfl dX11_serve_1 ?_
  obtain ⟨r1, q2, h⟩ := bd1_some h
  refine fw_callVi C (ci := 3) (Cn := RX3) (Tc := TX3) (N := 5) (As := []) (c_X3_servingObstacle (gac (hG _ (List.mem_of_getElem? (i := 2) rfl)) (gac (hG _ (List.mem_of_getElem? (i := 1) rfl)) (fun q hq => hG q (List.mem_append_right _ hq)))) q2) (cwV 0 (cx_ts C) gX11_serve_X3_servingObstacle rfl rfl rfl (by decide +kernel) ⟨Nat.le_of_ble_eq_true rfl, Nat.le_of_ble_eq_true rfl⟩) rfl (hG _ (List.mem_of_getElem? (i := 2) rfl)) (of1_0 _) (ce1 T ad _ _) rfl (st := []) rfl (Nat.le_of_ble_eq_true rfl) ⟨Nat.le_refl 0, Nat.le_refl 0⟩ dX11_serve_4 (pp2 ?_)
  refine fw_if_eq C dX11_serve_7 (tgt := 21) rfl (fun c3 => ?_) (fun c3 => ?_)
  · have h := ite_t c3 h
    refine fw_aload_n C dX11_serve_21 rfl 0 rfl ?_
    refine fw_get C (ci := 11) (Cn := RX11) (Tc := TX11) (N := 11) (j := 7) ly_X11_serve_11 rfl (hG _ (List.mem_of_getElem? (i := 0) rfl)) (of0_0 _) (ce0 T ad _ _) (by decide) (cx_ts C _ fl_X11_serve_77) (fun _ h => h) (v := .ref (ad 9 0 0)) rfl dX11_serve_22 ?_
    refine fw_aload_n C dX11_serve_25 rfl 0 rfl ?_
    refine fw_get C (ci := 11) (Cn := RX11) (Tc := TX11) (N := 11) (j := 5) ly_X11_serve_11 rfl (hG _ (List.mem_of_getElem? (i := 0) rfl)) (of0_0 _) (ce0 T ad _ _) (by decide) (cx_ts C _ fl_X11_serve_67) (fun _ h => h) (v := .ref (ad 1 0 0)) rfl dX11_serve_26 ?_
    refine fw_getN C (ci := 3) (Cn := RX3) (Tc := TX3) (N := 5) (j := 1) ly_X11_serve_3 rfl (hG _ (List.mem_of_getElem? (i := 2) rfl)) (of1_0 _) (ce1 T ad _ _) (by decide) (Nst_use (cx_nst C) (w := .fieldLinkNest RX11 139 "RecipeScheduler$Kitchen" "state" "LRecipeScheduler$State;" "RecipeScheduler") 509 (by decide +kernel) rfl) (fun _ h => h) (v := .ref (ad 2 0 0)) rfl dX11_serve_29 ?_
    obtain ⟨Y6, q5, h⟩ := bd1_some h
    refine fw_callVv C (ci := 2) (Cn := RX2) (Tc := TX2) (N := 3) (As := [.ref (ad 2 0 0)]) (c_X2_push (gac (hG _ (List.mem_of_getElem? (i := 3) rfl)) (gac (hG _ (List.mem_of_getElem? (i := 1) rfl)) (fun q hq => hG q (List.mem_append_right _ hq)))) q5) (cwV 1 (cx_ts C) gX11_serve_X2_push rfl rfl rfl (by decide +kernel) ⟨Nat.le_of_ble_eq_true rfl, Nat.le_of_ble_eq_true rfl⟩) rfl (hG _ (List.mem_of_getElem? (i := 3) rfl)) (of9_0 _) (ce9 T ad _ _) rfl (st := []) rfl (Nat.le_of_ble_eq_true rfl) ⟨Nat.le_refl 0, Nat.le_refl 0⟩ dX11_serve_32 (ppv ?_)
    refine fw_aload_n C dX11_serve_35 rfl 0 rfl ?_
    refine fw_get C (ci := 11) (Cn := RX11) (Tc := TX11) (N := 11) (j := 5) ly_X11_serve_11 rfl (hG _ (List.mem_of_getElem? (i := 0) rfl)) (of0_0 _) (ce0 T ad _ _) (by decide) (cx_ts C _ fl_X11_serve_67) (fun _ h => h) (v := .ref (ad 1 0 0)) rfl dX11_serve_36 ?_
    refine fw_getN C (ci := 3) (Cn := RX3) (Tc := TX3) (N := 5) (j := 1) ly_X11_serve_3 rfl (hG _ (List.mem_of_getElem? (i := 2) rfl)) (of1_0 _) (ce1 T ad _ _) (by decide) (Nst_use (cx_nst C) (w := .fieldLinkNest RX11 139 "RecipeScheduler$Kitchen" "state" "LRecipeScheduler$State;" "RecipeScheduler") 509 (by decide +kernel) rfl) (fun _ h => h) (v := .ref (ad 2 0 0)) rfl dX11_serve_39 ?_
    refine fw_iconst C dX11_serve_42 (v := 1) rfl ?_
    obtain ⟨Y7, e8, h⟩ := lt_some h
    refine fw_putN C (ci := 8) (Cn := RX8) (Tc := TX8) (N := 15) (j := 5) (ty := .boolean) (upd (Y6 2 0 0) 5 1) ly_X11_serve_8 rfl tyX8_ok nmX8 (hG _ (List.mem_of_getElem? (i := 1) rfl)) (of2_0 _) (ce2 T ad _ _) (by decide) (Nst_use (cx_nst C) (w := .fieldLinkNest RX11 350 "RecipeScheduler$State" "served" "Z" "RecipeScheduler") 442 (by decide +kernel) rfl) (fun _ h => h) rfl (by decide +kernel) rfl rfl (Nat.le_of_ble_eq_true rfl) (ce2_put5 T ad _ _ _) dX11_serve_43 ?_
    refine fw_mem ((up_eq _ _ _ _ _ _).symm.trans e8) ?_
    refine fw_aload_n C dX11_serve_46 rfl 0 rfl ?_
    refine fw_get C (ci := 11) (Cn := RX11) (Tc := TX11) (N := 11) (j := 5) ly_X11_serve_11 rfl (hG _ (List.mem_of_getElem? (i := 0) rfl)) (of0_0 _) (ce0 T ad _ _) (by decide) (cx_ts C _ fl_X11_serve_67) (fun _ h => h) (v := .ref (ad 1 0 0)) rfl dX11_serve_47 ?_
    obtain ⟨r9, q10, h⟩ := bd1_some h
    refine fw_callVi C (ci := 3) (Cn := RX3) (Tc := TX3) (N := 5) (As := []) (c_X3_dishTaste (gac (hG _ (List.mem_of_getElem? (i := 2) rfl)) (gac (hG _ (List.mem_of_getElem? (i := 1) rfl)) (fun q hq => hG q (List.mem_append_right _ hq)))) q10) (cwV 0 (cx_ts C) gX11_serve_X3_dishTaste rfl rfl rfl (by decide +kernel) ⟨Nat.le_of_ble_eq_true rfl, Nat.le_of_ble_eq_true rfl⟩) rfl (hG _ (List.mem_of_getElem? (i := 2) rfl)) (of1_0 _) (ce1 T ad _ _) rfl (st := []) rfl (Nat.le_of_ble_eq_true rfl) ⟨Nat.le_refl 0, Nat.le_refl 0⟩ dX11_serve_50 (pp2 ?_)
    exact fw_iret C hrt Y7 (Option.some.inj h) (fun t ht => ht) dX11_serve_53
  · have h := ite_f c3 h
    cases h
end
set_option maxRecDepth 100000 in
set_option maxHeartbeats 4000000 in
theorem c_X11_serve {l : Launch} {N0 : Nat} {T : Nat → ClassId} {D : va_G} {gr : List (Nat × Nat)} {ad : Nat → Nat → Nat → Nat} {Y : Mem} {res : Int32 × Mem} (hG : ∀ q ∈ ([(0, 0), (2, 0), (1, 0), (9, 0)] ++ allG), q ∈ gr) (h : X11_serve Y = some res) : CI l yX11_serve wsX11_serve (Rm 3) N0 T D gr ad Y [.ref (ad 0 0 0)] (fun r Y1 => (r, Y1) = res) :=
  fw_body (by decide +kernel) rfl (Nat.le_of_ble_eq_true rfl) (fun p e s m below meth c C hrt => w_X11_serve C hrt hG  h)
