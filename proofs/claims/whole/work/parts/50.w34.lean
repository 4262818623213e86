theorem ly_X3_runToFinish_3 : ∀ w ∈ u_ws RX3 TX3 5, w ∈ wsX3_runToFinish := by decide +kernel
theorem fl_X3_runToFinish_12 : Cond.fieldLink RX3 12 "RecipeScheduler$Kitchen" "state" "LRecipeScheduler$State;" ∈ wsX3_runToFinish := by decide +kernel
theorem ly_X3_runToFinish_8 : ∀ w ∈ u_ws RX8 TX8 15, w ∈ wsX3_runToFinish := by decide +kernel
theorem fl_X3_runToFinish_28 : Cond.fieldLink RX3 28 "RecipeScheduler$Kitchen" "recipe" "LRecipeScheduler$Recipe;" ∈ wsX3_runToFinish := by decide +kernel
section
variable {p : Program} {l : Launch} {e : Env} {s : State} {m : MethodId} {below : List Frame} {meth : Method} {c : Code} {N0 : Nat} {T : Nat → ClassId} {D : va_G} {gr : List (Nat × Nat)} {ad : Nat → Nat → Nat → Nat}
set_option maxRecDepth 100000 in
set_option maxHeartbeats 4000000 in
theorem w_X3_runToFinish_b6 {g0 : Nat} (C : Cx p s m [.ref (ad 1 g0 0)].toArray meth c cX3_runToFinish 2 wsX3_runToFinish RX3 N0 T D gr ad) (hrt : meth.sig.returnType = (some .int)) (hG : ∀ q ∈ ([(2, g0), (1, g0)] ++ allG), q ∈ gr) {res : Int32 × Mem} : ∀ (n : Nat) (Y : Mem) (l1 : Int32), X3_runToFinish_b6 g0  n Y l1 = some res → FW p l e (Rm 4) s m [.ref (ad 1 g0 0)].toArray below meth c 2 N0 T D gr ad 0 0 (MQ below (va_Qi (fun r Y1 => (r, Y1) = res) (WB T D gr ad) (fun q => N0 ≤ q)) [.ref (ad 1 g0 0)].toArray s 0 0 (fun q => N0 ≤ q)) Y 6 [(1, .int l1), (0, .ref (ad 1 g0 0))] [] := by
  intro n
  induction n with
  | zero =>
    intro Y l1 h
    unfold X3_runToFinish_b6 at h
    cases h
  | succ n ih =>
    intro Y l1 h
    unfold X3_runToFinish_b6 at h
    refine fw_iload_n C dX3_runToFinish_6 rfl 0 rfl ?_
    refine fw_sipush C dX3_runToFinish_7 (v := 500) rfl ?_
    refine fw_icmp_ge C dX3_runToFinish_10 (tgt := 43) rfl (fun c4 => ?_) (fun c4 => ?_)
    · have h := ite_t c4 h
      refine fw_aload_n C dX3_runToFinish_43 rfl 1 rfl ?_
      refine fw_get C (ci := 1) (Cn := RX3) (Tc := TX3) (N := 5) (j := 1) ly_X3_runToFinish_3 rfl (hG _ (List.mem_of_getElem? (i := 1) rfl)) (of1_0 _) (ce1 T ad _ _) (by decide) (cx_ts C _ fl_X3_runToFinish_12) (fun _ h => h) (v := .ref (ad 2 g0 0)) rfl dX3_runToFinish_44 ?_
      refine fw_getN C (ci := 6) (Cn := RX8) (Tc := TX8) (N := 15) (j := 7) ly_X3_runToFinish_8 rfl (hG _ (List.mem_of_getElem? (i := 0) rfl)) (of2_0 _) (ce2 T ad _ _) (by decide) (Nst_use (cx_nst C) (w := .fieldLinkNest RX3 47 "RecipeScheduler$State" "done" "I" "RecipeScheduler") 459 (by decide +kernel) rfl) (fun _ h => h) (v := .int (Y 2 g0 0 7)) rfl dX3_runToFinish_47 ?_
      refine fw_aload_n C dX3_runToFinish_50 rfl 1 rfl ?_
      refine fw_get C (ci := 1) (Cn := RX3) (Tc := TX3) (N := 5) (j := 0) ly_X3_runToFinish_3 rfl (hG _ (List.mem_of_getElem? (i := 1) rfl)) (of1_0 _) (ce1 T ad _ _) (by decide) (cx_ts C _ fl_X3_runToFinish_28) (fun _ h => h) (v := .ref (ad 3 ((Y 1 g0 0 0).toNatClampNeg) 0)) rfl dX3_runToFinish_51 ?_
      obtain ⟨b5, h⟩ := gd_some h
      have b5 := of_decide_eq_true b5
      obtain ⟨b6, h⟩ := gd_some h
      have b6 := of_decide_eq_true b6
      obtain ⟨r7, q8, h⟩ := bd1_some h
      refine fw_callVi C (ci := 3) (Cn := RX5) (Tc := TX5) (N := 17) (As := []) (c_X5_allSteps (gac ((fun q hq => hG q (List.mem_append_right _ hq)) _ (allG_3 b6)) (gac ((fun q hq => hG q (List.mem_append_right _ hq)) _ (allG_4b b5)) ga0)) q8) (cwV 0 (cx_ts C) gX3_runToFinish_X5_allSteps rfl rfl rfl (by decide +kernel) ⟨Nat.le_of_ble_eq_true rfl, Nat.le_of_ble_eq_true rfl⟩) rfl ((fun q hq => hG q (List.mem_append_right _ hq)) _ (allG_3 b6)) (of3_0 _) (ce3 T ad _ _) rfl (st := [.int (Y 2 g0 0 7)]) rfl (Nat.le_of_ble_eq_true rfl) ⟨Nat.le_refl 0, Nat.le_refl 0⟩ dX3_runToFinish_54 (pp2 ?_)
      refine fw_icmp_ne C dX3_runToFinish_57 (tgt := 66) rfl (fun c9 => ?_) (fun c9 => ?_)
      · have h := ite_f c9 h
        refine fw_iconst C dX3_runToFinish_66 (v := (-1)) rfl ?_
        exact fw_iret C hrt Y (Option.some.inj h) (fun t ht => ht) dX3_runToFinish_67
      · have h := ite_t c9 h
        refine fw_sipush C dX3_runToFinish_60 (v := 500) rfl ?_
        refine fw_goto C dX3_runToFinish_63 (tgt := 67) rfl ?_
        exact fw_iret C hrt Y (Option.some.inj h) (fun t ht => ht) dX3_runToFinish_67
    · have h := ite_f c4 h
      refine fw_aload_n C dX3_runToFinish_13 rfl 1 rfl ?_
      refine fw_get C (ci := 1) (Cn := RX3) (Tc := TX3) (N := 5) (j := 1) ly_X3_runToFinish_3 rfl (hG _ (List.mem_of_getElem? (i := 1) rfl)) (of1_0 _) (ce1 T ad _ _) (by decide) (cx_ts C _ fl_X3_runToFinish_12) (fun _ h => h) (v := .ref (ad 2 g0 0)) rfl dX3_runToFinish_14 ?_
      refine fw_getN C (ci := 6) (Cn := RX8) (Tc := TX8) (N := 15) (j := 7) ly_X3_runToFinish_8 rfl (hG _ (List.mem_of_getElem? (i := 0) rfl)) (of2_0 _) (ce2 T ad _ _) (by decide) (Nst_use (cx_nst C) (w := .fieldLinkNest RX3 47 "RecipeScheduler$State" "done" "I" "RecipeScheduler") 459 (by decide +kernel) rfl) (fun _ h => h) (v := .int (Y 2 g0 0 7)) rfl dX3_runToFinish_17 ?_
      refine fw_aload_n C dX3_runToFinish_20 rfl 1 rfl ?_
      refine fw_get C (ci := 1) (Cn := RX3) (Tc := TX3) (N := 5) (j := 0) ly_X3_runToFinish_3 rfl (hG _ (List.mem_of_getElem? (i := 1) rfl)) (of1_0 _) (ce1 T ad _ _) (by decide) (cx_ts C _ fl_X3_runToFinish_28) (fun _ h => h) (v := .ref (ad 3 ((Y 1 g0 0 0).toNatClampNeg) 0)) rfl dX3_runToFinish_21 ?_
      obtain ⟨b10, h⟩ := gd_some h
      have b10 := of_decide_eq_true b10
      obtain ⟨b11, h⟩ := gd_some h
      have b11 := of_decide_eq_true b11
      obtain ⟨r12, q13, h⟩ := bd1_some h
      refine fw_callVi C (ci := 3) (Cn := RX5) (Tc := TX5) (N := 17) (As := []) (c_X5_allSteps (gac ((fun q hq => hG q (List.mem_append_right _ hq)) _ (allG_3 b11)) (gac ((fun q hq => hG q (List.mem_append_right _ hq)) _ (allG_4b b10)) ga0)) q13) (cwV 0 (cx_ts C) gX3_runToFinish_X5_allSteps rfl rfl rfl (by decide +kernel) ⟨Nat.le_of_ble_eq_true rfl, Nat.le_of_ble_eq_true rfl⟩) rfl ((fun q hq => hG q (List.mem_append_right _ hq)) _ (allG_3 b11)) (of3_0 _) (ce3 T ad _ _) rfl (st := [.int (Y 2 g0 0 7)]) rfl (Nat.le_of_ble_eq_true rfl) ⟨Nat.le_refl 0, Nat.le_refl 0⟩ dX3_runToFinish_24 (pp2 ?_)
      refine fw_icmp_ne C dX3_runToFinish_27 (tgt := 32) rfl (fun c14 => ?_) (fun c14 => ?_)
      · have h := ite_f c14 h
        refine fw_aload_n C dX3_runToFinish_32 rfl 1 rfl ?_
        obtain ⟨r15, Y17, q16, h⟩ := bd2_some h
        refine fw_callVi C (ci := 1) (Cn := RX3) (Tc := TX3) (N := 5) (As := []) (c_X3_runMinute (gac (hG _ (List.mem_of_getElem? (i := 1) rfl)) (gac (hG _ (List.mem_of_getElem? (i := 0) rfl)) (fun q hq => hG q (List.mem_append_right _ hq)))) q16) (cwV 0 (cx_ts C) gX3_runToFinish_X3_runMinute rfl rfl rfl (by decide +kernel) ⟨Nat.le_of_ble_eq_true rfl, Nat.le_of_ble_eq_true rfl⟩) rfl (hG _ (List.mem_of_getElem? (i := 1) rfl)) (of1_0 _) (ce1 T ad _ _) rfl (st := []) rfl (Nat.le_of_ble_eq_true rfl) ⟨Nat.le_refl 0, Nat.le_refl 0⟩ dX3_runToFinish_33 (ppw ?_)
        refine fw_pop C dX3_runToFinish_36 rfl ?_
        refine fw_iinc C dX3_runToFinish_37 (kk := 0) (v := l1 + 1) rfl rfl (by decide) (L' := [(1, .int (l1 + 1)), (0, .ref (ad 1 g0 0))]) rfl ?_
        refine fw_goto C dX3_runToFinish_40 (tgt := 6) rfl ?_
        exact ih _ _ h
      · have h := ite_t c14 h
        refine fw_iload_n C dX3_runToFinish_30 rfl 0 rfl ?_
        exact fw_iret C hrt Y (Option.some.inj h) (fun t ht => ht) dX3_runToFinish_31
set_option maxRecDepth 100000 in
set_option maxHeartbeats 4000000 in
theorem w_X3_runToFinish {Y : Mem} {g0 : Nat} (C : Cx p s m [.ref (ad 1 g0 0)].toArray meth c cX3_runToFinish 2 wsX3_runToFinish RX3 N0 T D gr ad) (hrt : meth.sig.returnType = (some .int)) (hG : ∀ q ∈ ([(2, g0), (1, g0)] ++ allG), q ∈ gr) {res : Int32 × Mem} (h : X3_runToFinish Y g0 = some res) : FW p l e (Rm 4) s m [.ref (ad 1 g0 0)].toArray below meth c 2 N0 T D gr ad 0 0 (MQ below (va_Qi (fun r Y1 => (r, Y1) = res) (WB T D gr ad) (fun q => N0 ≤ q)) [.ref (ad 1 g0 0)].toArray s 0 0 (fun q => N0 ≤ q)) Y 0 [(0, .ref (ad 1 g0 0))] [] := by
  unfold X3_runToFinish at h
  refine fw_aload_n C dX3_runToFinish_0 rfl 0 rfl ?_
  obtain ⟨Y3, q2, h⟩ := bd1_some h
  refine fw_callVv C (ci := 1) (Cn := RX3) (Tc := TX3) (N := 5) (As := []) (c_X3_rank (gac (hG _ (List.mem_of_getElem? (i := 1) rfl)) (gac (hG _ (List.mem_of_getElem? (i := 0) rfl)) (fun q hq => hG q (List.mem_append_right _ hq)))) q2) (cwV 0 (cx_ts C) gX3_runToFinish_X3_rank rfl rfl rfl (by decide +kernel) ⟨Nat.le_of_ble_eq_true rfl, Nat.le_of_ble_eq_true rfl⟩) rfl (hG _ (List.mem_of_getElem? (i := 1) rfl)) (of1_0 _) (ce1 T ad _ _) rfl (st := []) rfl (Nat.le_of_ble_eq_true rfl) ⟨Nat.le_refl 0, Nat.le_refl 0⟩ dX3_runToFinish_1 (ppv ?_)
  refine fw_iconst C dX3_runToFinish_4 (v := 0) rfl ?_
  refine fw_istore_n C dX3_runToFinish_5 rfl (by decide) (L' := [(1, .int 0), (0, .ref (ad 1 g0 0))]) rfl ?_
  exact w_X3_runToFinish_b6 C hrt hG   _ _ _ h
end
set_option maxRecDepth 100000 in
set_option maxHeartbeats 4000000 in
theorem c_X3_runToFinish {l : Launch} {N0 : Nat} {T : Nat → ClassId} {D : va_G} {gr : List (Nat × Nat)} {ad : Nat → Nat → Nat → Nat} {Y : Mem} {g0 : Nat} {res : Int32 × Mem} (hG : ∀ q ∈ ([(2, g0), (1, g0)] ++ allG), q ∈ gr) (h : X3_runToFinish Y g0 = some res) : CI l yX3_runToFinish wsX3_runToFinish (Rm 4) N0 T D gr ad Y [.ref (ad 1 g0 0)] (fun r Y1 => (r, Y1) = res) :=
  fw_body (by decide +kernel) rfl (Nat.le_of_ble_eq_true rfl) (fun p e s m below meth c C hrt => w_X3_runToFinish C hrt hG  h)
theorem ly_X11_finishWithShorter_11 : ∀ w ∈ u_ws RX11 TX11 11, w ∈ wsX11_finishWithShorter := by decide +kernel
theorem fl_X11_finishWithShorter_71 : Cond.fieldLink RX11 71 "RecipeScheduler" "forecast" "LRecipeScheduler$Kitchen;" ∈ wsX11_finishWithShorter := by decide +kernel
theorem fl_X11_finishWithShorter_67 : Cond.fieldLink RX11 67 "RecipeScheduler" "now" "LRecipeScheduler$Kitchen;" ∈ wsX11_finishWithShorter := by decide +kernel
theorem ly_X11_finishWithShorter_3 : ∀ w ∈ u_ws RX3 TX3 5, w ∈ wsX11_finishWithShorter := by decide +kernel
theorem ly_X11_finishWithShorter_8 : ∀ w ∈ u_ws RX8 TX8 15, w ∈ wsX11_finishWithShorter := by decide +kernel
section
variable {p : Program} {l : Launch} {e : Env} {s : State} {m : MethodId} {below : List Frame} {meth : Method} {c : Code} {N0 : Nat} {T : Nat → ClassId} {D : va_G} {gr : List (Nat × Nat)} {ad : Nat → Nat → Nat → Nat}
set_option maxRecDepth 100000 in
set_option maxHeartbeats 4000000 in
theorem w_X11_finishWithShorter_b43 {a1 : Int32} (C : Cx p s m [.ref (ad 0 0 0), .int a1].toArray meth c cX11_finishWithShorter 3 wsX11_finishWithShorter RX11 N0 T D gr ad) (hrt : meth.sig.returnType = (some .int)) (hG : ∀ q ∈ ([(0, 0), (2, 0), (2, 1), (1, 1), (1, 0)] ++ allG), q ∈ gr) {res : Int32 × Mem} (Y : Mem) (h : X11_finishWithShorter_b43 a1  Y = some res) : FW p l e (Rm 5) s m [.ref (ad 0 0 0), .int a1].toArray below meth c 3 N0 T D gr ad 0 0 (MQ below (va_Qi (fun r Y1 => (r, Y1) = res) (WB T D gr ad) (fun q => N0 ≤ q)) [.ref (ad 0 0 0), .int a1].toArray s 0 0 (fun q => N0 ≤ q)) Y 43 [(0, .ref (ad 0 0 0))] [] := by
  unfold X11_finishWithShorter_b43 at h
  refine fw_aload_n C dX11_finishWithShorter_43 rfl 0 rfl ?_
  refine fw_get C (ci := 9) (Cn := RX11) (Tc := TX11) (N := 11) (j := 6) ly_X11_finishWithShorter_11 rfl (hG _ (List.mem_of_getElem? (i := 0) rfl)) (of0_0 _) (ce0 T ad _ _) (by decide) (cx_ts C _ fl_X11_finishWithShorter_71) (fun _ h => h) (v := .ref (ad 1 1 0)) rfl dX11_finishWithShorter_44 ?_
  obtain ⟨r6, Y8, q7, h⟩ := bd2_some h
  refine fw_callVi C (ci := 1) (Cn := RX3) (Tc := TX3) (N := 5) (As := []) (c_X3_runToFinish (gac (hG _ (List.mem_of_getElem? (i := 2) rfl)) (gac (hG _ (List.mem_of_getElem? (i := 3) rfl)) (fun q hq => hG q (List.mem_append_right _ hq)))) q7) (cwV 0 (cx_ts C) gX11_finishWithShorter_X3_runToFinish rfl rfl rfl (by decide +kernel) ⟨Nat.le_of_ble_eq_true rfl, Nat.le_of_ble_eq_true rfl⟩) rfl (hG _ (List.mem_of_getElem? (i := 3) rfl)) (of1_0 _) (ce1 T ad _ _) rfl (st := []) rfl (Nat.le_of_ble_eq_true rfl) ⟨Nat.le_refl 0, Nat.le_refl 0⟩ dX11_finishWithShorter_47 (ppw ?_)
  refine fw_istore_n C dX11_finishWithShorter_50 rfl (by decide) (L' := [(2, .int r6), (0, .ref (ad 0 0 0))]) rfl ?_
  refine fw_iload_n C dX11_finishWithShorter_51 rfl 0 rfl ?_
  refine fw_iconst C dX11_finishWithShorter_52 (v := (-1)) rfl ?_
  refine fw_icmp_ne C dX11_finishWithShorter_53 (tgt := 62) rfl (fun c9 => ?_) (fun c9 => ?_)
  · have h := ite_f c9 h
    refine fw_iload_n C dX11_finishWithShorter_62 rfl 0 rfl ?_
    exact fw_iret C hrt Y8 (Option.some.inj h) (fun t ht => ht) dX11_finishWithShorter_63
  · have h := ite_t c9 h
    refine fw_sipush C dX11_finishWithShorter_56 (v := 501) rfl ?_
    refine fw_goto C dX11_finishWithShorter_59 (tgt := 63) rfl ?_
    exact fw_iret C hrt Y8 (Option.some.inj h) (fun t ht => ht) dX11_finishWithShorter_63
set_option maxRecDepth 100000 in
set_option maxHeartbeats 4000000 in
theorem w_X11_finishWithShorter {Y : Mem} {a1 : Int32} (C : Cx p s m [.ref (ad 0 0 0), .int a1].toArray meth c cX11_finishWithShorter 3 wsX11_finishWithShorter RX11 N0 T D gr ad) (hrt : meth.sig.returnType = (some .int)) (hG : ∀ q ∈ ([(0, 0), (2, 0), (2, 1), (1, 1), (1, 0)] ++ allG), q ∈ gr) {res : Int32 × Mem} (h : X11_finishWithShorter Y a1 = some res) : FW p l e (Rm 5) s m [.ref (ad 0 0 0), .int a1].toArray below meth c 3 N0 T D gr ad 0 0 (MQ below (va_Qi (fun r Y1 => (r, Y1) = res) (WB T D gr ad) (fun q => N0 ≤ q)) [.ref (ad 0 0 0), .int a1].toArray s 0 0 (fun q => N0 ≤ q)) Y 0 [(0, .ref (ad 0 0 0)), (1, .int a1)] [] := by
  unfold X11_finishWithShorter at h
  refine fw_aload_n C dX11_finishWithShorter_0 rfl 0 rfl ?_
  refine fw_get C (ci := 9) (Cn := RX11) (Tc := TX11) (N := 11) (j := 6) ly_X11_finishWithShorter_11 rfl (hG _ (List.mem_of_getElem? (i := 0) rfl)) (of0_0 _) (ce0 T ad _ _) (by decide) (cx_ts C _ fl_X11_finishWithShorter_71) (fun _ h => h) (v := .ref (ad 1 1 0)) rfl dX11_finishWithShorter_1 ?_
  refine fw_aload_n C dX11_finishWithShorter_4 rfl 0 rfl ?_
  refine fw_get C (ci := 9) (Cn := RX11) (Tc := TX11) (N := 11) (j := 5) ly_X11_finishWithShorter_11 rfl (hG _ (List.mem_of_getElem? (i := 0) rfl)) (of0_0 _) (ce0 T ad _ _) (by decide) (cx_ts C _ fl_X11_finishWithShorter_67) (fun _ h => h) (v := .ref (ad 1 0 0)) rfl dX11_finishWithShorter_5 ?_
  obtain ⟨Y3, q2, h⟩ := bd1_some h
  refine fw_callVv C (ci := 1) (Cn := RX3) (Tc := TX3) (N := 5) (As := [.ref (ad 1 0 0)]) (c_X3_copyFrom (gac (hG _ (List.mem_of_getElem? (i := 4) rfl)) (gac (hG _ (List.mem_of_getElem? (i := 3) rfl)) (gac (hG _ (List.mem_of_getElem? (i := 2) rfl)) (gac (hG _ (List.mem_of_getElem? (i := 1) rfl)) (fun q hq => hG q (List.mem_append_right _ hq)))))) q2) (cwV 1 (cx_ts C) gX11_finishWithShorter_X3_copyFrom rfl rfl rfl (by decide +kernel) ⟨Nat.le_of_ble_eq_true rfl, Nat.le_of_ble_eq_true rfl⟩) rfl (hG _ (List.mem_of_getElem? (i := 3) rfl)) (of1_0 _) (ce1 T ad _ _) rfl (st := []) rfl (Nat.le_of_ble_eq_true rfl) ⟨Nat.le_refl 0, Nat.le_refl 0⟩ dX11_finishWithShorter_8 (ppv ?_)
  refine fw_aload_n C dX11_finishWithShorter_11 rfl 0 rfl ?_
  refine fw_get C (ci := 9) (Cn := RX11) (Tc := TX11) (N := 11) (j := 6) ly_X11_finishWithShorter_11 rfl (hG _ (List.mem_of_getElem? (i := 0) rfl)) (of0_0 _) (ce0 T ad _ _) (by decide) (cx_ts C _ fl_X11_finishWithShorter_71) (fun _ h => h) (v := .ref (ad 1 1 0)) rfl dX11_finishWithShorter_12 ?_
  refine fw_getN C (ci := 1) (Cn := RX3) (Tc := TX3) (N := 5) (j := 1) ly_X11_finishWithShorter_3 rfl (hG _ (List.mem_of_getElem? (i := 3) rfl)) (of1_0 _) (ce1 T ad _ _) (by decide) (Nst_use (cx_nst C) (w := .fieldLinkNest RX11 139 "RecipeScheduler$Kitchen" "state" "LRecipeScheduler$State;" "RecipeScheduler") 522 (by decide +kernel) rfl) (fun _ h => h) (v := .ref (ad 2 1 0)) rfl dX11_finishWithShorter_15 ?_
  refine fw_getN C (ci := 6) (Cn := RX8) (Tc := TX8) (N := 15) (j := 9) ly_X11_finishWithShorter_8 rfl (hG _ (List.mem_of_getElem? (i := 2) rfl)) (of2_0 _) (ce2 T ad _ _) (by decide) (Nst_use (cx_nst C) (w := .fieldLinkNest RX11 196 "RecipeScheduler$State" "duration" "[I" "RecipeScheduler") 465 (by decide +kernel) rfl) (fun _ h => h) (v := .ref (ad 2 1 1)) rfl dX11_finishWithShorter_18 ?_
  refine fw_iload_n C dX11_finishWithShorter_21 rfl 1 rfl ?_
  obtain ⟨b4, h⟩ := gd_some h
  refine fw_iald2 C (hG _ (List.mem_of_getElem? (i := 2) rfl)) (of2_1 _) (ca2_1 T ad _ _) b4 (Nat.le_of_ble_eq_true rfl) dX11_finishWithShorter_22 ?_
  refine fw_iconst C dX11_finishWithShorter_23 (v := 1) rfl ?_
  refine fw_icmp_le C dX11_finishWithShorter_24 (tgt := 43) rfl (fun c5 => ?_) (fun c5 => ?_)
  · have h := ite_t c5 h
    refine fw_sub [0] (L' := [(0, .ref (ad 0 0 0))]) rfl ?_
    exact w_X11_finishWithShorter_b43 C hrt hG   _ h
  · have h := ite_f c5 h
    refine fw_aload_n C dX11_finishWithShorter_27 rfl 0 rfl ?_
    refine fw_get C (ci := 9) (Cn := RX11) (Tc := TX11) (N := 11) (j := 6) ly_X11_finishWithShorter_11 rfl (hG _ (List.mem_of_getElem? (i := 0) rfl)) (of0_0 _) (ce0 T ad _ _) (by decide) (cx_ts C _ fl_X11_finishWithShorter_71) (fun _ h => h) (v := .ref (ad 1 1 0)) rfl dX11_finishWithShorter_28 ?_
    refine fw_getN C (ci := 1) (Cn := RX3) (Tc := TX3) (N := 5) (j := 1) ly_X11_finishWithShorter_3 rfl (hG _ (List.mem_of_getElem? (i := 3) rfl)) (of1_0 _) (ce1 T ad _ _) (by decide) (Nst_use (cx_nst C) (w := .fieldLinkNest RX11 139 "RecipeScheduler$Kitchen" "state" "LRecipeScheduler$State;" "RecipeScheduler") 522 (by decide +kernel) rfl) (fun _ h => h) (v := .ref (ad 2 1 0)) rfl dX11_finishWithShorter_31 ?_
    refine fw_getN C (ci := 6) (Cn := RX8) (Tc := TX8) (N := 15) (j := 9) ly_X11_finishWithShorter_8 rfl (hG _ (List.mem_of_getElem? (i := 2) rfl)) (of2_0 _) (ce2 T ad _ _) (by decide) (Nst_use (cx_nst C) (w := .fieldLinkNest RX11 196 "RecipeScheduler$State" "duration" "[I" "RecipeScheduler") 465 (by decide +kernel) rfl) (fun _ h => h) (v := .ref (ad 2 1 1)) rfl dX11_finishWithShorter_34 ?_
    refine fw_iload_n C dX11_finishWithShorter_37 rfl 1 rfl ?_
    refine fw_dup2 C dX11_finishWithShorter_38 rfl rfl ?_
    refine fw_iald2 C (hG _ (List.mem_of_getElem? (i := 2) rfl)) (of2_1 _) (ca2_1 T ad _ _) b4 (Nat.le_of_ble_eq_true rfl) dX11_finishWithShorter_39 ?_
    refine fw_iconst C dX11_finishWithShorter_40 (v := 1) rfl ?_
    refine fw_isub C dX11_finishWithShorter_41 ?_
    obtain ⟨Y10, e11, h⟩ := lt_some h
    refine fw_iast2 C (hG _ (List.mem_of_getElem? (i := 2) rfl)) (of2_1 _) (ca2_1 T ad _) b4 (Nat.le_of_ble_eq_true rfl) dX11_finishWithShorter_42 ?_
    refine fw_mem e11 ?_
    refine fw_sub [0] (L' := [(0, .ref (ad 0 0 0))]) rfl ?_
    exact w_X11_finishWithShorter_b43 C hrt hG   _ h
end
set_option maxRecDepth 100000 in
set_option maxHeartbeats 4000000 in
theorem c_X11_finishWithShorter {l : Launch} {N0 : Nat} {T : Nat → ClassId} {D : va_G} {gr : List (Nat × Nat)} {ad : Nat → Nat → Nat → Nat} {Y : Mem} {a1 : Int32} {res : Int32 × Mem} (hG : ∀ q ∈ ([(0, 0), (2, 0), (2, 1), (1, 1), (1, 0)] ++ allG), q ∈ gr) (h : X11_finishWithShorter Y a1 = some res) : CI l yX11_finishWithShorter wsX11_finishWithShorter (Rm 5) N0 T D gr ad Y [.ref (ad 0 0 0), .int a1] (fun r Y1 => (r, Y1) = res) :=
  fw_body (by decide +kernel) rfl (Nat.le_of_ble_eq_true rfl) (fun p e s m below meth c C hrt => w_X11_finishWithShorter C hrt hG  h)
theorem ly_X11_bottleneck_11 : ∀ w ∈ u_ws RX11 TX11 11, w ∈ wsX11_bottleneck := by decide +kernel
theorem fl_X11_bottleneck_67 : Cond.fieldLink RX11 67 "RecipeScheduler" "now" "LRecipeScheduler$Kitchen;" ∈ wsX11_bottleneck := by decide +kernel
theorem ly_X11_bottleneck_3 : ∀ w ∈ u_ws RX3 TX3 5, w ∈ wsX11_bottleneck := by decide +kernel
theorem ly_X11_bottleneck_5 : ∀ w ∈ u_ws RX5 TX5 17, w ∈ wsX11_bottleneck := by decide +kernel
theorem ly_X11_bottleneck_4 : ∀ w ∈ u_ws RX4 TX4 3, w ∈ wsX11_bottleneck := by decide +kernel
theorem th_X11_bottleneck_74 : Cond.classLink RX11 250 "java/util/NoSuchElementException" ∈ wsX11_bottleneck ∧ Cond.initialized "java/util/NoSuchElementException" ∈ wsX11_bottleneck ∧ ∀ w ∈ (vx_atS RX11 254 "java/util/NoSuchElementException" ["java/lang/RuntimeException", "java/lang/Exception"]).filter goodWord, w ∈ wsX11_bottleneck := by decide +kernel
theorem tg_4_254_250 : ∀ w ∈ Cond.classLink RX11 250 "java/util/NoSuchElementException" :: Cond.initialized "java/util/NoSuchElementException" :: vx_atS RX11 254 "java/util/NoSuchElementException" ["java/lang/RuntimeException", "java/lang/Exception"], vx_ot w = true := by decide +kernel
theorem tg_4_254_250b : ∀ w ∈ (vx_atS RX11 254 "java/util/NoSuchElementException" ["java/lang/RuntimeException", "java/lang/Exception"]).filter (fun w => !goodWord w), w ∈ [Cond.castable "java/util/NoSuchElementException" "java/util/NoSuchElementException", .declares ⟨"java/lang/RuntimeException", "<init>", "(Ljava/lang/String;)V"⟩, .declares ⟨"java/lang/Exception", "<init>", "(Ljava/lang/String;)V"⟩, .declares ⟨"java/lang/Throwable", "<init>", "(Ljava/lang/String;)V"⟩] := by decide +kernel
theorem ly_X11_bottleneck_8 : ∀ w ∈ u_ws RX8 TX8 15, w ∈ wsX11_bottleneck := by decide +kernel
section
variable {p : Program} {l : Launch} {e : Env} {s : State} {m : MethodId} {below : List Frame} {meth : Method} {c : Code} {N0 : Nat} {T : Nat → ClassId} {D : va_G} {gr : List (Nat × Nat)} {ad : Nat → Nat → Nat → Nat}
set_option maxRecDepth 100000 in
set_option maxHeartbeats 4000000 in
theorem w_X11_bottleneck_b63  (C : Cx p s m [.ref (ad 0 0 0)].toArray meth c cX11_bottleneck 5 wsX11_bottleneck RX11 N0 T D gr ad) (hrt : meth.sig.returnType = (some .int)) (hG : ∀ q ∈ ([(0, 0), (1, 0), (2, 0), (1, 1), (2, 1)] ++ allG), q ∈ gr) (hl : l.stackTraces = false) (hX : ∀ x ∈ c.exceptionTable.toList, False) {res : (Nat × Mem) ⊕ (Int32 × Mem)} {k6 : Mem → Int32 → Int32 → Int32 → Option ((Nat × Mem) ⊕ (Int32 × Mem))} (hk6 : ∀ (Y : Mem) (l3 : Int32) (l2 : Int32) (l1 : Int32), k6 Y l3 l2 l1 = some res → FW p l e (Rx 6 1) s m [.ref (ad 0 0 0)].toArray below meth c 5 N0 T D gr ad 0 0 (vx_MQ below (va_Qi (fun r Y1 => Sum.inr (r, Y1) = res) (WB T D gr ad) (fun q => N0 ≤ q)) (vx_X (fun u => Sum.inl u = res) (XB T D gr ad) (fun q => N0 ≤ q)) [.ref (ad 0 0 0)].toArray s 1 6 (fun q => N0 ≤ q)) Y 6 [(3, .int l3), (2, .int l2), (1, .int l1), (0, .ref (ad 0 0 0))] []) (Y : Mem) (l3 : Int32) (l2 : Int32) (l1 : Int32) (h : X11_bottleneck_b63  k6 Y l3 l2 l1 = some res) : FW p l e (Rx 6 1) s m [.ref (ad 0 0 0)].toArray below meth c 5 N0 T D gr ad 0 0 (vx_MQ below (va_Qi (fun r Y1 => Sum.inr (r, Y1) = res) (WB T D gr ad) (fun q => N0 ≤ q)) (vx_X (fun u => Sum.inl u = res) (XB T D gr ad) (fun q => N0 ≤ q)) [.ref (ad 0 0 0)].toArray s 1 6 (fun q => N0 ≤ q)) Y 63 [(3, .int l3), (2, .int l2), (1, .int l1), (0, .ref (ad 0 0 0))] [] := by
  unfold X11_bottleneck_b63 at h
  refine fw_iinc C dX11_bottleneck_63 (kk := 0) (v := l3 + 1) rfl rfl (by decide) (L' := [(3, .int (l3 + 1)), (2, .int l2), (1, .int l1), (0, .ref (ad 0 0 0))]) rfl ?_
  refine fw_goto C dX11_bottleneck_66 (tgt := 6) rfl ?_
  exact hk6 _ _ _ _ h
set_option maxRecDepth 100000 in
set_option maxHeartbeats 4000000 in
theorem w_X11_bottleneck_b58  (C : Cx p s m [.ref (ad 0 0 0)].toArray meth c cX11_bottleneck 5 wsX11_bottleneck RX11 N0 T D gr ad) (hrt : meth.sig.returnType = (some .int)) (hG : ∀ q ∈ ([(0, 0), (1, 0), (2, 0), (1, 1), (2, 1)] ++ allG), q ∈ gr) (hl : l.stackTraces = false) (hX : ∀ x ∈ c.exceptionTable.toList, False) {res : (Nat × Mem) ⊕ (Int32 × Mem)} {k6 : Mem → Int32 → Int32 → Int32 → Option ((Nat × Mem) ⊕ (Int32 × Mem))} (hk6 : ∀ (Y : Mem) (l3 : Int32) (l2 : Int32) (l1 : Int32), k6 Y l3 l2 l1 = some res → FW p l e (Rx 6 1) s m [.ref (ad 0 0 0)].toArray below meth c 5 N0 T D gr ad 0 0 (vx_MQ below (va_Qi (fun r Y1 => Sum.inr (r, Y1) = res) (WB T D gr ad) (fun q => N0 ≤ q)) (vx_X (fun u => Sum.inl u = res) (XB T D gr ad) (fun q => N0 ≤ q)) [.ref (ad 0 0 0)].toArray s 1 6 (fun q => N0 ≤ q)) Y 6 [(3, .int l3), (2, .int l2), (1, .int l1), (0, .ref (ad 0 0 0))] []) (Y : Mem) (l4 : Int32) (l3 : Int32) (h : X11_bottleneck_b58  k6 Y l4 l3 = some res) : FW p l e (Rx 6 1) s m [.ref (ad 0 0 0)].toArray below meth c 5 N0 T D gr ad 0 0 (vx_MQ below (va_Qi (fun r Y1 => Sum.inr (r, Y1) = res) (WB T D gr ad) (fun q => N0 ≤ q)) (vx_X (fun u => Sum.inl u = res) (XB T D gr ad) (fun q => N0 ≤ q)) [.ref (ad 0 0 0)].toArray s 1 6 (fun q => N0 ≤ q)) Y 58 [(4, .int l4), (3, .int l3), (0, .ref (ad 0 0 0))] [] := by
  unfold X11_bottleneck_b58 at h
  refine fw_iload_n C dX11_bottleneck_58 rfl 1 rfl ?_
  refine fw_istore_n C dX11_bottleneck_59 rfl (by decide) (L' := [(1, .int l3), (4, .int l4), (3, .int l3), (0, .ref (ad 0 0 0))]) rfl ?_
  refine fw_iload C dX11_bottleneck_60 1 rfl ?_
  refine fw_istore_n C dX11_bottleneck_62 rfl (by decide) (L' := [(2, .int l4), (1, .int l3), (4, .int l4), (3, .int l3), (0, .ref (ad 0 0 0))]) rfl ?_
  refine fw_sub [3, 0, 1, 4] (L' := [(3, .int l3), (2, .int l4), (1, .int l3), (0, .ref (ad 0 0 0))]) rfl ?_
  exact w_X11_bottleneck_b63 C hrt hG  hl hX hk6 _ _ _ _ h
set_option maxRecDepth 100000 in
set_option maxHeartbeats 4000000 in
theorem w_X11_bottleneck_b6  (C : Cx p s m [.ref (ad 0 0 0)].toArray meth c cX11_bottleneck 5 wsX11_bottleneck RX11 N0 T D gr ad) (hrt : meth.sig.returnType = (some .int)) (hG : ∀ q ∈ ([(0, 0), (1, 0), (2, 0), (1, 1), (2, 1)] ++ allG), q ∈ gr) (hl : l.stackTraces = false) (hX : ∀ x ∈ c.exceptionTable.toList, False) {res : (Nat × Mem) ⊕ (Int32 × Mem)} : ∀ (n : Nat) (Y : Mem) (l3 : Int32) (l2 : Int32) (l1 : Int32), X11_bottleneck_b6   n Y l3 l2 l1 = some res → FW p l e (Rx 6 1) s m [.ref (ad 0 0 0)].toArray below meth c 5 N0 T D gr ad 0 0 (vx_MQ below (va_Qi (fun r Y1 => Sum.inr (r, Y1) = res) (WB T D gr ad) (fun q => N0 ≤ q)) (vx_X (fun u => Sum.inl u = res) (XB T D gr ad) (fun q => N0 ≤ q)) [.ref (ad 0 0 0)].toArray s 1 6 (fun q => N0 ≤ q)) Y 6 [(3, .int l3), (2, .int l2), (1, .int l1), (0, .ref (ad 0 0 0))] [] := by
  intro n
  induction n with
  | zero =>
    intro Y l3 l2 l1 h
    unfold X11_bottleneck_b6 at h
    cases h
  | succ n ih =>
    intro Y l3 l2 l1 h
    unfold X11_bottleneck_b6 at h
    refine fw_iload_n C dX11_bottleneck_6 rfl 0 rfl ?_
    refine fw_aload_n C dX11_bottleneck_7 rfl 3 rfl ?_
    refine fw_get C (ci := 9) (Cn := RX11) (Tc := TX11) (N := 11) (j := 5) ly_X11_bottleneck_11 rfl (hG _ (List.mem_of_getElem? (i := 0) rfl)) (of0_0 _) (ce0 T ad _ _) (by decide) (cx_ts C _ fl_X11_bottleneck_67) (fun _ h => h) (v := .ref (ad 1 0 0)) rfl dX11_bottleneck_8 ?_
    refine fw_getN C (ci := 1) (Cn := RX3) (Tc := TX3) (N := 5) (j := 0) ly_X11_bottleneck_3 rfl (hG _ (List.mem_of_getElem? (i := 1) rfl)) (of1_0 _) (ce1 T ad _ _) (by decide) (Nst_use (cx_nst C) (w := .fieldLinkNest RX11 117 "RecipeScheduler$Kitchen" "recipe" "LRecipeScheduler$Recipe;" "RecipeScheduler") 520 (by decide +kernel) rfl) (fun _ h => h) (v := .ref (ad 3 ((Y 1 0 0 0).toNatClampNeg) 0)) rfl dX11_bottleneck_11 ?_
    obtain ⟨b1, h⟩ := gd_some h
    have b1 := of_decide_eq_true b1
    refine fw_getN C (ci := 3) (Cn := RX5) (Tc := TX5) (N := 17) (j := 7) ly_X11_bottleneck_5 rfl ((fun q hq => hG q (List.mem_append_right _ hq)) _ (allG_3 b1)) (of3_0 _) (ce3 T ad _ _) (by decide) (Nst_use (cx_nst C) (w := .fieldLinkNest RX11 126 "RecipeScheduler$Recipe" "steps" "LRecipeScheduler$Names;" "RecipeScheduler") 148 (by decide +kernel) rfl) (fun _ h => h) (v := .ref (ad 4 (2*((Y 1 0 0 0).toNatClampNeg)+1) 0)) rfl dX11_bottleneck_14 ?_
    obtain ⟨b2, h⟩ := gd_some h
    have b2 := of_decide_eq_true b2
    refine fw_getN C (ci := 2) (Cn := RX4) (Tc := TX4) (N := 3) (j := 2) ly_X11_bottleneck_4 rfl ((fun q hq => hG q (List.mem_append_right _ hq)) _ (allG_4b b2)) (of4_0 _) (ce4 T ad _ _) (by decide) (Nst_use (cx_nst C) (w := .fieldLinkNest RX11 130 "RecipeScheduler$Names" "count" "I" "RecipeScheduler") 115 (by decide +kernel) rfl) (fun _ h => h) (v := .int (Y 4 (2*((Y 1 0 0 0).toNatClampNeg)+1) 0 2)) rfl dX11_bottleneck_17 ?_
    refine fw_icmp_ge C dX11_bottleneck_20 (tgt := 69) rfl (fun c3 => ?_) (fun c3 => ?_)
    · have h := ite_t c3 h
      refine fw_iload_n C dX11_bottleneck_69 rfl 2 rfl ?_
      refine fw_iconst C dX11_bottleneck_70 (v := (-1)) rfl ?_
      refine fw_icmp_ne C dX11_bottleneck_71 (tgt := 85) rfl (fun c4 => ?_) (fun c4 => ?_)
      · have h := ite_f c4 h
        refine fw_iload_n C dX11_bottleneck_85 rfl 2 rfl ?_
        refine fw_xr (Nat.le_of_ble_eq_true rfl) (Nat.le_of_ble_eq_true rfl) ?_
        exact fw_iret C hrt Y (Option.some.inj h) (fun t ht => ht) dX11_bottleneck_86
      · have h := ite_t c4 h
        exact fw_throwSW C hl hX (cls := "java/util/NoSuchElementException") (names := ["java/lang/RuntimeException", "java/lang/Exception"]) 4 rfl (by decide +kernel) (by decide +kernel) (cx_ts C _ th_X11_bottleneck_74.1) (cx_ts C _ th_X11_bottleneck_74.2.1) (sr_18 (cx_st C)) (vx_hat (fun w hw => cx_ts C _ (th_X11_bottleneck_74.2.2 w hw)) tg_4_254_250b (vx_c (Nst_use (cx_nst C) (w := .castable "java/util/NoSuchElementException" "java/util/NoSuchElementException") 1073 (by decide +kernel) rfl) (vx_c (Nst_use (cx_nst C) 826 (by decide +kernel) rfl) (vx_c (Nst_use (cx_nst C) 828 (by decide +kernel) rfl) (vx_c (Nst_use (cx_nst C) 830 (by decide +kernel) rfl) vx_n))))) tg_4_254_250 dX11_bottleneck_74 dX11_bottleneck_77 dX11_bottleneck_78 dX11_bottleneck_81 dX11_bottleneck_84 (Nat.le_of_ble_eq_true rfl) (Nat.le_of_ble_eq_true rfl) (Nat.le_of_ble_eq_true rfl) (Nat.le_of_ble_eq_true rfl) (Nat.le_of_ble_eq_true rfl) (Nat.le_of_ble_eq_true rfl) (Option.some.inj h)
    · have h := ite_f c3 h
      refine fw_aload_n C dX11_bottleneck_23 rfl 3 rfl ?_
      refine fw_get C (ci := 9) (Cn := RX11) (Tc := TX11) (N := 11) (j := 5) ly_X11_bottleneck_11 rfl (hG _ (List.mem_of_getElem? (i := 0) rfl)) (of0_0 _) (ce0 T ad _ _) (by decide) (cx_ts C _ fl_X11_bottleneck_67) (fun _ h => h) (v := .ref (ad 1 0 0)) rfl dX11_bottleneck_24 ?_
      refine fw_getN C (ci := 1) (Cn := RX3) (Tc := TX3) (N := 5) (j := 1) ly_X11_bottleneck_3 rfl (hG _ (List.mem_of_getElem? (i := 1) rfl)) (of1_0 _) (ce1 T ad _ _) (by decide) (Nst_use (cx_nst C) (w := .fieldLinkNest RX11 139 "RecipeScheduler$Kitchen" "state" "LRecipeScheduler$State;" "RecipeScheduler") 522 (by decide +kernel) rfl) (fun _ h => h) (v := .ref (ad 2 0 0)) rfl dX11_bottleneck_27 ?_
      refine fw_getN C (ci := 6) (Cn := RX8) (Tc := TX8) (N := 15) (j := 7) ly_X11_bottleneck_8 rfl (hG _ (List.mem_of_getElem? (i := 2) rfl)) (of2_0 _) (ce2 T ad _ _) (by decide) (Nst_use (cx_nst C) (w := .fieldLinkNest RX11 261 "RecipeScheduler$State" "done" "I" "RecipeScheduler") 460 (by decide +kernel) rfl) (fun _ h => h) (v := .int (Y 2 0 0 7)) rfl dX11_bottleneck_30 ?_
      refine fw_iload_n C dX11_bottleneck_33 rfl 0 rfl ?_
      obtain ⟨r5, q6, h⟩ := bd1_some h
      refine fw_callSi C (As := [.int (Y 2 0 0 7), .int l3]) (c_X11_contains ga0 q6) (va_cwS 2 (cx_ts C) gX11_bottleneck_X11_contains rfl rfl rfl (by decide +kernel) ⟨Nat.le_of_ble_eq_true rfl, Nat.le_of_ble_eq_true rfl⟩) rfl (st := []) rfl (Nat.le_of_ble_eq_true rfl) ⟨Nat.le_of_ble_eq_true rfl, Nat.le_of_ble_eq_true rfl⟩ dX11_bottleneck_34 (pp2 ?_)
      refine fw_if_ne C dX11_bottleneck_37 (tgt := 63) rfl (fun c7 => ?_) (fun c7 => ?_)
      · have h := ite_f c7 h
        exact w_X11_bottleneck_b63 C hrt hG  hl hX ih _ _ _ _ h
      · have h := ite_t c7 h
        refine fw_aload_n C dX11_bottleneck_40 rfl 3 rfl ?_
        refine fw_iload_n C dX11_bottleneck_41 rfl 0 rfl ?_
        obtain ⟨r8, Y10, q9, h⟩ := bd2_some h
        refine fw_callVi C (ci := 9) (Cn := RX11) (Tc := TX11) (N := 11) (As := [.int l3]) (c_X11_finishWithShorter (gac (hG _ (List.mem_of_getElem? (i := 0) rfl)) (gac (hG _ (List.mem_of_getElem? (i := 2) rfl)) (gac (hG _ (List.mem_of_getElem? (i := 4) rfl)) (gac (hG _ (List.mem_of_getElem? (i := 3) rfl)) (gac (hG _ (List.mem_of_getElem? (i := 1) rfl)) (fun q hq => hG q (List.mem_append_right _ hq))))))) q9) (cwV 1 (cx_ts C) gX11_bottleneck_X11_finishWithShorter rfl rfl rfl (by decide +kernel) ⟨Nat.le_of_ble_eq_true rfl, Nat.le_of_ble_eq_true rfl⟩) rfl (hG _ (List.mem_of_getElem? (i := 0) rfl)) (of0_0 _) (ce0 T ad _ _) rfl (st := []) rfl (Nat.le_of_ble_eq_true rfl) ⟨Nat.le_of_ble_eq_true rfl, Nat.le_of_ble_eq_true rfl⟩ dX11_bottleneck_42 (ppw ?_)
        refine fw_istore C dX11_bottleneck_45 (by decide) (L' := [(4, .int r8), (3, .int l3), (2, .int l2), (1, .int l1), (0, .ref (ad 0 0 0))]) rfl ?_
        refine fw_iload_n C dX11_bottleneck_47 rfl 3 rfl ?_
        refine fw_iconst C dX11_bottleneck_48 (v := (-1)) rfl ?_
        refine fw_icmp_eq C dX11_bottleneck_49 (tgt := 58) rfl (fun c11 => ?_) (fun c11 => ?_)
        · have h := ite_t c11 h
          refine fw_sub [0, 1, 4] (L' := [(4, .int r8), (3, .int l3), (0, .ref (ad 0 0 0))]) rfl ?_
          exact w_X11_bottleneck_b58 C hrt hG  hl hX ih _ _ _ h
        · have h := ite_f c11 h
          refine fw_iload C dX11_bottleneck_52 0 rfl ?_
          refine fw_iload_n C dX11_bottleneck_54 rfl 2 rfl ?_
          refine fw_icmp_ge C dX11_bottleneck_55 (tgt := 63) rfl (fun c12 => ?_) (fun c12 => ?_)
          · have h := ite_t c12 h
            refine fw_sub [1, 2, 3, 4] (L' := [(3, .int l3), (2, .int l2), (1, .int l1), (0, .ref (ad 0 0 0))]) rfl ?_
            exact w_X11_bottleneck_b63 C hrt hG  hl hX ih _ _ _ _ h
          · have h := ite_f c12 h
            refine fw_sub [0, 1, 4] (L' := [(4, .int r8), (3, .int l3), (0, .ref (ad 0 0 0))]) rfl ?_
            exact w_X11_bottleneck_b58 C hrt hG  hl hX ih _ _ _ h
set_option maxRecDepth 100000 in
set_option maxHeartbeats 4000000 in
theorem w_X11_bottleneck {Y : Mem} (C : Cx p s m [.ref (ad 0 0 0)].toArray meth c cX11_bottleneck 5 wsX11_bottleneck RX11 N0 T D gr ad) (hrt : meth.sig.returnType = (some .int)) (hG : ∀ q ∈ ([(0, 0), (1, 0), (2, 0), (1, 1), (2, 1)] ++ allG), q ∈ gr) (hl : l.stackTraces = false) (hX : ∀ x ∈ c.exceptionTable.toList, False) {res : (Nat × Mem) ⊕ (Int32 × Mem)} (h : X11_bottleneck Y = some res) : FW p l e (Rx 6 1) s m [.ref (ad 0 0 0)].toArray below meth c 5 N0 T D gr ad 0 0 (vx_MQ below (va_Qi (fun r Y1 => Sum.inr (r, Y1) = res) (WB T D gr ad) (fun q => N0 ≤ q)) (vx_X (fun u => Sum.inl u = res) (XB T D gr ad) (fun q => N0 ≤ q)) [.ref (ad 0 0 0)].toArray s 1 6 (fun q => N0 ≤ q)) Y 0 [(0, .ref (ad 0 0 0))] [] := by
  unfold X11_bottleneck at h
  refine fw_iconst C dX11_bottleneck_0 (v := (-1)) rfl ?_
  refine fw_istore_n C dX11_bottleneck_1 rfl (by decide) (L' := [(1, .int ((-1))), (0, .ref (ad 0 0 0))]) rfl ?_
  refine fw_iconst C dX11_bottleneck_2 (v := 0) rfl ?_
  refine fw_istore_n C dX11_bottleneck_3 rfl (by decide) (L' := [(2, .int 0), (1, .int ((-1))), (0, .ref (ad 0 0 0))]) rfl ?_
  refine fw_iconst C dX11_bottleneck_4 (v := 0) rfl ?_
  refine fw_istore_n C dX11_bottleneck_5 rfl (by decide) (L' := [(3, .int 0), (2, .int 0), (1, .int ((-1))), (0, .ref (ad 0 0 0))]) rfl ?_
  exact w_X11_bottleneck_b6 C hrt hG  hl hX  _ _ _ _ _ h
end
set_option maxRecDepth 100000 in
set_option maxHeartbeats 4000000 in
theorem c_X11_bottleneck {l : Launch} {N0 : Nat} {T : Nat → ClassId} {D : va_G} {gr : List (Nat × Nat)} {ad : Nat → Nat → Nat → Nat} {Y : Mem} {res : (Nat × Mem) ⊕ (Int32 × Mem)} (hl : l.stackTraces = false) (hG : ∀ q ∈ ([(0, 0), (1, 0), (2, 0), (1, 1), (2, 1)] ++ allG), q ∈ gr) (h : X11_bottleneck Y = some res) : CXi l yX11_bottleneck wsX11_bottleneck (Rx 6 1) N0 T D gr ad Y [.ref (ad 0 0 0)] 1 res :=
  fw_xbody (by decide +kernel) rfl (Nat.le_of_ble_eq_true rfl) (fun p e s m below meth c C hrt hX => w_X11_bottleneck C hrt hG hl hX h)
section
variable {p : Program} {l : Launch} {e : Env} {s : State} {m : MethodId} {below : List Frame} {meth : Method} {c : Code} {N0 : Nat} {T : Nat → ClassId} {D : va_G} {gr : List (Nat × Nat)} {ad : Nat → Nat → Nat → Nat}
set_option maxRecDepth 100000 in
set_option maxHeartbeats 4000000 in
theorem w_X11_sum_b4 {Y : Mem} {k0 : Nat} {g0 : Nat} {o0 : Nat} {n0 : Nat} {a1 : Int32} (C : Cx p s m [.ref (ad k0 g0 o0), .int a1].toArray meth c cX11_sum 4 wsX11_sum RX11 N0 T D gr ad) (hrt : meth.sig.returnType = (some .int)) (hG : ∀ q ∈ [(k0, g0)], q ∈ gr) (hA0 : ∀ y, cell T ad k0 g0 o0 y = .inl (T 0, n0, .inl y)) (hO0 : o0 ∈ offs k0 g0) (hN0 : n0 < 2 ^ 31) {res : Int32} : ∀ (n : Nat) (l3 : Int32) (l2 : Int32), X11_sum_b4 Y k0 g0 o0 n0 a1  n l3 l2 = some res → FW p l e (Rm 0) s m [.ref (ad k0 g0 o0), .int a1].toArray below meth c 4 N0 T D gr ad 0 0 (MQ below (va_Qi (fun r Y1 => r = res ∧ Y1 = Y) (WB T D gr ad) (fun q => N0 ≤ q)) [.ref (ad k0 g0 o0), .int a1].toArray s 0 0 (fun q => N0 ≤ q)) Y 4 [(3, .int l3), (2, .int l2), (0, .ref (ad k0 g0 o0)), (1, .int a1)] [] := by
  intro n
  induction n with
  | zero =>
    intro l3 l2 h
    unfold X11_sum_b4 at h
    cases h
  | succ n ih =>
    intro l3 l2 h
    unfold X11_sum_b4 at h
    refine fw_iload_n C dX11_sum_4 rfl 0 rfl ?_
    refine fw_iload_n C dX11_sum_5 rfl 3 rfl ?_
    refine fw_icmp_ge C dX11_sum_6 (tgt := 27) rfl (fun c1 => ?_) (fun c1 => ?_)
    · have h := ite_t c1 h
      refine fw_iload_n C dX11_sum_27 rfl 1 rfl ?_
      exact fw_iret C hrt Y ⟨Option.some.inj h, rfl⟩ (fun t ht => ht) dX11_sum_28
    · have h := ite_f c1 h
      refine fw_iload_n C dX11_sum_9 rfl 0 rfl ?_
      refine fw_aload_n C dX11_sum_10 rfl 2 rfl ?_
      refine fw_alen C 0 (hG _ (List.mem_of_getElem? (i := 0) rfl)) hO0 (hA0 _) rfl (v := (Int32.ofNat n0)) rfl dX11_sum_11 ?_
      refine fw_icmp_ge C dX11_sum_12 (tgt := 27) rfl (fun c2 => ?_) (fun c2 => ?_)
      · have h := ite_t c2 h
        refine fw_iload_n C dX11_sum_27 rfl 1 rfl ?_
        exact fw_iret C hrt Y ⟨Option.some.inj h, rfl⟩ (fun t ht => ht) dX11_sum_28
      · have h := ite_f c2 h
        refine fw_iload_n C dX11_sum_15 rfl 1 rfl ?_
        refine fw_aload_n C dX11_sum_16 rfl 2 rfl ?_
        refine fw_iload_n C dX11_sum_17 rfl 0 rfl ?_
        obtain ⟨b3, h⟩ := gd_some h
        refine fw_iald2 C (hG _ (List.mem_of_getElem? (i := 0) rfl)) hO0 (hA0 _) b3 hN0 dX11_sum_18 ?_
        refine fw_iadd C dX11_sum_19 ?_
        obtain ⟨v4, e5, h⟩ := lt_some h
        refine fw_top (v' := .int v4) (by rw [e5]) ?_
        refine fw_istore_n C dX11_sum_20 rfl (by decide) (L' := [(2, .int v4), (3, .int l3), (0, .ref (ad k0 g0 o0)), (1, .int a1)]) rfl ?_
        refine fw_iinc C dX11_sum_21 (kk := 1) (v := l3 + 1) rfl rfl (by decide) (L' := [(3, .int (l3 + 1)), (2, .int v4), (0, .ref (ad k0 g0 o0)), (1, .int a1)]) rfl ?_
        refine fw_goto C dX11_sum_24 (tgt := 4) rfl ?_
        exact ih _ _ h
set_option maxRecDepth 100000 in
set_option maxHeartbeats 4000000 in
theorem w_X11_sum {Y : Mem} {k0 : Nat} {g0 : Nat} {o0 : Nat} {n0 : Nat} {a1 : Int32} (C : Cx p s m [.ref (ad k0 g0 o0), .int a1].toArray meth c cX11_sum 4 wsX11_sum RX11 N0 T D gr ad) (hrt : meth.sig.returnType = (some .int)) (hG : ∀ q ∈ [(k0, g0)], q ∈ gr) (hA0 : ∀ y, cell T ad k0 g0 o0 y = .inl (T 0, n0, .inl y)) (hO0 : o0 ∈ offs k0 g0) (hN0 : n0 < 2 ^ 31) {res : Int32} (h : X11_sum Y k0 g0 o0 n0 a1 = some res) : FW p l e (Rm 0) s m [.ref (ad k0 g0 o0), .int a1].toArray below meth c 4 N0 T D gr ad 0 0 (MQ below (va_Qi (fun r Y1 => r = res ∧ Y1 = Y) (WB T D gr ad) (fun q => N0 ≤ q)) [.ref (ad k0 g0 o0), .int a1].toArray s 0 0 (fun q => N0 ≤ q)) Y 0 [(0, .ref (ad k0 g0 o0)), (1, .int a1)] [] := by
  unfold X11_sum at h
  refine fw_iconst C dX11_sum_0 (v := 0) rfl ?_
  refine fw_istore_n C dX11_sum_1 rfl (by decide) (L' := [(2, .int 0), (0, .ref (ad k0 g0 o0)), (1, .int a1)]) rfl ?_
  refine fw_iconst C dX11_sum_2 (v := 0) rfl ?_
  refine fw_istore_n C dX11_sum_3 rfl (by decide) (L' := [(3, .int 0), (2, .int 0), (0, .ref (ad k0 g0 o0)), (1, .int a1)]) rfl ?_
  exact w_X11_sum_b4 C hrt hG hA0 hO0 hN0  _ _ _ h
end
set_option maxRecDepth 100000 in
set_option maxHeartbeats 4000000 in
theorem c_X11_sum {l : Launch} {N0 : Nat} {T : Nat → ClassId} {D : va_G} {gr : List (Nat × Nat)} {ad : Nat → Nat → Nat → Nat} {Y : Mem} {k0 : Nat} {g0 : Nat} {o0 : Nat} {n0 : Nat} {a1 : Int32} {res : Int32} (hG : ∀ q ∈ [(k0, g0)], q ∈ gr) (hA0 : ∀ y, cell T ad k0 g0 o0 y = .inl (T 0, n0, .inl y)) (hO0 : o0 ∈ offs k0 g0) (hN0 : n0 < 2 ^ 31) (h : X11_sum Y k0 g0 o0 n0 a1 = some res) : CI l yX11_sum wsX11_sum (Rm 0) N0 T D gr ad Y [.ref (ad k0 g0 o0), .int a1] (fun r Y1 => r = res ∧ Y1 = Y) :=
  fw_body (by decide +kernel) rfl (Nat.le_of_ble_eq_true rfl) (fun p e s m below meth c C hrt => w_X11_sum C hrt hG hA0 hO0 hN0 h)
