theorem ly_X11_writeSummary_11 : ∀ w ∈ u_ws RX11 TX11 11, w ∈ wsX11_writeSummary := by decide +kernel
theorem fl_X11_writeSummary_45 : Cond.fieldLink RX11 45 "RecipeScheduler" "output" "LRecipeScheduler$Text;" ∈ wsX11_writeSummary := by decide +kernel
theorem ly_X11_writeSummary_9 : ∀ w ∈ u_ws RX9 TX9 2, w ∈ wsX11_writeSummary := by decide +kernel
theorem fl_X11_writeSummary_67 : Cond.fieldLink RX11 67 "RecipeScheduler" "now" "LRecipeScheduler$Kitchen;" ∈ wsX11_writeSummary := by decide +kernel
theorem ly_X11_writeSummary_3 : ∀ w ∈ u_ws RX3 TX3 5, w ∈ wsX11_writeSummary := by decide +kernel
theorem ly_X11_writeSummary_5 : ∀ w ∈ u_ws RX5 TX5 17, w ∈ wsX11_writeSummary := by decide +kernel
theorem ly_X11_writeSummary_4 : ∀ w ∈ u_ws RX4 TX4 3, w ∈ wsX11_writeSummary := by decide +kernel
section
variable {p : Program} {l : Launch} {e : Env} {s : State} {m : MethodId} {below : List Frame} {meth : Method} {c : Code} {N0 : Nat} {T : Nat → ClassId} {D : va_G} {gr : List (Nat × Nat)} {ad : Nat → Nat → Nat → Nat}
set_option maxRecDepth 100000 in
set_option maxHeartbeats 4000000 in
theorem w_X11_writeSummary_b40  (C : Cx p s m [.ref (ad 0 0 0)].toArray meth c cX11_writeSummary 2 wsX11_writeSummary RX11 N0 T D gr ad) (hrt : meth.sig.returnType = (some .int)) (hG : ∀ q ∈ ([(0, 0), (5, 1), (1, 0), (2, 0)] ++ allG), q ∈ gr) {res : Int32 × Mem} {k10 : Mem → Int32 → Option (Int32 × Mem)} (hk10 : ∀ (Y : Mem) (l1 : Int32), k10 Y l1 = some res → FW p l e (Rm 3) s m [.ref (ad 0 0 0)].toArray below meth c 2 N0 T D gr ad 0 0 (MQ below (va_Qi (fun r Y1 => (r, Y1) = res) (WB T D gr ad) (fun q => N0 ≤ q)) [.ref (ad 0 0 0)].toArray s 0 0 (fun q => N0 ≤ q)) Y 10 [(1, .int l1), (0, .ref (ad 0 0 0))] []) (Y : Mem) (l1 : Int32) (h : X11_writeSummary_b40  k10 Y l1 = some res) : FW p l e (Rm 3) s m [.ref (ad 0 0 0)].toArray below meth c 2 N0 T D gr ad 0 0 (MQ below (va_Qi (fun r Y1 => (r, Y1) = res) (WB T D gr ad) (fun q => N0 ≤ q)) [.ref (ad 0 0 0)].toArray s 0 0 (fun q => N0 ≤ q)) Y 40 [(1, .int l1), (0, .ref (ad 0 0 0))] [] := by
  unfold X11_writeSummary_b40 at h
  refine fw_aload_n C dX11_writeSummary_40 rfl 1 rfl ?_
  refine fw_get C (ci := 9) (Cn := RX11) (Tc := TX11) (N := 11) (j := 5) ly_X11_writeSummary_11 rfl (hG _ (List.mem_of_getElem? (i := 0) rfl)) (of0_0 _) (ce0 T ad _ _) (by decide) (cx_ts C _ fl_X11_writeSummary_67) (fun _ h => h) (v := .ref (ad 1 0 0)) rfl dX11_writeSummary_41 ?_
  refine fw_getN C (ci := 1) (Cn := RX3) (Tc := TX3) (N := 5) (j := 0) ly_X11_writeSummary_3 rfl (hG _ (List.mem_of_getElem? (i := 2) rfl)) (of1_0 _) (ce1 T ad _ _) (by decide) (Nst_use (cx_nst C) (w := .fieldLinkNest RX11 117 "RecipeScheduler$Kitchen" "recipe" "LRecipeScheduler$Recipe;" "RecipeScheduler") 520 (by decide +kernel) rfl) (fun _ h => h) (v := .ref (ad 3 ((Y 1 0 0 0).toNatClampNeg) 0)) rfl dX11_writeSummary_44 ?_
  obtain ⟨b7, h⟩ := gd_some h
  have b7 := of_decide_eq_true b7
  refine fw_getN C (ci := 3) (Cn := RX5) (Tc := TX5) (N := 17) (j := 7) ly_X11_writeSummary_5 rfl ((fun q hq => hG q (List.mem_append_right _ hq)) _ (allG_3 b7)) (of3_0 _) (ce3 T ad _ _) (by decide) (Nst_use (cx_nst C) (w := .fieldLinkNest RX11 126 "RecipeScheduler$Recipe" "steps" "LRecipeScheduler$Names;" "RecipeScheduler") 148 (by decide +kernel) rfl) (fun _ h => h) (v := .ref (ad 4 (2*((Y 1 0 0 0).toNatClampNeg)+1) 0)) rfl dX11_writeSummary_47 ?_
  refine fw_aload_n C dX11_writeSummary_50 rfl 1 rfl ?_
  refine fw_get C (ci := 9) (Cn := RX11) (Tc := TX11) (N := 11) (j := 1) ly_X11_writeSummary_11 rfl (hG _ (List.mem_of_getElem? (i := 0) rfl)) (of0_0 _) (ce0 T ad _ _) (by decide) (cx_ts C _ fl_X11_writeSummary_45) (fun _ h => h) (v := .ref (ad 5 1 0)) rfl dX11_writeSummary_51 ?_
  refine fw_iload_n C dX11_writeSummary_54 rfl 0 rfl ?_
  obtain ⟨b8, h⟩ := gd_some h
  have b8 := of_decide_eq_true b8
  obtain ⟨Y11, q10, h⟩ := bd1_some h
  refine fw_callVv C (ci := 2) (Cn := RX4) (Tc := TX4) (N := 3) (As := [.ref (ad 5 1 0), .int l1]) (c_X4_copyTo (gac ((fun q hq => hG q (List.mem_append_right _ hq)) _ (allG_4b b8)) (gac (hG _ (List.mem_of_getElem? (i := 1) rfl)) ga0)) q10) (cwV 2 (cx_ts C) gX11_writeSummary_X4_copyTo rfl rfl rfl (by decide +kernel) ⟨Nat.le_of_ble_eq_true rfl, Nat.le_of_ble_eq_true rfl⟩) rfl ((fun q hq => hG q (List.mem_append_right _ hq)) _ (allG_4b b8)) (of4_0 _) (ce4 T ad _ _) rfl (st := []) rfl (Nat.le_of_ble_eq_true rfl) ⟨Nat.le_refl 0, Nat.le_refl 0⟩ dX11_writeSummary_55 (ppv ?_)
  refine fw_aload_n C dX11_writeSummary_58 rfl 1 rfl ?_
  refine fw_iload_n C dX11_writeSummary_59 rfl 0 rfl ?_
  obtain ⟨Y14, q13, h⟩ := bd1_some h
  refine fw_callVv C (ci := 9) (Cn := RX11) (Tc := TX11) (N := 11) (As := [.int l1]) (c_X11_writeProgress (gac (hG _ (List.mem_of_getElem? (i := 0) rfl)) (gac (hG _ (List.mem_of_getElem? (i := 2) rfl)) (gac (hG _ (List.mem_of_getElem? (i := 3) rfl)) (gac (hG _ (List.mem_of_getElem? (i := 1) rfl)) ga0)))) q13) (cwV 1 (cx_ts C) gX11_writeSummary_X11_writeProgress rfl rfl rfl (by decide +kernel) ⟨Nat.le_of_ble_eq_true rfl, Nat.le_of_ble_eq_true rfl⟩) rfl (hG _ (List.mem_of_getElem? (i := 0) rfl)) (of0_0 _) (ce0 T ad _ _) rfl (st := []) rfl (Nat.le_of_ble_eq_true rfl) ⟨Nat.le_refl 0, Nat.le_refl 0⟩ dX11_writeSummary_60 (ppv ?_)
  refine fw_iinc C dX11_writeSummary_63 (kk := 0) (v := l1 + 1) rfl rfl (by decide) (L' := [(1, .int (l1 + 1)), (0, .ref (ad 0 0 0))]) rfl ?_
  refine fw_goto C dX11_writeSummary_66 (tgt := 10) rfl ?_
  exact hk10 _ _ h
set_option maxRecDepth 100000 in
set_option maxHeartbeats 4000000 in
theorem w_X11_writeSummary_b10  (C : Cx p s m [.ref (ad 0 0 0)].toArray meth c cX11_writeSummary 2 wsX11_writeSummary RX11 N0 T D gr ad) (hrt : meth.sig.returnType = (some .int)) (hG : ∀ q ∈ ([(0, 0), (5, 1), (1, 0), (2, 0)] ++ allG), q ∈ gr) {res : Int32 × Mem} : ∀ (n : Nat) (Y : Mem) (l1 : Int32), X11_writeSummary_b10   n Y l1 = some res → FW p l e (Rm 3) s m [.ref (ad 0 0 0)].toArray below meth c 2 N0 T D gr ad 0 0 (MQ below (va_Qi (fun r Y1 => (r, Y1) = res) (WB T D gr ad) (fun q => N0 ≤ q)) [.ref (ad 0 0 0)].toArray s 0 0 (fun q => N0 ≤ q)) Y 10 [(1, .int l1), (0, .ref (ad 0 0 0))] [] := by
  intro n
  induction n with
  | zero =>
    intro Y l1 h
    unfold X11_writeSummary_b10 at h
    cases h
  | succ n ih =>
    intro Y l1 h
    unfold X11_writeSummary_b10 at h
    refine fw_iload_n C dX11_writeSummary_10 rfl 0 rfl ?_
    refine fw_aload_n C dX11_writeSummary_11 rfl 1 rfl ?_
    refine fw_get C (ci := 9) (Cn := RX11) (Tc := TX11) (N := 11) (j := 5) ly_X11_writeSummary_11 rfl (hG _ (List.mem_of_getElem? (i := 0) rfl)) (of0_0 _) (ce0 T ad _ _) (by decide) (cx_ts C _ fl_X11_writeSummary_67) (fun _ h => h) (v := .ref (ad 1 0 0)) rfl dX11_writeSummary_12 ?_
    refine fw_getN C (ci := 1) (Cn := RX3) (Tc := TX3) (N := 5) (j := 0) ly_X11_writeSummary_3 rfl (hG _ (List.mem_of_getElem? (i := 2) rfl)) (of1_0 _) (ce1 T ad _ _) (by decide) (Nst_use (cx_nst C) (w := .fieldLinkNest RX11 117 "RecipeScheduler$Kitchen" "recipe" "LRecipeScheduler$Recipe;" "RecipeScheduler") 520 (by decide +kernel) rfl) (fun _ h => h) (v := .ref (ad 3 ((Y 1 0 0 0).toNatClampNeg) 0)) rfl dX11_writeSummary_15 ?_
    obtain ⟨b3, h⟩ := gd_some h
    have b3 := of_decide_eq_true b3
    refine fw_getN C (ci := 3) (Cn := RX5) (Tc := TX5) (N := 17) (j := 7) ly_X11_writeSummary_5 rfl ((fun q hq => hG q (List.mem_append_right _ hq)) _ (allG_3 b3)) (of3_0 _) (ce3 T ad _ _) (by decide) (Nst_use (cx_nst C) (w := .fieldLinkNest RX11 126 "RecipeScheduler$Recipe" "steps" "LRecipeScheduler$Names;" "RecipeScheduler") 148 (by decide +kernel) rfl) (fun _ h => h) (v := .ref (ad 4 (2*((Y 1 0 0 0).toNatClampNeg)+1) 0)) rfl dX11_writeSummary_18 ?_
    obtain ⟨b4, h⟩ := gd_some h
    have b4 := of_decide_eq_true b4
    refine fw_getN C (ci := 2) (Cn := RX4) (Tc := TX4) (N := 3) (j := 2) ly_X11_writeSummary_4 rfl ((fun q hq => hG q (List.mem_append_right _ hq)) _ (allG_4b b4)) (of4_0 _) (ce4 T ad _ _) (by decide) (Nst_use (cx_nst C) (w := .fieldLinkNest RX11 130 "RecipeScheduler$Names" "count" "I" "RecipeScheduler") 115 (by decide +kernel) rfl) (fun _ h => h) (v := .int (Y 4 (2*((Y 1 0 0 0).toNatClampNeg)+1) 0 2)) rfl dX11_writeSummary_21 ?_
    refine fw_icmp_ge C dX11_writeSummary_24 (tgt := 69) rfl (fun c5 => ?_) (fun c5 => ?_)
    · have h := ite_t c5 h
      refine fw_aload_n C dX11_writeSummary_69 rfl 1 rfl ?_
      refine fw_get C (ci := 9) (Cn := RX11) (Tc := TX11) (N := 11) (j := 1) ly_X11_writeSummary_11 rfl (hG _ (List.mem_of_getElem? (i := 0) rfl)) (of0_0 _) (ce0 T ad _ _) (by decide) (cx_ts C _ fl_X11_writeSummary_45) (fun _ h => h) (v := .ref (ad 5 1 0)) rfl dX11_writeSummary_70 ?_
      refine fw_getN C (ci := 7) (Cn := RX9) (Tc := TX9) (N := 2) (j := 1) ly_X11_writeSummary_9 rfl (hG _ (List.mem_of_getElem? (i := 1) rfl)) (of5_0 _) (ce5 T ad _ _) (by decide) (Nst_use (cx_nst C) (w := .fieldLinkNest RX11 37 "RecipeScheduler$Text" "length" "I" "RecipeScheduler") 48 (by decide +kernel) rfl) (fun _ h => h) (v := .int (Y 5 1 0 1)) rfl dX11_writeSummary_73 ?_
      exact fw_iret C hrt Y (Option.some.inj h) (fun t ht => ht) dX11_writeSummary_76
    · have h := ite_f c5 h
      refine fw_iload_n C dX11_writeSummary_27 rfl 0 rfl ?_
      refine fw_if_le C dX11_writeSummary_28 (tgt := 40) rfl (fun c6 => ?_) (fun c6 => ?_)
      · have h := ite_t c6 h
        exact w_X11_writeSummary_b40 C hrt hG  ih _ _ h
      · have h := ite_f c6 h
        refine fw_aload_n C dX11_writeSummary_31 rfl 1 rfl ?_
        refine fw_get C (ci := 9) (Cn := RX11) (Tc := TX11) (N := 11) (j := 1) ly_X11_writeSummary_11 rfl (hG _ (List.mem_of_getElem? (i := 0) rfl)) (of0_0 _) (ce0 T ad _ _) (by decide) (cx_ts C _ fl_X11_writeSummary_45) (fun _ h => h) (v := .ref (ad 5 1 0)) rfl dX11_writeSummary_32 ?_
        refine fw_bipush C dX11_writeSummary_35 (v := 32) rfl ?_
        obtain ⟨Y17, q16, h⟩ := bd1_some h
        refine fw_callVv C (ci := 7) (Cn := RX9) (Tc := TX9) (N := 2) (As := [.int 32]) (c_X9_addByte (gac (hG _ (List.mem_of_getElem? (i := 1) rfl)) ga0) q16) (cwV 1 (cx_ts C) gX11_writeSummary_X9_addByte rfl rfl rfl (by decide +kernel) ⟨Nat.le_of_ble_eq_true rfl, Nat.le_of_ble_eq_true rfl⟩) rfl (hG _ (List.mem_of_getElem? (i := 1) rfl)) (of5_0 _) (ce5 T ad _ _) rfl (st := []) rfl (Nat.le_of_ble_eq_true rfl) ⟨Nat.le_refl 0, Nat.le_refl 0⟩ dX11_writeSummary_37 (ppv ?_)
        exact w_X11_writeSummary_b40 C hrt hG  ih _ _ h
set_option maxRecDepth 100000 in
set_option maxHeartbeats 4000000 in
theorem w_X11_writeSummary {Y : Mem} (C : Cx p s m [.ref (ad 0 0 0)].toArray meth c cX11_writeSummary 2 wsX11_writeSummary RX11 N0 T D gr ad) (hrt : meth.sig.returnType = (some .int)) (hG : ∀ q ∈ ([(0, 0), (5, 1), (1, 0), (2, 0)] ++ allG), q ∈ gr) {res : Int32 × Mem} (h : X11_writeSummary Y = some res) : FW p l e (Rm 3) s m [.ref (ad 0 0 0)].toArray below meth c 2 N0 T D gr ad 0 0 (MQ below (va_Qi (fun r Y1 => (r, Y1) = res) (WB T D gr ad) (fun q => N0 ≤ q)) [.ref (ad 0 0 0)].toArray s 0 0 (fun q => N0 ≤ q)) Y 0 [(0, .ref (ad 0 0 0))] [] := by
  unfold X11_writeSummary at h
  refine fw_aload_n C dX11_writeSummary_0 rfl 0 rfl ?_
  refine fw_get C (ci := 9) (Cn := RX11) (Tc := TX11) (N := 11) (j := 1) ly_X11_writeSummary_11 rfl (hG _ (List.mem_of_getElem? (i := 0) rfl)) (of0_0 _) (ce0 T ad _ _) (by decide) (cx_ts C _ fl_X11_writeSummary_45) (fun _ h => h) (v := .ref (ad 5 1 0)) rfl dX11_writeSummary_1 ?_
  refine fw_iconst C dX11_writeSummary_4 (v := 0) rfl ?_
  obtain ⟨Y1, e2, h⟩ := lt_some h
  refine fw_putN C (ci := 7) (Cn := RX9) (Tc := TX9) (N := 2) (j := 1) (ty := .int) (upd (Y 5 1 0) 1 0) ly_X11_writeSummary_9 rfl tyX9_ok nmX9 (hG _ (List.mem_of_getElem? (i := 1) rfl)) (of5_0 _) (ce5 T ad _ _) (by decide) (Nst_use (cx_nst C) (w := .fieldLinkNest RX11 37 "RecipeScheduler$Text" "length" "I" "RecipeScheduler") 48 (by decide +kernel) rfl) (fun _ h => h) rfl (by decide +kernel) rfl rfl (Nat.le_of_ble_eq_true rfl) (ce5_put1 T ad _ _ _) dX11_writeSummary_5 ?_
  refine fw_mem ((up_eq _ _ _ _ _ _).symm.trans e2) ?_
  refine fw_iconst C dX11_writeSummary_8 (v := 0) rfl ?_
  refine fw_istore_n C dX11_writeSummary_9 rfl (by decide) (L' := [(1, .int 0), (0, .ref (ad 0 0 0))]) rfl ?_
  exact w_X11_writeSummary_b10 C hrt hG   _ _ _ h
end
set_option maxRecDepth 100000 in
set_option maxHeartbeats 4000000 in
theorem c_X11_writeSummary {l : Launch} {N0 : Nat} {T : Nat → ClassId} {D : va_G} {gr : List (Nat × Nat)} {ad : Nat → Nat → Nat → Nat} {Y : Mem} {res : Int32 × Mem} (hG : ∀ q ∈ ([(0, 0), (5, 1), (1, 0), (2, 0)] ++ allG), q ∈ gr) (h : X11_writeSummary Y = some res) : CI l yX11_writeSummary wsX11_writeSummary (Rm 3) N0 T D gr ad Y [.ref (ad 0 0 0)] (fun r Y1 => (r, Y1) = res) :=
  fw_body (by decide +kernel) rfl (Nat.le_of_ble_eq_true rfl) (fun p e s m below meth c C hrt => w_X11_writeSummary C hrt hG  h)
section
variable {p : Program} {l : Launch} {e : Env} {s : State} {m : MethodId} {below : List Frame} {meth : Method} {c : Code} {N0 : Nat} {T : Nat → ClassId} {D : va_G} {gr : List (Nat × Nat)} {ad : Nat → Nat → Nat → Nat}
set_option maxRecDepth 100000 in
set_option maxHeartbeats 4000000 in
theorem w_X9_addString_b2 {g0 : Nat} {w1 : Nat} (C : Cx p s m [.ref (ad 5 g0 0), .ref (ad 21 w1 0)].toArray meth c cX9_addString 3 wsX9_addString RX9 N0 T D gr ad) (hrt : meth.sig.returnType = none) (hG : ∀ q ∈ [(5, g0)], q ∈ gr) {res : Mem} : ∀ (n : Nat) (Y : Mem) (l2 : Int32), X9_addString_b2 g0 w1  n Y l2 = some res → FW p l e (Rm 4) s m [.ref (ad 5 g0 0), .ref (ad 21 w1 0)].toArray below meth c 3 N0 T D gr ad 0 0 (MQ below (va_Qv (fun Y1 => Y1 = res) (WB T D gr ad) (fun q => N0 ≤ q)) [.ref (ad 5 g0 0), .ref (ad 21 w1 0)].toArray s 0 0 (fun q => N0 ≤ q)) Y 2 [(2, .int l2), (0, .ref (ad 5 g0 0)), (1, .ref (ad 21 w1 0))] [] := by
  intro n
  induction n with
  | zero =>
    intro Y l2 h
    unfold X9_addString_b2 at h
    cases h
  | succ n ih =>
    intro Y l2 h
    unfold X9_addString_b2 at h
    refine fw_iload_n C dX9_addString_2 rfl 0 rfl ?_
    refine fw_aload_n C dX9_addString_3 rfl 2 rfl ?_
    obtain ⟨b1, h⟩ := gd_some h
    have b1 := of_decide_eq_true b1
    obtain ⟨r2, q3, h⟩ := bd1_some h
    refine fw_callOi C (Cn := RJ0) (As := []) (c_J0_length_8abf5 ga0 q3) (cwV 0 (cx_ts C) gX9_addString_J0_length_8abf5 rfl rfl rfl (by decide +kernel) ⟨Nat.le_of_ble_eq_true rfl, Nat.le_of_ble_eq_true rfl⟩) ((cx_st C).1 _ b1).1 rfl (st := [.int l2]) rfl (Nat.le_of_ble_eq_true rfl) ⟨Nat.le_refl 0, Nat.le_refl 0⟩ dX9_addString_4 (pp2 ?_)
    refine fw_icmp_ge C dX9_addString_7 (tgt := 25) rfl (fun c4 => ?_) (fun c4 => ?_)
    · have h := ite_t c4 h
      exact fw_vret C hrt Y (Option.some.inj h) (fun t ht => ht) dX9_addString_25
    · have h := ite_f c4 h
      refine fw_aload_n C dX9_addString_10 rfl 1 rfl ?_
      refine fw_aload_n C dX9_addString_11 rfl 2 rfl ?_
      refine fw_iload_n C dX9_addString_12 rfl 0 rfl ?_
      obtain ⟨r5, q6, h⟩ := bd1_some h
      refine fw_callOi C (Cn := RJ0) (As := [.int l2]) (c_J0_charAt_5068e ga0 q6) (cwV 1 (cx_ts C) gX9_addString_J0_charAt_5068e rfl rfl rfl (by decide +kernel) ⟨Nat.le_of_ble_eq_true rfl, Nat.le_of_ble_eq_true rfl⟩) ((cx_st C).1 _ b1).1 rfl (st := [.ref (ad 5 g0 0)]) rfl (Nat.le_of_ble_eq_true rfl) ⟨Nat.le_refl 0, Nat.le_refl 0⟩ dX9_addString_13 (pp2 ?_)
      obtain ⟨Y9, q8, h⟩ := bd1_some h
      refine fw_callVv C (ci := 7) (Cn := RX9) (Tc := TX9) (N := 2) (As := [.int r5]) (c_X9_addByte (gac (hG _ (List.mem_of_getElem? (i := 0) rfl)) ga0) q8) (cwV 1 (cx_ts C) gX9_addString_X9_addByte rfl rfl rfl (by decide +kernel) ⟨Nat.le_of_ble_eq_true rfl, Nat.le_of_ble_eq_true rfl⟩) rfl (hG _ (List.mem_of_getElem? (i := 0) rfl)) (of5_0 _) (ce5 T ad _ _) rfl (st := []) rfl (Nat.le_of_ble_eq_true rfl) ⟨Nat.le_refl 0, Nat.le_refl 0⟩ dX9_addString_16 (ppv ?_)
      refine fw_iinc C dX9_addString_19 (kk := 0) (v := l2 + 1) rfl rfl (by decide) (L' := [(2, .int (l2 + 1)), (0, .ref (ad 5 g0 0)), (1, .ref (ad 21 w1 0))]) rfl ?_
      refine fw_goto C dX9_addString_22 (tgt := 2) rfl ?_
      exact ih _ _ h
set_option maxRecDepth 100000 in
set_option maxHeartbeats 4000000 in
theorem w_X9_addString {Y : Mem} {g0 : Nat} {w1 : Nat} (C : Cx p s m [.ref (ad 5 g0 0), .ref (ad 21 w1 0)].toArray meth c cX9_addString 3 wsX9_addString RX9 N0 T D gr ad) (hrt : meth.sig.returnType = none) (hG : ∀ q ∈ [(5, g0)], q ∈ gr) {res : Mem} (h : X9_addString Y g0 w1 = some res) : FW p l e (Rm 4) s m [.ref (ad 5 g0 0), .ref (ad 21 w1 0)].toArray below meth c 3 N0 T D gr ad 0 0 (MQ below (va_Qv (fun Y1 => Y1 = res) (WB T D gr ad) (fun q => N0 ≤ q)) [.ref (ad 5 g0 0), .ref (ad 21 w1 0)].toArray s 0 0 (fun q => N0 ≤ q)) Y 0 [(0, .ref (ad 5 g0 0)), (1, .ref (ad 21 w1 0))] [] := by
  unfold X9_addString at h
  refine fw_iconst C dX9_addString_0 (v := 0) rfl ?_
  refine fw_istore_n C dX9_addString_1 rfl (by decide) (L' := [(2, .int 0), (0, .ref (ad 5 g0 0)), (1, .ref (ad 21 w1 0))]) rfl ?_
  exact w_X9_addString_b2 C hrt hG   _ _ _ h
end
set_option maxRecDepth 100000 in
set_option maxHeartbeats 4000000 in
theorem c_X9_addString {l : Launch} {N0 : Nat} {T : Nat → ClassId} {D : va_G} {gr : List (Nat × Nat)} {ad : Nat → Nat → Nat → Nat} {Y : Mem} {g0 : Nat} {w1 : Nat} {res : Mem} (hG : ∀ q ∈ [(5, g0)], q ∈ gr) (h : X9_addString Y g0 w1 = some res) : CV l yX9_addString wsX9_addString (Rm 4) N0 T D gr ad Y [.ref (ad 5 g0 0), .ref (ad 21 w1 0)] (fun Y1 => Y1 = res) :=
  fw_body (by decide +kernel) rfl (Nat.le_of_ble_eq_true rfl) (fun p e s m below meth c C hrt => w_X9_addString C hrt hG  h)
