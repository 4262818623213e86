theorem ly_X3_readyAt_3 : ∀ w ∈ u_ws RX3 TX3 5, w ∈ wsX3_readyAt := by decide +kernel
theorem fl_X3_readyAt_28 : Cond.fieldLink RX3 28 "RecipeScheduler$Kitchen" "recipe" "LRecipeScheduler$Recipe;" ∈ wsX3_readyAt := by decide +kernel
theorem ly_X3_readyAt_5 : ∀ w ∈ u_ws RX5 TX5 17, w ∈ wsX3_readyAt := by decide +kernel
theorem ly_X3_readyAt_4 : ∀ w ∈ u_ws RX4 TX4 3, w ∈ wsX3_readyAt := by decide +kernel
theorem fl_X3_readyAt_22 : Cond.fieldLink RX3 22 "RecipeScheduler$Kitchen" "order" "[I" ∈ wsX3_readyAt := by decide +kernel
theorem in_X3_readyAt_11 : Cond.initialized RX11 ∈ wsX3_readyAt := by decide +kernel
theorem sw_X3_readyAt_X11_contains : Cond.static yX11_contains ∈ wsX3_readyAt := by decide +kernel
section
variable {p : Program} {l : Launch} {e : Env} {s : State} {m : MethodId} {below : List Frame} {meth : Method} {c : Code} {N0 : Nat} {T : Nat → ClassId} {D : va_G} {gr : List (Nat × Nat)} {ad : Nat → Nat → Nat → Nat}
set_option maxRecDepth 100000 in
set_option maxHeartbeats 4000000 in
theorem w_X3_readyAt_b59 {g0 : Nat} {a1 : Int32} (C : Cx p s m [.ref (ad 1 g0 0), .int a1].toArray meth c cX3_readyAt 5 wsX3_readyAt RX3 N0 T D gr ad) (hrt : meth.sig.returnType = (some .int)) (hG : ∀ q ∈ ([(2, g0), (1, g0)] ++ allG), q ∈ gr) {res : Int32 × Mem} {k14 : Mem → Int32 → Int32 → Int32 → Option (Int32 × Mem)} (hk14 : ∀ (Y : Mem) (l4 : Int32) (l3 : Int32) (l2 : Int32), k14 Y l4 l3 l2 = some res → FW p l e (Rm 3) s m [.ref (ad 1 g0 0), .int a1].toArray below meth c 5 N0 T D gr ad 0 0 (MQ below (va_Qi (fun r Y1 => (r, Y1) = res) (WB T D gr ad) (fun q => N0 ≤ q)) [.ref (ad 1 g0 0), .int a1].toArray s 0 0 (fun q => N0 ≤ q)) Y 14 [(4, .int l4), (3, .int l3), (2, .int l2), (0, .ref (ad 1 g0 0)), (1, .int a1)] []) (Y : Mem) (l4 : Int32) (l3 : Int32) (l2 : Int32) (h : X3_readyAt_b59 g0 a1 k14 Y l4 l3 l2 = some res) : FW p l e (Rm 3) s m [.ref (ad 1 g0 0), .int a1].toArray below meth c 5 N0 T D gr ad 0 0 (MQ below (va_Qi (fun r Y1 => (r, Y1) = res) (WB T D gr ad) (fun q => N0 ≤ q)) [.ref (ad 1 g0 0), .int a1].toArray s 0 0 (fun q => N0 ≤ q)) Y 59 [(4, .int l4), (3, .int l3), (2, .int l2), (0, .ref (ad 1 g0 0)), (1, .int a1)] [] := by
  unfold X3_readyAt_b59 at h
  refine fw_iinc C dX3_readyAt_59 (kk := 0) (v := l4 + 1) rfl rfl (by decide) (L' := [(4, .int (l4 + 1)), (3, .int l3), (2, .int l2), (0, .ref (ad 1 g0 0)), (1, .int a1)]) rfl ?_
  refine fw_goto C dX3_readyAt_62 (tgt := 14) rfl ?_
  exact hk14 _ _ _ _ h
set_option maxRecDepth 100000 in
set_option maxHeartbeats 4000000 in
theorem w_X3_readyAt_b14 {g0 : Nat} {a1 : Int32} (C : Cx p s m [.ref (ad 1 g0 0), .int a1].toArray meth c cX3_readyAt 5 wsX3_readyAt RX3 N0 T D gr ad) (hrt : meth.sig.returnType = (some .int)) (hG : ∀ q ∈ ([(2, g0), (1, g0)] ++ allG), q ∈ gr) {res : Int32 × Mem} : ∀ (n : Nat) (Y : Mem) (l4 : Int32) (l3 : Int32) (l2 : Int32), X3_readyAt_b14 g0 a1  n Y l4 l3 l2 = some res → FW p l e (Rm 3) s m [.ref (ad 1 g0 0), .int a1].toArray below meth c 5 N0 T D gr ad 0 0 (MQ below (va_Qi (fun r Y1 => (r, Y1) = res) (WB T D gr ad) (fun q => N0 ≤ q)) [.ref (ad 1 g0 0), .int a1].toArray s 0 0 (fun q => N0 ≤ q)) Y 14 [(4, .int l4), (3, .int l3), (2, .int l2), (0, .ref (ad 1 g0 0)), (1, .int a1)] [] := by
  intro n
  induction n with
  | zero =>
    intro Y l4 l3 l2 h
    unfold X3_readyAt_b14 at h
    cases h
  | succ n ih =>
    intro Y l4 l3 l2 h
    unfold X3_readyAt_b14 at h
    refine fw_iload C dX3_readyAt_14 0 rfl ?_
    refine fw_aload_n C dX3_readyAt_16 rfl 3 rfl ?_
    refine fw_get C (ci := 1) (Cn := RX3) (Tc := TX3) (N := 5) (j := 0) ly_X3_readyAt_3 rfl (hG _ (List.mem_of_getElem? (i := 1) rfl)) (of1_0 _) (ce1 T ad _ _) (by decide) (cx_ts C _ fl_X3_readyAt_28) (fun _ h => h) (v := .ref (ad 3 ((Y 1 g0 0 0).toNatClampNeg) 0)) rfl dX3_readyAt_17 ?_
    obtain ⟨b6, h⟩ := gd_some h
    have b6 := of_decide_eq_true b6
    refine fw_getN C (ci := 3) (Cn := RX5) (Tc := TX5) (N := 17) (j := 7) ly_X3_readyAt_5 rfl ((fun q hq => hG q (List.mem_append_right _ hq)) _ (allG_3 b6)) (of3_0 _) (ce3 T ad _ _) (by decide) (Nst_use (cx_nst C) (w := .fieldLinkNest RX3 91 "RecipeScheduler$Recipe" "steps" "LRecipeScheduler$Names;" "RecipeScheduler") 150 (by decide +kernel) rfl) (fun _ h => h) (v := .ref (ad 4 (2*((Y 1 g0 0 0).toNatClampNeg)+1) 0)) rfl dX3_readyAt_20 ?_
    obtain ⟨b7, h⟩ := gd_some h
    have b7 := of_decide_eq_true b7
    refine fw_getN C (ci := 2) (Cn := RX4) (Tc := TX4) (N := 3) (j := 2) ly_X3_readyAt_4 rfl ((fun q hq => hG q (List.mem_append_right _ hq)) _ (allG_4b b7)) (of4_0 _) (ce4 T ad _ _) (by decide) (Nst_use (cx_nst C) (w := .fieldLinkNest RX3 95 "RecipeScheduler$Names" "count" "I" "RecipeScheduler") 116 (by decide +kernel) rfl) (fun _ h => h) (v := .int (Y 4 (2*((Y 1 g0 0 0).toNatClampNeg)+1) 0 2)) rfl dX3_readyAt_23 ?_
    refine fw_icmp_ge C dX3_readyAt_26 (tgt := 65) rfl (fun c8 => ?_) (fun c8 => ?_)
    · have h := ite_t c8 h
      refine fw_iconst C dX3_readyAt_65 (v := (-1)) rfl ?_
      exact fw_iret C hrt Y (Option.some.inj h) (fun t ht => ht) dX3_readyAt_66
    · have h := ite_f c8 h
      refine fw_iload_n C dX3_readyAt_29 rfl 2 rfl ?_
      refine fw_aload_n C dX3_readyAt_30 rfl 3 rfl ?_
      refine fw_get C (ci := 1) (Cn := RX3) (Tc := TX3) (N := 5) (j := 3) ly_X3_readyAt_3 rfl (hG _ (List.mem_of_getElem? (i := 1) rfl)) (of1_0 _) (ce1 T ad _ _) (by decide) (cx_ts C _ fl_X3_readyAt_22) (fun _ h => h) (v := .ref (ad 1 g0 2)) rfl dX3_readyAt_31 ?_
      refine fw_iload C dX3_readyAt_34 0 rfl ?_
      obtain ⟨b9, h⟩ := gd_some h
      refine fw_iald2 C (hG _ (List.mem_of_getElem? (i := 1) rfl)) (of1_2 _) (ca1_2 T ad _ _) b9 (Nat.le_of_ble_eq_true rfl) dX3_readyAt_36 ?_
      obtain ⟨r10, q11, h⟩ := bd1_some h
      refine fw_callSNi C (As := [.int l2, .int (Y 1 g0 2 (ix l4))]) (c_X11_contains ga0 q11) ⟨(va_cnB 2 (cx_ts C) gX3_readyAt_X11_contains_n100 rfl rfl rfl (cx_nw C (w := .methodLinkNest RX3 100 yX11_contains "RecipeScheduler") 627 (by decide +kernel) rfl) (cx_ts C _ in_X3_readyAt_11) (by decide +kernel) ⟨Nat.le_of_ble_eq_true rfl, Nat.le_of_ble_eq_true rfl⟩), cx_ts C _ sw_X3_readyAt_X11_contains, trivial⟩ rfl (st := []) rfl (Nat.le_of_ble_eq_true rfl) ⟨Nat.le_refl 0, Nat.le_refl 0⟩ dX3_readyAt_37 (pp2 ?_)
      refine fw_if_eq C dX3_readyAt_40 (tgt := 59) rfl (fun c12 => ?_) (fun c12 => ?_)
      · have h := ite_t c12 h
        exact w_X3_readyAt_b59 C hrt hG  ih _ _ _ _ h
      · have h := ite_f c12 h
        refine fw_iload_n C dX3_readyAt_43 rfl 1 rfl ?_
        refine fw_iload_n C dX3_readyAt_44 rfl 4 rfl ?_
        refine fw_icmp_ne C dX3_readyAt_45 (tgt := 56) rfl (fun c13 => ?_) (fun c13 => ?_)
        · have h := ite_f c13 h
          refine fw_iinc C dX3_readyAt_56 (kk := 1) (v := l3 + 1) rfl rfl (by decide) (L' := [(3, .int (l3 + 1)), (4, .int l4), (2, .int l2), (0, .ref (ad 1 g0 0)), (1, .int a1)]) rfl ?_
          refine fw_sub [1, 0, 2, 3, 4] (L' := [(4, .int l4), (3, .int (l3 + 1)), (2, .int l2), (0, .ref (ad 1 g0 0)), (1, .int a1)]) rfl ?_
          exact w_X3_readyAt_b59 C hrt hG  ih _ _ _ _ h
        · have h := ite_t c13 h
          refine fw_aload_n C dX3_readyAt_48 rfl 3 rfl ?_
          refine fw_get C (ci := 1) (Cn := RX3) (Tc := TX3) (N := 5) (j := 3) ly_X3_readyAt_3 rfl (hG _ (List.mem_of_getElem? (i := 1) rfl)) (of1_0 _) (ce1 T ad _ _) (by decide) (cx_ts C _ fl_X3_readyAt_22) (fun _ h => h) (v := .ref (ad 1 g0 2)) rfl dX3_readyAt_49 ?_
          refine fw_iload C dX3_readyAt_52 0 rfl ?_
          refine fw_iald2 C (hG _ (List.mem_of_getElem? (i := 1) rfl)) (of1_2 _) (ca1_2 T ad _ _) b9 (Nat.le_of_ble_eq_true rfl) dX3_readyAt_54 ?_
          exact fw_iret C hrt Y (Option.some.inj h) (fun t ht => ht) dX3_readyAt_55
set_option maxRecDepth 100000 in
set_option maxHeartbeats 4000000 in
theorem w_X3_readyAt {Y : Mem} {g0 : Nat} {a1 : Int32} (C : Cx p s m [.ref (ad 1 g0 0), .int a1].toArray meth c cX3_readyAt 5 wsX3_readyAt RX3 N0 T D gr ad) (hrt : meth.sig.returnType = (some .int)) (hG : ∀ q ∈ ([(2, g0), (1, g0)] ++ allG), q ∈ gr) {res : Int32 × Mem} (h : X3_readyAt Y g0 a1 = some res) : FW p l e (Rm 3) s m [.ref (ad 1 g0 0), .int a1].toArray below meth c 5 N0 T D gr ad 0 0 (MQ below (va_Qi (fun r Y1 => (r, Y1) = res) (WB T D gr ad) (fun q => N0 ≤ q)) [.ref (ad 1 g0 0), .int a1].toArray s 0 0 (fun q => N0 ≤ q)) Y 0 [(0, .ref (ad 1 g0 0)), (1, .int a1)] [] := by
  unfold X3_readyAt at h
  refine fw_aload_n C dX3_readyAt_0 rfl 0 rfl ?_
  obtain ⟨Y3, q2, h⟩ := bd1_some h
  refine fw_callVv C (ci := 1) (Cn := RX3) (Tc := TX3) (N := 5) (As := []) (c_X3_rank (gac (hG _ (List.mem_of_getElem? (i := 1) rfl)) (gac (hG _ (List.mem_of_getElem? (i := 0) rfl)) (fun q hq => hG q (List.mem_append_right _ hq)))) q2) (cwV 0 (cx_ts C) gX3_readyAt_X3_rank rfl rfl rfl (by decide +kernel) ⟨Nat.le_of_ble_eq_true rfl, Nat.le_of_ble_eq_true rfl⟩) rfl (hG _ (List.mem_of_getElem? (i := 1) rfl)) (of1_0 _) (ce1 T ad _ _) rfl (st := []) rfl (Nat.le_of_ble_eq_true rfl) ⟨Nat.le_refl 0, Nat.le_refl 0⟩ dX3_readyAt_1 (ppv ?_)
  refine fw_aload_n C dX3_readyAt_4 rfl 0 rfl ?_
  obtain ⟨r4, q5, h⟩ := bd1_some h
  refine fw_callVi C (ci := 1) (Cn := RX3) (Tc := TX3) (N := 5) (As := []) (c_X3_readySteps (gac (hG _ (List.mem_of_getElem? (i := 1) rfl)) (gac (hG _ (List.mem_of_getElem? (i := 0) rfl)) (fun q hq => hG q (List.mem_append_right _ hq)))) q5) (cwV 0 (cx_ts C) gX3_readyAt_X3_readySteps rfl rfl rfl (by decide +kernel) ⟨Nat.le_of_ble_eq_true rfl, Nat.le_of_ble_eq_true rfl⟩) rfl (hG _ (List.mem_of_getElem? (i := 1) rfl)) (of1_0 _) (ce1 T ad _ _) rfl (st := []) rfl (Nat.le_of_ble_eq_true rfl) ⟨Nat.le_refl 0, Nat.le_refl 0⟩ dX3_readyAt_5 (pp2 ?_)
  refine fw_istore_n C dX3_readyAt_8 rfl (by decide) (L' := [(2, .int r4), (0, .ref (ad 1 g0 0)), (1, .int a1)]) rfl ?_
  refine fw_iconst C dX3_readyAt_9 (v := 0) rfl ?_
  refine fw_istore_n C dX3_readyAt_10 rfl (by decide) (L' := [(3, .int 0), (2, .int r4), (0, .ref (ad 1 g0 0)), (1, .int a1)]) rfl ?_
  refine fw_iconst C dX3_readyAt_11 (v := 0) rfl ?_
  refine fw_istore C dX3_readyAt_12 (by decide) (L' := [(4, .int 0), (3, .int 0), (2, .int r4), (0, .ref (ad 1 g0 0)), (1, .int a1)]) rfl ?_
  exact w_X3_readyAt_b14 C hrt hG   _ _ _ _ _ h
end
set_option maxRecDepth 100000 in
set_option maxHeartbeats 4000000 in
theorem c_X3_readyAt {l : Launch} {N0 : Nat} {T : Nat → ClassId} {D : va_G} {gr : List (Nat × Nat)} {ad : Nat → Nat → Nat → Nat} {Y : Mem} {g0 : Nat} {a1 : Int32} {res : Int32 × Mem} (hG : ∀ q ∈ ([(2, g0), (1, g0)] ++ allG), q ∈ gr) (h : X3_readyAt Y g0 a1 = some res) : CI l yX3_readyAt wsX3_readyAt (Rm 3) N0 T D gr ad Y [.ref (ad 1 g0 0), .int a1] (fun r Y1 => (r, Y1) = res) :=
  fw_body (by decide +kernel) rfl (Nat.le_of_ble_eq_true rfl) (fun p e s m below meth c C hrt => w_X3_readyAt C hrt hG  h)
theorem ly_X11_readyStep_11 : ∀ w ∈ u_ws RX11 TX11 11, w ∈ wsX11_readyStep := by decide +kernel
theorem fl_X11_readyStep_67 : Cond.fieldLink RX11 67 "RecipeScheduler" "now" "LRecipeScheduler$Kitchen;" ∈ wsX11_readyStep := by decide +kernel
section
variable {p : Program} {l : Launch} {e : Env} {s : State} {m : MethodId} {below : List Frame} {meth : Method} {c : Code} {N0 : Nat} {T : Nat → ClassId} {D : va_G} {gr : List (Nat × Nat)} {ad : Nat → Nat → Nat → Nat}
set_option maxRecDepth 100000 in
set_option maxHeartbeats 4000000 in
theorem w_X11_readyStep {Y : Mem} {a1 : Int32} (C : Cx p s m [.ref (ad 0 0 0), .int a1].toArray meth c cX11_readyStep 2 wsX11_readyStep RX11 N0 T D gr ad) (hrt : meth.sig.returnType = (some .int)) (hG : ∀ q ∈ ([(0, 0), (1, 0), (2, 0)] ++ allG), q ∈ gr) {res : Int32 × Mem} (h : X11_readyStep Y a1 = some res) : FW p l e (Rm 4) s m [.ref (ad 0 0 0), .int a1].toArray below meth c 2 N0 T D gr ad 0 0 (MQ below (va_Qi (fun r Y1 => (r, Y1) = res) (WB T D gr ad) (fun q => N0 ≤ q)) [.ref (ad 0 0 0), .int a1].toArray s 0 0 (fun q => N0 ≤ q)) Y 0 [(0, .ref (ad 0 0 0)), (1, .int a1)] [] := by
  unfold X11_readyStep at h
  refine fw_aload_n C dX11_readyStep_0 rfl 0 rfl ?_
  refine fw_get C (ci := 9) (Cn := RX11) (Tc := TX11) (N := 11) (j := 5) ly_X11_readyStep_11 rfl (hG _ (List.mem_of_getElem? (i := 0) rfl)) (of0_0 _) (ce0 T ad _ _) (by decide) (cx_ts C _ fl_X11_readyStep_67) (fun _ h => h) (v := .ref (ad 1 0 0)) rfl dX11_readyStep_1 ?_
  refine fw_iload_n C dX11_readyStep_4 rfl 1 rfl ?_
  obtain ⟨r1, Y3, q2, h⟩ := bd2_some h
  refine fw_callVi C (ci := 1) (Cn := RX3) (Tc := TX3) (N := 5) (As := [.int a1]) (c_X3_readyAt (gac (hG _ (List.mem_of_getElem? (i := 2) rfl)) (gac (hG _ (List.mem_of_getElem? (i := 1) rfl)) (fun q hq => hG q (List.mem_append_right _ hq)))) q2) (cwV 1 (cx_ts C) gX11_readyStep_X3_readyAt rfl rfl rfl (by decide +kernel) ⟨Nat.le_of_ble_eq_true rfl, Nat.le_of_ble_eq_true rfl⟩) rfl (hG _ (List.mem_of_getElem? (i := 1) rfl)) (of1_0 _) (ce1 T ad _ _) rfl (st := []) rfl (Nat.le_of_ble_eq_true rfl) ⟨Nat.le_refl 0, Nat.le_refl 0⟩ dX11_readyStep_5 (ppw ?_)
  exact fw_iret C hrt Y3 (Option.some.inj h) (fun t ht => ht) dX11_readyStep_8
end
set_option maxRecDepth 100000 in
set_option maxHeartbeats 4000000 in
theorem c_X11_readyStep {l : Launch} {N0 : Nat} {T : Nat → ClassId} {D : va_G} {gr : List (Nat × Nat)} {ad : Nat → Nat → Nat → Nat} {Y : Mem} {a1 : Int32} {res : Int32 × Mem} (hG : ∀ q ∈ ([(0, 0), (1, 0), (2, 0)] ++ allG), q ∈ gr) (h : X11_readyStep Y a1 = some res) : CI l yX11_readyStep wsX11_readyStep (Rm 4) N0 T D gr ad Y [.ref (ad 0 0 0), .int a1] (fun r Y1 => (r, Y1) = res) :=
  fw_body (by decide +kernel) rfl (Nat.le_of_ble_eq_true rfl) (fun p e s m below meth c C hrt => w_X11_readyStep C hrt hG  h)
theorem ly_X11_redo_11 : ∀ w ∈ u_ws RX11 TX11 11, w ∈ wsX11_redo := by decide +kernel
theorem fl_X11_redo_67 : Cond.fieldLink RX11 67 "RecipeScheduler" "now" "LRecipeScheduler$Kitchen;" ∈ wsX11_redo := by decide +kernel
theorem fl_X11_redo_77 : Cond.fieldLink RX11 77 "RecipeScheduler" "history" "LRecipeScheduler$History;" ∈ wsX11_redo := by decide +kernel
theorem ly_X11_redo_3 : ∀ w ∈ u_ws RX3 TX3 5, w ∈ wsX11_redo := by decide +kernel
theorem th_X11_redo_16 : Cond.classLink RX11 96 "java/lang/IllegalStateException" ∈ wsX11_redo ∧ Cond.initialized "java/lang/IllegalStateException" ∈ wsX11_redo ∧ ∀ w ∈ (vx_atS RX11 100 "java/lang/IllegalStateException" ["java/lang/RuntimeException", "java/lang/Exception"]).filter goodWord, w ∈ wsX11_redo := by decide +kernel
section
variable {p : Program} {l : Launch} {e : Env} {s : State} {m : MethodId} {below : List Frame} {meth : Method} {c : Code} {N0 : Nat} {T : Nat → ClassId} {D : va_G} {gr : List (Nat × Nat)} {ad : Nat → Nat → Nat → Nat}
set_option maxRecDepth 100000 in
set_option maxHeartbeats 4000000 in
theorem w_X11_redo {Y : Mem} {a1 : Int32} (C : Cx p s m [.ref (ad 0 0 0), .int a1].toArray meth c cX11_redo 2 wsX11_redo RX11 N0 T D gr ad) (hrt : meth.sig.returnType = (some .int)) (hG : ∀ q ∈ ([(1, 0), (0, 0), (2, 0), (9, 0)] ++ allG), q ∈ gr) (hl : l.stackTraces = false) (hX : ∀ x ∈ c.exceptionTable.toList, False) {res : (Nat × Mem) ⊕ (Int32 × Mem)} (h : X11_redo Y a1 = some res) : FW p l e (Rx 7 2) s m [.ref (ad 0 0 0), .int a1].toArray below meth c 2 N0 T D gr ad 0 0 (vx_MQ below (va_Qi (fun r Y1 => Sum.inr (r, Y1) = res) (WB T D gr ad) (fun q => N0 ≤ q)) (vx_X (fun u => Sum.inl u = res) (XB T D gr ad) (fun q => N0 ≤ q)) [.ref (ad 0 0 0), .int a1].toArray s 2 12 (fun q => N0 ≤ q)) Y 0 [(0, .ref (ad 0 0 0)), (1, .int a1)] [] := by
  unfold X11_redo at h
  refine fw_aload_n C dX11_redo_0 rfl 0 rfl ?_
  refine fw_iload_n C dX11_redo_1 rfl 1 rfl ?_
  rcases bdxv_some h with ⟨x5, q2, e6⟩ | ⟨Y4, q2, h⟩
  · exact fw_callXVv_l C (ci := 9) (Cn := RX11) (Tc := TX11) (N := 11) (As := [.int a1]) (c_X11_requireStep hl (gac (hG _ (List.mem_of_getElem? (i := 1) rfl)) (gac (hG _ (List.mem_of_getElem? (i := 0) rfl)) (fun q hq => hG q (List.mem_append_right _ hq)))) q2) (cwV 1 (cx_ts C) gX11_redo_X11_requireStep rfl rfl rfl (by decide +kernel) ⟨Nat.le_of_ble_eq_true rfl, Nat.le_of_ble_eq_true rfl⟩) rfl (hG _ (List.mem_of_getElem? (i := 1) rfl)) (of0_0 _) (ce0 T ad _ _) rfl (st := []) rfl (Nat.le_of_ble_eq_true rfl) ⟨Nat.le_of_ble_eq_true rfl, Nat.le_of_ble_eq_true rfl⟩ dX11_redo_2 hX e6 (Nat.le_of_ble_eq_true rfl) (Nat.le_of_ble_eq_true rfl)
  refine fw_callXVv_r C (ci := 9) (Cn := RX11) (Tc := TX11) (N := 11) (As := [.int a1]) (c_X11_requireStep hl (gac (hG _ (List.mem_of_getElem? (i := 1) rfl)) (gac (hG _ (List.mem_of_getElem? (i := 0) rfl)) (fun q hq => hG q (List.mem_append_right _ hq)))) q2) (cwV 1 (cx_ts C) gX11_redo_X11_requireStep rfl rfl rfl (by decide +kernel) ⟨Nat.le_of_ble_eq_true rfl, Nat.le_of_ble_eq_true rfl⟩) rfl (hG _ (List.mem_of_getElem? (i := 1) rfl)) (of0_0 _) (ce0 T ad _ _) rfl (st := []) rfl (Nat.le_of_ble_eq_true rfl) ⟨Nat.le_of_ble_eq_true rfl, Nat.le_of_ble_eq_true rfl⟩ dX11_redo_2 ?_
  refine fw_aload_n C dX11_redo_5 rfl 0 rfl ?_
  refine fw_get C (ci := 9) (Cn := RX11) (Tc := TX11) (N := 11) (j := 5) ly_X11_redo_11 rfl (hG _ (List.mem_of_getElem? (i := 1) rfl)) (of0_0 _) (ce0 T ad _ _) (by decide) (cx_ts C _ fl_X11_redo_67) (fun _ h => h) (v := .ref (ad 1 0 0)) rfl dX11_redo_6 ?_
  refine fw_iload_n C dX11_redo_9 rfl 1 rfl ?_
  obtain ⟨r7, q8, h⟩ := bd1_some h
  refine fw_callVi C (ci := 1) (Cn := RX3) (Tc := TX3) (N := 5) (As := [.int a1]) (c_X3_isRedoable (gac (hG _ (List.mem_of_getElem? (i := 0) rfl)) (gac (hG _ (List.mem_of_getElem? (i := 2) rfl)) (fun q hq => hG q (List.mem_append_right _ hq)))) q8) (cwV 1 (cx_ts C) gX11_redo_X3_isRedoable rfl rfl rfl (by decide +kernel) ⟨Nat.le_of_ble_eq_true rfl, Nat.le_of_ble_eq_true rfl⟩) rfl (hG _ (List.mem_of_getElem? (i := 0) rfl)) (of1_0 _) (ce1 T ad _ _) rfl (st := []) rfl (Nat.le_of_ble_eq_true rfl) ⟨Nat.le_of_ble_eq_true rfl, Nat.le_of_ble_eq_true rfl⟩ dX11_redo_10 (pp2 ?_)
  refine fw_if_ne C dX11_redo_13 (tgt := 27) rfl (fun c9 => ?_) (fun c9 => ?_)
  · have h := ite_f c9 h
    refine fw_aload_n C dX11_redo_27 rfl 0 rfl ?_
    refine fw_get C (ci := 9) (Cn := RX11) (Tc := TX11) (N := 11) (j := 7) ly_X11_redo_11 rfl (hG _ (List.mem_of_getElem? (i := 1) rfl)) (of0_0 _) (ce0 T ad _ _) (by decide) (cx_ts C _ fl_X11_redo_77) (fun _ h => h) (v := .ref (ad 9 0 0)) rfl dX11_redo_28 ?_
    refine fw_aload_n C dX11_redo_31 rfl 0 rfl ?_
    refine fw_get C (ci := 9) (Cn := RX11) (Tc := TX11) (N := 11) (j := 5) ly_X11_redo_11 rfl (hG _ (List.mem_of_getElem? (i := 1) rfl)) (of0_0 _) (ce0 T ad _ _) (by decide) (cx_ts C _ fl_X11_redo_67) (fun _ h => h) (v := .ref (ad 1 0 0)) rfl dX11_redo_32 ?_
    refine fw_getN C (ci := 1) (Cn := RX3) (Tc := TX3) (N := 5) (j := 1) ly_X11_redo_3 rfl (hG _ (List.mem_of_getElem? (i := 0) rfl)) (of1_0 _) (ce1 T ad _ _) (by decide) (Nst_use (cx_nst C) (w := .fieldLinkNest RX11 139 "RecipeScheduler$Kitchen" "state" "LRecipeScheduler$State;" "RecipeScheduler") 522 (by decide +kernel) rfl) (fun _ h => h) (v := .ref (ad 2 0 0)) rfl dX11_redo_35 ?_
    obtain ⟨Y12, q11, h⟩ := bd1_some h
    refine fw_callVv C (ci := 0) (Cn := RX2) (Tc := TX2) (N := 3) (As := [.ref (ad 2 0 0)]) (c_X2_push (gac (hG _ (List.mem_of_getElem? (i := 3) rfl)) (gac (hG _ (List.mem_of_getElem? (i := 2) rfl)) (fun q hq => hG q (List.mem_append_right _ hq)))) q11) (cwV 1 (cx_ts C) gX11_redo_X2_push rfl rfl rfl (by decide +kernel) ⟨Nat.le_of_ble_eq_true rfl, Nat.le_of_ble_eq_true rfl⟩) rfl (hG _ (List.mem_of_getElem? (i := 3) rfl)) (of9_0 _) (ce9 T ad _ _) rfl (st := []) rfl (Nat.le_of_ble_eq_true rfl) ⟨Nat.le_of_ble_eq_true rfl, Nat.le_of_ble_eq_true rfl⟩ dX11_redo_38 (ppv ?_)
    refine fw_aload_n C dX11_redo_41 rfl 0 rfl ?_
    refine fw_get C (ci := 9) (Cn := RX11) (Tc := TX11) (N := 11) (j := 5) ly_X11_redo_11 rfl (hG _ (List.mem_of_getElem? (i := 1) rfl)) (of0_0 _) (ce0 T ad _ _) (by decide) (cx_ts C _ fl_X11_redo_67) (fun _ h => h) (v := .ref (ad 1 0 0)) rfl dX11_redo_42 ?_
    refine fw_getN C (ci := 1) (Cn := RX3) (Tc := TX3) (N := 5) (j := 1) ly_X11_redo_3 rfl (hG _ (List.mem_of_getElem? (i := 0) rfl)) (of1_0 _) (ce1 T ad _ _) (by decide) (Nst_use (cx_nst C) (w := .fieldLinkNest RX11 139 "RecipeScheduler$Kitchen" "state" "LRecipeScheduler$State;" "RecipeScheduler") 522 (by decide +kernel) rfl) (fun _ h => h) (v := .ref (ad 2 0 0)) rfl dX11_redo_45 ?_
    refine fw_iload_n C dX11_redo_48 rfl 1 rfl ?_
    obtain ⟨r13, Y15, q14, h⟩ := bd2_some h
    refine fw_callVi C (ci := 6) (Cn := RX8) (Tc := TX8) (N := 15) (As := [.int a1]) (c_X8_discard (gac (hG _ (List.mem_of_getElem? (i := 2) rfl)) ga0) q14) (cwV 1 (cx_ts C) gX11_redo_X8_discard rfl rfl rfl (by decide +kernel) ⟨Nat.le_of_ble_eq_true rfl, Nat.le_of_ble_eq_true rfl⟩) rfl (hG _ (List.mem_of_getElem? (i := 2) rfl)) (of2_0 _) (ce2 T ad _ _) rfl (st := []) rfl (Nat.le_of_ble_eq_true rfl) ⟨Nat.le_of_ble_eq_true rfl, Nat.le_of_ble_eq_true rfl⟩ dX11_redo_49 (ppw ?_)
    refine fw_xr (Nat.le_of_ble_eq_true rfl) (Nat.le_of_ble_eq_true rfl) ?_
    exact fw_iret C hrt Y15 (Option.some.inj h) (fun t ht => ht) dX11_redo_52
  · have h := ite_t c9 h
    exact fw_throwSW C hl hX (cls := "java/lang/IllegalStateException") (names := ["java/lang/RuntimeException", "java/lang/Exception"]) 1 rfl (by decide +kernel) (by decide +kernel) (cx_ts C _ th_X11_redo_16.1) (cx_ts C _ th_X11_redo_16.2.1) (sr_23 (cx_st C)) (vx_hat (fun w hw => cx_ts C _ (th_X11_redo_16.2.2 w hw)) tg_1_100_96b (vx_c (Nst_use (cx_nst C) (w := .castable "java/lang/IllegalStateException" "java/lang/IllegalStateException") 824 (by decide +kernel) rfl) (vx_c (Nst_use (cx_nst C) 826 (by decide +kernel) rfl) (vx_c (Nst_use (cx_nst C) 828 (by decide +kernel) rfl) (vx_c (Nst_use (cx_nst C) 830 (by decide +kernel) rfl) vx_n))))) tg_1_100_96 dX11_redo_16 dX11_redo_19 dX11_redo_20 dX11_redo_23 dX11_redo_26 (Nat.le_of_ble_eq_true rfl) (Nat.le_of_ble_eq_true rfl) (Nat.le_of_ble_eq_true rfl) (Nat.le_of_ble_eq_true rfl) (Nat.le_of_ble_eq_true rfl) (Nat.le_of_ble_eq_true rfl) (Option.some.inj h)
end
set_option maxRecDepth 100000 in
set_option maxHeartbeats 4000000 in
theorem c_X11_redo {l : Launch} {N0 : Nat} {T : Nat → ClassId} {D : va_G} {gr : List (Nat × Nat)} {ad : Nat → Nat → Nat → Nat} {Y : Mem} {a1 : Int32} {res : (Nat × Mem) ⊕ (Int32 × Mem)} (hl : l.stackTraces = false) (hG : ∀ q ∈ ([(1, 0), (0, 0), (2, 0), (9, 0)] ++ allG), q ∈ gr) (h : X11_redo Y a1 = some res) : CXi l yX11_redo wsX11_redo (Rx 7 2) N0 T D gr ad Y [.ref (ad 0 0 0), .int a1] 2 res :=
  fw_xbody (by decide +kernel) rfl (Nat.le_of_ble_eq_true rfl) (fun p e s m below meth c C hrt hX => w_X11_redo C hrt hG hl hX h)
theorem ly_X11_remaining_11 : ∀ w ∈ u_ws RX11 TX11 11, w ∈ wsX11_remaining := by decide +kernel
theorem fl_X11_remaining_67 : Cond.fieldLink RX11 67 "RecipeScheduler" "now" "LRecipeScheduler$Kitchen;" ∈ wsX11_remaining := by decide +kernel
theorem ly_X11_remaining_3 : ∀ w ∈ u_ws RX3 TX3 5, w ∈ wsX11_remaining := by decide +kernel
theorem ly_X11_remaining_8 : ∀ w ∈ u_ws RX8 TX8 15, w ∈ wsX11_remaining := by decide +kernel
section
variable {p : Program} {l : Launch} {e : Env} {s : State} {m : MethodId} {below : List Frame} {meth : Method} {c : Code} {N0 : Nat} {T : Nat → ClassId} {D : va_G} {gr : List (Nat × Nat)} {ad : Nat → Nat → Nat → Nat}
set_option maxRecDepth 100000 in
set_option maxHeartbeats 4000000 in
theorem w_X11_remaining {Y : Mem} {a1 : Int32} (C : Cx p s m [.ref (ad 0 0 0), .int a1].toArray meth c cX11_remaining 2 wsX11_remaining RX11 N0 T D gr ad) (hrt : meth.sig.returnType = (some .int)) (hG : ∀ q ∈ ([(1, 0), (0, 0), (2, 0)] ++ allG), q ∈ gr) (hl : l.stackTraces = false) (hX : ∀ x ∈ c.exceptionTable.toList, False) {res : (Nat × Mem) ⊕ (Int32 × Mem)} (h : X11_remaining Y a1 = some res) : FW p l e (Rx 7 1) s m [.ref (ad 0 0 0), .int a1].toArray below meth c 2 N0 T D gr ad 0 0 (vx_MQ below (va_Qi (fun r Y1 => Sum.inr (r, Y1) = res) (WB T D gr ad) (fun q => N0 ≤ q)) (vx_X (fun u => Sum.inl u = res) (XB T D gr ad) (fun q => N0 ≤ q)) [.ref (ad 0 0 0), .int a1].toArray s 1 6 (fun q => N0 ≤ q)) Y 0 [(0, .ref (ad 0 0 0)), (1, .int a1)] [] := by
  unfold X11_remaining at h
  refine fw_aload_n C dX11_remaining_0 rfl 0 rfl ?_
  refine fw_iload_n C dX11_remaining_1 rfl 1 rfl ?_
  rcases bdxv_some h with ⟨x5, q2, e6⟩ | ⟨Y4, q2, h⟩
  · exact fw_callXVv_l C (ci := 9) (Cn := RX11) (Tc := TX11) (N := 11) (As := [.int a1]) (c_X11_requireStep hl (gac (hG _ (List.mem_of_getElem? (i := 1) rfl)) (gac (hG _ (List.mem_of_getElem? (i := 0) rfl)) (fun q hq => hG q (List.mem_append_right _ hq)))) q2) (cwV 1 (cx_ts C) gX11_remaining_X11_requireStep rfl rfl rfl (by decide +kernel) ⟨Nat.le_of_ble_eq_true rfl, Nat.le_of_ble_eq_true rfl⟩) rfl (hG _ (List.mem_of_getElem? (i := 1) rfl)) (of0_0 _) (ce0 T ad _ _) rfl (st := []) rfl (Nat.le_of_ble_eq_true rfl) ⟨Nat.le_of_ble_eq_true rfl, Nat.le_of_ble_eq_true rfl⟩ dX11_remaining_2 hX e6 (Nat.le_of_ble_eq_true rfl) (Nat.le_of_ble_eq_true rfl)
  refine fw_callXVv_r C (ci := 9) (Cn := RX11) (Tc := TX11) (N := 11) (As := [.int a1]) (c_X11_requireStep hl (gac (hG _ (List.mem_of_getElem? (i := 1) rfl)) (gac (hG _ (List.mem_of_getElem? (i := 0) rfl)) (fun q hq => hG q (List.mem_append_right _ hq)))) q2) (cwV 1 (cx_ts C) gX11_remaining_X11_requireStep rfl rfl rfl (by decide +kernel) ⟨Nat.le_of_ble_eq_true rfl, Nat.le_of_ble_eq_true rfl⟩) rfl (hG _ (List.mem_of_getElem? (i := 1) rfl)) (of0_0 _) (ce0 T ad _ _) rfl (st := []) rfl (Nat.le_of_ble_eq_true rfl) ⟨Nat.le_of_ble_eq_true rfl, Nat.le_of_ble_eq_true rfl⟩ dX11_remaining_2 ?_
  refine fw_aload_n C dX11_remaining_5 rfl 0 rfl ?_
  refine fw_get C (ci := 9) (Cn := RX11) (Tc := TX11) (N := 11) (j := 5) ly_X11_remaining_11 rfl (hG _ (List.mem_of_getElem? (i := 1) rfl)) (of0_0 _) (ce0 T ad _ _) (by decide) (cx_ts C _ fl_X11_remaining_67) (fun _ h => h) (v := .ref (ad 1 0 0)) rfl dX11_remaining_6 ?_
  refine fw_getN C (ci := 1) (Cn := RX3) (Tc := TX3) (N := 5) (j := 1) ly_X11_remaining_3 rfl (hG _ (List.mem_of_getElem? (i := 0) rfl)) (of1_0 _) (ce1 T ad _ _) (by decide) (Nst_use (cx_nst C) (w := .fieldLinkNest RX11 139 "RecipeScheduler$Kitchen" "state" "LRecipeScheduler$State;" "RecipeScheduler") 522 (by decide +kernel) rfl) (fun _ h => h) (v := .ref (ad 2 0 0)) rfl dX11_remaining_9 ?_
  refine fw_getN C (ci := 6) (Cn := RX8) (Tc := TX8) (N := 15) (j := 10) ly_X11_remaining_8 rfl (hG _ (List.mem_of_getElem? (i := 2) rfl)) (of2_0 _) (ce2 T ad _ _) (by decide) (Nst_use (cx_nst C) (w := .fieldLinkNest RX11 255 "RecipeScheduler$State" "remaining" "[I" "RecipeScheduler") 468 (by decide +kernel) rfl) (fun _ h => h) (v := .ref (ad 2 0 2)) rfl dX11_remaining_12 ?_
  refine fw_iload_n C dX11_remaining_15 rfl 1 rfl ?_
  obtain ⟨b7, h⟩ := gd_some h
  refine fw_iald2 C (hG _ (List.mem_of_getElem? (i := 2) rfl)) (of2_2 _) (ca2_2 T ad _ _) b7 (Nat.le_of_ble_eq_true rfl) dX11_remaining_16 ?_
  refine fw_xr (Nat.le_of_ble_eq_true rfl) (Nat.le_of_ble_eq_true rfl) ?_
  exact fw_iret C hrt Y4 (Option.some.inj h) (fun t ht => ht) dX11_remaining_17
end
set_option maxRecDepth 100000 in
set_option maxHeartbeats 4000000 in
theorem c_X11_remaining {l : Launch} {N0 : Nat} {T : Nat → ClassId} {D : va_G} {gr : List (Nat × Nat)} {ad : Nat → Nat → Nat → Nat} {Y : Mem} {a1 : Int32} {res : (Nat × Mem) ⊕ (Int32 × Mem)} (hl : l.stackTraces = false) (hG : ∀ q ∈ ([(1, 0), (0, 0), (2, 0)] ++ allG), q ∈ gr) (h : X11_remaining Y a1 = some res) : CXi l yX11_remaining wsX11_remaining (Rx 7 1) N0 T D gr ad Y [.ref (ad 0 0 0), .int a1] 1 res :=
  fw_xbody (by decide +kernel) rfl (Nat.le_of_ble_eq_true rfl) (fun p e s m below meth c C hrt hX => w_X11_remaining C hrt hG hl hX h)
theorem th_X11_requireSlot_9 : Cond.classLink RX11 237 "java/lang/IndexOutOfBoundsException" ∈ wsX11_requireSlot ∧ Cond.initialized "java/lang/IndexOutOfBoundsException" ∈ wsX11_requireSlot ∧ ∀ w ∈ (vx_atS RX11 241 "java/lang/IndexOutOfBoundsException" ["java/lang/RuntimeException", "java/lang/Exception"]).filter goodWord, w ∈ wsX11_requireSlot := by decide +kernel
section
variable {p : Program} {l : Launch} {e : Env} {s : State} {m : MethodId} {below : List Frame} {meth : Method} {c : Code} {N0 : Nat} {T : Nat → ClassId} {D : va_G} {gr : List (Nat × Nat)} {ad : Nat → Nat → Nat → Nat}
set_option maxRecDepth 100000 in
set_option maxHeartbeats 4000000 in
theorem w_X11_requireSlot {Y : Mem} {a1 : Int32} (C : Cx p s m [.ref (ad 0 0 0), .int a1].toArray meth c cX11_requireSlot 2 wsX11_requireSlot RX11 N0 T D gr ad) (hrt : meth.sig.returnType = none) (hG : ∀ q ∈ [], q ∈ gr) (hl : l.stackTraces = false) (hX : ∀ x ∈ c.exceptionTable.toList, False) {res : (Nat × Mem) ⊕ Mem} (h : X11_requireSlot Y a1 = some res) : FW p l e (Rx 6 1) s m [.ref (ad 0 0 0), .int a1].toArray below meth c 2 N0 T D gr ad 0 0 (vx_MQ below (va_Qv (fun Y1 => Sum.inr Y1 = res) (WB T D gr ad) (fun q => N0 ≤ q)) (vx_X (fun u => Sum.inl u = res) (XB T D gr ad) (fun q => N0 ≤ q)) [.ref (ad 0 0 0), .int a1].toArray s 1 6 (fun q => N0 ≤ q)) Y 0 [(0, .ref (ad 0 0 0)), (1, .int a1)] [] := by
  unfold X11_requireSlot at h
  refine fw_iload_n C dX11_requireSlot_0 rfl 1 rfl ?_
  refine fw_iconst C dX11_requireSlot_1 (v := 0) rfl ?_
  refine fw_iconst C dX11_requireSlot_2 (v := 1) rfl ?_
  obtain ⟨r1, q2, h⟩ := bd1_some h
  refine fw_callSi C (As := [.int a1, .int 0, .int 1]) (c_X11_isWithin ga0 q2) (va_cwS 3 (cx_ts C) gX11_requireSlot_X11_isWithin rfl rfl rfl (by decide +kernel) ⟨Nat.le_of_ble_eq_true rfl, Nat.le_of_ble_eq_true rfl⟩) rfl (st := []) rfl (Nat.le_of_ble_eq_true rfl) ⟨Nat.le_of_ble_eq_true rfl, Nat.le_of_ble_eq_true rfl⟩ dX11_requireSlot_3 (pp2 ?_)
  refine fw_if_ne C dX11_requireSlot_6 (tgt := 20) rfl (fun c3 => ?_) (fun c3 => ?_)
  · have h := ite_f c3 h
    refine fw_xr (Nat.le_of_ble_eq_true rfl) (Nat.le_of_ble_eq_true rfl) ?_
    exact fw_vret C hrt Y (Option.some.inj h) (fun t ht => ht) dX11_requireSlot_20
  · have h := ite_t c3 h
    exact fw_throwSW C hl hX (cls := "java/lang/IndexOutOfBoundsException") (names := ["java/lang/RuntimeException", "java/lang/Exception"]) 3 rfl (by decide +kernel) (by decide +kernel) (cx_ts C _ th_X11_requireSlot_9.1) (cx_ts C _ th_X11_requireSlot_9.2.1) (sr_27 (cx_st C)) (vx_hat (fun w hw => cx_ts C _ (th_X11_requireSlot_9.2.2 w hw)) tg_3_241_237b (vx_c (Nst_use (cx_nst C) (w := .castable "java/lang/IndexOutOfBoundsException" "java/lang/IndexOutOfBoundsException") 957 (by decide +kernel) rfl) (vx_c (Nst_use (cx_nst C) 826 (by decide +kernel) rfl) (vx_c (Nst_use (cx_nst C) 828 (by decide +kernel) rfl) (vx_c (Nst_use (cx_nst C) 830 (by decide +kernel) rfl) vx_n))))) tg_3_241_237 dX11_requireSlot_9 dX11_requireSlot_12 dX11_requireSlot_13 dX11_requireSlot_16 dX11_requireSlot_19 (Nat.le_of_ble_eq_true rfl) (Nat.le_of_ble_eq_true rfl) (Nat.le_of_ble_eq_true rfl) (Nat.le_of_ble_eq_true rfl) (Nat.le_of_ble_eq_true rfl) (Nat.le_of_ble_eq_true rfl) (Option.some.inj h)
end
set_option maxRecDepth 100000 in
set_option maxHeartbeats 4000000 in
theorem c_X11_requireSlot {l : Launch} {N0 : Nat} {T : Nat → ClassId} {D : va_G} {gr : List (Nat × Nat)} {ad : Nat → Nat → Nat → Nat} {Y : Mem} {a1 : Int32} {res : (Nat × Mem) ⊕ Mem} (hl : l.stackTraces = false) (hG : ∀ q ∈ [], q ∈ gr) (h : X11_requireSlot Y a1 = some res) : CXv l yX11_requireSlot wsX11_requireSlot (Rx 6 1) N0 T D gr ad Y [.ref (ad 0 0 0), .int a1] 1 res :=
  fw_xbody (by decide +kernel) rfl (Nat.le_of_ble_eq_true rfl) (fun p e s m below meth c C hrt hX => w_X11_requireSlot C hrt hG hl hX h)
theorem ly_X11_restore_11 : ∀ w ∈ u_ws RX11 TX11 11, w ∈ wsX11_restore := by decide +kernel
theorem fl_X11_restore_88 : Cond.fieldLink RX11 88 "RecipeScheduler" "isSaved" "[Z" ∈ wsX11_restore := by decide +kernel
theorem fl_X11_restore_67 : Cond.fieldLink RX11 67 "RecipeScheduler" "now" "LRecipeScheduler$Kitchen;" ∈ wsX11_restore := by decide +kernel
theorem ly_X11_restore_3 : ∀ w ∈ u_ws RX3 TX3 5, w ∈ wsX11_restore := by decide +kernel
theorem fl_X11_restore_83 : Cond.fieldLink RX11 83 "RecipeScheduler" "saved" "[LRecipeScheduler$State;" ∈ wsX11_restore := by decide +kernel
theorem fl_X11_restore_77 : Cond.fieldLink RX11 77 "RecipeScheduler" "history" "LRecipeScheduler$History;" ∈ wsX11_restore := by decide +kernel
theorem ly_X11_restore_2 : ∀ w ∈ u_ws RX2 TX2 3, w ∈ wsX11_restore := by decide +kernel
theorem ly_X11_restore_8 : ∀ w ∈ u_ws RX8 TX8 15, w ∈ wsX11_restore := by decide +kernel
theorem th_X11_restore_14 : Cond.classLink RX11 96 "java/lang/IllegalStateException" ∈ wsX11_restore ∧ Cond.initialized "java/lang/IllegalStateException" ∈ wsX11_restore ∧ ∀ w ∈ (vx_atS RX11 100 "java/lang/IllegalStateException" ["java/lang/RuntimeException", "java/lang/Exception"]).filter goodWord, w ∈ wsX11_restore := by decide +kernel
section
variable {p : Program} {l : Launch} {e : Env} {s : State} {m : MethodId} {below : List Frame} {meth : Method} {c : Code} {N0 : Nat} {T : Nat → ClassId} {D : va_G} {gr : List (Nat × Nat)} {ad : Nat → Nat → Nat → Nat}
set_option maxRecDepth 100000 in
set_option maxHeartbeats 4000000 in
theorem w_X11_restore {Y : Mem} {a1 : Int32} (C : Cx p s m [.ref (ad 0 0 0), .int a1].toArray meth c cX11_restore 2 wsX11_restore RX11 N0 T D gr ad) (hrt : meth.sig.returnType = (some .int)) (hG : ∀ q ∈ ([(0, 0), (1, 0), (2, 0), (9, 0)] ++ allG), q ∈ gr) (hl : l.stackTraces = false) (hX : ∀ x ∈ c.exceptionTable.toList, False) {res : (Nat × Mem) ⊕ (Int32 × Mem)} (h : X11_restore Y a1 = some res) : FW p l e (Rx 7 2) s m [.ref (ad 0 0 0), .int a1].toArray below meth c 2 N0 T D gr ad 0 0 (vx_MQ below (va_Qi (fun r Y1 => Sum.inr (r, Y1) = res) (WB T D gr ad) (fun q => N0 ≤ q)) (vx_X (fun u => Sum.inl u = res) (XB T D gr ad) (fun q => N0 ≤ q)) [.ref (ad 0 0 0), .int a1].toArray s 2 12 (fun q => N0 ≤ q)) Y 0 [(0, .ref (ad 0 0 0)), (1, .int a1)] [] := by
  unfold X11_restore at h
  refine fw_aload_n C dX11_restore_0 rfl 0 rfl ?_
  refine fw_iload_n C dX11_restore_1 rfl 1 rfl ?_
  rcases bdxv_some h with ⟨x5, q2, e6⟩ | ⟨Y4, q2, h⟩
  · exact fw_callXVv_l C (ci := 9) (Cn := RX11) (Tc := TX11) (N := 11) (As := [.int a1]) (c_X11_requireSlot hl ga0 q2) (cwV 1 (cx_ts C) gX11_restore_X11_requireSlot rfl rfl rfl (by decide +kernel) ⟨Nat.le_of_ble_eq_true rfl, Nat.le_of_ble_eq_true rfl⟩) rfl (hG _ (List.mem_of_getElem? (i := 0) rfl)) (of0_0 _) (ce0 T ad _ _) rfl (st := []) rfl (Nat.le_of_ble_eq_true rfl) ⟨Nat.le_of_ble_eq_true rfl, Nat.le_of_ble_eq_true rfl⟩ dX11_restore_2 hX e6 (Nat.le_of_ble_eq_true rfl) (Nat.le_of_ble_eq_true rfl)
  refine fw_callXVv_r C (ci := 9) (Cn := RX11) (Tc := TX11) (N := 11) (As := [.int a1]) (c_X11_requireSlot hl ga0 q2) (cwV 1 (cx_ts C) gX11_restore_X11_requireSlot rfl rfl rfl (by decide +kernel) ⟨Nat.le_of_ble_eq_true rfl, Nat.le_of_ble_eq_true rfl⟩) rfl (hG _ (List.mem_of_getElem? (i := 0) rfl)) (of0_0 _) (ce0 T ad _ _) rfl (st := []) rfl (Nat.le_of_ble_eq_true rfl) ⟨Nat.le_of_ble_eq_true rfl, Nat.le_of_ble_eq_true rfl⟩ dX11_restore_2 ?_
  refine fw_aload_n C dX11_restore_5 rfl 0 rfl ?_
  refine fw_get C (ci := 9) (Cn := RX11) (Tc := TX11) (N := 11) (j := 9) ly_X11_restore_11 rfl (hG _ (List.mem_of_getElem? (i := 0) rfl)) (of0_0 _) (ce0 T ad _ _) (by decide) (cx_ts C _ fl_X11_restore_88) (fun _ h => h) (v := .ref (ad 0 0 2)) rfl dX11_restore_6 ?_
  refine fw_iload_n C dX11_restore_9 rfl 1 rfl ?_
  obtain ⟨b7, h⟩ := gd_some h
  refine fw_zald2 C (hG _ (List.mem_of_getElem? (i := 0) rfl)) (of0_2 _) (ca0_2 T ad _ _) b7 (Nat.le_of_ble_eq_true rfl) dX11_restore_10 ?_
  refine fw_if_ne C dX11_restore_11 (tgt := 25) rfl (fun c8 => ?_) (fun c8 => ?_)
  · have h := ite_f c8 h
    refine fw_aload_n C dX11_restore_25 rfl 0 rfl ?_
    refine fw_get C (ci := 9) (Cn := RX11) (Tc := TX11) (N := 11) (j := 5) ly_X11_restore_11 rfl (hG _ (List.mem_of_getElem? (i := 0) rfl)) (of0_0 _) (ce0 T ad _ _) (by decide) (cx_ts C _ fl_X11_restore_67) (fun _ h => h) (v := .ref (ad 1 0 0)) rfl dX11_restore_26 ?_
    refine fw_getN C (ci := 1) (Cn := RX3) (Tc := TX3) (N := 5) (j := 1) ly_X11_restore_3 rfl (hG _ (List.mem_of_getElem? (i := 1) rfl)) (of1_0 _) (ce1 T ad _ _) (by decide) (Nst_use (cx_nst C) (w := .fieldLinkNest RX11 139 "RecipeScheduler$Kitchen" "state" "LRecipeScheduler$State;" "RecipeScheduler") 522 (by decide +kernel) rfl) (fun _ h => h) (v := .ref (ad 2 0 0)) rfl dX11_restore_29 ?_
    refine fw_aload_n C dX11_restore_32 rfl 0 rfl ?_
    refine fw_get C (ci := 9) (Cn := RX11) (Tc := TX11) (N := 11) (j := 8) ly_X11_restore_11 rfl (hG _ (List.mem_of_getElem? (i := 0) rfl)) (of0_0 _) (ce0 T ad _ _) (by decide) (cx_ts C _ fl_X11_restore_83) (fun _ h => h) (v := .ref (ad 0 0 1)) rfl dX11_restore_33 ?_
    refine fw_iload_n C dX11_restore_36 rfl 1 rfl ?_
    refine fw_aald2 C 3 (hG _ (List.mem_of_getElem? (i := 0) rfl)) (of0_1 _) (ca0_1 T ad _ _) rfl rfl b7 (Nat.le_of_ble_eq_true rfl) (v := .ref (ad 2 (8+ix (a1)) 0)) rfl dX11_restore_37 ?_
    obtain ⟨Y11, q10, h⟩ := bd1_some h
    refine fw_callVv C (ci := 6) (Cn := RX8) (Tc := TX8) (N := 15) (As := [.ref (ad 2 (8+ix (a1)) 0)]) (c_X8_copyFrom (gac ((fun q hq => hG q (List.mem_append_right _ hq)) _ (allG_2 (by have q := inb_lt b7; omega))) (gac (hG _ (List.mem_of_getElem? (i := 2) rfl)) ga0)) q10) (cwV 1 (cx_ts C) gX11_restore_X8_copyFrom rfl rfl rfl (by decide +kernel) ⟨Nat.le_of_ble_eq_true rfl, Nat.le_of_ble_eq_true rfl⟩) rfl (hG _ (List.mem_of_getElem? (i := 2) rfl)) (of2_0 _) (ce2 T ad _ _) rfl (st := []) rfl (Nat.le_of_ble_eq_true rfl) ⟨Nat.le_of_ble_eq_true rfl, Nat.le_of_ble_eq_true rfl⟩ dX11_restore_38 (ppv ?_)
    refine fw_aload_n C dX11_restore_41 rfl 0 rfl ?_
    refine fw_get C (ci := 9) (Cn := RX11) (Tc := TX11) (N := 11) (j := 7) ly_X11_restore_11 rfl (hG _ (List.mem_of_getElem? (i := 0) rfl)) (of0_0 _) (ce0 T ad _ _) (by decide) (cx_ts C _ fl_X11_restore_77) (fun _ h => h) (v := .ref (ad 9 0 0)) rfl dX11_restore_42 ?_
    refine fw_iconst C dX11_restore_45 (v := 0) rfl ?_
    obtain ⟨Y12, e13, h⟩ := lt_some h
    refine fw_putN C (ci := 0) (Cn := RX2) (Tc := TX2) (N := 3) (j := 2) (ty := .int) (upd (Y11 9 0 0) 2 0) ly_X11_restore_2 rfl tyX2_ok nmX2 (hG _ (List.mem_of_getElem? (i := 3) rfl)) (of9_0 _) (ce9 T ad _ _) (by decide) (Nst_use (cx_nst C) (w := .fieldLinkNest RX11 123 "RecipeScheduler$History" "count" "I" "RecipeScheduler") 550 (by decide +kernel) rfl) (fun _ h => h) rfl (by decide +kernel) rfl rfl (Nat.le_of_ble_eq_true rfl) (ce9_put2 T ad _ _ _) dX11_restore_46 ?_
    refine fw_mem ((up_eq _ _ _ _ _ _).symm.trans e13) ?_
    refine fw_aload_n C dX11_restore_49 rfl 0 rfl ?_
    refine fw_get C (ci := 9) (Cn := RX11) (Tc := TX11) (N := 11) (j := 5) ly_X11_restore_11 rfl (hG _ (List.mem_of_getElem? (i := 0) rfl)) (of0_0 _) (ce0 T ad _ _) (by decide) (cx_ts C _ fl_X11_restore_67) (fun _ h => h) (v := .ref (ad 1 0 0)) rfl dX11_restore_50 ?_
    refine fw_getN C (ci := 1) (Cn := RX3) (Tc := TX3) (N := 5) (j := 1) ly_X11_restore_3 rfl (hG _ (List.mem_of_getElem? (i := 1) rfl)) (of1_0 _) (ce1 T ad _ _) (by decide) (Nst_use (cx_nst C) (w := .fieldLinkNest RX11 139 "RecipeScheduler$Kitchen" "state" "LRecipeScheduler$State;" "RecipeScheduler") 522 (by decide +kernel) rfl) (fun _ h => h) (v := .ref (ad 2 0 0)) rfl dX11_restore_53 ?_
    refine fw_getN C (ci := 6) (Cn := RX8) (Tc := TX8) (N := 15) (j := 1) ly_X11_restore_8 rfl (hG _ (List.mem_of_getElem? (i := 2) rfl)) (of2_0 _) (ce2 T ad _ _) (by decide) (Nst_use (cx_nst C) (w := .fieldLinkNest RX11 146 "RecipeScheduler$State" "minute" "I" "RecipeScheduler") 443 (by decide +kernel) rfl) (fun _ h => h) (v := .int (Y12 2 0 0 1)) rfl dX11_restore_56 ?_
    refine fw_xr (Nat.le_of_ble_eq_true rfl) (Nat.le_of_ble_eq_true rfl) ?_
    exact fw_iret C hrt Y12 (Option.some.inj h) (fun t ht => ht) dX11_restore_59
  · have h := ite_t c8 h
    exact fw_throwSW C hl hX (cls := "java/lang/IllegalStateException") (names := ["java/lang/RuntimeException", "java/lang/Exception"]) 1 rfl (by decide +kernel) (by decide +kernel) (cx_ts C _ th_X11_restore_14.1) (cx_ts C _ th_X11_restore_14.2.1) (sr_28 (cx_st C)) (vx_hat (fun w hw => cx_ts C _ (th_X11_restore_14.2.2 w hw)) tg_1_100_96b (vx_c (Nst_use (cx_nst C) (w := .castable "java/lang/IllegalStateException" "java/lang/IllegalStateException") 824 (by decide +kernel) rfl) (vx_c (Nst_use (cx_nst C) 826 (by decide +kernel) rfl) (vx_c (Nst_use (cx_nst C) 828 (by decide +kernel) rfl) (vx_c (Nst_use (cx_nst C) 830 (by decide +kernel) rfl) vx_n))))) tg_1_100_96 dX11_restore_14 dX11_restore_17 dX11_restore_18 dX11_restore_21 dX11_restore_24 (Nat.le_of_ble_eq_true rfl) (Nat.le_of_ble_eq_true rfl) (Nat.le_of_ble_eq_true rfl) (Nat.le_of_ble_eq_true rfl) (Nat.le_of_ble_eq_true rfl) (Nat.le_of_ble_eq_true rfl) (Option.some.inj h)
end
set_option maxRecDepth 100000 in
set_option maxHeartbeats 4000000 in
theorem c_X11_restore {l : Launch} {N0 : Nat} {T : Nat → ClassId} {D : va_G} {gr : List (Nat × Nat)} {ad : Nat → Nat → Nat → Nat} {Y : Mem} {a1 : Int32} {res : (Nat × Mem) ⊕ (Int32 × Mem)} (hl : l.stackTraces = false) (hG : ∀ q ∈ ([(0, 0), (1, 0), (2, 0), (9, 0)] ++ allG), q ∈ gr) (h : X11_restore Y a1 = some res) : CXi l yX11_restore wsX11_restore (Rx 7 2) N0 T D gr ad Y [.ref (ad 0 0 0), .int a1] 2 res :=
  fw_xbody (by decide +kernel) rfl (Nat.le_of_ble_eq_true rfl) (fun p e s m below meth c C hrt hX => w_X11_restore C hrt hG hl hX h)
