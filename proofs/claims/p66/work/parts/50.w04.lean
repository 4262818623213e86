theorem ly_X3_dishTaste_3 : ∀ w ∈ u_ws RX3 TX3 5, w ∈ wsX3_dishTaste := by decide +kernel
theorem fl_X3_dishTaste_12 : Cond.fieldLink RX3 12 "RecipeScheduler$Kitchen" "state" "LRecipeScheduler$State;" ∈ wsX3_dishTaste := by decide +kernel
theorem ly_X3_dishTaste_8 : ∀ w ∈ u_ws RX8 TX8 15, w ∈ wsX3_dishTaste := by decide +kernel
theorem fl_X3_dishTaste_28 : Cond.fieldLink RX3 28 "RecipeScheduler$Kitchen" "recipe" "LRecipeScheduler$Recipe;" ∈ wsX3_dishTaste := by decide +kernel
theorem ly_X3_dishTaste_5 : ∀ w ∈ u_ws RX5 TX5 17, w ∈ wsX3_dishTaste := by decide +kernel
theorem ly_X3_dishTaste_4 : ∀ w ∈ u_ws RX4 TX4 3, w ∈ wsX3_dishTaste := by decide +kernel
theorem in_X3_dishTaste_11 : Cond.initialized RX11 ∈ wsX3_dishTaste := by decide +kernel
theorem sw_X3_dishTaste_X11_contains : Cond.static yX11_contains ∈ wsX3_dishTaste := by decide +kernel
section
variable {p : Program} {l : Launch} {e : Env} {s : State} {m : MethodId} {below : List Frame} {meth : Method} {c : Code} {N0 : Nat} {T : Nat → ClassId} {D : va_G} {gr : List (Nat × Nat)} {ad : Nat → Nat → Nat → Nat}
set_option maxRecDepth 100000 in
set_option maxHeartbeats 4000000 in
theorem w_X3_dishTaste_b50 {Y : Mem} {g0 : Nat} (C : Cx p s m [.ref (ad 1 g0 0)].toArray meth c cX3_dishTaste 3 wsX3_dishTaste RX3 N0 T D gr ad) (hrt : meth.sig.returnType = (some .int)) (hG : ∀ q ∈ ([(1, g0), (2, g0)] ++ allG), q ∈ gr) {res : Int32} {k10 : Int32 → Int32 → Option (Int32)} (hk10 : ∀ (l2 : Int32) (l1 : Int32), k10 l2 l1 = some res → FW p l e (Rm 1) s m [.ref (ad 1 g0 0)].toArray below meth c 3 N0 T D gr ad 0 0 (MQ below (va_Qi (fun r Y1 => r = res ∧ Y1 = Y) (WB T D gr ad) (fun q => N0 ≤ q)) [.ref (ad 1 g0 0)].toArray s 0 0 (fun q => N0 ≤ q)) Y 10 [(2, .int l2), (1, .int l1), (0, .ref (ad 1 g0 0))] []) (l2 : Int32) (l1 : Int32) (h : X3_dishTaste_b50 Y g0 k10 l2 l1 = some res) : FW p l e (Rm 1) s m [.ref (ad 1 g0 0)].toArray below meth c 3 N0 T D gr ad 0 0 (MQ below (va_Qi (fun r Y1 => r = res ∧ Y1 = Y) (WB T D gr ad) (fun q => N0 ≤ q)) [.ref (ad 1 g0 0)].toArray s 0 0 (fun q => N0 ≤ q)) Y 50 [(2, .int l2), (1, .int l1), (0, .ref (ad 1 g0 0))] [] := by
  unfold X3_dishTaste_b50 at h
  refine fw_iinc C dX3_dishTaste_50 (kk := 0) (v := l2 + 1) rfl rfl (by decide) (L' := [(2, .int (l2 + 1)), (1, .int l1), (0, .ref (ad 1 g0 0))]) rfl ?_
  refine fw_goto C dX3_dishTaste_53 (tgt := 10) rfl ?_
  exact hk10 _ _ h
set_option maxRecDepth 100000 in
set_option maxHeartbeats 4000000 in
theorem w_X3_dishTaste_b10 {Y : Mem} {g0 : Nat} (C : Cx p s m [.ref (ad 1 g0 0)].toArray meth c cX3_dishTaste 3 wsX3_dishTaste RX3 N0 T D gr ad) (hrt : meth.sig.returnType = (some .int)) (hG : ∀ q ∈ ([(1, g0), (2, g0)] ++ allG), q ∈ gr) {res : Int32} : ∀ (n : Nat) (l2 : Int32) (l1 : Int32), X3_dishTaste_b10 Y g0  n l2 l1 = some res → FW p l e (Rm 1) s m [.ref (ad 1 g0 0)].toArray below meth c 3 N0 T D gr ad 0 0 (MQ below (va_Qi (fun r Y1 => r = res ∧ Y1 = Y) (WB T D gr ad) (fun q => N0 ≤ q)) [.ref (ad 1 g0 0)].toArray s 0 0 (fun q => N0 ≤ q)) Y 10 [(2, .int l2), (1, .int l1), (0, .ref (ad 1 g0 0))] [] := by
  intro n
  induction n with
  | zero =>
    intro l2 l1 h
    unfold X3_dishTaste_b10 at h
    cases h
  | succ n ih =>
    intro l2 l1 h
    unfold X3_dishTaste_b10 at h
    refine fw_iload_n C dX3_dishTaste_10 rfl 0 rfl ?_
    refine fw_aload_n C dX3_dishTaste_11 rfl 2 rfl ?_
    refine fw_get C (ci := 3) (Cn := RX3) (Tc := TX3) (N := 5) (j := 0) ly_X3_dishTaste_3 rfl (hG _ (List.mem_of_getElem? (i := 0) rfl)) (of1_0 _) (ce1 T ad _ _) (by decide) (cx_ts C _ fl_X3_dishTaste_28) (fun _ h => h) (v := .ref (ad 3 ((Y 1 g0 0 0).toNatClampNeg) 0)) rfl dX3_dishTaste_12 ?_
    obtain ⟨b3, h⟩ := gd_some h
    have b3 := of_decide_eq_true b3
    refine fw_getN C (ci := 5) (Cn := RX5) (Tc := TX5) (N := 17) (j := 7) ly_X3_dishTaste_5 rfl ((fun q hq => hG q (List.mem_append_right _ hq)) _ (allG_3 b3)) (of3_0 _) (ce3 T ad _ _) (by decide) (Nst_use (cx_nst C) (w := .fieldLinkNest RX3 91 "RecipeScheduler$Recipe" "steps" "LRecipeScheduler$Names;" "RecipeScheduler") 146 (by decide +kernel) rfl) (fun _ h => h) (v := .ref (ad 4 (2*((Y 1 g0 0 0).toNatClampNeg)+1) 0)) rfl dX3_dishTaste_15 ?_
    obtain ⟨b4, h⟩ := gd_some h
    have b4 := of_decide_eq_true b4
    refine fw_getN C (ci := 4) (Cn := RX4) (Tc := TX4) (N := 3) (j := 2) ly_X3_dishTaste_4 rfl ((fun q hq => hG q (List.mem_append_right _ hq)) _ (allG_4b b4)) (of4_0 _) (ce4 T ad _ _) (by decide) (Nst_use (cx_nst C) (w := .fieldLinkNest RX3 95 "RecipeScheduler$Names" "count" "I" "RecipeScheduler") 114 (by decide +kernel) rfl) (fun _ h => h) (v := .int (Y 4 (2*((Y 1 g0 0 0).toNatClampNeg)+1) 0 2)) rfl dX3_dishTaste_18 ?_
    refine fw_icmp_ge C dX3_dishTaste_21 (tgt := 56) rfl (fun c5 => ?_) (fun c5 => ?_)
    · have h := ite_t c5 h
      refine fw_iload_n C dX3_dishTaste_56 rfl 1 rfl ?_
      exact fw_iret C hrt Y ⟨Option.some.inj h, rfl⟩ (fun t ht => ht) dX3_dishTaste_57
    · have h := ite_f c5 h
      refine fw_aload_n C dX3_dishTaste_24 rfl 2 rfl ?_
      refine fw_get C (ci := 3) (Cn := RX3) (Tc := TX3) (N := 5) (j := 1) ly_X3_dishTaste_3 rfl (hG _ (List.mem_of_getElem? (i := 0) rfl)) (of1_0 _) (ce1 T ad _ _) (by decide) (cx_ts C _ fl_X3_dishTaste_12) (fun _ h => h) (v := .ref (ad 2 g0 0)) rfl dX3_dishTaste_25 ?_
      refine fw_getN C (ci := 8) (Cn := RX8) (Tc := TX8) (N := 15) (j := 7) ly_X3_dishTaste_8 rfl (hG _ (List.mem_of_getElem? (i := 1) rfl)) (of2_0 _) (ce2 T ad _ _) (by decide) (Nst_use (cx_nst C) (w := .fieldLinkNest RX3 47 "RecipeScheduler$State" "done" "I" "RecipeScheduler") 447 (by decide +kernel) rfl) (fun _ h => h) (v := .int (Y 2 g0 0 7)) rfl dX3_dishTaste_28 ?_
      refine fw_iload_n C dX3_dishTaste_31 rfl 0 rfl ?_
      obtain ⟨r6, q7, h⟩ := bd1_some h
      refine fw_callSNi C (As := [.int (Y 2 g0 0 7), .int l2]) (c_X11_contains ga0 q7) ⟨(va_cnB 2 (cx_ts C) gX3_dishTaste_X11_contains_n100 rfl rfl rfl (cx_nw C (w := .methodLinkNest RX3 100 yX11_contains "RecipeScheduler") 683 (by decide +kernel) rfl) (cx_ts C _ in_X3_dishTaste_11) (by decide +kernel) ⟨Nat.le_of_ble_eq_true rfl, Nat.le_of_ble_eq_true rfl⟩), cx_ts C _ sw_X3_dishTaste_X11_contains, trivial⟩ rfl (st := []) rfl (Nat.le_of_ble_eq_true rfl) ⟨Nat.le_refl 0, Nat.le_refl 0⟩ dX3_dishTaste_32 (pp2 ?_)
      refine fw_if_eq C dX3_dishTaste_35 (tgt := 50) rfl (fun c8 => ?_) (fun c8 => ?_)
      · have h := ite_t c8 h
        exact w_X3_dishTaste_b50 C hrt hG  ih _ _ h
      · have h := ite_f c8 h
        refine fw_iload_n C dX3_dishTaste_38 rfl 1 rfl ?_
        refine fw_aload_n C dX3_dishTaste_39 rfl 2 rfl ?_
        refine fw_get C (ci := 3) (Cn := RX3) (Tc := TX3) (N := 5) (j := 0) ly_X3_dishTaste_3 rfl (hG _ (List.mem_of_getElem? (i := 0) rfl)) (of1_0 _) (ce1 T ad _ _) (by decide) (cx_ts C _ fl_X3_dishTaste_28) (fun _ h => h) (v := .ref (ad 3 ((Y 1 g0 0 0).toNatClampNeg) 0)) rfl dX3_dishTaste_40 ?_
        refine fw_getN C (ci := 5) (Cn := RX5) (Tc := TX5) (N := 17) (j := 9) ly_X3_dishTaste_5 rfl ((fun q hq => hG q (List.mem_append_right _ hq)) _ (allG_3 b3)) (of3_0 _) (ce3 T ad _ _) (by decide) (Nst_use (cx_nst C) (w := .fieldLinkNest RX3 194 "RecipeScheduler$Recipe" "taste" "[I" "RecipeScheduler") 153 (by decide +kernel) rfl) (fun _ h => h) (v := .ref (ad 3 (((Y 1 g0 0 0).toNatClampNeg)) 4)) rfl dX3_dishTaste_43 ?_
        refine fw_iload_n C dX3_dishTaste_46 rfl 0 rfl ?_
        obtain ⟨b9, h⟩ := gd_some h
        refine fw_iald2 C ((fun q hq => hG q (List.mem_append_right _ hq)) _ (allG_3 b3)) (of3_4 _) (ca3_4 T ad _ _) b9 (Nat.le_of_ble_eq_true rfl) dX3_dishTaste_47 ?_
        refine fw_iadd C dX3_dishTaste_48 ?_
        obtain ⟨v10, e11, h⟩ := lt_some h
        refine fw_top (v' := .int v10) (by rw [e11]) ?_
        refine fw_istore_n C dX3_dishTaste_49 rfl (by decide) (L' := [(1, .int v10), (2, .int l2), (0, .ref (ad 1 g0 0))]) rfl ?_
        refine fw_sub [1, 0, 2] (L' := [(2, .int l2), (1, .int v10), (0, .ref (ad 1 g0 0))]) rfl ?_
        exact w_X3_dishTaste_b50 C hrt hG  ih _ _ h
set_option maxRecDepth 100000 in
set_option maxHeartbeats 4000000 in
theorem w_X3_dishTaste {Y : Mem} {g0 : Nat} (C : Cx p s m [.ref (ad 1 g0 0)].toArray meth c cX3_dishTaste 3 wsX3_dishTaste RX3 N0 T D gr ad) (hrt : meth.sig.returnType = (some .int)) (hG : ∀ q ∈ ([(1, g0), (2, g0)] ++ allG), q ∈ gr) {res : Int32} (h : X3_dishTaste Y g0 = some res) : FW p l e (Rm 1) s m [.ref (ad 1 g0 0)].toArray below meth c 3 N0 T D gr ad 0 0 (MQ below (va_Qi (fun r Y1 => r = res ∧ Y1 = Y) (WB T D gr ad) (fun q => N0 ≤ q)) [.ref (ad 1 g0 0)].toArray s 0 0 (fun q => N0 ≤ q)) Y 0 [(0, .ref (ad 1 g0 0))] [] := by
  unfold X3_dishTaste at h
  refine fw_aload_n C dX3_dishTaste_0 rfl 0 rfl ?_
  refine fw_get C (ci := 3) (Cn := RX3) (Tc := TX3) (N := 5) (j := 1) ly_X3_dishTaste_3 rfl (hG _ (List.mem_of_getElem? (i := 0) rfl)) (of1_0 _) (ce1 T ad _ _) (by decide) (cx_ts C _ fl_X3_dishTaste_12) (fun _ h => h) (v := .ref (ad 2 g0 0)) rfl dX3_dishTaste_1 ?_
  refine fw_getN C (ci := 8) (Cn := RX8) (Tc := TX8) (N := 15) (j := 2) ly_X3_dishTaste_8 rfl (hG _ (List.mem_of_getElem? (i := 1) rfl)) (of2_0 _) (ce2 T ad _ _) (by decide) (Nst_use (cx_nst C) (w := .fieldLinkNest RX3 191 "RecipeScheduler$State" "salt" "I" "RecipeScheduler") 434 (by decide +kernel) rfl) (fun _ h => h) (v := .int (Y 2 g0 0 2)) rfl dX3_dishTaste_4 ?_
  obtain ⟨v1, e2, h⟩ := lt_some h
  refine fw_top (v' := .int v1) (by rw [e2]) ?_
  refine fw_istore_n C dX3_dishTaste_7 rfl (by decide) (L' := [(1, .int v1), (0, .ref (ad 1 g0 0))]) rfl ?_
  refine fw_iconst C dX3_dishTaste_8 (v := 0) rfl ?_
  refine fw_istore_n C dX3_dishTaste_9 rfl (by decide) (L' := [(2, .int 0), (1, .int v1), (0, .ref (ad 1 g0 0))]) rfl ?_
  exact w_X3_dishTaste_b10 C hrt hG   _ _ _ h
end
set_option maxRecDepth 100000 in
set_option maxHeartbeats 4000000 in
theorem c_X3_dishTaste {l : Launch} {N0 : Nat} {T : Nat → ClassId} {D : va_G} {gr : List (Nat × Nat)} {ad : Nat → Nat → Nat → Nat} {Y : Mem} {g0 : Nat} {res : Int32} (hG : ∀ q ∈ ([(1, g0), (2, g0)] ++ allG), q ∈ gr) (h : X3_dishTaste Y g0 = some res) : CI l yX3_dishTaste wsX3_dishTaste (Rm 1) N0 T D gr ad Y [.ref (ad 1 g0 0)] (fun r Y1 => r = res ∧ Y1 = Y) :=
  fw_body (by decide +kernel) rfl (Nat.le_of_ble_eq_true rfl) (fun p e s m below meth c C hrt => w_X3_dishTaste C hrt hG  h)
theorem ly_X11_addSalt_11 : ∀ w ∈ u_ws RX11 TX11 11, w ∈ wsX11_addSalt := by decide +kernel
theorem fl_X11_addSalt_67 : Cond.fieldLink RX11 67 "RecipeScheduler" "now" "LRecipeScheduler$Kitchen;" ∈ wsX11_addSalt := by decide +kernel
theorem ly_X11_addSalt_3 : ∀ w ∈ u_ws RX3 TX3 5, w ∈ wsX11_addSalt := by decide +kernel
theorem ly_X11_addSalt_8 : ∀ w ∈ u_ws RX8 TX8 15, w ∈ wsX11_addSalt := by decide +kernel
theorem fl_X11_addSalt_77 : Cond.fieldLink RX11 77 "RecipeScheduler" "history" "LRecipeScheduler$History;" ∈ wsX11_addSalt := by decide +kernel
section
variable {p : Program} {l : Launch} {e : Env} {s : State} {m : MethodId} {below : List Frame} {meth : Method} {c : Code} {N0 : Nat} {T : Nat → ClassId} {D : va_G} {gr : List (Nat × Nat)} {ad : Nat → Nat → Nat → Nat}
set_option maxRecDepth 100000 in
set_option maxHeartbeats 4000000 in
theorem w_X11_addSalt {Y : Mem} {a1 : Int32} (C : Cx p s m [.ref (ad 0 0 0), .int a1].toArray meth c cX11_addSalt 2 wsX11_addSalt RX11 N0 T D gr ad) (hrt : meth.sig.returnType = (some .int)) (hG : ∀ q ∈ ([(0, 0), (1, 0), (2, 0), (9, 0)] ++ allG), q ∈ gr) {res : Int32 × Mem} (h : X11_addSalt Y a1 = some res) : FW p l e (Rm 3) s m [.ref (ad 0 0 0), .int a1].toArray below meth c 2 N0 T D gr ad 0 0 (MQ below (va_Qi (fun r Y1 => (r, Y1) = res) (WB T D gr ad) (fun q => N0 ≤ q)) [.ref (ad 0 0 0), .int a1].toArray s 0 0 (fun q => N0 ≤ q)) Y 0 [(0, .ref (ad 0 0 0)), (1, .int a1)] [] := by
  unfold X11_addSalt at h
  refine fw_aload_n C dX11_addSalt_0 rfl 0 rfl ?_
  refine fw_iload_n C dX11_addSalt_1 rfl 1 rfl ?_
  obtain ⟨r1, q2, h⟩ := bd1_some h
  refine fw_callVi C (ci := 11) (Cn := RX11) (Tc := TX11) (N := 11) (As := [.int a1]) (c_X11_isSaltAmount ga0 q2) (cwV 1 (cx_ts C) gX11_addSalt_X11_isSaltAmount rfl rfl rfl (by decide +kernel) ⟨Nat.le_of_ble_eq_true rfl, Nat.le_of_ble_eq_true rfl⟩) rfl (hG _ (List.mem_of_getElem? (i := 0) rfl)) (of0_0 _) (ce0 T ad _ _) rfl (st := []) rfl (Nat.le_of_ble_eq_true rfl) ⟨Nat.le_refl 0, Nat.le_refl 0⟩ dX11_addSalt_2 (pp2 ?_)
  refine fw_if_ne C dX11_addSalt_5 (tgt := 19) rfl (fun c3 => ?_) (fun c3 => ?_)
  · have h := ite_f c3 h
    refine fw_aload_n C dX11_addSalt_19 rfl 0 rfl ?_
    refine fw_get C (ci := 11) (Cn := RX11) (Tc := TX11) (N := 11) (j := 5) ly_X11_addSalt_11 rfl (hG _ (List.mem_of_getElem? (i := 0) rfl)) (of0_0 _) (ce0 T ad _ _) (by decide) (cx_ts C _ fl_X11_addSalt_67) (fun _ h => h) (v := .ref (ad 1 0 0)) rfl dX11_addSalt_20 ?_
    refine fw_getN C (ci := 3) (Cn := RX3) (Tc := TX3) (N := 5) (j := 1) ly_X11_addSalt_3 rfl (hG _ (List.mem_of_getElem? (i := 1) rfl)) (of1_0 _) (ce1 T ad _ _) (by decide) (Nst_use (cx_nst C) (w := .fieldLinkNest RX11 139 "RecipeScheduler$Kitchen" "state" "LRecipeScheduler$State;" "RecipeScheduler") 509 (by decide +kernel) rfl) (fun _ h => h) (v := .ref (ad 2 0 0)) rfl dX11_addSalt_23 ?_
    refine fw_getN C (ci := 8) (Cn := RX8) (Tc := TX8) (N := 15) (j := 5) ly_X11_addSalt_8 rfl (hG _ (List.mem_of_getElem? (i := 2) rfl)) (of2_0 _) (ce2 T ad _ _) (by decide) (Nst_use (cx_nst C) (w := .fieldLinkNest RX11 350 "RecipeScheduler$State" "served" "Z" "RecipeScheduler") 442 (by decide +kernel) rfl) (fun _ h => h) (v := .int (Y 2 0 0 5)) rfl dX11_addSalt_26 ?_
    refine fw_if_eq C dX11_addSalt_29 (tgt := 43) rfl (fun c4 => ?_) (fun c4 => ?_)
    · have h := ite_t c4 h
      refine fw_aload_n C dX11_addSalt_43 rfl 0 rfl ?_
      refine fw_get C (ci := 11) (Cn := RX11) (Tc := TX11) (N := 11) (j := 7) ly_X11_addSalt_11 rfl (hG _ (List.mem_of_getElem? (i := 0) rfl)) (of0_0 _) (ce0 T ad _ _) (by decide) (cx_ts C _ fl_X11_addSalt_77) (fun _ h => h) (v := .ref (ad 9 0 0)) rfl dX11_addSalt_44 ?_
      refine fw_aload_n C dX11_addSalt_47 rfl 0 rfl ?_
      refine fw_get C (ci := 11) (Cn := RX11) (Tc := TX11) (N := 11) (j := 5) ly_X11_addSalt_11 rfl (hG _ (List.mem_of_getElem? (i := 0) rfl)) (of0_0 _) (ce0 T ad _ _) (by decide) (cx_ts C _ fl_X11_addSalt_67) (fun _ h => h) (v := .ref (ad 1 0 0)) rfl dX11_addSalt_48 ?_
      refine fw_getN C (ci := 3) (Cn := RX3) (Tc := TX3) (N := 5) (j := 1) ly_X11_addSalt_3 rfl (hG _ (List.mem_of_getElem? (i := 1) rfl)) (of1_0 _) (ce1 T ad _ _) (by decide) (Nst_use (cx_nst C) (w := .fieldLinkNest RX11 139 "RecipeScheduler$Kitchen" "state" "LRecipeScheduler$State;" "RecipeScheduler") 509 (by decide +kernel) rfl) (fun _ h => h) (v := .ref (ad 2 0 0)) rfl dX11_addSalt_51 ?_
      obtain ⟨Y7, q6, h⟩ := bd1_some h
      refine fw_callVv C (ci := 2) (Cn := RX2) (Tc := TX2) (N := 3) (As := [.ref (ad 2 0 0)]) (c_X2_push (gac (hG _ (List.mem_of_getElem? (i := 3) rfl)) (gac (hG _ (List.mem_of_getElem? (i := 2) rfl)) (fun q hq => hG q (List.mem_append_right _ hq)))) q6) (cwV 1 (cx_ts C) gX11_addSalt_X2_push rfl rfl rfl (by decide +kernel) ⟨Nat.le_of_ble_eq_true rfl, Nat.le_of_ble_eq_true rfl⟩) rfl (hG _ (List.mem_of_getElem? (i := 3) rfl)) (of9_0 _) (ce9 T ad _ _) rfl (st := []) rfl (Nat.le_of_ble_eq_true rfl) ⟨Nat.le_refl 0, Nat.le_refl 0⟩ dX11_addSalt_54 (ppv ?_)
      refine fw_aload_n C dX11_addSalt_57 rfl 0 rfl ?_
      refine fw_get C (ci := 11) (Cn := RX11) (Tc := TX11) (N := 11) (j := 5) ly_X11_addSalt_11 rfl (hG _ (List.mem_of_getElem? (i := 0) rfl)) (of0_0 _) (ce0 T ad _ _) (by decide) (cx_ts C _ fl_X11_addSalt_67) (fun _ h => h) (v := .ref (ad 1 0 0)) rfl dX11_addSalt_58 ?_
      refine fw_getN C (ci := 3) (Cn := RX3) (Tc := TX3) (N := 5) (j := 1) ly_X11_addSalt_3 rfl (hG _ (List.mem_of_getElem? (i := 1) rfl)) (of1_0 _) (ce1 T ad _ _) (by decide) (Nst_use (cx_nst C) (w := .fieldLinkNest RX11 139 "RecipeScheduler$Kitchen" "state" "LRecipeScheduler$State;" "RecipeScheduler") 509 (by decide +kernel) rfl) (fun _ h => h) (v := .ref (ad 2 0 0)) rfl dX11_addSalt_61 ?_
      refine fw_dup C dX11_addSalt_64 rfl ?_
      refine fw_getN C (ci := 8) (Cn := RX8) (Tc := TX8) (N := 15) (j := 2) ly_X11_addSalt_8 rfl (hG _ (List.mem_of_getElem? (i := 2) rfl)) (of2_0 _) (ce2 T ad _ _) (by decide) (Nst_use (cx_nst C) (w := .fieldLinkNest RX11 149 "RecipeScheduler$State" "salt" "I" "RecipeScheduler") 433 (by decide +kernel) rfl) (fun _ h => h) (v := .int (Y7 2 0 0 2)) rfl dX11_addSalt_65 ?_
      refine fw_iload_n C dX11_addSalt_68 rfl 1 rfl ?_
      refine fw_iadd C dX11_addSalt_69 ?_
      obtain ⟨Y8, e9, h⟩ := lt_some h
      refine fw_putN C (ci := 8) (Cn := RX8) (Tc := TX8) (N := 15) (j := 2) (ty := .int) (upd (Y7 2 0 0) 2 ((Y7 2 0 0 2) + a1)) ly_X11_addSalt_8 rfl tyX8_ok nmX8 (hG _ (List.mem_of_getElem? (i := 2) rfl)) (of2_0 _) (ce2 T ad _ _) (by decide) (Nst_use (cx_nst C) (w := .fieldLinkNest RX11 149 "RecipeScheduler$State" "salt" "I" "RecipeScheduler") 433 (by decide +kernel) rfl) (fun _ h => h) rfl (by decide +kernel) rfl rfl (Nat.le_of_ble_eq_true rfl) (ce2_put2 T ad _ _ _) dX11_addSalt_70 ?_
      refine fw_mem ((up_eq _ _ _ _ _ _).symm.trans e9) ?_
      refine fw_aload_n C dX11_addSalt_73 rfl 0 rfl ?_
      refine fw_get C (ci := 11) (Cn := RX11) (Tc := TX11) (N := 11) (j := 5) ly_X11_addSalt_11 rfl (hG _ (List.mem_of_getElem? (i := 0) rfl)) (of0_0 _) (ce0 T ad _ _) (by decide) (cx_ts C _ fl_X11_addSalt_67) (fun _ h => h) (v := .ref (ad 1 0 0)) rfl dX11_addSalt_74 ?_
      obtain ⟨r10, q11, h⟩ := bd1_some h
      refine fw_callVi C (ci := 3) (Cn := RX3) (Tc := TX3) (N := 5) (As := []) (c_X3_dishTaste (gac (hG _ (List.mem_of_getElem? (i := 1) rfl)) (gac (hG _ (List.mem_of_getElem? (i := 2) rfl)) (fun q hq => hG q (List.mem_append_right _ hq)))) q11) (cwV 0 (cx_ts C) gX11_addSalt_X3_dishTaste rfl rfl rfl (by decide +kernel) ⟨Nat.le_of_ble_eq_true rfl, Nat.le_of_ble_eq_true rfl⟩) rfl (hG _ (List.mem_of_getElem? (i := 1) rfl)) (of1_0 _) (ce1 T ad _ _) rfl (st := []) rfl (Nat.le_of_ble_eq_true rfl) ⟨Nat.le_refl 0, Nat.le_refl 0⟩ dX11_addSalt_77 (pp2 ?_)
      exact fw_iret C hrt Y8 (Option.some.inj h) (fun t ht => ht) dX11_addSalt_80
    · have h := ite_f c4 h
      cases h
  · have h := ite_t c3 h
    cases h
end
set_option maxRecDepth 100000 in
set_option maxHeartbeats 4000000 in
theorem c_X11_addSalt {l : Launch} {N0 : Nat} {T : Nat → ClassId} {D : va_G} {gr : List (Nat × Nat)} {ad : Nat → Nat → Nat → Nat} {Y : Mem} {a1 : Int32} {res : Int32 × Mem} (hG : ∀ q ∈ ([(0, 0), (1, 0), (2, 0), (9, 0)] ++ allG), q ∈ gr) (h : X11_addSalt Y a1 = some res) : CI l yX11_addSalt wsX11_addSalt (Rm 3) N0 T D gr ad Y [.ref (ad 0 0 0), .int a1] (fun r Y1 => (r, Y1) = res) :=
  fw_body (by decide +kernel) rfl (Nat.le_of_ble_eq_true rfl) (fun p e s m below meth c C hrt => w_X11_addSalt C hrt hG  h)
theorem ly_X11_requireStep_11 : ∀ w ∈ u_ws RX11 TX11 11, w ∈ wsX11_requireStep := by decide +kernel
theorem fl_X11_requireStep_67 : Cond.fieldLink RX11 67 "RecipeScheduler" "now" "LRecipeScheduler$Kitchen;" ∈ wsX11_requireStep := by decide +kernel
theorem ly_X11_requireStep_3 : ∀ w ∈ u_ws RX3 TX3 5, w ∈ wsX11_requireStep := by decide +kernel
theorem ly_X11_requireStep_5 : ∀ w ∈ u_ws RX5 TX5 17, w ∈ wsX11_requireStep := by decide +kernel
theorem ly_X11_requireStep_4 : ∀ w ∈ u_ws RX4 TX4 3, w ∈ wsX11_requireStep := by decide +kernel
section
variable {p : Program} {l : Launch} {e : Env} {s : State} {m : MethodId} {below : List Frame} {meth : Method} {c : Code} {N0 : Nat} {T : Nat → ClassId} {D : va_G} {gr : List (Nat × Nat)} {ad : Nat → Nat → Nat → Nat}
set_option maxRecDepth 100000 in
set_option maxHeartbeats 4000000 in
theorem w_X11_requireStep {Y : Mem} {a1 : Int32} (C : Cx p s m [.ref (ad 0 0 0), .int a1].toArray meth c cX11_requireStep 2 wsX11_requireStep RX11 N0 T D gr ad) (hrt : meth.sig.returnType = none) (hG : ∀ q ∈ ([(0, 0), (1, 0)] ++ allG), q ∈ gr) {res : Unit} (h : X11_requireStep Y a1 = some res) : FW p l e (Rm 1) s m [.ref (ad 0 0 0), .int a1].toArray below meth c 2 N0 T D gr ad 0 0 (MQ below (va_Qv (fun Y1 => Y1 = Y) (WB T D gr ad) (fun q => N0 ≤ q)) [.ref (ad 0 0 0), .int a1].toArray s 0 0 (fun q => N0 ≤ q)) Y 0 [(0, .ref (ad 0 0 0)), (1, .int a1)] [] := by
  unfold X11_requireStep at h
  refine fw_iload_n C dX11_requireStep_0 rfl 1 rfl ?_
  refine fw_iconst C dX11_requireStep_1 (v := 0) rfl ?_
  refine fw_aload_n C dX11_requireStep_2 rfl 0 rfl ?_
  refine fw_get C (ci := 11) (Cn := RX11) (Tc := TX11) (N := 11) (j := 5) ly_X11_requireStep_11 rfl (hG _ (List.mem_of_getElem? (i := 0) rfl)) (of0_0 _) (ce0 T ad _ _) (by decide) (cx_ts C _ fl_X11_requireStep_67) (fun _ h => h) (v := .ref (ad 1 0 0)) rfl dX11_requireStep_3 ?_
  refine fw_getN C (ci := 3) (Cn := RX3) (Tc := TX3) (N := 5) (j := 0) ly_X11_requireStep_3 rfl (hG _ (List.mem_of_getElem? (i := 1) rfl)) (of1_0 _) (ce1 T ad _ _) (by decide) (Nst_use (cx_nst C) (w := .fieldLinkNest RX11 117 "RecipeScheduler$Kitchen" "recipe" "LRecipeScheduler$Recipe;" "RecipeScheduler") 507 (by decide +kernel) rfl) (fun _ h => h) (v := .ref (ad 3 ((Y 1 0 0 0).toNatClampNeg) 0)) rfl dX11_requireStep_6 ?_
  obtain ⟨b1, h⟩ := gd_some h
  have b1 := of_decide_eq_true b1
  refine fw_getN C (ci := 5) (Cn := RX5) (Tc := TX5) (N := 17) (j := 7) ly_X11_requireStep_5 rfl ((fun q hq => hG q (List.mem_append_right _ hq)) _ (allG_3 b1)) (of3_0 _) (ce3 T ad _ _) (by decide) (Nst_use (cx_nst C) (w := .fieldLinkNest RX11 126 "RecipeScheduler$Recipe" "steps" "LRecipeScheduler$Names;" "RecipeScheduler") 144 (by decide +kernel) rfl) (fun _ h => h) (v := .ref (ad 4 (2*((Y 1 0 0 0).toNatClampNeg)+1) 0)) rfl dX11_requireStep_9 ?_
  obtain ⟨b2, h⟩ := gd_some h
  have b2 := of_decide_eq_true b2
  refine fw_getN C (ci := 4) (Cn := RX4) (Tc := TX4) (N := 3) (j := 2) ly_X11_requireStep_4 rfl ((fun q hq => hG q (List.mem_append_right _ hq)) _ (allG_4b b2)) (of4_0 _) (ce4 T ad _ _) (by decide) (Nst_use (cx_nst C) (w := .fieldLinkNest RX11 130 "RecipeScheduler$Names" "count" "I" "RecipeScheduler") 113 (by decide +kernel) rfl) (fun _ h => h) (v := .int (Y 4 (2*((Y 1 0 0 0).toNatClampNeg)+1) 0 2)) rfl dX11_requireStep_12 ?_
  refine fw_iconst C dX11_requireStep_15 (v := 1) rfl ?_
  refine fw_isub C dX11_requireStep_16 ?_
  obtain ⟨r3, q4, h⟩ := bd1_some h
  refine fw_callSi C (As := [.int a1, .int 0, .int ((Y 4 (2*((Y 1 0 0 0).toNatClampNeg)+1) 0 2) - 1)]) (c_X11_isWithin ga0 q4) (va_cwS 3 (cx_ts C) gX11_requireStep_X11_isWithin rfl rfl rfl (by decide +kernel) ⟨Nat.le_of_ble_eq_true rfl, Nat.le_of_ble_eq_true rfl⟩) rfl (st := []) rfl (Nat.le_of_ble_eq_true rfl) ⟨Nat.le_refl 0, Nat.le_refl 0⟩ dX11_requireStep_17 (pp2 ?_)
  refine fw_if_ne C dX11_requireStep_20 (tgt := 34) rfl (fun c5 => ?_) (fun c5 => ?_)
  · have h := ite_f c5 h
    exact fw_vret C hrt Y rfl (fun t ht => ht) dX11_requireStep_34
  · have h := ite_t c5 h
    cases h
end
set_option maxRecDepth 100000 in
set_option maxHeartbeats 4000000 in
theorem c_X11_requireStep {l : Launch} {N0 : Nat} {T : Nat → ClassId} {D : va_G} {gr : List (Nat × Nat)} {ad : Nat → Nat → Nat → Nat} {Y : Mem} {a1 : Int32} {res : Unit} (hG : ∀ q ∈ ([(0, 0), (1, 0)] ++ allG), q ∈ gr) (h : X11_requireStep Y a1 = some res) : CV l yX11_requireStep wsX11_requireStep (Rm 1) N0 T D gr ad Y [.ref (ad 0 0 0), .int a1] (fun Y1 => Y1 = Y) :=
  fw_body (by decide +kernel) rfl (Nat.le_of_ble_eq_true rfl) (fun p e s m below meth c C hrt => w_X11_requireStep C hrt hG  h)
theorem ly_X11_age_11 : ∀ w ∈ u_ws RX11 TX11 11, w ∈ wsX11_age := by decide +kernel
theorem fl_X11_age_67 : Cond.fieldLink RX11 67 "RecipeScheduler" "now" "LRecipeScheduler$Kitchen;" ∈ wsX11_age := by decide +kernel
theorem ly_X11_age_3 : ∀ w ∈ u_ws RX3 TX3 5, w ∈ wsX11_age := by decide +kernel
theorem ly_X11_age_8 : ∀ w ∈ u_ws RX8 TX8 15, w ∈ wsX11_age := by decide +kernel
section
variable {p : Program} {l : Launch} {e : Env} {s : State} {m : MethodId} {below : List Frame} {meth : Method} {c : Code} {N0 : Nat} {T : Nat → ClassId} {D : va_G} {gr : List (Nat × Nat)} {ad : Nat → Nat → Nat → Nat}
set_option maxRecDepth 100000 in
set_option maxHeartbeats 4000000 in
theorem w_X11_age {Y : Mem} {a1 : Int32} (C : Cx p s m [.ref (ad 0 0 0), .int a1].toArray meth c cX11_age 2 wsX11_age RX11 N0 T D gr ad) (hrt : meth.sig.returnType = (some .int)) (hG : ∀ q ∈ ([(1, 0), (0, 0), (2, 0)] ++ allG), q ∈ gr) {res : Int32} (h : X11_age Y a1 = some res) : FW p l e (Rm 2) s m [.ref (ad 0 0 0), .int a1].toArray below meth c 2 N0 T D gr ad 0 0 (MQ below (va_Qi (fun r Y1 => r = res ∧ Y1 = Y) (WB T D gr ad) (fun q => N0 ≤ q)) [.ref (ad 0 0 0), .int a1].toArray s 0 0 (fun q => N0 ≤ q)) Y 0 [(0, .ref (ad 0 0 0)), (1, .int a1)] [] := by
  unfold X11_age at h
  refine fw_aload_n C dX11_age_0 rfl 0 rfl ?_
  refine fw_iload_n C dX11_age_1 rfl 1 rfl ?_
  obtain ⟨_, q2, h⟩ := bd1_some h
  refine fw_callVv C (ci := 11) (Cn := RX11) (Tc := TX11) (N := 11) (As := [.int a1]) (c_X11_requireStep (gac (hG _ (List.mem_of_getElem? (i := 1) rfl)) (gac (hG _ (List.mem_of_getElem? (i := 0) rfl)) (fun q hq => hG q (List.mem_append_right _ hq)))) q2) (cwV 1 (cx_ts C) gX11_age_X11_requireStep rfl rfl rfl (by decide +kernel) ⟨Nat.le_of_ble_eq_true rfl, Nat.le_of_ble_eq_true rfl⟩) rfl (hG _ (List.mem_of_getElem? (i := 1) rfl)) (of0_0 _) (ce0 T ad _ _) rfl (st := []) rfl (Nat.le_of_ble_eq_true rfl) ⟨Nat.le_refl 0, Nat.le_refl 0⟩ dX11_age_2 (ppv ?_)
  refine fw_aload_n C dX11_age_5 rfl 0 rfl ?_
  refine fw_get C (ci := 11) (Cn := RX11) (Tc := TX11) (N := 11) (j := 5) ly_X11_age_11 rfl (hG _ (List.mem_of_getElem? (i := 1) rfl)) (of0_0 _) (ce0 T ad _ _) (by decide) (cx_ts C _ fl_X11_age_67) (fun _ h => h) (v := .ref (ad 1 0 0)) rfl dX11_age_6 ?_
  refine fw_getN C (ci := 3) (Cn := RX3) (Tc := TX3) (N := 5) (j := 1) ly_X11_age_3 rfl (hG _ (List.mem_of_getElem? (i := 0) rfl)) (of1_0 _) (ce1 T ad _ _) (by decide) (Nst_use (cx_nst C) (w := .fieldLinkNest RX11 139 "RecipeScheduler$Kitchen" "state" "LRecipeScheduler$State;" "RecipeScheduler") 509 (by decide +kernel) rfl) (fun _ h => h) (v := .ref (ad 2 0 0)) rfl dX11_age_9 ?_
  refine fw_getN C (ci := 8) (Cn := RX8) (Tc := TX8) (N := 15) (j := 11) ly_X11_age_8 rfl (hG _ (List.mem_of_getElem? (i := 2) rfl)) (of2_0 _) (ce2 T ad _ _) (by decide) (Nst_use (cx_nst C) (w := .fieldLinkNest RX11 258 "RecipeScheduler$State" "age" "[I" "RecipeScheduler") 459 (by decide +kernel) rfl) (fun _ h => h) (v := .ref (ad 2 0 3)) rfl dX11_age_12 ?_
  refine fw_iload_n C dX11_age_15 rfl 1 rfl ?_
  obtain ⟨b3, h⟩ := gd_some h
  refine fw_iald2 C (hG _ (List.mem_of_getElem? (i := 2) rfl)) (of2_3 _) (ca2_3 T ad _ _) b3 (Nat.le_of_ble_eq_true rfl) dX11_age_16 ?_
  exact fw_iret C hrt Y ⟨Option.some.inj h, rfl⟩ (fun t ht => ht) dX11_age_17
end
set_option maxRecDepth 100000 in
set_option maxHeartbeats 4000000 in
theorem c_X11_age {l : Launch} {N0 : Nat} {T : Nat → ClassId} {D : va_G} {gr : List (Nat × Nat)} {ad : Nat → Nat → Nat → Nat} {Y : Mem} {a1 : Int32} {res : Int32} (hG : ∀ q ∈ ([(1, 0), (0, 0), (2, 0)] ++ allG), q ∈ gr) (h : X11_age Y a1 = some res) : CI l yX11_age wsX11_age (Rm 2) N0 T D gr ad Y [.ref (ad 0 0 0), .int a1] (fun r Y1 => r = res ∧ Y1 = Y) :=
  fw_body (by decide +kernel) rfl (Nat.le_of_ble_eq_true rfl) (fun p e s m below meth c C hrt => w_X11_age C hrt hG  h)
theorem ly_X9_addByte_9 : ∀ w ∈ u_ws RX9 TX9 2, w ∈ wsX9_addByte := by decide +kernel
theorem fl_X9_addByte_13 : Cond.fieldLink RX9 13 "RecipeScheduler$Text" "length" "I" ∈ wsX9_addByte := by decide +kernel
theorem fl_X9_addByte_7 : Cond.fieldLink RX9 7 "RecipeScheduler$Text" "bytes" "[B" ∈ wsX9_addByte := by decide +kernel
section
variable {p : Program} {l : Launch} {e : Env} {s : State} {m : MethodId} {below : List Frame} {meth : Method} {c : Code} {N0 : Nat} {T : Nat → ClassId} {D : va_G} {gr : List (Nat × Nat)} {ad : Nat → Nat → Nat → Nat}
set_option maxRecDepth 100000 in
set_option maxHeartbeats 4000000 in
theorem w_X9_addByte {Y : Mem} {g0 : Nat} {a1 : Int32} (C : Cx p s m [.ref (ad 5 g0 0), .int a1].toArray meth c cX9_addByte 2 wsX9_addByte RX9 N0 T D gr ad) (hrt : meth.sig.returnType = none) (hG : ∀ q ∈ [(5, g0)], q ∈ gr) {res : Mem} (h : X9_addByte Y g0 a1 = some res) : FW p l e (Rm 0) s m [.ref (ad 5 g0 0), .int a1].toArray below meth c 2 N0 T D gr ad 0 0 (MQ below (va_Qv (fun Y1 => Y1 = res) (WB T D gr ad) (fun q => N0 ≤ q)) [.ref (ad 5 g0 0), .int a1].toArray s 0 0 (fun q => N0 ≤ q)) Y 0 [(0, .ref (ad 5 g0 0)), (1, .int a1)] [] := by
  unfold X9_addByte at h
  refine fw_aload_n C dX9_addByte_0 rfl 0 rfl ?_
  refine fw_get C (ci := 9) (Cn := RX9) (Tc := TX9) (N := 2) (j := 1) ly_X9_addByte_9 rfl (hG _ (List.mem_of_getElem? (i := 0) rfl)) (of5_0 _) (ce5 T ad _ _) (by decide) (cx_ts C _ fl_X9_addByte_13) (fun _ h => h) (v := .int (Y 5 g0 0 1)) rfl dX9_addByte_1 ?_
  refine fw_aload_n C dX9_addByte_4 rfl 0 rfl ?_
  refine fw_get C (ci := 9) (Cn := RX9) (Tc := TX9) (N := 2) (j := 0) ly_X9_addByte_9 rfl (hG _ (List.mem_of_getElem? (i := 0) rfl)) (of5_0 _) (ce5 T ad _ _) (by decide) (cx_ts C _ fl_X9_addByte_7) (fun _ h => h) (v := .ref (ad 5 g0 1)) rfl dX9_addByte_5 ?_
  refine fw_alen C 1 (hG _ (List.mem_of_getElem? (i := 0) rfl)) (of5_1 _) (ca5_1 T ad _ _) rfl (v := (Int32.ofNat (tcap (g0)))) rfl dX9_addByte_8 ?_
  refine fw_icmp_ge C dX9_addByte_9 (tgt := 33) rfl (fun c1 => ?_) (fun c1 => ?_)
  · have h := ite_t c1 h
    exact fw_vret C hrt Y (Option.some.inj h) (fun t ht => ht) dX9_addByte_33
  · have h := ite_f c1 h
    refine fw_aload_n C dX9_addByte_12 rfl 0 rfl ?_
    refine fw_get C (ci := 9) (Cn := RX9) (Tc := TX9) (N := 2) (j := 0) ly_X9_addByte_9 rfl (hG _ (List.mem_of_getElem? (i := 0) rfl)) (of5_0 _) (ce5 T ad _ _) (by decide) (cx_ts C _ fl_X9_addByte_7) (fun _ h => h) (v := .ref (ad 5 g0 1)) rfl dX9_addByte_13 ?_
    refine fw_aload_n C dX9_addByte_16 rfl 0 rfl ?_
    refine fw_get C (ci := 9) (Cn := RX9) (Tc := TX9) (N := 2) (j := 1) ly_X9_addByte_9 rfl (hG _ (List.mem_of_getElem? (i := 0) rfl)) (of5_0 _) (ce5 T ad _ _) (by decide) (cx_ts C _ fl_X9_addByte_13) (fun _ h => h) (v := .int (Y 5 g0 0 1)) rfl dX9_addByte_17 ?_
    refine fw_iload_n C dX9_addByte_20 rfl 1 rfl ?_
    refine fw_i2b C dX9_addByte_21 (v := (a1).toInt8.toInt32) rfl ?_
    obtain ⟨b2, h⟩ := gd_some h
    obtain ⟨Y3, e4, h⟩ := lt_some h
    refine fw_bast2 C (hG _ (List.mem_of_getElem? (i := 0) rfl)) (of5_1 _) (ca5_1 T ad _) b2 (tcap_lt _) dX9_addByte_22 ?_
    refine fw_mem e4 ?_
    refine fw_aload_n C dX9_addByte_23 rfl 0 rfl ?_
    refine fw_dup C dX9_addByte_24 rfl ?_
    refine fw_get C (ci := 9) (Cn := RX9) (Tc := TX9) (N := 2) (j := 1) ly_X9_addByte_9 rfl (hG _ (List.mem_of_getElem? (i := 0) rfl)) (of5_0 _) (ce5 T ad _ _) (by decide) (cx_ts C _ fl_X9_addByte_13) (fun _ h => h) (v := .int (Y3 5 g0 0 1)) rfl dX9_addByte_25 ?_
    refine fw_iconst C dX9_addByte_28 (v := 1) rfl ?_
    refine fw_iadd C dX9_addByte_29 ?_
    obtain ⟨Y5, e6, h⟩ := lt_some h
    refine fw_put C (ci := 9) (Cn := RX9) (Tc := TX9) (N := 2) (j := 1) (ty := .int) (upd (Y3 5 g0 0) 1 ((Y3 5 g0 0 1) + 1)) ly_X9_addByte_9 rfl tyX9_ok nmX9 (hG _ (List.mem_of_getElem? (i := 0) rfl)) (of5_0 _) (ce5 T ad _ _) (by decide) (cx_ts C _ fl_X9_addByte_13) (fun _ h => h) rfl (by decide +kernel) rfl rfl (Nat.le_of_ble_eq_true rfl) (ce5_put1 T ad _ _ _) dX9_addByte_30 ?_
    refine fw_mem ((up_eq _ _ _ _ _ _).symm.trans e6) ?_
    exact fw_vret C hrt Y5 (Option.some.inj h) (fun t ht => ht) dX9_addByte_33
end
set_option maxRecDepth 100000 in
set_option maxHeartbeats 4000000 in
theorem c_X9_addByte {l : Launch} {N0 : Nat} {T : Nat → ClassId} {D : va_G} {gr : List (Nat × Nat)} {ad : Nat → Nat → Nat → Nat} {Y : Mem} {g0 : Nat} {a1 : Int32} {res : Mem} (hG : ∀ q ∈ [(5, g0)], q ∈ gr) (h : X9_addByte Y g0 a1 = some res) : CV l yX9_addByte wsX9_addByte (Rm 0) N0 T D gr ad Y [.ref (ad 5 g0 0), .int a1] (fun Y1 => Y1 = res) :=
  fw_body (by decide +kernel) rfl (Nat.le_of_ble_eq_true rfl) (fun p e s m below meth c C hrt => w_X9_addByte C hrt hG  h)
section
variable {p : Program} {l : Launch} {e : Env} {s : State} {m : MethodId} {below : List Frame} {meth : Method} {c : Code} {N0 : Nat} {T : Nat → ClassId} {D : va_G} {gr : List (Nat × Nat)} {ad : Nat → Nat → Nat → Nat}
set_option maxRecDepth 100000 in
set_option maxHeartbeats 4000000 in
theorem w_X9_addFourBytes {Y : Mem} {g0 : Nat} {a1 : Int32} (C : Cx p s m [.ref (ad 5 g0 0), .int a1].toArray meth c cX9_addFourBytes 2 wsX9_addFourBytes RX9 N0 T D gr ad) (hrt : meth.sig.returnType = none) (hG : ∀ q ∈ [(5, g0)], q ∈ gr) {res : Mem} (h : X9_addFourBytes Y g0 a1 = some res) : FW p l e (Rm 1) s m [.ref (ad 5 g0 0), .int a1].toArray below meth c 2 N0 T D gr ad 0 0 (MQ below (va_Qv (fun Y1 => Y1 = res) (WB T D gr ad) (fun q => N0 ≤ q)) [.ref (ad 5 g0 0), .int a1].toArray s 0 0 (fun q => N0 ≤ q)) Y 0 [(0, .ref (ad 5 g0 0)), (1, .int a1)] [] := by
  unfold X9_addFourBytes at h
  refine fw_aload_n C dX9_addFourBytes_0 rfl 0 rfl ?_
  refine fw_iload_n C dX9_addFourBytes_1 rfl 1 rfl ?_
  refine fw_bipush C dX9_addFourBytes_2 (v := 24) rfl ?_
  refine fw_iushr C dX9_addFourBytes_4 (v := us a1 24) rfl ?_
  obtain ⟨Y3, q2, h⟩ := bd1_some h
  refine fw_callVv C (ci := 9) (Cn := RX9) (Tc := TX9) (N := 2) (As := [.int (us a1 24)]) (c_X9_addByte (gac (hG _ (List.mem_of_getElem? (i := 0) rfl)) ga0) q2) (cwV 1 (cx_ts C) gX9_addFourBytes_X9_addByte rfl rfl rfl (by decide +kernel) ⟨Nat.le_of_ble_eq_true rfl, Nat.le_of_ble_eq_true rfl⟩) rfl (hG _ (List.mem_of_getElem? (i := 0) rfl)) (of5_0 _) (ce5 T ad _ _) rfl (st := []) rfl (Nat.le_of_ble_eq_true rfl) ⟨Nat.le_refl 0, Nat.le_refl 0⟩ dX9_addFourBytes_5 (ppv ?_)
  refine fw_aload_n C dX9_addFourBytes_8 rfl 0 rfl ?_
  refine fw_iload_n C dX9_addFourBytes_9 rfl 1 rfl ?_
  refine fw_bipush C dX9_addFourBytes_10 (v := 16) rfl ?_
  refine fw_iushr C dX9_addFourBytes_12 (v := us a1 16) rfl ?_
  obtain ⟨Y6, q5, h⟩ := bd1_some h
  refine fw_callVv C (ci := 9) (Cn := RX9) (Tc := TX9) (N := 2) (As := [.int (us a1 16)]) (c_X9_addByte (gac (hG _ (List.mem_of_getElem? (i := 0) rfl)) ga0) q5) (cwV 1 (cx_ts C) gX9_addFourBytes_X9_addByte rfl rfl rfl (by decide +kernel) ⟨Nat.le_of_ble_eq_true rfl, Nat.le_of_ble_eq_true rfl⟩) rfl (hG _ (List.mem_of_getElem? (i := 0) rfl)) (of5_0 _) (ce5 T ad _ _) rfl (st := []) rfl (Nat.le_of_ble_eq_true rfl) ⟨Nat.le_refl 0, Nat.le_refl 0⟩ dX9_addFourBytes_13 (ppv ?_)
  refine fw_aload_n C dX9_addFourBytes_16 rfl 0 rfl ?_
  refine fw_iload_n C dX9_addFourBytes_17 rfl 1 rfl ?_
  refine fw_bipush C dX9_addFourBytes_18 (v := 8) rfl ?_
  refine fw_iushr C dX9_addFourBytes_20 (v := us a1 8) rfl ?_
  obtain ⟨Y9, q8, h⟩ := bd1_some h
  refine fw_callVv C (ci := 9) (Cn := RX9) (Tc := TX9) (N := 2) (As := [.int (us a1 8)]) (c_X9_addByte (gac (hG _ (List.mem_of_getElem? (i := 0) rfl)) ga0) q8) (cwV 1 (cx_ts C) gX9_addFourBytes_X9_addByte rfl rfl rfl (by decide +kernel) ⟨Nat.le_of_ble_eq_true rfl, Nat.le_of_ble_eq_true rfl⟩) rfl (hG _ (List.mem_of_getElem? (i := 0) rfl)) (of5_0 _) (ce5 T ad _ _) rfl (st := []) rfl (Nat.le_of_ble_eq_true rfl) ⟨Nat.le_refl 0, Nat.le_refl 0⟩ dX9_addFourBytes_21 (ppv ?_)
  refine fw_aload_n C dX9_addFourBytes_24 rfl 0 rfl ?_
  refine fw_iload_n C dX9_addFourBytes_25 rfl 1 rfl ?_
  obtain ⟨Y12, q11, h⟩ := bd1_some h
  refine fw_callVv C (ci := 9) (Cn := RX9) (Tc := TX9) (N := 2) (As := [.int a1]) (c_X9_addByte (gac (hG _ (List.mem_of_getElem? (i := 0) rfl)) ga0) q11) (cwV 1 (cx_ts C) gX9_addFourBytes_X9_addByte rfl rfl rfl (by decide +kernel) ⟨Nat.le_of_ble_eq_true rfl, Nat.le_of_ble_eq_true rfl⟩) rfl (hG _ (List.mem_of_getElem? (i := 0) rfl)) (of5_0 _) (ce5 T ad _ _) rfl (st := []) rfl (Nat.le_of_ble_eq_true rfl) ⟨Nat.le_refl 0, Nat.le_refl 0⟩ dX9_addFourBytes_26 (ppv ?_)
  exact fw_vret C hrt Y12 (Option.some.inj h) (fun t ht => ht) dX9_addFourBytes_29
end
set_option maxRecDepth 100000 in
set_option maxHeartbeats 4000000 in
theorem c_X9_addFourBytes {l : Launch} {N0 : Nat} {T : Nat → ClassId} {D : va_G} {gr : List (Nat × Nat)} {ad : Nat → Nat → Nat → Nat} {Y : Mem} {g0 : Nat} {a1 : Int32} {res : Mem} (hG : ∀ q ∈ [(5, g0)], q ∈ gr) (h : X9_addFourBytes Y g0 a1 = some res) : CV l yX9_addFourBytes wsX9_addFourBytes (Rm 1) N0 T D gr ad Y [.ref (ad 5 g0 0), .int a1] (fun Y1 => Y1 = res) :=
  fw_body (by decide +kernel) rfl (Nat.le_of_ble_eq_true rfl) (fun p e s m below meth c C hrt => w_X9_addFourBytes C hrt hG  h)
theorem ly_X11_append_11 : ∀ w ∈ u_ws RX11 TX11 11, w ∈ wsX11_append := by decide +kernel
theorem fl_X11_append_41 : Cond.fieldLink RX11 41 "RecipeScheduler" "input" "LRecipeScheduler$Text;" ∈ wsX11_append := by decide +kernel
theorem ly_X11_append_9 : ∀ w ∈ u_ws RX9 TX9 2, w ∈ wsX11_append := by decide +kernel
section
variable {p : Program} {l : Launch} {e : Env} {s : State} {m : MethodId} {below : List Frame} {meth : Method} {c : Code} {N0 : Nat} {T : Nat → ClassId} {D : va_G} {gr : List (Nat × Nat)} {ad : Nat → Nat → Nat → Nat}
set_option maxRecDepth 100000 in
set_option maxHeartbeats 4000000 in
theorem w_X11_append {Y : Mem} {a1 : Int32} {a2 : Int32} {a3 : Int32} {a4 : Int32} {a5 : Int32} (C : Cx p s m [.ref (ad 0 0 0), .int a1, .int a2, .int a3, .int a4, .int a5].toArray meth c cX11_append 6 wsX11_append RX11 N0 T D gr ad) (hrt : meth.sig.returnType = (some .int)) (hG : ∀ q ∈ [(0, 0), (5, 0)], q ∈ gr) {res : Int32 × Mem} (h : X11_append Y a1 a2 a3 a4 a5 = some res) : FW p l e (Rm 2) s m [.ref (ad 0 0 0), .int a1, .int a2, .int a3, .int a4, .int a5].toArray below meth c 6 N0 T D gr ad 0 0 (MQ below (va_Qi (fun r Y1 => (r, Y1) = res) (WB T D gr ad) (fun q => N0 ≤ q)) [.ref (ad 0 0 0), .int a1, .int a2, .int a3, .int a4, .int a5].toArray s 0 0 (fun q => N0 ≤ q)) Y 0 [(0, .ref (ad 0 0 0)), (1, .int a1), (2, .int a2), (3, .int a3), (4, .int a4), (5, .int a5)] [] := by
  unfold X11_append at h
  refine fw_aload_n C dX11_append_0 rfl 0 rfl ?_
  refine fw_get C (ci := 11) (Cn := RX11) (Tc := TX11) (N := 11) (j := 0) ly_X11_append_11 rfl (hG _ (List.mem_of_getElem? (i := 0) rfl)) (of0_0 _) (ce0 T ad _ _) (by decide) (cx_ts C _ fl_X11_append_41) (fun _ h => h) (v := .ref (ad 5 0 0)) rfl dX11_append_1 ?_
  refine fw_getN C (ci := 9) (Cn := RX9) (Tc := TX9) (N := 2) (j := 1) ly_X11_append_9 rfl (hG _ (List.mem_of_getElem? (i := 1) rfl)) (of5_0 _) (ce5 T ad _ _) (by decide) (Nst_use (cx_nst C) (w := .fieldLinkNest RX11 37 "RecipeScheduler$Text" "length" "I" "RecipeScheduler") 49 (by decide +kernel) rfl) (fun _ h => h) (v := .int (Y 5 0 0 1)) rfl dX11_append_4 ?_
  refine fw_sipush C dX11_append_7 (v := 680) rfl ?_
  refine fw_icmp_le C dX11_append_10 (tgt := 23) rfl (fun c1 => ?_) (fun c1 => ?_)
  · have h := ite_t c1 h
    refine fw_aload_n C dX11_append_23 rfl 0 rfl ?_
    refine fw_get C (ci := 11) (Cn := RX11) (Tc := TX11) (N := 11) (j := 0) ly_X11_append_11 rfl (hG _ (List.mem_of_getElem? (i := 0) rfl)) (of0_0 _) (ce0 T ad _ _) (by decide) (cx_ts C _ fl_X11_append_41) (fun _ h => h) (v := .ref (ad 5 0 0)) rfl dX11_append_24 ?_
    refine fw_iload_n C dX11_append_27 rfl 1 rfl ?_
    obtain ⟨Y4, q3, h⟩ := bd1_some h
    refine fw_callVv C (ci := 9) (Cn := RX9) (Tc := TX9) (N := 2) (As := [.int a1]) (c_X9_addFourBytes (gac (hG _ (List.mem_of_getElem? (i := 1) rfl)) ga0) q3) (cwV 1 (cx_ts C) gX11_append_X9_addFourBytes rfl rfl rfl (by decide +kernel) ⟨Nat.le_of_ble_eq_true rfl, Nat.le_of_ble_eq_true rfl⟩) rfl (hG _ (List.mem_of_getElem? (i := 1) rfl)) (of5_0 _) (ce5 T ad _ _) rfl (st := []) rfl (Nat.le_of_ble_eq_true rfl) ⟨Nat.le_refl 0, Nat.le_refl 0⟩ dX11_append_28 (ppv ?_)
    refine fw_aload_n C dX11_append_31 rfl 0 rfl ?_
    refine fw_get C (ci := 11) (Cn := RX11) (Tc := TX11) (N := 11) (j := 0) ly_X11_append_11 rfl (hG _ (List.mem_of_getElem? (i := 0) rfl)) (of0_0 _) (ce0 T ad _ _) (by decide) (cx_ts C _ fl_X11_append_41) (fun _ h => h) (v := .ref (ad 5 0 0)) rfl dX11_append_32 ?_
    refine fw_iload_n C dX11_append_35 rfl 2 rfl ?_
    obtain ⟨Y7, q6, h⟩ := bd1_some h
    refine fw_callVv C (ci := 9) (Cn := RX9) (Tc := TX9) (N := 2) (As := [.int a2]) (c_X9_addFourBytes (gac (hG _ (List.mem_of_getElem? (i := 1) rfl)) ga0) q6) (cwV 1 (cx_ts C) gX11_append_X9_addFourBytes rfl rfl rfl (by decide +kernel) ⟨Nat.le_of_ble_eq_true rfl, Nat.le_of_ble_eq_true rfl⟩) rfl (hG _ (List.mem_of_getElem? (i := 1) rfl)) (of5_0 _) (ce5 T ad _ _) rfl (st := []) rfl (Nat.le_of_ble_eq_true rfl) ⟨Nat.le_refl 0, Nat.le_refl 0⟩ dX11_append_36 (ppv ?_)
    refine fw_aload_n C dX11_append_39 rfl 0 rfl ?_
    refine fw_get C (ci := 11) (Cn := RX11) (Tc := TX11) (N := 11) (j := 0) ly_X11_append_11 rfl (hG _ (List.mem_of_getElem? (i := 0) rfl)) (of0_0 _) (ce0 T ad _ _) (by decide) (cx_ts C _ fl_X11_append_41) (fun _ h => h) (v := .ref (ad 5 0 0)) rfl dX11_append_40 ?_
    refine fw_iload_n C dX11_append_43 rfl 3 rfl ?_
    obtain ⟨Y10, q9, h⟩ := bd1_some h
    refine fw_callVv C (ci := 9) (Cn := RX9) (Tc := TX9) (N := 2) (As := [.int a3]) (c_X9_addFourBytes (gac (hG _ (List.mem_of_getElem? (i := 1) rfl)) ga0) q9) (cwV 1 (cx_ts C) gX11_append_X9_addFourBytes rfl rfl rfl (by decide +kernel) ⟨Nat.le_of_ble_eq_true rfl, Nat.le_of_ble_eq_true rfl⟩) rfl (hG _ (List.mem_of_getElem? (i := 1) rfl)) (of5_0 _) (ce5 T ad _ _) rfl (st := []) rfl (Nat.le_of_ble_eq_true rfl) ⟨Nat.le_refl 0, Nat.le_refl 0⟩ dX11_append_44 (ppv ?_)
    refine fw_aload_n C dX11_append_47 rfl 0 rfl ?_
    refine fw_get C (ci := 11) (Cn := RX11) (Tc := TX11) (N := 11) (j := 0) ly_X11_append_11 rfl (hG _ (List.mem_of_getElem? (i := 0) rfl)) (of0_0 _) (ce0 T ad _ _) (by decide) (cx_ts C _ fl_X11_append_41) (fun _ h => h) (v := .ref (ad 5 0 0)) rfl dX11_append_48 ?_
    refine fw_iload C dX11_append_51 4 rfl ?_
    obtain ⟨Y13, q12, h⟩ := bd1_some h
    refine fw_callVv C (ci := 9) (Cn := RX9) (Tc := TX9) (N := 2) (As := [.int a4]) (c_X9_addFourBytes (gac (hG _ (List.mem_of_getElem? (i := 1) rfl)) ga0) q12) (cwV 1 (cx_ts C) gX11_append_X9_addFourBytes rfl rfl rfl (by decide +kernel) ⟨Nat.le_of_ble_eq_true rfl, Nat.le_of_ble_eq_true rfl⟩) rfl (hG _ (List.mem_of_getElem? (i := 1) rfl)) (of5_0 _) (ce5 T ad _ _) rfl (st := []) rfl (Nat.le_of_ble_eq_true rfl) ⟨Nat.le_refl 0, Nat.le_refl 0⟩ dX11_append_53 (ppv ?_)
    refine fw_aload_n C dX11_append_56 rfl 0 rfl ?_
    refine fw_get C (ci := 11) (Cn := RX11) (Tc := TX11) (N := 11) (j := 0) ly_X11_append_11 rfl (hG _ (List.mem_of_getElem? (i := 0) rfl)) (of0_0 _) (ce0 T ad _ _) (by decide) (cx_ts C _ fl_X11_append_41) (fun _ h => h) (v := .ref (ad 5 0 0)) rfl dX11_append_57 ?_
    refine fw_iload C dX11_append_60 5 rfl ?_
    obtain ⟨Y16, q15, h⟩ := bd1_some h
    refine fw_callVv C (ci := 9) (Cn := RX9) (Tc := TX9) (N := 2) (As := [.int a5]) (c_X9_addFourBytes (gac (hG _ (List.mem_of_getElem? (i := 1) rfl)) ga0) q15) (cwV 1 (cx_ts C) gX11_append_X9_addFourBytes rfl rfl rfl (by decide +kernel) ⟨Nat.le_of_ble_eq_true rfl, Nat.le_of_ble_eq_true rfl⟩) rfl (hG _ (List.mem_of_getElem? (i := 1) rfl)) (of5_0 _) (ce5 T ad _ _) rfl (st := []) rfl (Nat.le_of_ble_eq_true rfl) ⟨Nat.le_refl 0, Nat.le_refl 0⟩ dX11_append_62 (ppv ?_)
    refine fw_aload_n C dX11_append_65 rfl 0 rfl ?_
    refine fw_get C (ci := 11) (Cn := RX11) (Tc := TX11) (N := 11) (j := 0) ly_X11_append_11 rfl (hG _ (List.mem_of_getElem? (i := 0) rfl)) (of0_0 _) (ce0 T ad _ _) (by decide) (cx_ts C _ fl_X11_append_41) (fun _ h => h) (v := .ref (ad 5 0 0)) rfl dX11_append_66 ?_
    refine fw_getN C (ci := 9) (Cn := RX9) (Tc := TX9) (N := 2) (j := 1) ly_X11_append_9 rfl (hG _ (List.mem_of_getElem? (i := 1) rfl)) (of5_0 _) (ce5 T ad _ _) (by decide) (Nst_use (cx_nst C) (w := .fieldLinkNest RX11 37 "RecipeScheduler$Text" "length" "I" "RecipeScheduler") 49 (by decide +kernel) rfl) (fun _ h => h) (v := .int (Y16 5 0 0 1)) rfl dX11_append_69 ?_
    exact fw_iret C hrt Y16 (Option.some.inj h) (fun t ht => ht) dX11_append_72
  · have h := ite_f c1 h
    cases h
end
set_option maxRecDepth 100000 in
set_option maxHeartbeats 4000000 in
theorem c_X11_append {l : Launch} {N0 : Nat} {T : Nat → ClassId} {D : va_G} {gr : List (Nat × Nat)} {ad : Nat → Nat → Nat → Nat} {Y : Mem} {a1 : Int32} {a2 : Int32} {a3 : Int32} {a4 : Int32} {a5 : Int32} {res : Int32 × Mem} (hG : ∀ q ∈ [(0, 0), (5, 0)], q ∈ gr) (h : X11_append Y a1 a2 a3 a4 a5 = some res) : CI l yX11_append wsX11_append (Rm 2) N0 T D gr ad Y [.ref (ad 0 0 0), .int a1, .int a2, .int a3, .int a4, .int a5] (fun r Y1 => (r, Y1) = res) :=
  fw_body (by decide +kernel) rfl (Nat.le_of_ble_eq_true rfl) (fun p e s m below meth c C hrt => w_X11_append C hrt hG  h)
