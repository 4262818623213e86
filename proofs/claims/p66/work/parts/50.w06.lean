theorem ly_X3_prematureSteps_3 : ∀ w ∈ u_ws RX3 TX3 5, w ∈ wsX3_prematureSteps := by decide +kernel
theorem fl_X3_prematureSteps_28 : Cond.fieldLink RX3 28 "RecipeScheduler$Kitchen" "recipe" "LRecipeScheduler$Recipe;" ∈ wsX3_prematureSteps := by decide +kernel
theorem ly_X3_prematureSteps_5 : ∀ w ∈ u_ws RX5 TX5 17, w ∈ wsX3_prematureSteps := by decide +kernel
theorem ly_X3_prematureSteps_4 : ∀ w ∈ u_ws RX4 TX4 3, w ∈ wsX3_prematureSteps := by decide +kernel
theorem fl_X3_prematureSteps_12 : Cond.fieldLink RX3 12 "RecipeScheduler$Kitchen" "state" "LRecipeScheduler$State;" ∈ wsX3_prematureSteps := by decide +kernel
theorem ly_X3_prematureSteps_8 : ∀ w ∈ u_ws RX8 TX8 15, w ∈ wsX3_prematureSteps := by decide +kernel
theorem in_X3_prematureSteps_11 : Cond.initialized RX11 ∈ wsX3_prematureSteps := by decide +kernel
theorem sw_X3_prematureSteps_X11_contains : Cond.static yX11_contains ∈ wsX3_prematureSteps := by decide +kernel
section
variable {p : Program} {l : Launch} {e : Env} {s : State} {m : MethodId} {below : List Frame} {meth : Method} {c : Code} {N0 : Nat} {T : Nat → ClassId} {D : va_G} {gr : List (Nat × Nat)} {ad : Nat → Nat → Nat → Nat}
set_option maxRecDepth 100000 in
set_option maxHeartbeats 4000000 in
theorem w_X3_prematureSteps_b93 {Y : Mem} {g0 : Nat} (C : Cx p s m [.ref (ad 1 g0 0)].toArray meth c cX3_prematureSteps 4 wsX3_prematureSteps RX3 N0 T D gr ad) (hrt : meth.sig.returnType = (some .int)) (hG : ∀ q ∈ ([(1, g0), (2, g0)] ++ allG), q ∈ gr) {res : Int32} {k46 : Int32 → Int32 → Int32 → Option (Int32)} (hk46 : ∀ (l3 : Int32) (l2 : Int32) (l1 : Int32), k46 l3 l2 l1 = some res → FW p l e (Rm 1) s m [.ref (ad 1 g0 0)].toArray below meth c 4 N0 T D gr ad 0 0 (MQ below (va_Qi (fun r Y1 => r = res ∧ Y1 = Y) (WB T D gr ad) (fun q => N0 ≤ q)) [.ref (ad 1 g0 0)].toArray s 0 0 (fun q => N0 ≤ q)) Y 46 [(3, .int l3), (2, .int l2), (1, .int l1), (0, .ref (ad 1 g0 0))] []) (l3 : Int32) (l2 : Int32) (l1 : Int32) (h : X3_prematureSteps_b93 Y g0 k46 l3 l2 l1 = some res) : FW p l e (Rm 1) s m [.ref (ad 1 g0 0)].toArray below meth c 4 N0 T D gr ad 0 0 (MQ below (va_Qi (fun r Y1 => r = res ∧ Y1 = Y) (WB T D gr ad) (fun q => N0 ≤ q)) [.ref (ad 1 g0 0)].toArray s 0 0 (fun q => N0 ≤ q)) Y 93 [(3, .int l3), (2, .int l2), (1, .int l1), (0, .ref (ad 1 g0 0))] [] := by
  unfold X3_prematureSteps_b93 at h
  refine fw_iinc C dX3_prematureSteps_93 (kk := 0) (v := l3 + 1) rfl rfl (by decide) (L' := [(3, .int (l3 + 1)), (2, .int l2), (1, .int l1), (0, .ref (ad 1 g0 0))]) rfl ?_
  refine fw_goto C dX3_prematureSteps_96 (tgt := 46) rfl ?_
  exact hk46 _ _ _ h
set_option maxRecDepth 100000 in
set_option maxHeartbeats 4000000 in
theorem w_X3_prematureSteps_b46 {Y : Mem} {g0 : Nat} (C : Cx p s m [.ref (ad 1 g0 0)].toArray meth c cX3_prematureSteps 4 wsX3_prematureSteps RX3 N0 T D gr ad) (hrt : meth.sig.returnType = (some .int)) (hG : ∀ q ∈ ([(1, g0), (2, g0)] ++ allG), q ∈ gr) {res : Int32} : ∀ (n : Nat) (l3 : Int32) (l2 : Int32) (l1 : Int32), X3_prematureSteps_b46 Y g0  n l3 l2 l1 = some res → FW p l e (Rm 1) s m [.ref (ad 1 g0 0)].toArray below meth c 4 N0 T D gr ad 0 0 (MQ below (va_Qi (fun r Y1 => r = res ∧ Y1 = Y) (WB T D gr ad) (fun q => N0 ≤ q)) [.ref (ad 1 g0 0)].toArray s 0 0 (fun q => N0 ≤ q)) Y 46 [(3, .int l3), (2, .int l2), (1, .int l1), (0, .ref (ad 1 g0 0))] [] := by
  intro n
  induction n with
  | zero =>
    intro l3 l2 l1 h
    unfold X3_prematureSteps_b46 at h
    cases h
  | succ n ih =>
    intro l3 l2 l1 h
    unfold X3_prematureSteps_b46 at h
    refine fw_iload_n C dX3_prematureSteps_46 rfl 0 rfl ?_
    refine fw_aload_n C dX3_prematureSteps_47 rfl 3 rfl ?_
    refine fw_get C (ci := 3) (Cn := RX3) (Tc := TX3) (N := 5) (j := 0) ly_X3_prematureSteps_3 rfl (hG _ (List.mem_of_getElem? (i := 0) rfl)) (of1_0 _) (ce1 T ad _ _) (by decide) (cx_ts C _ fl_X3_prematureSteps_28) (fun _ h => h) (v := .ref (ad 3 ((Y 1 g0 0 0).toNatClampNeg) 0)) rfl dX3_prematureSteps_48 ?_
    obtain ⟨b4, h⟩ := gd_some h
    have b4 := of_decide_eq_true b4
    refine fw_getN C (ci := 5) (Cn := RX5) (Tc := TX5) (N := 17) (j := 7) ly_X3_prematureSteps_5 rfl ((fun q hq => hG q (List.mem_append_right _ hq)) _ (allG_3 b4)) (of3_0 _) (ce3 T ad _ _) (by decide) (Nst_use (cx_nst C) (w := .fieldLinkNest RX3 91 "RecipeScheduler$Recipe" "steps" "LRecipeScheduler$Names;" "RecipeScheduler") 146 (by decide +kernel) rfl) (fun _ h => h) (v := .ref (ad 4 (2*((Y 1 g0 0 0).toNatClampNeg)+1) 0)) rfl dX3_prematureSteps_51 ?_
    obtain ⟨b5, h⟩ := gd_some h
    have b5 := of_decide_eq_true b5
    refine fw_getN C (ci := 4) (Cn := RX4) (Tc := TX4) (N := 3) (j := 2) ly_X3_prematureSteps_4 rfl ((fun q hq => hG q (List.mem_append_right _ hq)) _ (allG_4b b5)) (of4_0 _) (ce4 T ad _ _) (by decide) (Nst_use (cx_nst C) (w := .fieldLinkNest RX3 95 "RecipeScheduler$Names" "count" "I" "RecipeScheduler") 114 (by decide +kernel) rfl) (fun _ h => h) (v := .int (Y 4 (2*((Y 1 g0 0 0).toNatClampNeg)+1) 0 2)) rfl dX3_prematureSteps_54 ?_
    refine fw_icmp_ge C dX3_prematureSteps_57 (tgt := 99) rfl (fun c6 => ?_) (fun c6 => ?_)
    · have h := ite_t c6 h
      refine fw_iload_n C dX3_prematureSteps_99 rfl 1 rfl ?_
      exact fw_iret C hrt Y ⟨Option.some.inj h, rfl⟩ (fun t ht => ht) dX3_prematureSteps_100
    · have h := ite_f c6 h
      refine fw_aload_n C dX3_prematureSteps_60 rfl 3 rfl ?_
      refine fw_get C (ci := 3) (Cn := RX3) (Tc := TX3) (N := 5) (j := 1) ly_X3_prematureSteps_3 rfl (hG _ (List.mem_of_getElem? (i := 0) rfl)) (of1_0 _) (ce1 T ad _ _) (by decide) (cx_ts C _ fl_X3_prematureSteps_12) (fun _ h => h) (v := .ref (ad 2 g0 0)) rfl dX3_prematureSteps_61 ?_
      refine fw_getN C (ci := 8) (Cn := RX8) (Tc := TX8) (N := 15) (j := 6) ly_X3_prematureSteps_8 rfl (hG _ (List.mem_of_getElem? (i := 1) rfl)) (of2_0 _) (ce2 T ad _ _) (by decide) (Nst_use (cx_nst C) (w := .fieldLinkNest RX3 82 "RecipeScheduler$State" "running" "I" "RecipeScheduler") 444 (by decide +kernel) rfl) (fun _ h => h) (v := .int (Y 2 g0 0 6)) rfl dX3_prematureSteps_64 ?_
      refine fw_iload_n C dX3_prematureSteps_67 rfl 0 rfl ?_
      obtain ⟨r7, q8, h⟩ := bd1_some h
      refine fw_callSNi C (As := [.int (Y 2 g0 0 6), .int l3]) (c_X11_contains ga0 q8) ⟨(va_cnB 2 (cx_ts C) gX3_prematureSteps_X11_contains_n100 rfl rfl rfl (cx_nw C (w := .methodLinkNest RX3 100 yX11_contains "RecipeScheduler") 683 (by decide +kernel) rfl) (cx_ts C _ in_X3_prematureSteps_11) (by decide +kernel) ⟨Nat.le_of_ble_eq_true rfl, Nat.le_of_ble_eq_true rfl⟩), cx_ts C _ sw_X3_prematureSteps_X11_contains, trivial⟩ rfl (st := []) rfl (Nat.le_of_ble_eq_true rfl) ⟨Nat.le_refl 0, Nat.le_refl 0⟩ dX3_prematureSteps_68 (pp2 ?_)
      refine fw_if_eq C dX3_prematureSteps_71 (tgt := 93) rfl (fun c9 => ?_) (fun c9 => ?_)
      · have h := ite_t c9 h
        exact w_X3_prematureSteps_b93 C hrt hG  ih _ _ _ h
      · have h := ite_f c9 h
        refine fw_aload_n C dX3_prematureSteps_74 rfl 3 rfl ?_
        refine fw_get C (ci := 3) (Cn := RX3) (Tc := TX3) (N := 5) (j := 0) ly_X3_prematureSteps_3 rfl (hG _ (List.mem_of_getElem? (i := 0) rfl)) (of1_0 _) (ce1 T ad _ _) (by decide) (cx_ts C _ fl_X3_prematureSteps_28) (fun _ h => h) (v := .ref (ad 3 ((Y 1 g0 0 0).toNatClampNeg) 0)) rfl dX3_prematureSteps_75 ?_
        refine fw_getN C (ci := 5) (Cn := RX5) (Tc := TX5) (N := 17) (j := 13) ly_X3_prematureSteps_5 rfl ((fun q hq => hG q (List.mem_append_right _ hq)) _ (allG_3 b4)) (of3_0 _) (ce3 T ad _ _) (by decide) (Nst_use (cx_nst C) (w := .fieldLinkNest RX3 138 "RecipeScheduler$Recipe" "predecessorSet" "[I" "RecipeScheduler") 165 (by decide +kernel) rfl) (fun _ h => h) (v := .ref (ad 3 (((Y 1 g0 0 0).toNatClampNeg)) 8)) rfl dX3_prematureSteps_78 ?_
        refine fw_iload_n C dX3_prematureSteps_81 rfl 0 rfl ?_
        obtain ⟨b10, h⟩ := gd_some h
        refine fw_iald2 C ((fun q hq => hG q (List.mem_append_right _ hq)) _ (allG_3 b4)) (of3_8 _) (ca3_8 T ad _ _) b10 (Nat.le_of_ble_eq_true rfl) dX3_prematureSteps_82 ?_
        refine fw_iload_n C dX3_prematureSteps_83 rfl 2 rfl ?_
        refine fw_iconst C dX3_prematureSteps_84 (v := (-1)) rfl ?_
        refine fw_ixor C dX3_prematureSteps_85 ?_
        refine fw_iand C dX3_prematureSteps_86 ?_
        refine fw_if_eq C dX3_prematureSteps_87 (tgt := 93) rfl (fun c11 => ?_) (fun c11 => ?_)
        · have h := ite_t c11 h
          exact w_X3_prematureSteps_b93 C hrt hG  ih _ _ _ h
        · have h := ite_f c11 h
          refine fw_iinc C dX3_prematureSteps_90 (kk := 1) (v := l2 + 1) rfl rfl (by decide) (L' := [(2, .int (l2 + 1)), (3, .int l3), (1, .int l1), (0, .ref (ad 1 g0 0))]) rfl ?_
          refine fw_sub [1, 0, 2, 3] (L' := [(3, .int l3), (2, .int (l2 + 1)), (1, .int l1), (0, .ref (ad 1 g0 0))]) rfl ?_
          exact w_X3_prematureSteps_b93 C hrt hG  ih _ _ _ h
set_option maxRecDepth 100000 in
set_option maxHeartbeats 4000000 in
theorem w_X3_prematureSteps_b36 {Y : Mem} {g0 : Nat} (C : Cx p s m [.ref (ad 1 g0 0)].toArray meth c cX3_prematureSteps 4 wsX3_prematureSteps RX3 N0 T D gr ad) (hrt : meth.sig.returnType = (some .int)) (hG : ∀ q ∈ ([(1, g0), (2, g0)] ++ allG), q ∈ gr) {res : Int32} {k4 : Int32 → Int32 → Option (Int32)} (hk4 : ∀ (l2 : Int32) (l1 : Int32), k4 l2 l1 = some res → FW p l e (Rm 1) s m [.ref (ad 1 g0 0)].toArray below meth c 4 N0 T D gr ad 0 0 (MQ below (va_Qi (fun r Y1 => r = res ∧ Y1 = Y) (WB T D gr ad) (fun q => N0 ≤ q)) [.ref (ad 1 g0 0)].toArray s 0 0 (fun q => N0 ≤ q)) Y 4 [(2, .int l2), (1, .int l1), (0, .ref (ad 1 g0 0))] []) (l2 : Int32) (l1 : Int32) (h : X3_prematureSteps_b36 Y g0 k4 l2 l1 = some res) : FW p l e (Rm 1) s m [.ref (ad 1 g0 0)].toArray below meth c 4 N0 T D gr ad 0 0 (MQ below (va_Qi (fun r Y1 => r = res ∧ Y1 = Y) (WB T D gr ad) (fun q => N0 ≤ q)) [.ref (ad 1 g0 0)].toArray s 0 0 (fun q => N0 ≤ q)) Y 36 [(2, .int l2), (1, .int l1), (0, .ref (ad 1 g0 0))] [] := by
  unfold X3_prematureSteps_b36 at h
  refine fw_iinc C dX3_prematureSteps_36 (kk := 0) (v := l2 + 1) rfl rfl (by decide) (L' := [(2, .int (l2 + 1)), (1, .int l1), (0, .ref (ad 1 g0 0))]) rfl ?_
  refine fw_goto C dX3_prematureSteps_39 (tgt := 4) rfl ?_
  exact hk4 _ _ h
set_option maxRecDepth 100000 in
set_option maxHeartbeats 4000000 in
theorem w_X3_prematureSteps_b4 {Y : Mem} {g0 : Nat} (C : Cx p s m [.ref (ad 1 g0 0)].toArray meth c cX3_prematureSteps 4 wsX3_prematureSteps RX3 N0 T D gr ad) (hrt : meth.sig.returnType = (some .int)) (hG : ∀ q ∈ ([(1, g0), (2, g0)] ++ allG), q ∈ gr) {res : Int32} : ∀ (n : Nat) (l2 : Int32) (l1 : Int32), X3_prematureSteps_b4 Y g0  n l2 l1 = some res → FW p l e (Rm 1) s m [.ref (ad 1 g0 0)].toArray below meth c 4 N0 T D gr ad 0 0 (MQ below (va_Qi (fun r Y1 => r = res ∧ Y1 = Y) (WB T D gr ad) (fun q => N0 ≤ q)) [.ref (ad 1 g0 0)].toArray s 0 0 (fun q => N0 ≤ q)) Y 4 [(2, .int l2), (1, .int l1), (0, .ref (ad 1 g0 0))] [] := by
  intro n
  induction n with
  | zero =>
    intro l2 l1 h
    unfold X3_prematureSteps_b4 at h
    cases h
  | succ n ih =>
    intro l2 l1 h
    unfold X3_prematureSteps_b4 at h
    refine fw_iload_n C dX3_prematureSteps_4 rfl 0 rfl ?_
    refine fw_aload_n C dX3_prematureSteps_5 rfl 2 rfl ?_
    refine fw_get C (ci := 3) (Cn := RX3) (Tc := TX3) (N := 5) (j := 0) ly_X3_prematureSteps_3 rfl (hG _ (List.mem_of_getElem? (i := 0) rfl)) (of1_0 _) (ce1 T ad _ _) (by decide) (cx_ts C _ fl_X3_prematureSteps_28) (fun _ h => h) (v := .ref (ad 3 ((Y 1 g0 0 0).toNatClampNeg) 0)) rfl dX3_prematureSteps_6 ?_
    obtain ⟨b1, h⟩ := gd_some h
    have b1 := of_decide_eq_true b1
    refine fw_getN C (ci := 5) (Cn := RX5) (Tc := TX5) (N := 17) (j := 7) ly_X3_prematureSteps_5 rfl ((fun q hq => hG q (List.mem_append_right _ hq)) _ (allG_3 b1)) (of3_0 _) (ce3 T ad _ _) (by decide) (Nst_use (cx_nst C) (w := .fieldLinkNest RX3 91 "RecipeScheduler$Recipe" "steps" "LRecipeScheduler$Names;" "RecipeScheduler") 146 (by decide +kernel) rfl) (fun _ h => h) (v := .ref (ad 4 (2*((Y 1 g0 0 0).toNatClampNeg)+1) 0)) rfl dX3_prematureSteps_9 ?_
    obtain ⟨b2, h⟩ := gd_some h
    have b2 := of_decide_eq_true b2
    refine fw_getN C (ci := 4) (Cn := RX4) (Tc := TX4) (N := 3) (j := 2) ly_X3_prematureSteps_4 rfl ((fun q hq => hG q (List.mem_append_right _ hq)) _ (allG_4b b2)) (of4_0 _) (ce4 T ad _ _) (by decide) (Nst_use (cx_nst C) (w := .fieldLinkNest RX3 95 "RecipeScheduler$Names" "count" "I" "RecipeScheduler") 114 (by decide +kernel) rfl) (fun _ h => h) (v := .int (Y 4 (2*((Y 1 g0 0 0).toNatClampNeg)+1) 0 2)) rfl dX3_prematureSteps_12 ?_
    refine fw_icmp_ge C dX3_prematureSteps_15 (tgt := 42) rfl (fun c3 => ?_) (fun c3 => ?_)
    · have h := ite_t c3 h
      refine fw_iconst C dX3_prematureSteps_42 (v := 0) rfl ?_
      refine fw_istore_n C dX3_prematureSteps_43 rfl (by decide) (L' := [(2, .int 0), (1, .int l1), (0, .ref (ad 1 g0 0))]) rfl ?_
      refine fw_iconst C dX3_prematureSteps_44 (v := 0) rfl ?_
      refine fw_istore_n C dX3_prematureSteps_45 rfl (by decide) (L' := [(3, .int 0), (2, .int 0), (1, .int l1), (0, .ref (ad 1 g0 0))]) rfl ?_
      exact w_X3_prematureSteps_b46 C hrt hG   _ _ _ _ h
    · have h := ite_f c3 h
      refine fw_aload_n C dX3_prematureSteps_18 rfl 2 rfl ?_
      refine fw_get C (ci := 3) (Cn := RX3) (Tc := TX3) (N := 5) (j := 1) ly_X3_prematureSteps_3 rfl (hG _ (List.mem_of_getElem? (i := 0) rfl)) (of1_0 _) (ce1 T ad _ _) (by decide) (cx_ts C _ fl_X3_prematureSteps_12) (fun _ h => h) (v := .ref (ad 2 g0 0)) rfl dX3_prematureSteps_19 ?_
      refine fw_getN C (ci := 8) (Cn := RX8) (Tc := TX8) (N := 15) (j := 13) ly_X3_prematureSteps_8 rfl (hG _ (List.mem_of_getElem? (i := 1) rfl)) (of2_0 _) (ce2 T ad _ _) (by decide) (Nst_use (cx_nst C) (w := .fieldLinkNest RX3 209 "RecipeScheduler$State" "completions" "[I" "RecipeScheduler") 464 (by decide +kernel) rfl) (fun _ h => h) (v := .ref (ad 2 g0 5)) rfl dX3_prematureSteps_22 ?_
      refine fw_iload_n C dX3_prematureSteps_25 rfl 0 rfl ?_
      obtain ⟨b12, h⟩ := gd_some h
      refine fw_iald2 C (hG _ (List.mem_of_getElem? (i := 1) rfl)) (of2_5 _) (ca2_5 T ad _ _) b12 (Nat.le_of_ble_eq_true rfl) dX3_prematureSteps_26 ?_
      refine fw_if_le C dX3_prematureSteps_27 (tgt := 36) rfl (fun c13 => ?_) (fun c13 => ?_)
      · have h := ite_t c13 h
        exact w_X3_prematureSteps_b36 C hrt hG  ih _ _ h
      · have h := ite_f c13 h
        refine fw_iload_n C dX3_prematureSteps_30 rfl 1 rfl ?_
        refine fw_iconst C dX3_prematureSteps_31 (v := 1) rfl ?_
        refine fw_iload_n C dX3_prematureSteps_32 rfl 0 rfl ?_
        refine fw_ishl C dX3_prematureSteps_33 ?_
        refine fw_ior C dX3_prematureSteps_34 ?_
        obtain ⟨v14, e15, h⟩ := lt_some h
        refine fw_top (v' := .int v14) (by rw [e15]) ?_
        refine fw_istore_n C dX3_prematureSteps_35 rfl (by decide) (L' := [(1, .int v14), (2, .int l2), (0, .ref (ad 1 g0 0))]) rfl ?_
        refine fw_sub [1, 0, 2] (L' := [(2, .int l2), (1, .int v14), (0, .ref (ad 1 g0 0))]) rfl ?_
        exact w_X3_prematureSteps_b36 C hrt hG  ih _ _ h
set_option maxRecDepth 100000 in
set_option maxHeartbeats 4000000 in
theorem w_X3_prematureSteps {Y : Mem} {g0 : Nat} (C : Cx p s m [.ref (ad 1 g0 0)].toArray meth c cX3_prematureSteps 4 wsX3_prematureSteps RX3 N0 T D gr ad) (hrt : meth.sig.returnType = (some .int)) (hG : ∀ q ∈ ([(1, g0), (2, g0)] ++ allG), q ∈ gr) {res : Int32} (h : X3_prematureSteps Y g0 = some res) : FW p l e (Rm 1) s m [.ref (ad 1 g0 0)].toArray below meth c 4 N0 T D gr ad 0 0 (MQ below (va_Qi (fun r Y1 => r = res ∧ Y1 = Y) (WB T D gr ad) (fun q => N0 ≤ q)) [.ref (ad 1 g0 0)].toArray s 0 0 (fun q => N0 ≤ q)) Y 0 [(0, .ref (ad 1 g0 0))] [] := by
  unfold X3_prematureSteps at h
  refine fw_iconst C dX3_prematureSteps_0 (v := 0) rfl ?_
  refine fw_istore_n C dX3_prematureSteps_1 rfl (by decide) (L' := [(1, .int 0), (0, .ref (ad 1 g0 0))]) rfl ?_
  refine fw_iconst C dX3_prematureSteps_2 (v := 0) rfl ?_
  refine fw_istore_n C dX3_prematureSteps_3 rfl (by decide) (L' := [(2, .int 0), (1, .int 0), (0, .ref (ad 1 g0 0))]) rfl ?_
  exact w_X3_prematureSteps_b4 C hrt hG   _ _ _ h
end
set_option maxRecDepth 100000 in
set_option maxHeartbeats 4000000 in
theorem c_X3_prematureSteps {l : Launch} {N0 : Nat} {T : Nat → ClassId} {D : va_G} {gr : List (Nat × Nat)} {ad : Nat → Nat → Nat → Nat} {Y : Mem} {g0 : Nat} {res : Int32} (hG : ∀ q ∈ ([(1, g0), (2, g0)] ++ allG), q ∈ gr) (h : X3_prematureSteps Y g0 = some res) : CI l yX3_prematureSteps wsX3_prematureSteps (Rm 1) N0 T D gr ad Y [.ref (ad 1 g0 0)] (fun r Y1 => r = res ∧ Y1 = Y) :=
  fw_body (by decide +kernel) rfl (Nat.le_of_ble_eq_true rfl) (fun p e s m below meth c C hrt => w_X3_prematureSteps C hrt hG  h)
theorem ly_X11_inconsistencies_11 : ∀ w ∈ u_ws RX11 TX11 11, w ∈ wsX11_inconsistencies := by decide +kernel
theorem fl_X11_inconsistencies_67 : Cond.fieldLink RX11 67 "RecipeScheduler" "now" "LRecipeScheduler$Kitchen;" ∈ wsX11_inconsistencies := by decide +kernel
theorem ly_X11_inconsistencies_3 : ∀ w ∈ u_ws RX3 TX3 5, w ∈ wsX11_inconsistencies := by decide +kernel
theorem ly_X11_inconsistencies_5 : ∀ w ∈ u_ws RX5 TX5 17, w ∈ wsX11_inconsistencies := by decide +kernel
theorem ly_X11_inconsistencies_4 : ∀ w ∈ u_ws RX4 TX4 3, w ∈ wsX11_inconsistencies := by decide +kernel
theorem ly_X11_inconsistencies_8 : ∀ w ∈ u_ws RX8 TX8 15, w ∈ wsX11_inconsistencies := by decide +kernel
section
variable {p : Program} {l : Launch} {e : Env} {s : State} {m : MethodId} {below : List Frame} {meth : Method} {c : Code} {N0 : Nat} {T : Nat → ClassId} {D : va_G} {gr : List (Nat × Nat)} {ad : Nat → Nat → Nat → Nat}
set_option maxRecDepth 100000 in
set_option maxHeartbeats 4000000 in
theorem w_X11_inconsistencies {Y : Mem} (C : Cx p s m [.ref (ad 0 0 0)].toArray meth c cX11_inconsistencies 3 wsX11_inconsistencies RX11 N0 T D gr ad) (hrt : meth.sig.returnType = (some .int)) (hG : ∀ q ∈ ([(0, 0), (1, 0), (2, 0)] ++ allG), q ∈ gr) {res : Int32} (h : X11_inconsistencies Y = some res) : FW p l e (Rm 2) s m [.ref (ad 0 0 0)].toArray below meth c 3 N0 T D gr ad 0 0 (MQ below (va_Qi (fun r Y1 => r = res ∧ Y1 = Y) (WB T D gr ad) (fun q => N0 ≤ q)) [.ref (ad 0 0 0)].toArray s 0 0 (fun q => N0 ≤ q)) Y 0 [(0, .ref (ad 0 0 0))] [] := by
  unfold X11_inconsistencies at h
  refine fw_aload_n C dX11_inconsistencies_0 rfl 0 rfl ?_
  refine fw_get C (ci := 11) (Cn := RX11) (Tc := TX11) (N := 11) (j := 5) ly_X11_inconsistencies_11 rfl (hG _ (List.mem_of_getElem? (i := 0) rfl)) (of0_0 _) (ce0 T ad _ _) (by decide) (cx_ts C _ fl_X11_inconsistencies_67) (fun _ h => h) (v := .ref (ad 1 0 0)) rfl dX11_inconsistencies_1 ?_
  refine fw_getN C (ci := 3) (Cn := RX3) (Tc := TX3) (N := 5) (j := 1) ly_X11_inconsistencies_3 rfl (hG _ (List.mem_of_getElem? (i := 1) rfl)) (of1_0 _) (ce1 T ad _ _) (by decide) (Nst_use (cx_nst C) (w := .fieldLinkNest RX11 139 "RecipeScheduler$Kitchen" "state" "LRecipeScheduler$State;" "RecipeScheduler") 509 (by decide +kernel) rfl) (fun _ h => h) (v := .ref (ad 2 0 0)) rfl dX11_inconsistencies_4 ?_
  refine fw_astore_n C dX11_inconsistencies_7 rfl (by decide) (L' := [(1, .ref (ad 2 0 0)), (0, .ref (ad 0 0 0))]) rfl ?_
  refine fw_aload_n C dX11_inconsistencies_8 rfl 1 rfl ?_
  refine fw_get C (ci := 11) (Cn := RX11) (Tc := TX11) (N := 11) (j := 5) ly_X11_inconsistencies_11 rfl (hG _ (List.mem_of_getElem? (i := 0) rfl)) (of0_0 _) (ce0 T ad _ _) (by decide) (cx_ts C _ fl_X11_inconsistencies_67) (fun _ h => h) (v := .ref (ad 1 0 0)) rfl dX11_inconsistencies_9 ?_
  refine fw_getN C (ci := 3) (Cn := RX3) (Tc := TX3) (N := 5) (j := 0) ly_X11_inconsistencies_3 rfl (hG _ (List.mem_of_getElem? (i := 1) rfl)) (of1_0 _) (ce1 T ad _ _) (by decide) (Nst_use (cx_nst C) (w := .fieldLinkNest RX11 117 "RecipeScheduler$Kitchen" "recipe" "LRecipeScheduler$Recipe;" "RecipeScheduler") 507 (by decide +kernel) rfl) (fun _ h => h) (v := .ref (ad 3 ((Y 1 0 0 0).toNatClampNeg) 0)) rfl dX11_inconsistencies_12 ?_
  obtain ⟨b1, h⟩ := gd_some h
  have b1 := of_decide_eq_true b1
  refine fw_getN C (ci := 5) (Cn := RX5) (Tc := TX5) (N := 17) (j := 7) ly_X11_inconsistencies_5 rfl ((fun q hq => hG q (List.mem_append_right _ hq)) _ (allG_3 b1)) (of3_0 _) (ce3 T ad _ _) (by decide) (Nst_use (cx_nst C) (w := .fieldLinkNest RX11 126 "RecipeScheduler$Recipe" "steps" "LRecipeScheduler$Names;" "RecipeScheduler") 144 (by decide +kernel) rfl) (fun _ h => h) (v := .ref (ad 4 (2*((Y 1 0 0 0).toNatClampNeg)+1) 0)) rfl dX11_inconsistencies_15 ?_
  obtain ⟨b2, h⟩ := gd_some h
  have b2 := of_decide_eq_true b2
  refine fw_getN C (ci := 4) (Cn := RX4) (Tc := TX4) (N := 3) (j := 2) ly_X11_inconsistencies_4 rfl ((fun q hq => hG q (List.mem_append_right _ hq)) _ (allG_4b b2)) (of4_0 _) (ce4 T ad _ _) (by decide) (Nst_use (cx_nst C) (w := .fieldLinkNest RX11 130 "RecipeScheduler$Names" "count" "I" "RecipeScheduler") 113 (by decide +kernel) rfl) (fun _ h => h) (v := .int (Y 4 (2*((Y 1 0 0 0).toNatClampNeg)+1) 0 2)) rfl dX11_inconsistencies_18 ?_
  obtain ⟨v3, e4, h⟩ := lt_some h
  refine fw_top (v' := .int v3) (by rw [e4]) ?_
  refine fw_istore_n C dX11_inconsistencies_21 rfl (by decide) (L' := [(2, .int v3), (1, .ref (ad 2 0 0)), (0, .ref (ad 0 0 0))]) rfl ?_
  refine fw_aload_n C dX11_inconsistencies_22 rfl 1 rfl ?_
  refine fw_getN C (ci := 8) (Cn := RX8) (Tc := TX8) (N := 15) (j := 12) ly_X11_inconsistencies_8 rfl (hG _ (List.mem_of_getElem? (i := 2) rfl)) (of2_0 _) (ce2 T ad _ _) (by decide) (Nst_use (cx_nst C) (w := .fieldLinkNest RX11 162 "RecipeScheduler$State" "starts" "[I" "RecipeScheduler") 461 (by decide +kernel) rfl) (fun _ h => h) (v := .ref (ad 2 0 4)) rfl dX11_inconsistencies_23 ?_
  refine fw_iload_n C dX11_inconsistencies_26 rfl 0 rfl ?_
  obtain ⟨r5, q6, h⟩ := bd1_some h
  refine fw_callSi C (As := [.ref (ad 2 0 4), .int v3]) (c_X11_sum (gac (hG _ (List.mem_of_getElem? (i := 2) rfl)) ga0) (ca2_4 T ad _) (of2_4 _) (Nat.le_of_ble_eq_true rfl) q6) (va_cwS 2 (cx_ts C) gX11_inconsistencies_X11_sum rfl rfl rfl (by decide +kernel) ⟨Nat.le_of_ble_eq_true rfl, Nat.le_of_ble_eq_true rfl⟩) rfl (st := []) rfl (Nat.le_of_ble_eq_true rfl) ⟨Nat.le_refl 0, Nat.le_refl 0⟩ dX11_inconsistencies_27 (pp2 ?_)
  refine fw_aload_n C dX11_inconsistencies_30 rfl 1 rfl ?_
  refine fw_getN C (ci := 8) (Cn := RX8) (Tc := TX8) (N := 15) (j := 13) ly_X11_inconsistencies_8 rfl (hG _ (List.mem_of_getElem? (i := 2) rfl)) (of2_0 _) (ce2 T ad _ _) (by decide) (Nst_use (cx_nst C) (w := .fieldLinkNest RX11 170 "RecipeScheduler$State" "completions" "[I" "RecipeScheduler") 463 (by decide +kernel) rfl) (fun _ h => h) (v := .ref (ad 2 0 5)) rfl dX11_inconsistencies_31 ?_
  refine fw_iload_n C dX11_inconsistencies_34 rfl 0 rfl ?_
  obtain ⟨r7, q8, h⟩ := bd1_some h
  refine fw_callSi C (As := [.ref (ad 2 0 5), .int v3]) (c_X11_sum (gac (hG _ (List.mem_of_getElem? (i := 2) rfl)) ga0) (ca2_5 T ad _) (of2_5 _) (Nat.le_of_ble_eq_true rfl) q8) (va_cwS 2 (cx_ts C) gX11_inconsistencies_X11_sum rfl rfl rfl (by decide +kernel) ⟨Nat.le_of_ble_eq_true rfl, Nat.le_of_ble_eq_true rfl⟩) rfl (st := [.int r5]) rfl (Nat.le_of_ble_eq_true rfl) ⟨Nat.le_refl 0, Nat.le_refl 0⟩ dX11_inconsistencies_35 (pp2 ?_)
  refine fw_isub C dX11_inconsistencies_38 ?_
  refine fw_aload_n C dX11_inconsistencies_39 rfl 1 rfl ?_
  refine fw_getN C (ci := 8) (Cn := RX8) (Tc := TX8) (N := 15) (j := 6) ly_X11_inconsistencies_8 rfl (hG _ (List.mem_of_getElem? (i := 2) rfl)) (of2_0 _) (ce2 T ad _ _) (by decide) (Nst_use (cx_nst C) (w := .fieldLinkNest RX11 324 "RecipeScheduler$State" "running" "I" "RecipeScheduler") 445 (by decide +kernel) rfl) (fun _ h => h) (v := .int (Y 2 0 0 6)) rfl dX11_inconsistencies_40 ?_
  obtain ⟨r9, q10, h⟩ := bd1_some h
  refine fw_callSi C (As := [.int (Y 2 0 0 6)]) (c_J6_bitCount_0f7a4 ga0 q10) (va_cwS 1 (cx_ts C) gX11_inconsistencies_J6_bitCount_0f7a4 rfl rfl rfl (by decide +kernel) ⟨Nat.le_of_ble_eq_true rfl, Nat.le_of_ble_eq_true rfl⟩) rfl (st := [.int (r5 - r7)]) rfl (Nat.le_of_ble_eq_true rfl) ⟨Nat.le_refl 0, Nat.le_refl 0⟩ dX11_inconsistencies_43 (pp2 ?_)
  refine fw_isub C dX11_inconsistencies_46 ?_
  refine fw_aload_n C dX11_inconsistencies_47 rfl 1 rfl ?_
  refine fw_getN C (ci := 8) (Cn := RX8) (Tc := TX8) (N := 15) (j := 4) ly_X11_inconsistencies_8 rfl (hG _ (List.mem_of_getElem? (i := 2) rfl)) (of2_0 _) (ce2 T ad _ _) (by decide) (Nst_use (cx_nst C) (w := .fieldLinkNest RX11 327 "RecipeScheduler$State" "stops" "I" "RecipeScheduler") 439 (by decide +kernel) rfl) (fun _ h => h) (v := .int (Y 2 0 0 4)) rfl dX11_inconsistencies_48 ?_
  refine fw_isub C dX11_inconsistencies_51 ?_
  refine fw_aload_n C dX11_inconsistencies_52 rfl 2 rfl ?_
  refine fw_get C (ci := 11) (Cn := RX11) (Tc := TX11) (N := 11) (j := 5) ly_X11_inconsistencies_11 rfl (hG _ (List.mem_of_getElem? (i := 0) rfl)) (of0_0 _) (ce0 T ad _ _) (by decide) (cx_ts C _ fl_X11_inconsistencies_67) (fun _ h => h) (v := .ref (ad 1 0 0)) rfl dX11_inconsistencies_53 ?_
  obtain ⟨r11, q12, h⟩ := bd1_some h
  refine fw_callVi C (ci := 3) (Cn := RX3) (Tc := TX3) (N := 5) (As := []) (c_X3_prematureSteps (gac (hG _ (List.mem_of_getElem? (i := 1) rfl)) (gac (hG _ (List.mem_of_getElem? (i := 2) rfl)) (fun q hq => hG q (List.mem_append_right _ hq)))) q12) (cwV 0 (cx_ts C) gX11_inconsistencies_X3_prematureSteps rfl rfl rfl (by decide +kernel) ⟨Nat.le_of_ble_eq_true rfl, Nat.le_of_ble_eq_true rfl⟩) rfl (hG _ (List.mem_of_getElem? (i := 1) rfl)) (of1_0 _) (ce1 T ad _ _) rfl (st := [.int (((r5 - r7) - r9) - (Y 2 0 0 4))]) rfl (Nat.le_of_ble_eq_true rfl) ⟨Nat.le_refl 0, Nat.le_refl 0⟩ dX11_inconsistencies_56 (pp2 ?_)
  refine fw_iadd C dX11_inconsistencies_59 ?_
  exact fw_iret C hrt Y ⟨Option.some.inj h, rfl⟩ (fun t ht => ht) dX11_inconsistencies_60
end
set_option maxRecDepth 100000 in
set_option maxHeartbeats 4000000 in
theorem c_X11_inconsistencies {l : Launch} {N0 : Nat} {T : Nat → ClassId} {D : va_G} {gr : List (Nat × Nat)} {ad : Nat → Nat → Nat → Nat} {Y : Mem} {res : Int32} (hG : ∀ q ∈ ([(0, 0), (1, 0), (2, 0)] ++ allG), q ∈ gr) (h : X11_inconsistencies Y = some res) : CI l yX11_inconsistencies wsX11_inconsistencies (Rm 2) N0 T D gr ad Y [.ref (ad 0 0 0)] (fun r Y1 => r = res ∧ Y1 = Y) :=
  fw_body (by decide +kernel) rfl (Nat.le_of_ble_eq_true rfl) (fun p e s m below meth c C hrt => w_X11_inconsistencies C hrt hG  h)
section
variable {p : Program} {l : Launch} {e : Env} {s : State} {m : MethodId} {below : List Frame} {meth : Method} {c : Code} {N0 : Nat} {T : Nat → ClassId} {D : va_G} {gr : List (Nat × Nat)} {ad : Nat → Nat → Nat → Nat}
set_option maxRecDepth 100000 in
set_option maxHeartbeats 4000000 in
theorem w_X11_isCookCount {Y : Mem} {a1 : Int32} (C : Cx p s m [.ref (ad 0 0 0), .int a1].toArray meth c cX11_isCookCount 2 wsX11_isCookCount RX11 N0 T D gr ad) (hrt : meth.sig.returnType = (some .boolean)) (hG : ∀ q ∈ [], q ∈ gr) {res : Int32} (h : X11_isCookCount Y a1 = some res) : FW p l e (Rm 1) s m [.ref (ad 0 0 0), .int a1].toArray below meth c 2 N0 T D gr ad 0 0 (MQ below (va_Qi (fun r Y1 => r = res ∧ Y1 = Y) (WB T D gr ad) (fun q => N0 ≤ q)) [.ref (ad 0 0 0), .int a1].toArray s 0 0 (fun q => N0 ≤ q)) Y 0 [(0, .ref (ad 0 0 0)), (1, .int a1)] [] := by
  unfold X11_isCookCount at h
  refine fw_iload_n C dX11_isCookCount_0 rfl 1 rfl ?_
  refine fw_iconst C dX11_isCookCount_1 (v := 1) rfl ?_
  refine fw_iconst C dX11_isCookCount_2 (v := 4) rfl ?_
  obtain ⟨r1, q2, h⟩ := bd1_some h
  refine fw_callSi C (As := [.int a1, .int 1, .int 4]) (c_X11_isWithin ga0 q2) (va_cwS 3 (cx_ts C) gX11_isCookCount_X11_isWithin rfl rfl rfl (by decide +kernel) ⟨Nat.le_of_ble_eq_true rfl, Nat.le_of_ble_eq_true rfl⟩) rfl (st := []) rfl (Nat.le_of_ble_eq_true rfl) ⟨Nat.le_refl 0, Nat.le_refl 0⟩ dX11_isCookCount_3 (pp2 ?_)
  obtain ⟨b3, h⟩ := gd_some h
  exact fw_zret C hrt (of_decide_eq_true b3) Y ⟨Option.some.inj h, rfl⟩ (fun t ht => ht) dX11_isCookCount_6
end
set_option maxRecDepth 100000 in
set_option maxHeartbeats 4000000 in
theorem c_X11_isCookCount {l : Launch} {N0 : Nat} {T : Nat → ClassId} {D : va_G} {gr : List (Nat × Nat)} {ad : Nat → Nat → Nat → Nat} {Y : Mem} {a1 : Int32} {res : Int32} (hG : ∀ q ∈ [], q ∈ gr) (h : X11_isCookCount Y a1 = some res) : CI l yX11_isCookCount wsX11_isCookCount (Rm 1) N0 T D gr ad Y [.ref (ad 0 0 0), .int a1] (fun r Y1 => r = res ∧ Y1 = Y) :=
  fw_body (by decide +kernel) rfl (Nat.le_of_ble_eq_true rfl) (fun p e s m below meth c C hrt => w_X11_isCookCount C hrt hG  h)
section
variable {p : Program} {l : Launch} {e : Env} {s : State} {m : MethodId} {below : List Frame} {meth : Method} {c : Code} {N0 : Nat} {T : Nat → ClassId} {D : va_G} {gr : List (Nat × Nat)} {ad : Nat → Nat → Nat → Nat}
set_option maxRecDepth 100000 in
set_option maxHeartbeats 4000000 in
theorem w_X11_isDuration {Y : Mem} {a1 : Int32} (C : Cx p s m [.ref (ad 0 0 0), .int a1].toArray meth c cX11_isDuration 2 wsX11_isDuration RX11 N0 T D gr ad) (hrt : meth.sig.returnType = (some .boolean)) (hG : ∀ q ∈ [], q ∈ gr) {res : Int32} (h : X11_isDuration Y a1 = some res) : FW p l e (Rm 1) s m [.ref (ad 0 0 0), .int a1].toArray below meth c 2 N0 T D gr ad 0 0 (MQ below (va_Qi (fun r Y1 => r = res ∧ Y1 = Y) (WB T D gr ad) (fun q => N0 ≤ q)) [.ref (ad 0 0 0), .int a1].toArray s 0 0 (fun q => N0 ≤ q)) Y 0 [(0, .ref (ad 0 0 0)), (1, .int a1)] [] := by
  unfold X11_isDuration at h
  refine fw_iload_n C dX11_isDuration_0 rfl 1 rfl ?_
  refine fw_iconst C dX11_isDuration_1 (v := 1) rfl ?_
  refine fw_bipush C dX11_isDuration_2 (v := 60) rfl ?_
  obtain ⟨r1, q2, h⟩ := bd1_some h
  refine fw_callSi C (As := [.int a1, .int 1, .int 60]) (c_X11_isWithin ga0 q2) (va_cwS 3 (cx_ts C) gX11_isDuration_X11_isWithin rfl rfl rfl (by decide +kernel) ⟨Nat.le_of_ble_eq_true rfl, Nat.le_of_ble_eq_true rfl⟩) rfl (st := []) rfl (Nat.le_of_ble_eq_true rfl) ⟨Nat.le_refl 0, Nat.le_refl 0⟩ dX11_isDuration_4 (pp2 ?_)
  obtain ⟨b3, h⟩ := gd_some h
  exact fw_zret C hrt (of_decide_eq_true b3) Y ⟨Option.some.inj h, rfl⟩ (fun t ht => ht) dX11_isDuration_7
end
set_option maxRecDepth 100000 in
set_option maxHeartbeats 4000000 in
theorem c_X11_isDuration {l : Launch} {N0 : Nat} {T : Nat → ClassId} {D : va_G} {gr : List (Nat × Nat)} {ad : Nat → Nat → Nat → Nat} {Y : Mem} {a1 : Int32} {res : Int32} (hG : ∀ q ∈ [], q ∈ gr) (h : X11_isDuration Y a1 = some res) : CI l yX11_isDuration wsX11_isDuration (Rm 1) N0 T D gr ad Y [.ref (ad 0 0 0), .int a1] (fun r Y1 => r = res ∧ Y1 = Y) :=
  fw_body (by decide +kernel) rfl (Nat.le_of_ble_eq_true rfl) (fun p e s m below meth c C hrt => w_X11_isDuration C hrt hG  h)
theorem ly_X11_isHot_11 : ∀ w ∈ u_ws RX11 TX11 11, w ∈ wsX11_isHot := by decide +kernel
theorem fl_X11_isHot_67 : Cond.fieldLink RX11 67 "RecipeScheduler" "now" "LRecipeScheduler$Kitchen;" ∈ wsX11_isHot := by decide +kernel
theorem ly_X11_isHot_3 : ∀ w ∈ u_ws RX3 TX3 5, w ∈ wsX11_isHot := by decide +kernel
theorem ly_X11_isHot_5 : ∀ w ∈ u_ws RX5 TX5 17, w ∈ wsX11_isHot := by decide +kernel
section
variable {p : Program} {l : Launch} {e : Env} {s : State} {m : MethodId} {below : List Frame} {meth : Method} {c : Code} {N0 : Nat} {T : Nat → ClassId} {D : va_G} {gr : List (Nat × Nat)} {ad : Nat → Nat → Nat → Nat}
set_option maxRecDepth 100000 in
set_option maxHeartbeats 4000000 in
theorem w_X11_isHot {Y : Mem} {a1 : Int32} (C : Cx p s m [.ref (ad 0 0 0), .int a1].toArray meth c cX11_isHot 2 wsX11_isHot RX11 N0 T D gr ad) (hrt : meth.sig.returnType = (some .boolean)) (hG : ∀ q ∈ ([(1, 0), (0, 0)] ++ allG), q ∈ gr) {res : Int32} (h : X11_isHot Y a1 = some res) : FW p l e (Rm 2) s m [.ref (ad 0 0 0), .int a1].toArray below meth c 2 N0 T D gr ad 0 0 (MQ below (va_Qi (fun r Y1 => r = res ∧ Y1 = Y) (WB T D gr ad) (fun q => N0 ≤ q)) [.ref (ad 0 0 0), .int a1].toArray s 0 0 (fun q => N0 ≤ q)) Y 0 [(0, .ref (ad 0 0 0)), (1, .int a1)] [] := by
  unfold X11_isHot at h
  refine fw_aload_n C dX11_isHot_0 rfl 0 rfl ?_
  refine fw_iload_n C dX11_isHot_1 rfl 1 rfl ?_
  obtain ⟨_, q2, h⟩ := bd1_some h
  refine fw_callVv C (ci := 11) (Cn := RX11) (Tc := TX11) (N := 11) (As := [.int a1]) (c_X11_requireStep (gac (hG _ (List.mem_of_getElem? (i := 1) rfl)) (gac (hG _ (List.mem_of_getElem? (i := 0) rfl)) (fun q hq => hG q (List.mem_append_right _ hq)))) q2) (cwV 1 (cx_ts C) gX11_isHot_X11_requireStep rfl rfl rfl (by decide +kernel) ⟨Nat.le_of_ble_eq_true rfl, Nat.le_of_ble_eq_true rfl⟩) rfl (hG _ (List.mem_of_getElem? (i := 1) rfl)) (of0_0 _) (ce0 T ad _ _) rfl (st := []) rfl (Nat.le_of_ble_eq_true rfl) ⟨Nat.le_refl 0, Nat.le_refl 0⟩ dX11_isHot_2 (ppv ?_)
  refine fw_aload_n C dX11_isHot_5 rfl 0 rfl ?_
  refine fw_get C (ci := 11) (Cn := RX11) (Tc := TX11) (N := 11) (j := 5) ly_X11_isHot_11 rfl (hG _ (List.mem_of_getElem? (i := 1) rfl)) (of0_0 _) (ce0 T ad _ _) (by decide) (cx_ts C _ fl_X11_isHot_67) (fun _ h => h) (v := .ref (ad 1 0 0)) rfl dX11_isHot_6 ?_
  refine fw_getN C (ci := 3) (Cn := RX3) (Tc := TX3) (N := 5) (j := 0) ly_X11_isHot_3 rfl (hG _ (List.mem_of_getElem? (i := 0) rfl)) (of1_0 _) (ce1 T ad _ _) (by decide) (Nst_use (cx_nst C) (w := .fieldLinkNest RX11 117 "RecipeScheduler$Kitchen" "recipe" "LRecipeScheduler$Recipe;" "RecipeScheduler") 507 (by decide +kernel) rfl) (fun _ h => h) (v := .ref (ad 3 ((Y 1 0 0 0).toNatClampNeg) 0)) rfl dX11_isHot_9 ?_
  obtain ⟨b3, h⟩ := gd_some h
  have b3 := of_decide_eq_true b3
  refine fw_getN C (ci := 5) (Cn := RX5) (Tc := TX5) (N := 17) (j := 15) ly_X11_isHot_5 rfl ((fun q hq => hG q (List.mem_append_right _ hq)) _ (allG_3 b3)) (of3_0 _) (ce3 T ad _ _) (by decide) (Nst_use (cx_nst C) (w := .fieldLinkNest RX11 205 "RecipeScheduler$Recipe" "hot" "I" "RecipeScheduler") 171 (by decide +kernel) rfl) (fun _ h => h) (v := .int (Y 3 ((Y 1 0 0 0).toNatClampNeg) 0 15)) rfl dX11_isHot_12 ?_
  refine fw_iload_n C dX11_isHot_15 rfl 1 rfl ?_
  obtain ⟨r4, q5, h⟩ := bd1_some h
  refine fw_callSi C (As := [.int (Y 3 ((Y 1 0 0 0).toNatClampNeg) 0 15), .int a1]) (c_X11_contains ga0 q5) (va_cwS 2 (cx_ts C) gX11_isHot_X11_contains rfl rfl rfl (by decide +kernel) ⟨Nat.le_of_ble_eq_true rfl, Nat.le_of_ble_eq_true rfl⟩) rfl (st := []) rfl (Nat.le_of_ble_eq_true rfl) ⟨Nat.le_refl 0, Nat.le_refl 0⟩ dX11_isHot_16 (pp2 ?_)
  obtain ⟨b6, h⟩ := gd_some h
  exact fw_zret C hrt (of_decide_eq_true b6) Y ⟨Option.some.inj h, rfl⟩ (fun t ht => ht) dX11_isHot_19
end
set_option maxRecDepth 100000 in
set_option maxHeartbeats 4000000 in
theorem c_X11_isHot {l : Launch} {N0 : Nat} {T : Nat → ClassId} {D : va_G} {gr : List (Nat × Nat)} {ad : Nat → Nat → Nat → Nat} {Y : Mem} {a1 : Int32} {res : Int32} (hG : ∀ q ∈ ([(1, 0), (0, 0)] ++ allG), q ∈ gr) (h : X11_isHot Y a1 = some res) : CI l yX11_isHot wsX11_isHot (Rm 2) N0 T D gr ad Y [.ref (ad 0 0 0), .int a1] (fun r Y1 => r = res ∧ Y1 = Y) :=
  fw_body (by decide +kernel) rfl (Nat.le_of_ble_eq_true rfl) (fun p e s m below meth c C hrt => w_X11_isHot C hrt hG  h)
section
variable {p : Program} {l : Launch} {e : Env} {s : State} {m : MethodId} {below : List Frame} {meth : Method} {c : Code} {N0 : Nat} {T : Nat → ClassId} {D : va_G} {gr : List (Nat × Nat)} {ad : Nat → Nat → Nat → Nat}
set_option maxRecDepth 100000 in
set_option maxHeartbeats 4000000 in
theorem w_X11_isPassLength {Y : Mem} {a1 : Int32} (C : Cx p s m [.ref (ad 0 0 0), .int a1].toArray meth c cX11_isPassLength 2 wsX11_isPassLength RX11 N0 T D gr ad) (hrt : meth.sig.returnType = (some .boolean)) (hG : ∀ q ∈ [], q ∈ gr) {res : Int32} (h : X11_isPassLength Y a1 = some res) : FW p l e (Rm 1) s m [.ref (ad 0 0 0), .int a1].toArray below meth c 2 N0 T D gr ad 0 0 (MQ below (va_Qi (fun r Y1 => r = res ∧ Y1 = Y) (WB T D gr ad) (fun q => N0 ≤ q)) [.ref (ad 0 0 0), .int a1].toArray s 0 0 (fun q => N0 ≤ q)) Y 0 [(0, .ref (ad 0 0 0)), (1, .int a1)] [] := by
  unfold X11_isPassLength at h
  refine fw_iload_n C dX11_isPassLength_0 rfl 1 rfl ?_
  refine fw_iconst C dX11_isPassLength_1 (v := 1) rfl ?_
  refine fw_sipush C dX11_isPassLength_2 (v := 200) rfl ?_
  obtain ⟨r1, q2, h⟩ := bd1_some h
  refine fw_callSi C (As := [.int a1, .int 1, .int 200]) (c_X11_isWithin ga0 q2) (va_cwS 3 (cx_ts C) gX11_isPassLength_X11_isWithin rfl rfl rfl (by decide +kernel) ⟨Nat.le_of_ble_eq_true rfl, Nat.le_of_ble_eq_true rfl⟩) rfl (st := []) rfl (Nat.le_of_ble_eq_true rfl) ⟨Nat.le_refl 0, Nat.le_refl 0⟩ dX11_isPassLength_5 (pp2 ?_)
  obtain ⟨b3, h⟩ := gd_some h
  exact fw_zret C hrt (of_decide_eq_true b3) Y ⟨Option.some.inj h, rfl⟩ (fun t ht => ht) dX11_isPassLength_8
end
set_option maxRecDepth 100000 in
set_option maxHeartbeats 4000000 in
theorem c_X11_isPassLength {l : Launch} {N0 : Nat} {T : Nat → ClassId} {D : va_G} {gr : List (Nat × Nat)} {ad : Nat → Nat → Nat → Nat} {Y : Mem} {a1 : Int32} {res : Int32} (hG : ∀ q ∈ [], q ∈ gr) (h : X11_isPassLength Y a1 = some res) : CI l yX11_isPassLength wsX11_isPassLength (Rm 1) N0 T D gr ad Y [.ref (ad 0 0 0), .int a1] (fun r Y1 => r = res ∧ Y1 = Y) :=
  fw_body (by decide +kernel) rfl (Nat.le_of_ble_eq_true rfl) (fun p e s m below meth c C hrt => w_X11_isPassLength C hrt hG  h)
theorem ly_X3_isContinued_3 : ∀ w ∈ u_ws RX3 TX3 5, w ∈ wsX3_isContinued := by decide +kernel
theorem fl_X3_isContinued_28 : Cond.fieldLink RX3 28 "RecipeScheduler$Kitchen" "recipe" "LRecipeScheduler$Recipe;" ∈ wsX3_isContinued := by decide +kernel
theorem ly_X3_isContinued_5 : ∀ w ∈ u_ws RX5 TX5 17, w ∈ wsX3_isContinued := by decide +kernel
theorem fl_X3_isContinued_12 : Cond.fieldLink RX3 12 "RecipeScheduler$Kitchen" "state" "LRecipeScheduler$State;" ∈ wsX3_isContinued := by decide +kernel
theorem ly_X3_isContinued_8 : ∀ w ∈ u_ws RX8 TX8 15, w ∈ wsX3_isContinued := by decide +kernel
section
variable {p : Program} {l : Launch} {e : Env} {s : State} {m : MethodId} {below : List Frame} {meth : Method} {c : Code} {N0 : Nat} {T : Nat → ClassId} {D : va_G} {gr : List (Nat × Nat)} {ad : Nat → Nat → Nat → Nat}
set_option maxRecDepth 100000 in
set_option maxHeartbeats 4000000 in
theorem w_X3_isContinued {Y : Mem} {g0 : Nat} {a1 : Int32} (C : Cx p s m [.ref (ad 1 g0 0), .int a1].toArray meth c cX3_isContinued 2 wsX3_isContinued RX3 N0 T D gr ad) (hrt : meth.sig.returnType = (some .boolean)) (hG : ∀ q ∈ ([(1, g0), (2, g0)] ++ allG), q ∈ gr) {res : Int32} (h : X3_isContinued Y g0 a1 = some res) : FW p l e (Rm 0) s m [.ref (ad 1 g0 0), .int a1].toArray below meth c 2 N0 T D gr ad 0 0 (MQ below (va_Qi (fun r Y1 => r = res ∧ Y1 = Y) (WB T D gr ad) (fun q => N0 ≤ q)) [.ref (ad 1 g0 0), .int a1].toArray s 0 0 (fun q => N0 ≤ q)) Y 0 [(0, .ref (ad 1 g0 0)), (1, .int a1)] [] := by
  unfold X3_isContinued at h
  refine fw_aload_n C dX3_isContinued_0 rfl 0 rfl ?_
  refine fw_get C (ci := 3) (Cn := RX3) (Tc := TX3) (N := 5) (j := 0) ly_X3_isContinued_3 rfl (hG _ (List.mem_of_getElem? (i := 0) rfl)) (of1_0 _) (ce1 T ad _ _) (by decide) (cx_ts C _ fl_X3_isContinued_28) (fun _ h => h) (v := .ref (ad 3 ((Y 1 g0 0 0).toNatClampNeg) 0)) rfl dX3_isContinued_1 ?_
  obtain ⟨b1, h⟩ := gd_some h
  have b1 := of_decide_eq_true b1
  refine fw_getN C (ci := 5) (Cn := RX5) (Tc := TX5) (N := 17) (j := 14) ly_X3_isContinued_5 rfl ((fun q hq => hG q (List.mem_append_right _ hq)) _ (allG_3 b1)) (of3_0 _) (ce3 T ad _ _) (by decide) (Nst_use (cx_nst C) (w := .fieldLinkNest RX3 141 "RecipeScheduler$Recipe" "successorSet" "[I" "RecipeScheduler") 167 (by decide +kernel) rfl) (fun _ h => h) (v := .ref (ad 3 (((Y 1 g0 0 0).toNatClampNeg)) 9)) rfl dX3_isContinued_4 ?_
  refine fw_iload_n C dX3_isContinued_7 rfl 1 rfl ?_
  obtain ⟨b2, h⟩ := gd_some h
  refine fw_iald2 C ((fun q hq => hG q (List.mem_append_right _ hq)) _ (allG_3 b1)) (of3_9 _) (ca3_9 T ad _ _) b2 (Nat.le_of_ble_eq_true rfl) dX3_isContinued_8 ?_
  refine fw_aload_n C dX3_isContinued_9 rfl 0 rfl ?_
  refine fw_get C (ci := 3) (Cn := RX3) (Tc := TX3) (N := 5) (j := 1) ly_X3_isContinued_3 rfl (hG _ (List.mem_of_getElem? (i := 0) rfl)) (of1_0 _) (ce1 T ad _ _) (by decide) (cx_ts C _ fl_X3_isContinued_12) (fun _ h => h) (v := .ref (ad 2 g0 0)) rfl dX3_isContinued_10 ?_
  refine fw_getN C (ci := 8) (Cn := RX8) (Tc := TX8) (N := 15) (j := 6) ly_X3_isContinued_8 rfl (hG _ (List.mem_of_getElem? (i := 1) rfl)) (of2_0 _) (ce2 T ad _ _) (by decide) (Nst_use (cx_nst C) (w := .fieldLinkNest RX3 82 "RecipeScheduler$State" "running" "I" "RecipeScheduler") 444 (by decide +kernel) rfl) (fun _ h => h) (v := .int (Y 2 g0 0 6)) rfl dX3_isContinued_13 ?_
  refine fw_aload_n C dX3_isContinued_16 rfl 0 rfl ?_
  refine fw_get C (ci := 3) (Cn := RX3) (Tc := TX3) (N := 5) (j := 1) ly_X3_isContinued_3 rfl (hG _ (List.mem_of_getElem? (i := 0) rfl)) (of1_0 _) (ce1 T ad _ _) (by decide) (cx_ts C _ fl_X3_isContinued_12) (fun _ h => h) (v := .ref (ad 2 g0 0)) rfl dX3_isContinued_17 ?_
  refine fw_getN C (ci := 8) (Cn := RX8) (Tc := TX8) (N := 15) (j := 7) ly_X3_isContinued_8 rfl (hG _ (List.mem_of_getElem? (i := 1) rfl)) (of2_0 _) (ce2 T ad _ _) (by decide) (Nst_use (cx_nst C) (w := .fieldLinkNest RX3 47 "RecipeScheduler$State" "done" "I" "RecipeScheduler") 447 (by decide +kernel) rfl) (fun _ h => h) (v := .int (Y 2 g0 0 7)) rfl dX3_isContinued_20 ?_
  refine fw_ior C dX3_isContinued_23 ?_
  refine fw_iand C dX3_isContinued_24 ?_
  refine fw_if_eq C dX3_isContinued_25 (tgt := 32) rfl (fun c3 => ?_) (fun c3 => ?_)
  · have h := ite_t c3 h
    refine fw_iconst C dX3_isContinued_32 (v := 0) rfl ?_
    exact fw_zret C hrt (by decide) Y ⟨Option.some.inj h, rfl⟩ (fun t ht => ht) dX3_isContinued_33
  · have h := ite_f c3 h
    refine fw_iconst C dX3_isContinued_28 (v := 1) rfl ?_
    refine fw_goto C dX3_isContinued_29 (tgt := 33) rfl ?_
    exact fw_zret C hrt (by decide) Y ⟨Option.some.inj h, rfl⟩ (fun t ht => ht) dX3_isContinued_33
end
set_option maxRecDepth 100000 in
set_option maxHeartbeats 4000000 in
theorem c_X3_isContinued {l : Launch} {N0 : Nat} {T : Nat → ClassId} {D : va_G} {gr : List (Nat × Nat)} {ad : Nat → Nat → Nat → Nat} {Y : Mem} {g0 : Nat} {a1 : Int32} {res : Int32} (hG : ∀ q ∈ ([(1, g0), (2, g0)] ++ allG), q ∈ gr) (h : X3_isContinued Y g0 a1 = some res) : CI l yX3_isContinued wsX3_isContinued (Rm 0) N0 T D gr ad Y [.ref (ad 1 g0 0), .int a1] (fun r Y1 => r = res ∧ Y1 = Y) :=
  fw_body (by decide +kernel) rfl (Nat.le_of_ble_eq_true rfl) (fun p e s m below meth c C hrt => w_X3_isContinued C hrt hG  h)
