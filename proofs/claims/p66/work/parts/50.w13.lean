theorem ly_X3_readySteps_3 : ∀ w ∈ u_ws RX3 TX3 5, w ∈ wsX3_readySteps := by decide +kernel
theorem fl_X3_readySteps_28 : Cond.fieldLink RX3 28 "RecipeScheduler$Kitchen" "recipe" "LRecipeScheduler$Recipe;" ∈ wsX3_readySteps := by decide +kernel
theorem fl_X3_readySteps_12 : Cond.fieldLink RX3 12 "RecipeScheduler$Kitchen" "state" "LRecipeScheduler$State;" ∈ wsX3_readySteps := by decide +kernel
theorem ly_X3_readySteps_8 : ∀ w ∈ u_ws RX8 TX8 15, w ∈ wsX3_readySteps := by decide +kernel
theorem ly_X3_readySteps_5 : ∀ w ∈ u_ws RX5 TX5 17, w ∈ wsX3_readySteps := by decide +kernel
theorem ly_X3_readySteps_4 : ∀ w ∈ u_ws RX4 TX4 3, w ∈ wsX3_readySteps := by decide +kernel
theorem in_X3_readySteps_11 : Cond.initialized RX11 ∈ wsX3_readySteps := by decide +kernel
theorem sw_X3_readySteps_X11_contains : Cond.static yX11_contains ∈ wsX3_readySteps := by decide +kernel
section
variable {p : Program} {l : Launch} {e : Env} {s : State} {m : MethodId} {below : List Frame} {meth : Method} {c : Code} {N0 : Nat} {T : Nat → ClassId} {D : va_G} {gr : List (Nat × Nat)} {ad : Nat → Nat → Nat → Nat}
set_option maxRecDepth 100000 in
set_option maxHeartbeats 4000000 in
theorem w_X3_readySteps_b80 {Y : Mem} {g0 : Nat} (C : Cx p s m [.ref (ad 1 g0 0)].toArray meth c cX3_readySteps 4 wsX3_readySteps RX3 N0 T D gr ad) (hrt : meth.sig.returnType = (some .int)) (hG : ∀ q ∈ ([(1, g0), (2, g0)] ++ allG), q ∈ gr) {res : Int32} {k30 : Int32 → Int32 → Int32 → Option (Int32)} (hk30 : ∀ (l3 : Int32) (l2 : Int32) (l1 : Int32), k30 l3 l2 l1 = some res → FW p l e (Rm 1) s m [.ref (ad 1 g0 0)].toArray below meth c 4 N0 T D gr ad 0 0 (MQ below (va_Qi (fun r Y1 => r = res ∧ Y1 = Y) (WB T D gr ad) (fun q => N0 ≤ q)) [.ref (ad 1 g0 0)].toArray s 0 0 (fun q => N0 ≤ q)) Y 30 [(3, .int l3), (2, .int l2), (1, .int l1), (0, .ref (ad 1 g0 0))] []) (l3 : Int32) (l2 : Int32) (l1 : Int32) (h : X3_readySteps_b80 Y g0 k30 l3 l2 l1 = some res) : FW p l e (Rm 1) s m [.ref (ad 1 g0 0)].toArray below meth c 4 N0 T D gr ad 0 0 (MQ below (va_Qi (fun r Y1 => r = res ∧ Y1 = Y) (WB T D gr ad) (fun q => N0 ≤ q)) [.ref (ad 1 g0 0)].toArray s 0 0 (fun q => N0 ≤ q)) Y 80 [(3, .int l3), (2, .int l2), (1, .int l1), (0, .ref (ad 1 g0 0))] [] := by
  unfold X3_readySteps_b80 at h
  refine fw_iinc C dX3_readySteps_80 (kk := 0) (v := l3 + 1) rfl rfl (by decide) (L' := [(3, .int (l3 + 1)), (2, .int l2), (1, .int l1), (0, .ref (ad 1 g0 0))]) rfl ?_
  refine fw_goto C dX3_readySteps_83 (tgt := 30) rfl ?_
  exact hk30 _ _ _ h
set_option maxRecDepth 100000 in
set_option maxHeartbeats 4000000 in
theorem w_X3_readySteps_b30 {Y : Mem} {g0 : Nat} (C : Cx p s m [.ref (ad 1 g0 0)].toArray meth c cX3_readySteps 4 wsX3_readySteps RX3 N0 T D gr ad) (hrt : meth.sig.returnType = (some .int)) (hG : ∀ q ∈ ([(1, g0), (2, g0)] ++ allG), q ∈ gr) {res : Int32} : ∀ (n : Nat) (l3 : Int32) (l2 : Int32) (l1 : Int32), X3_readySteps_b30 Y g0  n l3 l2 l1 = some res → FW p l e (Rm 1) s m [.ref (ad 1 g0 0)].toArray below meth c 4 N0 T D gr ad 0 0 (MQ below (va_Qi (fun r Y1 => r = res ∧ Y1 = Y) (WB T D gr ad) (fun q => N0 ≤ q)) [.ref (ad 1 g0 0)].toArray s 0 0 (fun q => N0 ≤ q)) Y 30 [(3, .int l3), (2, .int l2), (1, .int l1), (0, .ref (ad 1 g0 0))] [] := by
  intro n
  induction n with
  | zero =>
    intro l3 l2 l1 h
    unfold X3_readySteps_b30 at h
    cases h
  | succ n ih =>
    intro l3 l2 l1 h
    unfold X3_readySteps_b30 at h
    refine fw_iload_n C dX3_readySteps_30 rfl 0 rfl ?_
    refine fw_aload_n C dX3_readySteps_31 rfl 3 rfl ?_
    refine fw_get C (ci := 3) (Cn := RX3) (Tc := TX3) (N := 5) (j := 0) ly_X3_readySteps_3 rfl (hG _ (List.mem_of_getElem? (i := 0) rfl)) (of1_0 _) (ce1 T ad _ _) (by decide) (cx_ts C _ fl_X3_readySteps_28) (fun _ h => h) (v := .ref (ad 3 ((Y 1 g0 0 0).toNatClampNeg) 0)) rfl dX3_readySteps_32 ?_
    obtain ⟨b7, h⟩ := gd_some h
    have b7 := of_decide_eq_true b7
    refine fw_getN C (ci := 5) (Cn := RX5) (Tc := TX5) (N := 17) (j := 7) ly_X3_readySteps_5 rfl ((fun q hq => hG q (List.mem_append_right _ hq)) _ (allG_3 b7)) (of3_0 _) (ce3 T ad _ _) (by decide) (Nst_use (cx_nst C) (w := .fieldLinkNest RX3 91 "RecipeScheduler$Recipe" "steps" "LRecipeScheduler$Names;" "RecipeScheduler") 146 (by decide +kernel) rfl) (fun _ h => h) (v := .ref (ad 4 (2*((Y 1 g0 0 0).toNatClampNeg)+1) 0)) rfl dX3_readySteps_35 ?_
    obtain ⟨b8, h⟩ := gd_some h
    have b8 := of_decide_eq_true b8
    refine fw_getN C (ci := 4) (Cn := RX4) (Tc := TX4) (N := 3) (j := 2) ly_X3_readySteps_4 rfl ((fun q hq => hG q (List.mem_append_right _ hq)) _ (allG_4b b8)) (of4_0 _) (ce4 T ad _ _) (by decide) (Nst_use (cx_nst C) (w := .fieldLinkNest RX3 95 "RecipeScheduler$Names" "count" "I" "RecipeScheduler") 114 (by decide +kernel) rfl) (fun _ h => h) (v := .int (Y 4 (2*((Y 1 g0 0 0).toNatClampNeg)+1) 0 2)) rfl dX3_readySteps_38 ?_
    refine fw_icmp_ge C dX3_readySteps_41 (tgt := 86) rfl (fun c9 => ?_) (fun c9 => ?_)
    · have h := ite_t c9 h
      refine fw_iload_n C dX3_readySteps_86 rfl 2 rfl ?_
      exact fw_iret C hrt Y ⟨Option.some.inj h, rfl⟩ (fun t ht => ht) dX3_readySteps_87
    · have h := ite_f c9 h
      refine fw_iload_n C dX3_readySteps_44 rfl 1 rfl ?_
      refine fw_iload_n C dX3_readySteps_45 rfl 0 rfl ?_
      obtain ⟨r10, q11, h⟩ := bd1_some h
      refine fw_callSNi C (As := [.int l2, .int l3]) (c_X11_contains ga0 q11) ⟨(va_cnB 2 (cx_ts C) gX3_readySteps_X11_contains_n100 rfl rfl rfl (cx_nw C (w := .methodLinkNest RX3 100 yX11_contains "RecipeScheduler") 683 (by decide +kernel) rfl) (cx_ts C _ in_X3_readySteps_11) (by decide +kernel) ⟨Nat.le_of_ble_eq_true rfl, Nat.le_of_ble_eq_true rfl⟩), cx_ts C _ sw_X3_readySteps_X11_contains, trivial⟩ rfl (st := []) rfl (Nat.le_of_ble_eq_true rfl) ⟨Nat.le_refl 0, Nat.le_refl 0⟩ dX3_readySteps_46 (pp2 ?_)
      refine fw_if_eq C dX3_readySteps_49 (tgt := 80) rfl (fun c12 => ?_) (fun c12 => ?_)
      · have h := ite_t c12 h
        exact w_X3_readySteps_b80 C hrt hG  ih _ _ _ h
      · have h := ite_f c12 h
        refine fw_aload_n C dX3_readySteps_52 rfl 3 rfl ?_
        refine fw_get C (ci := 3) (Cn := RX3) (Tc := TX3) (N := 5) (j := 0) ly_X3_readySteps_3 rfl (hG _ (List.mem_of_getElem? (i := 0) rfl)) (of1_0 _) (ce1 T ad _ _) (by decide) (cx_ts C _ fl_X3_readySteps_28) (fun _ h => h) (v := .ref (ad 3 ((Y 1 g0 0 0).toNatClampNeg) 0)) rfl dX3_readySteps_53 ?_
        refine fw_getN C (ci := 5) (Cn := RX5) (Tc := TX5) (N := 17) (j := 13) ly_X3_readySteps_5 rfl ((fun q hq => hG q (List.mem_append_right _ hq)) _ (allG_3 b7)) (of3_0 _) (ce3 T ad _ _) (by decide) (Nst_use (cx_nst C) (w := .fieldLinkNest RX3 138 "RecipeScheduler$Recipe" "predecessorSet" "[I" "RecipeScheduler") 165 (by decide +kernel) rfl) (fun _ h => h) (v := .ref (ad 3 (((Y 1 g0 0 0).toNatClampNeg)) 8)) rfl dX3_readySteps_56 ?_
        refine fw_iload_n C dX3_readySteps_59 rfl 0 rfl ?_
        obtain ⟨b13, h⟩ := gd_some h
        refine fw_iald2 C ((fun q hq => hG q (List.mem_append_right _ hq)) _ (allG_3 b7)) (of3_8 _) (ca3_8 T ad _ _) b13 (Nat.le_of_ble_eq_true rfl) dX3_readySteps_60 ?_
        refine fw_aload_n C dX3_readySteps_61 rfl 3 rfl ?_
        refine fw_get C (ci := 3) (Cn := RX3) (Tc := TX3) (N := 5) (j := 1) ly_X3_readySteps_3 rfl (hG _ (List.mem_of_getElem? (i := 0) rfl)) (of1_0 _) (ce1 T ad _ _) (by decide) (cx_ts C _ fl_X3_readySteps_12) (fun _ h => h) (v := .ref (ad 2 g0 0)) rfl dX3_readySteps_62 ?_
        refine fw_getN C (ci := 8) (Cn := RX8) (Tc := TX8) (N := 15) (j := 7) ly_X3_readySteps_8 rfl (hG _ (List.mem_of_getElem? (i := 1) rfl)) (of2_0 _) (ce2 T ad _ _) (by decide) (Nst_use (cx_nst C) (w := .fieldLinkNest RX3 47 "RecipeScheduler$State" "done" "I" "RecipeScheduler") 447 (by decide +kernel) rfl) (fun _ h => h) (v := .int (Y 2 g0 0 7)) rfl dX3_readySteps_65 ?_
        refine fw_iconst C dX3_readySteps_68 (v := (-1)) rfl ?_
        refine fw_ixor C dX3_readySteps_69 ?_
        refine fw_iand C dX3_readySteps_70 ?_
        refine fw_if_ne C dX3_readySteps_71 (tgt := 80) rfl (fun c14 => ?_) (fun c14 => ?_)
        · have h := ite_f c14 h
          exact w_X3_readySteps_b80 C hrt hG  ih _ _ _ h
        · have h := ite_t c14 h
          refine fw_iload_n C dX3_readySteps_74 rfl 2 rfl ?_
          refine fw_iconst C dX3_readySteps_75 (v := 1) rfl ?_
          refine fw_iload_n C dX3_readySteps_76 rfl 0 rfl ?_
          refine fw_ishl C dX3_readySteps_77 ?_
          refine fw_ior C dX3_readySteps_78 ?_
          obtain ⟨v15, e16, h⟩ := lt_some h
          refine fw_top (v' := .int v15) (by rw [e16]) ?_
          refine fw_istore_n C dX3_readySteps_79 rfl (by decide) (L' := [(1, .int v15), (3, .int l3), (2, .int l2), (0, .ref (ad 1 g0 0))]) rfl ?_
          refine fw_sub [1, 2, 0, 3] (L' := [(3, .int l3), (2, .int l2), (1, .int v15), (0, .ref (ad 1 g0 0))]) rfl ?_
          exact w_X3_readySteps_b80 C hrt hG  ih _ _ _ h
set_option maxRecDepth 100000 in
set_option maxHeartbeats 4000000 in
theorem w_X3_readySteps {Y : Mem} {g0 : Nat} (C : Cx p s m [.ref (ad 1 g0 0)].toArray meth c cX3_readySteps 4 wsX3_readySteps RX3 N0 T D gr ad) (hrt : meth.sig.returnType = (some .int)) (hG : ∀ q ∈ ([(1, g0), (2, g0)] ++ allG), q ∈ gr) {res : Int32} (h : X3_readySteps Y g0 = some res) : FW p l e (Rm 1) s m [.ref (ad 1 g0 0)].toArray below meth c 4 N0 T D gr ad 0 0 (MQ below (va_Qi (fun r Y1 => r = res ∧ Y1 = Y) (WB T D gr ad) (fun q => N0 ≤ q)) [.ref (ad 1 g0 0)].toArray s 0 0 (fun q => N0 ≤ q)) Y 0 [(0, .ref (ad 1 g0 0))] [] := by
  unfold X3_readySteps at h
  refine fw_iconst C dX3_readySteps_0 (v := 0) rfl ?_
  refine fw_istore_n C dX3_readySteps_1 rfl (by decide) (L' := [(1, .int 0), (0, .ref (ad 1 g0 0))]) rfl ?_
  refine fw_aload_n C dX3_readySteps_2 rfl 1 rfl ?_
  refine fw_get C (ci := 3) (Cn := RX3) (Tc := TX3) (N := 5) (j := 0) ly_X3_readySteps_3 rfl (hG _ (List.mem_of_getElem? (i := 0) rfl)) (of1_0 _) (ce1 T ad _ _) (by decide) (cx_ts C _ fl_X3_readySteps_28) (fun _ h => h) (v := .ref (ad 3 ((Y 1 g0 0 0).toNatClampNeg) 0)) rfl dX3_readySteps_3 ?_
  obtain ⟨b1, h⟩ := gd_some h
  have b1 := of_decide_eq_true b1
  obtain ⟨b2, h⟩ := gd_some h
  have b2 := of_decide_eq_true b2
  obtain ⟨r3, q4, h⟩ := bd1_some h
  refine fw_callVi C (ci := 5) (Cn := RX5) (Tc := TX5) (N := 17) (As := []) (c_X5_allSteps (gac ((fun q hq => hG q (List.mem_append_right _ hq)) _ (allG_3 b2)) (gac ((fun q hq => hG q (List.mem_append_right _ hq)) _ (allG_4b b1)) ga0)) q4) (cwV 0 (cx_ts C) gX3_readySteps_X5_allSteps rfl rfl rfl (by decide +kernel) ⟨Nat.le_of_ble_eq_true rfl, Nat.le_of_ble_eq_true rfl⟩) rfl ((fun q hq => hG q (List.mem_append_right _ hq)) _ (allG_3 b2)) (of3_0 _) (ce3 T ad _ _) rfl (st := []) rfl (Nat.le_of_ble_eq_true rfl) ⟨Nat.le_refl 0, Nat.le_refl 0⟩ dX3_readySteps_6 (pp2 ?_)
  refine fw_aload_n C dX3_readySteps_9 rfl 1 rfl ?_
  refine fw_get C (ci := 3) (Cn := RX3) (Tc := TX3) (N := 5) (j := 1) ly_X3_readySteps_3 rfl (hG _ (List.mem_of_getElem? (i := 0) rfl)) (of1_0 _) (ce1 T ad _ _) (by decide) (cx_ts C _ fl_X3_readySteps_12) (fun _ h => h) (v := .ref (ad 2 g0 0)) rfl dX3_readySteps_10 ?_
  refine fw_getN C (ci := 8) (Cn := RX8) (Tc := TX8) (N := 15) (j := 6) ly_X3_readySteps_8 rfl (hG _ (List.mem_of_getElem? (i := 1) rfl)) (of2_0 _) (ce2 T ad _ _) (by decide) (Nst_use (cx_nst C) (w := .fieldLinkNest RX3 82 "RecipeScheduler$State" "running" "I" "RecipeScheduler") 444 (by decide +kernel) rfl) (fun _ h => h) (v := .int (Y 2 g0 0 6)) rfl dX3_readySteps_13 ?_
  refine fw_aload_n C dX3_readySteps_16 rfl 1 rfl ?_
  refine fw_get C (ci := 3) (Cn := RX3) (Tc := TX3) (N := 5) (j := 1) ly_X3_readySteps_3 rfl (hG _ (List.mem_of_getElem? (i := 0) rfl)) (of1_0 _) (ce1 T ad _ _) (by decide) (cx_ts C _ fl_X3_readySteps_12) (fun _ h => h) (v := .ref (ad 2 g0 0)) rfl dX3_readySteps_17 ?_
  refine fw_getN C (ci := 8) (Cn := RX8) (Tc := TX8) (N := 15) (j := 7) ly_X3_readySteps_8 rfl (hG _ (List.mem_of_getElem? (i := 1) rfl)) (of2_0 _) (ce2 T ad _ _) (by decide) (Nst_use (cx_nst C) (w := .fieldLinkNest RX3 47 "RecipeScheduler$State" "done" "I" "RecipeScheduler") 447 (by decide +kernel) rfl) (fun _ h => h) (v := .int (Y 2 g0 0 7)) rfl dX3_readySteps_20 ?_
  refine fw_ior C dX3_readySteps_23 ?_
  refine fw_iconst C dX3_readySteps_24 (v := (-1)) rfl ?_
  refine fw_ixor C dX3_readySteps_25 ?_
  refine fw_iand C dX3_readySteps_26 ?_
  obtain ⟨v5, e6, h⟩ := lt_some h
  refine fw_top (v' := .int v5) (by rw [e6]) ?_
  refine fw_istore_n C dX3_readySteps_27 rfl (by decide) (L' := [(2, .int v5), (1, .int 0), (0, .ref (ad 1 g0 0))]) rfl ?_
  refine fw_iconst C dX3_readySteps_28 (v := 0) rfl ?_
  refine fw_istore_n C dX3_readySteps_29 rfl (by decide) (L' := [(3, .int 0), (2, .int v5), (1, .int 0), (0, .ref (ad 1 g0 0))]) rfl ?_
  exact w_X3_readySteps_b30 C hrt hG   _ _ _ _ h
end
set_option maxRecDepth 100000 in
set_option maxHeartbeats 4000000 in
theorem c_X3_readySteps {l : Launch} {N0 : Nat} {T : Nat → ClassId} {D : va_G} {gr : List (Nat × Nat)} {ad : Nat → Nat → Nat → Nat} {Y : Mem} {g0 : Nat} {res : Int32} (hG : ∀ q ∈ ([(1, g0), (2, g0)] ++ allG), q ∈ gr) (h : X3_readySteps Y g0 = some res) : CI l yX3_readySteps wsX3_readySteps (Rm 1) N0 T D gr ad Y [.ref (ad 1 g0 0)] (fun r Y1 => r = res ∧ Y1 = Y) :=
  fw_body (by decide +kernel) rfl (Nat.le_of_ble_eq_true rfl) (fun p e s m below meth c C hrt => w_X3_readySteps C hrt hG  h)
theorem ly_X3_hasFreeCook_3 : ∀ w ∈ u_ws RX3 TX3 5, w ∈ wsX3_hasFreeCook := by decide +kernel
theorem fl_X3_hasFreeCook_28 : Cond.fieldLink RX3 28 "RecipeScheduler$Kitchen" "recipe" "LRecipeScheduler$Recipe;" ∈ wsX3_hasFreeCook := by decide +kernel
theorem ly_X3_hasFreeCook_5 : ∀ w ∈ u_ws RX5 TX5 17, w ∈ wsX3_hasFreeCook := by decide +kernel
theorem in_X3_hasFreeCook_11 : Cond.initialized RX11 ∈ wsX3_hasFreeCook := by decide +kernel
theorem sw_X3_hasFreeCook_X11_contains : Cond.static yX11_contains ∈ wsX3_hasFreeCook := by decide +kernel
theorem fl_X3_hasFreeCook_12 : Cond.fieldLink RX3 12 "RecipeScheduler$Kitchen" "state" "LRecipeScheduler$State;" ∈ wsX3_hasFreeCook := by decide +kernel
theorem ly_X3_hasFreeCook_8 : ∀ w ∈ u_ws RX8 TX8 15, w ∈ wsX3_hasFreeCook := by decide +kernel
section
variable {p : Program} {l : Launch} {e : Env} {s : State} {m : MethodId} {below : List Frame} {meth : Method} {c : Code} {N0 : Nat} {T : Nat → ClassId} {D : va_G} {gr : List (Nat × Nat)} {ad : Nat → Nat → Nat → Nat}
set_option maxRecDepth 100000 in
set_option maxHeartbeats 4000000 in
theorem w_X3_hasFreeCook_b44 {Y : Mem} {g0 : Nat} {a1 : Int32} (C : Cx p s m [.ref (ad 1 g0 0), .int a1].toArray meth c cX3_hasFreeCook 2 wsX3_hasFreeCook RX3 N0 T D gr ad) (hrt : meth.sig.returnType = (some .boolean)) (hG : ∀ q ∈ ([(1, g0), (2, g0)] ++ allG), q ∈ gr) {res : Int32}  (h : X3_hasFreeCook_b44 Y g0 a1   = some res) : FW p l e (Rm 1) s m [.ref (ad 1 g0 0), .int a1].toArray below meth c 2 N0 T D gr ad 0 0 (MQ below (va_Qi (fun r Y1 => r = res ∧ Y1 = Y) (WB T D gr ad) (fun q => N0 ≤ q)) [.ref (ad 1 g0 0), .int a1].toArray s 0 0 (fun q => N0 ≤ q)) Y 44 [] [] := by
  unfold X3_hasFreeCook_b44 at h
  refine fw_iconst C dX3_hasFreeCook_44 (v := 1) rfl ?_
  refine fw_goto C dX3_hasFreeCook_45 (tgt := 49) rfl ?_
  exact fw_zret C hrt (by decide) Y ⟨Option.some.inj h, rfl⟩ (fun t ht => ht) dX3_hasFreeCook_49
set_option maxRecDepth 100000 in
set_option maxHeartbeats 4000000 in
theorem w_X3_hasFreeCook {Y : Mem} {g0 : Nat} {a1 : Int32} (C : Cx p s m [.ref (ad 1 g0 0), .int a1].toArray meth c cX3_hasFreeCook 2 wsX3_hasFreeCook RX3 N0 T D gr ad) (hrt : meth.sig.returnType = (some .boolean)) (hG : ∀ q ∈ ([(1, g0), (2, g0)] ++ allG), q ∈ gr) {res : Int32} (h : X3_hasFreeCook Y g0 a1 = some res) : FW p l e (Rm 1) s m [.ref (ad 1 g0 0), .int a1].toArray below meth c 2 N0 T D gr ad 0 0 (MQ below (va_Qi (fun r Y1 => r = res ∧ Y1 = Y) (WB T D gr ad) (fun q => N0 ≤ q)) [.ref (ad 1 g0 0), .int a1].toArray s 0 0 (fun q => N0 ≤ q)) Y 0 [(0, .ref (ad 1 g0 0)), (1, .int a1)] [] := by
  unfold X3_hasFreeCook at h
  refine fw_aload_n C dX3_hasFreeCook_0 rfl 0 rfl ?_
  refine fw_get C (ci := 3) (Cn := RX3) (Tc := TX3) (N := 5) (j := 0) ly_X3_hasFreeCook_3 rfl (hG _ (List.mem_of_getElem? (i := 0) rfl)) (of1_0 _) (ce1 T ad _ _) (by decide) (cx_ts C _ fl_X3_hasFreeCook_28) (fun _ h => h) (v := .ref (ad 3 ((Y 1 g0 0 0).toNatClampNeg) 0)) rfl dX3_hasFreeCook_1 ?_
  obtain ⟨b1, h⟩ := gd_some h
  have b1 := of_decide_eq_true b1
  refine fw_getN C (ci := 5) (Cn := RX5) (Tc := TX5) (N := 17) (j := 16) ly_X3_hasFreeCook_5 rfl ((fun q hq => hG q (List.mem_append_right _ hq)) _ (allG_3 b1)) (of3_0 _) (ce3 T ad _ _) (by decide) (Nst_use (cx_nst C) (w := .fieldLinkNest RX3 88 "RecipeScheduler$Recipe" "alone" "I" "RecipeScheduler") 174 (by decide +kernel) rfl) (fun _ h => h) (v := .int (Y 3 ((Y 1 g0 0 0).toNatClampNeg) 0 16)) rfl dX3_hasFreeCook_4 ?_
  refine fw_iload_n C dX3_hasFreeCook_7 rfl 1 rfl ?_
  obtain ⟨r2, q3, h⟩ := bd1_some h
  refine fw_callSNi C (As := [.int (Y 3 ((Y 1 g0 0 0).toNatClampNeg) 0 16), .int a1]) (c_X11_contains ga0 q3) ⟨(va_cnB 2 (cx_ts C) gX3_hasFreeCook_X11_contains_n100 rfl rfl rfl (cx_nw C (w := .methodLinkNest RX3 100 yX11_contains "RecipeScheduler") 683 (by decide +kernel) rfl) (cx_ts C _ in_X3_hasFreeCook_11) (by decide +kernel) ⟨Nat.le_of_ble_eq_true rfl, Nat.le_of_ble_eq_true rfl⟩), cx_ts C _ sw_X3_hasFreeCook_X11_contains, trivial⟩ rfl (st := []) rfl (Nat.le_of_ble_eq_true rfl) ⟨Nat.le_refl 0, Nat.le_refl 0⟩ dX3_hasFreeCook_8 (pp2 ?_)
  refine fw_if_ne C dX3_hasFreeCook_11 (tgt := 44) rfl (fun c4 => ?_) (fun c4 => ?_)
  · have h := ite_f c4 h
    refine fw_sub [] (L' := []) rfl ?_
    exact w_X3_hasFreeCook_b44 C hrt hG    h
  · have h := ite_t c4 h
    refine fw_aload_n C dX3_hasFreeCook_14 rfl 0 rfl ?_
    refine fw_get C (ci := 3) (Cn := RX3) (Tc := TX3) (N := 5) (j := 1) ly_X3_hasFreeCook_3 rfl (hG _ (List.mem_of_getElem? (i := 0) rfl)) (of1_0 _) (ce1 T ad _ _) (by decide) (cx_ts C _ fl_X3_hasFreeCook_12) (fun _ h => h) (v := .ref (ad 2 g0 0)) rfl dX3_hasFreeCook_15 ?_
    refine fw_getN C (ci := 8) (Cn := RX8) (Tc := TX8) (N := 15) (j := 6) ly_X3_hasFreeCook_8 rfl (hG _ (List.mem_of_getElem? (i := 1) rfl)) (of2_0 _) (ce2 T ad _ _) (by decide) (Nst_use (cx_nst C) (w := .fieldLinkNest RX3 82 "RecipeScheduler$State" "running" "I" "RecipeScheduler") 444 (by decide +kernel) rfl) (fun _ h => h) (v := .int (Y 2 g0 0 6)) rfl dX3_hasFreeCook_18 ?_
    refine fw_aload_n C dX3_hasFreeCook_21 rfl 0 rfl ?_
    refine fw_get C (ci := 3) (Cn := RX3) (Tc := TX3) (N := 5) (j := 0) ly_X3_hasFreeCook_3 rfl (hG _ (List.mem_of_getElem? (i := 0) rfl)) (of1_0 _) (ce1 T ad _ _) (by decide) (cx_ts C _ fl_X3_hasFreeCook_28) (fun _ h => h) (v := .ref (ad 3 ((Y 1 g0 0 0).toNatClampNeg) 0)) rfl dX3_hasFreeCook_22 ?_
    refine fw_getN C (ci := 5) (Cn := RX5) (Tc := TX5) (N := 17) (j := 16) ly_X3_hasFreeCook_5 rfl ((fun q hq => hG q (List.mem_append_right _ hq)) _ (allG_3 b1)) (of3_0 _) (ce3 T ad _ _) (by decide) (Nst_use (cx_nst C) (w := .fieldLinkNest RX3 88 "RecipeScheduler$Recipe" "alone" "I" "RecipeScheduler") 174 (by decide +kernel) rfl) (fun _ h => h) (v := .int (Y 3 ((Y 1 g0 0 0).toNatClampNeg) 0 16)) rfl dX3_hasFreeCook_25 ?_
    refine fw_iconst C dX3_hasFreeCook_28 (v := (-1)) rfl ?_
    refine fw_ixor C dX3_hasFreeCook_29 ?_
    refine fw_iand C dX3_hasFreeCook_30 ?_
    obtain ⟨r5, q6, h⟩ := bd1_some h
    refine fw_callSi C (As := [.int ((Y 2 g0 0 6) &&& ((Y 3 ((Y 1 g0 0 0).toNatClampNeg) 0 16) ^^^ ((-1))))]) (c_J6_bitCount_0f7a4 ga0 q6) (va_cwS 1 (cx_ts C) gX3_hasFreeCook_J6_bitCount_0f7a4 rfl rfl rfl (by decide +kernel) ⟨Nat.le_of_ble_eq_true rfl, Nat.le_of_ble_eq_true rfl⟩) rfl (st := []) rfl (Nat.le_of_ble_eq_true rfl) ⟨Nat.le_refl 0, Nat.le_refl 0⟩ dX3_hasFreeCook_31 (pp2 ?_)
    refine fw_aload_n C dX3_hasFreeCook_34 rfl 0 rfl ?_
    refine fw_get C (ci := 3) (Cn := RX3) (Tc := TX3) (N := 5) (j := 1) ly_X3_hasFreeCook_3 rfl (hG _ (List.mem_of_getElem? (i := 0) rfl)) (of1_0 _) (ce1 T ad _ _) (by decide) (cx_ts C _ fl_X3_hasFreeCook_12) (fun _ h => h) (v := .ref (ad 2 g0 0)) rfl dX3_hasFreeCook_35 ?_
    refine fw_getN C (ci := 8) (Cn := RX8) (Tc := TX8) (N := 15) (j := 0) ly_X3_hasFreeCook_8 rfl (hG _ (List.mem_of_getElem? (i := 1) rfl)) (of2_0 _) (ce2 T ad _ _) (by decide) (Nst_use (cx_nst C) (w := .fieldLinkNest RX3 144 "RecipeScheduler$State" "cooks" "I" "RecipeScheduler") 428 (by decide +kernel) rfl) (fun _ h => h) (v := .int (Y 2 g0 0 0)) rfl dX3_hasFreeCook_38 ?_
    refine fw_icmp_ge C dX3_hasFreeCook_41 (tgt := 48) rfl (fun c7 => ?_) (fun c7 => ?_)
    · have h := ite_t c7 h
      refine fw_iconst C dX3_hasFreeCook_48 (v := 0) rfl ?_
      exact fw_zret C hrt (by decide) Y ⟨Option.some.inj h, rfl⟩ (fun t ht => ht) dX3_hasFreeCook_49
    · have h := ite_f c7 h
      refine fw_sub [] (L' := []) rfl ?_
      exact w_X3_hasFreeCook_b44 C hrt hG    h
end
set_option maxRecDepth 100000 in
set_option maxHeartbeats 4000000 in
theorem c_X3_hasFreeCook {l : Launch} {N0 : Nat} {T : Nat → ClassId} {D : va_G} {gr : List (Nat × Nat)} {ad : Nat → Nat → Nat → Nat} {Y : Mem} {g0 : Nat} {a1 : Int32} {res : Int32} (hG : ∀ q ∈ ([(1, g0), (2, g0)] ++ allG), q ∈ gr) (h : X3_hasFreeCook Y g0 a1 = some res) : CI l yX3_hasFreeCook wsX3_hasFreeCook (Rm 1) N0 T D gr ad Y [.ref (ad 1 g0 0), .int a1] (fun r Y1 => r = res ∧ Y1 = Y) :=
  fw_body (by decide +kernel) rfl (Nat.le_of_ble_eq_true rfl) (fun p e s m below meth c C hrt => w_X3_hasFreeCook C hrt hG  h)
theorem ly_X3_occupants_3 : ∀ w ∈ u_ws RX3 TX3 5, w ∈ wsX3_occupants := by decide +kernel
theorem fl_X3_occupants_28 : Cond.fieldLink RX3 28 "RecipeScheduler$Kitchen" "recipe" "LRecipeScheduler$Recipe;" ∈ wsX3_occupants := by decide +kernel
theorem ly_X3_occupants_5 : ∀ w ∈ u_ws RX5 TX5 17, w ∈ wsX3_occupants := by decide +kernel
theorem fl_X3_occupants_12 : Cond.fieldLink RX3 12 "RecipeScheduler$Kitchen" "state" "LRecipeScheduler$State;" ∈ wsX3_occupants := by decide +kernel
theorem ly_X3_occupants_8 : ∀ w ∈ u_ws RX8 TX8 15, w ∈ wsX3_occupants := by decide +kernel
theorem ly_X3_occupants_4 : ∀ w ∈ u_ws RX4 TX4 3, w ∈ wsX3_occupants := by decide +kernel
section
variable {p : Program} {l : Launch} {e : Env} {s : State} {m : MethodId} {below : List Frame} {meth : Method} {c : Code} {N0 : Nat} {T : Nat → ClassId} {D : va_G} {gr : List (Nat × Nat)} {ad : Nat → Nat → Nat → Nat}
set_option maxRecDepth 100000 in
set_option maxHeartbeats 4000000 in
theorem w_X3_occupants_b99 {Y : Mem} {g0 : Nat} {a1 : Int32} (C : Cx p s m [.ref (ad 1 g0 0), .int a1].toArray meth c cX3_occupants 7 wsX3_occupants RX3 N0 T D gr ad) (hrt : meth.sig.returnType = (some .int)) (hG : ∀ q ∈ ([(1, g0), (2, g0)] ++ allG), q ∈ gr) {res : Int32} {k40 : Int32 → Int32 → Int32 → Int32 → Option (Int32)} (hk40 : ∀ (l5 : Int32) (l4 : Int32) (l3 : Int32) (l2 : Int32), k40 l5 l4 l3 l2 = some res → FW p l e (Rm 0) s m [.ref (ad 1 g0 0), .int a1].toArray below meth c 7 N0 T D gr ad 0 0 (MQ below (va_Qi (fun r Y1 => r = res ∧ Y1 = Y) (WB T D gr ad) (fun q => N0 ≤ q)) [.ref (ad 1 g0 0), .int a1].toArray s 0 0 (fun q => N0 ≤ q)) Y 40 [(5, .int l5), (4, .int l4), (3, .int l3), (2, .int l2), (0, .ref (ad 1 g0 0))] []) (l5 : Int32) (l4 : Int32) (l3 : Int32) (l2 : Int32) (h : X3_occupants_b99 Y g0 a1 k40 l5 l4 l3 l2 = some res) : FW p l e (Rm 0) s m [.ref (ad 1 g0 0), .int a1].toArray below meth c 7 N0 T D gr ad 0 0 (MQ below (va_Qi (fun r Y1 => r = res ∧ Y1 = Y) (WB T D gr ad) (fun q => N0 ≤ q)) [.ref (ad 1 g0 0), .int a1].toArray s 0 0 (fun q => N0 ≤ q)) Y 99 [(5, .int l5), (4, .int l4), (3, .int l3), (2, .int l2), (0, .ref (ad 1 g0 0))] [] := by
  unfold X3_occupants_b99 at h
  refine fw_iinc C dX3_occupants_99 (kk := 0) (v := l5 + 1) rfl rfl (by decide) (L' := [(5, .int (l5 + 1)), (4, .int l4), (3, .int l3), (2, .int l2), (0, .ref (ad 1 g0 0))]) rfl ?_
  refine fw_goto C dX3_occupants_102 (tgt := 40) rfl ?_
  exact hk40 _ _ _ _ h
set_option maxRecDepth 100000 in
set_option maxHeartbeats 4000000 in
theorem w_X3_occupants_b40 {Y : Mem} {g0 : Nat} {a1 : Int32} (C : Cx p s m [.ref (ad 1 g0 0), .int a1].toArray meth c cX3_occupants 7 wsX3_occupants RX3 N0 T D gr ad) (hrt : meth.sig.returnType = (some .int)) (hG : ∀ q ∈ ([(1, g0), (2, g0)] ++ allG), q ∈ gr) {res : Int32} : ∀ (n : Nat) (l5 : Int32) (l4 : Int32) (l3 : Int32) (l2 : Int32), X3_occupants_b40 Y g0 a1  n l5 l4 l3 l2 = some res → FW p l e (Rm 0) s m [.ref (ad 1 g0 0), .int a1].toArray below meth c 7 N0 T D gr ad 0 0 (MQ below (va_Qi (fun r Y1 => r = res ∧ Y1 = Y) (WB T D gr ad) (fun q => N0 ≤ q)) [.ref (ad 1 g0 0), .int a1].toArray s 0 0 (fun q => N0 ≤ q)) Y 40 [(5, .int l5), (4, .int l4), (3, .int l3), (2, .int l2), (0, .ref (ad 1 g0 0))] [] := by
  intro n
  induction n with
  | zero =>
    intro l5 l4 l3 l2 h
    unfold X3_occupants_b40 at h
    cases h
  | succ n ih =>
    intro l5 l4 l3 l2 h
    unfold X3_occupants_b40 at h
    refine fw_iload C dX3_occupants_40 0 rfl ?_
    refine fw_aload_n C dX3_occupants_42 rfl 4 rfl ?_
    refine fw_get C (ci := 3) (Cn := RX3) (Tc := TX3) (N := 5) (j := 0) ly_X3_occupants_3 rfl (hG _ (List.mem_of_getElem? (i := 0) rfl)) (of1_0 _) (ce1 T ad _ _) (by decide) (cx_ts C _ fl_X3_occupants_28) (fun _ h => h) (v := .ref (ad 3 ((Y 1 g0 0 0).toNatClampNeg) 0)) rfl dX3_occupants_43 ?_
    obtain ⟨b9, h⟩ := gd_some h
    have b9 := of_decide_eq_true b9
    refine fw_getN C (ci := 5) (Cn := RX5) (Tc := TX5) (N := 17) (j := 7) ly_X3_occupants_5 rfl ((fun q hq => hG q (List.mem_append_right _ hq)) _ (allG_3 b9)) (of3_0 _) (ce3 T ad _ _) (by decide) (Nst_use (cx_nst C) (w := .fieldLinkNest RX3 91 "RecipeScheduler$Recipe" "steps" "LRecipeScheduler$Names;" "RecipeScheduler") 146 (by decide +kernel) rfl) (fun _ h => h) (v := .ref (ad 4 (2*((Y 1 g0 0 0).toNatClampNeg)+1) 0)) rfl dX3_occupants_46 ?_
    obtain ⟨b10, h⟩ := gd_some h
    have b10 := of_decide_eq_true b10
    refine fw_getN C (ci := 4) (Cn := RX4) (Tc := TX4) (N := 3) (j := 2) ly_X3_occupants_4 rfl ((fun q hq => hG q (List.mem_append_right _ hq)) _ (allG_4b b10)) (of4_0 _) (ce4 T ad _ _) (by decide) (Nst_use (cx_nst C) (w := .fieldLinkNest RX3 95 "RecipeScheduler$Names" "count" "I" "RecipeScheduler") 114 (by decide +kernel) rfl) (fun _ h => h) (v := .int (Y 4 (2*((Y 1 g0 0 0).toNatClampNeg)+1) 0 2)) rfl dX3_occupants_49 ?_
    refine fw_icmp_ge C dX3_occupants_52 (tgt := 105) rfl (fun c11 => ?_) (fun c11 => ?_)
    · have h := ite_t c11 h
      refine fw_iload_n C dX3_occupants_105 rfl 2 rfl ?_
      exact fw_iret C hrt Y ⟨Option.some.inj h, rfl⟩ (fun t ht => ht) dX3_occupants_106
    · have h := ite_f c11 h
      refine fw_iconst C dX3_occupants_55 (v := 1) rfl ?_
      refine fw_iload C dX3_occupants_56 0 rfl ?_
      refine fw_ishl C dX3_occupants_58 ?_
      obtain ⟨v12, e13, h⟩ := lt_some h
      refine fw_top (v' := .int v12) (by rw [e13]) ?_
      refine fw_istore C dX3_occupants_59 (by decide) (L' := [(6, .int v12), (5, .int l5), (4, .int l4), (3, .int l3), (2, .int l2), (0, .ref (ad 1 g0 0))]) rfl ?_
      refine fw_iload_n C dX3_occupants_61 rfl 4 rfl ?_
      refine fw_aload_n C dX3_occupants_62 rfl 5 rfl ?_
      refine fw_get C (ci := 3) (Cn := RX3) (Tc := TX3) (N := 5) (j := 1) ly_X3_occupants_3 rfl (hG _ (List.mem_of_getElem? (i := 0) rfl)) (of1_0 _) (ce1 T ad _ _) (by decide) (cx_ts C _ fl_X3_occupants_12) (fun _ h => h) (v := .ref (ad 2 g0 0)) rfl dX3_occupants_63 ?_
      refine fw_getN C (ci := 8) (Cn := RX8) (Tc := TX8) (N := 15) (j := 7) ly_X3_occupants_8 rfl (hG _ (List.mem_of_getElem? (i := 1) rfl)) (of2_0 _) (ce2 T ad _ _) (by decide) (Nst_use (cx_nst C) (w := .fieldLinkNest RX3 47 "RecipeScheduler$State" "done" "I" "RecipeScheduler") 447 (by decide +kernel) rfl) (fun _ h => h) (v := .int (Y 2 g0 0 7)) rfl dX3_occupants_66 ?_
      refine fw_iand C dX3_occupants_69 ?_
      refine fw_iload C dX3_occupants_70 0 rfl ?_
      refine fw_iand C dX3_occupants_72 ?_
      refine fw_if_eq C dX3_occupants_73 (tgt := 99) rfl (fun c14 => ?_) (fun c14 => ?_)
      · have h := ite_t c14 h
        refine fw_sub [1, 2, 3, 4, 5] (L' := [(5, .int l5), (4, .int l4), (3, .int l3), (2, .int l2), (0, .ref (ad 1 g0 0))]) rfl ?_
        exact w_X3_occupants_b99 C hrt hG  ih _ _ _ _ h
      · have h := ite_f c14 h
        refine fw_aload_n C dX3_occupants_76 rfl 5 rfl ?_
        refine fw_get C (ci := 3) (Cn := RX3) (Tc := TX3) (N := 5) (j := 0) ly_X3_occupants_3 rfl (hG _ (List.mem_of_getElem? (i := 0) rfl)) (of1_0 _) (ce1 T ad _ _) (by decide) (cx_ts C _ fl_X3_occupants_28) (fun _ h => h) (v := .ref (ad 3 ((Y 1 g0 0 0).toNatClampNeg) 0)) rfl dX3_occupants_77 ?_
        refine fw_getN C (ci := 5) (Cn := RX5) (Tc := TX5) (N := 17) (j := 14) ly_X3_occupants_5 rfl ((fun q hq => hG q (List.mem_append_right _ hq)) _ (allG_3 b9)) (of3_0 _) (ce3 T ad _ _) (by decide) (Nst_use (cx_nst C) (w := .fieldLinkNest RX3 141 "RecipeScheduler$Recipe" "successorSet" "[I" "RecipeScheduler") 167 (by decide +kernel) rfl) (fun _ h => h) (v := .ref (ad 3 (((Y 1 g0 0 0).toNatClampNeg)) 9)) rfl dX3_occupants_80 ?_
        refine fw_iload C dX3_occupants_83 1 rfl ?_
        obtain ⟨b15, h⟩ := gd_some h
        refine fw_iald2 C ((fun q hq => hG q (List.mem_append_right _ hq)) _ (allG_3 b9)) (of3_9 _) (ca3_9 T ad _ _) b15 (Nat.le_of_ble_eq_true rfl) dX3_occupants_85 ?_
        refine fw_iload C dX3_occupants_86 2 rfl ?_
        refine fw_iconst C dX3_occupants_88 (v := (-1)) rfl ?_
        refine fw_ixor C dX3_occupants_89 ?_
        refine fw_iand C dX3_occupants_90 ?_
        refine fw_if_eq C dX3_occupants_91 (tgt := 99) rfl (fun c16 => ?_) (fun c16 => ?_)
        · have h := ite_t c16 h
          refine fw_sub [1, 2, 3, 4, 5] (L' := [(5, .int l5), (4, .int l4), (3, .int l3), (2, .int l2), (0, .ref (ad 1 g0 0))]) rfl ?_
          exact w_X3_occupants_b99 C hrt hG  ih _ _ _ _ h
        · have h := ite_f c16 h
          refine fw_iload_n C dX3_occupants_94 rfl 3 rfl ?_
          refine fw_iload C dX3_occupants_95 0 rfl ?_
          refine fw_ior C dX3_occupants_97 ?_
          obtain ⟨v17, e18, h⟩ := lt_some h
          refine fw_top (v' := .int v17) (by rw [e18]) ?_
          refine fw_istore_n C dX3_occupants_98 rfl (by decide) (L' := [(3, .int v17), (6, .int v12), (5, .int l5), (4, .int l4), (2, .int l2), (0, .ref (ad 1 g0 0))]) rfl ?_
          refine fw_sub [2, 3, 0, 4, 5] (L' := [(5, .int l5), (4, .int l4), (3, .int v17), (2, .int l2), (0, .ref (ad 1 g0 0))]) rfl ?_
          exact w_X3_occupants_b99 C hrt hG  ih _ _ _ _ h
set_option maxRecDepth 100000 in
set_option maxHeartbeats 4000000 in
theorem w_X3_occupants {Y : Mem} {g0 : Nat} {a1 : Int32} (C : Cx p s m [.ref (ad 1 g0 0), .int a1].toArray meth c cX3_occupants 7 wsX3_occupants RX3 N0 T D gr ad) (hrt : meth.sig.returnType = (some .int)) (hG : ∀ q ∈ ([(1, g0), (2, g0)] ++ allG), q ∈ gr) {res : Int32} (h : X3_occupants Y g0 a1 = some res) : FW p l e (Rm 0) s m [.ref (ad 1 g0 0), .int a1].toArray below meth c 7 N0 T D gr ad 0 0 (MQ below (va_Qi (fun r Y1 => r = res ∧ Y1 = Y) (WB T D gr ad) (fun q => N0 ≤ q)) [.ref (ad 1 g0 0), .int a1].toArray s 0 0 (fun q => N0 ≤ q)) Y 0 [(0, .ref (ad 1 g0 0)), (1, .int a1)] [] := by
  unfold X3_occupants at h
  refine fw_aload_n C dX3_occupants_0 rfl 0 rfl ?_
  refine fw_get C (ci := 3) (Cn := RX3) (Tc := TX3) (N := 5) (j := 0) ly_X3_occupants_3 rfl (hG _ (List.mem_of_getElem? (i := 0) rfl)) (of1_0 _) (ce1 T ad _ _) (by decide) (cx_ts C _ fl_X3_occupants_28) (fun _ h => h) (v := .ref (ad 3 ((Y 1 g0 0 0).toNatClampNeg) 0)) rfl dX3_occupants_1 ?_
  obtain ⟨b1, h⟩ := gd_some h
  have b1 := of_decide_eq_true b1
  refine fw_getN C (ci := 5) (Cn := RX5) (Tc := TX5) (N := 17) (j := 6) ly_X3_occupants_5 rfl ((fun q hq => hG q (List.mem_append_right _ hq)) _ (allG_3 b1)) (of3_0 _) (ce3 T ad _ _) (by decide) (Nst_use (cx_nst C) (w := .fieldLinkNest RX3 156 "RecipeScheduler$Recipe" "panUsers" "[I" "RecipeScheduler") 142 (by decide +kernel) rfl) (fun _ h => h) (v := .ref (ad 3 (((Y 1 g0 0 0).toNatClampNeg)) 2)) rfl dX3_occupants_4 ?_
  refine fw_iload_n C dX3_occupants_7 rfl 1 rfl ?_
  obtain ⟨b2, h⟩ := gd_some h
  refine fw_iald2 C ((fun q hq => hG q (List.mem_append_right _ hq)) _ (allG_3 b1)) (of3_2 _) (ca3_2 T ad _ _) b2 (Nat.le_of_ble_eq_true rfl) dX3_occupants_8 ?_
  obtain ⟨v3, e4, h⟩ := lt_some h
  refine fw_top (v' := .int v3) (by rw [e4]) ?_
  refine fw_istore_n C dX3_occupants_9 rfl (by decide) (L' := [(2, .int v3), (0, .ref (ad 1 g0 0)), (1, .int a1)]) rfl ?_
  refine fw_iload_n C dX3_occupants_10 rfl 0 rfl ?_
  refine fw_aload_n C dX3_occupants_11 rfl 1 rfl ?_
  refine fw_get C (ci := 3) (Cn := RX3) (Tc := TX3) (N := 5) (j := 1) ly_X3_occupants_3 rfl (hG _ (List.mem_of_getElem? (i := 0) rfl)) (of1_0 _) (ce1 T ad _ _) (by decide) (cx_ts C _ fl_X3_occupants_12) (fun _ h => h) (v := .ref (ad 2 g0 0)) rfl dX3_occupants_12 ?_
  refine fw_getN C (ci := 8) (Cn := RX8) (Tc := TX8) (N := 15) (j := 6) ly_X3_occupants_8 rfl (hG _ (List.mem_of_getElem? (i := 1) rfl)) (of2_0 _) (ce2 T ad _ _) (by decide) (Nst_use (cx_nst C) (w := .fieldLinkNest RX3 82 "RecipeScheduler$State" "running" "I" "RecipeScheduler") 444 (by decide +kernel) rfl) (fun _ h => h) (v := .int (Y 2 g0 0 6)) rfl dX3_occupants_15 ?_
  refine fw_iand C dX3_occupants_18 ?_
  obtain ⟨v5, e6, h⟩ := lt_some h
  refine fw_top (v' := .int v5) (by rw [e6]) ?_
  refine fw_istore_n C dX3_occupants_19 rfl (by decide) (L' := [(3, .int v5), (2, .int v3), (0, .ref (ad 1 g0 0)), (1, .int a1)]) rfl ?_
  refine fw_aload_n C dX3_occupants_20 rfl 2 rfl ?_
  refine fw_get C (ci := 3) (Cn := RX3) (Tc := TX3) (N := 5) (j := 1) ly_X3_occupants_3 rfl (hG _ (List.mem_of_getElem? (i := 0) rfl)) (of1_0 _) (ce1 T ad _ _) (by decide) (cx_ts C _ fl_X3_occupants_12) (fun _ h => h) (v := .ref (ad 2 g0 0)) rfl dX3_occupants_21 ?_
  refine fw_getN C (ci := 8) (Cn := RX8) (Tc := TX8) (N := 15) (j := 6) ly_X3_occupants_8 rfl (hG _ (List.mem_of_getElem? (i := 1) rfl)) (of2_0 _) (ce2 T ad _ _) (by decide) (Nst_use (cx_nst C) (w := .fieldLinkNest RX3 82 "RecipeScheduler$State" "running" "I" "RecipeScheduler") 444 (by decide +kernel) rfl) (fun _ h => h) (v := .int (Y 2 g0 0 6)) rfl dX3_occupants_24 ?_
  refine fw_aload_n C dX3_occupants_27 rfl 2 rfl ?_
  refine fw_get C (ci := 3) (Cn := RX3) (Tc := TX3) (N := 5) (j := 1) ly_X3_occupants_3 rfl (hG _ (List.mem_of_getElem? (i := 0) rfl)) (of1_0 _) (ce1 T ad _ _) (by decide) (cx_ts C _ fl_X3_occupants_12) (fun _ h => h) (v := .ref (ad 2 g0 0)) rfl dX3_occupants_28 ?_
  refine fw_getN C (ci := 8) (Cn := RX8) (Tc := TX8) (N := 15) (j := 7) ly_X3_occupants_8 rfl (hG _ (List.mem_of_getElem? (i := 1) rfl)) (of2_0 _) (ce2 T ad _ _) (by decide) (Nst_use (cx_nst C) (w := .fieldLinkNest RX3 47 "RecipeScheduler$State" "done" "I" "RecipeScheduler") 447 (by decide +kernel) rfl) (fun _ h => h) (v := .int (Y 2 g0 0 7)) rfl dX3_occupants_31 ?_
  refine fw_ior C dX3_occupants_34 ?_
  obtain ⟨v7, e8, h⟩ := lt_some h
  refine fw_top (v' := .int v7) (by rw [e8]) ?_
  refine fw_istore C dX3_occupants_35 (by decide) (L' := [(4, .int v7), (3, .int v5), (2, .int v3), (0, .ref (ad 1 g0 0)), (1, .int a1)]) rfl ?_
  refine fw_iconst C dX3_occupants_37 (v := 0) rfl ?_
  refine fw_istore C dX3_occupants_38 (by decide) (L' := [(5, .int 0), (4, .int v7), (3, .int v5), (2, .int v3), (0, .ref (ad 1 g0 0)), (1, .int a1)]) rfl ?_
  refine fw_sub [0, 1, 2, 3, 4] (L' := [(5, .int 0), (4, .int v7), (3, .int v5), (2, .int v3), (0, .ref (ad 1 g0 0))]) rfl ?_
  exact w_X3_occupants_b40 C hrt hG   _ _ _ _ _ h
end
set_option maxRecDepth 100000 in
set_option maxHeartbeats 4000000 in
theorem c_X3_occupants {l : Launch} {N0 : Nat} {T : Nat → ClassId} {D : va_G} {gr : List (Nat × Nat)} {ad : Nat → Nat → Nat → Nat} {Y : Mem} {g0 : Nat} {a1 : Int32} {res : Int32} (hG : ∀ q ∈ ([(1, g0), (2, g0)] ++ allG), q ∈ gr) (h : X3_occupants Y g0 a1 = some res) : CI l yX3_occupants wsX3_occupants (Rm 0) N0 T D gr ad Y [.ref (ad 1 g0 0), .int a1] (fun r Y1 => r = res ∧ Y1 = Y) :=
  fw_body (by decide +kernel) rfl (Nat.le_of_ble_eq_true rfl) (fun p e s m below meth c C hrt => w_X3_occupants C hrt hG  h)
theorem ly_X3_hasFreePan_3 : ∀ w ∈ u_ws RX3 TX3 5, w ∈ wsX3_hasFreePan := by decide +kernel
theorem fl_X3_hasFreePan_28 : Cond.fieldLink RX3 28 "RecipeScheduler$Kitchen" "recipe" "LRecipeScheduler$Recipe;" ∈ wsX3_hasFreePan := by decide +kernel
theorem ly_X3_hasFreePan_5 : ∀ w ∈ u_ws RX5 TX5 17, w ∈ wsX3_hasFreePan := by decide +kernel
section
variable {p : Program} {l : Launch} {e : Env} {s : State} {m : MethodId} {below : List Frame} {meth : Method} {c : Code} {N0 : Nat} {T : Nat → ClassId} {D : va_G} {gr : List (Nat × Nat)} {ad : Nat → Nat → Nat → Nat}
set_option maxRecDepth 100000 in
set_option maxHeartbeats 4000000 in
theorem w_X3_hasFreePan_b35 {Y : Mem} {g0 : Nat} {a1 : Int32} (C : Cx p s m [.ref (ad 1 g0 0), .int a1].toArray meth c cX3_hasFreePan 3 wsX3_hasFreePan RX3 N0 T D gr ad) (hrt : meth.sig.returnType = (some .boolean)) (hG : ∀ q ∈ ([(1, g0), (2, g0)] ++ allG), q ∈ gr) {res : Int32}  (h : X3_hasFreePan_b35 Y g0 a1   = some res) : FW p l e (Rm 1) s m [.ref (ad 1 g0 0), .int a1].toArray below meth c 3 N0 T D gr ad 0 0 (MQ below (va_Qi (fun r Y1 => r = res ∧ Y1 = Y) (WB T D gr ad) (fun q => N0 ≤ q)) [.ref (ad 1 g0 0), .int a1].toArray s 0 0 (fun q => N0 ≤ q)) Y 35 [] [] := by
  unfold X3_hasFreePan_b35 at h
  refine fw_iconst C dX3_hasFreePan_35 (v := 1) rfl ?_
  refine fw_goto C dX3_hasFreePan_36 (tgt := 40) rfl ?_
  exact fw_zret C hrt (by decide) Y ⟨Option.some.inj h, rfl⟩ (fun t ht => ht) dX3_hasFreePan_40
set_option maxRecDepth 100000 in
set_option maxHeartbeats 4000000 in
theorem w_X3_hasFreePan {Y : Mem} {g0 : Nat} {a1 : Int32} (C : Cx p s m [.ref (ad 1 g0 0), .int a1].toArray meth c cX3_hasFreePan 3 wsX3_hasFreePan RX3 N0 T D gr ad) (hrt : meth.sig.returnType = (some .boolean)) (hG : ∀ q ∈ ([(1, g0), (2, g0)] ++ allG), q ∈ gr) {res : Int32} (h : X3_hasFreePan Y g0 a1 = some res) : FW p l e (Rm 1) s m [.ref (ad 1 g0 0), .int a1].toArray below meth c 3 N0 T D gr ad 0 0 (MQ below (va_Qi (fun r Y1 => r = res ∧ Y1 = Y) (WB T D gr ad) (fun q => N0 ≤ q)) [.ref (ad 1 g0 0), .int a1].toArray s 0 0 (fun q => N0 ≤ q)) Y 0 [(0, .ref (ad 1 g0 0)), (1, .int a1)] [] := by
  unfold X3_hasFreePan at h
  refine fw_aload_n C dX3_hasFreePan_0 rfl 0 rfl ?_
  refine fw_get C (ci := 3) (Cn := RX3) (Tc := TX3) (N := 5) (j := 0) ly_X3_hasFreePan_3 rfl (hG _ (List.mem_of_getElem? (i := 0) rfl)) (of1_0 _) (ce1 T ad _ _) (by decide) (cx_ts C _ fl_X3_hasFreePan_28) (fun _ h => h) (v := .ref (ad 3 ((Y 1 g0 0 0).toNatClampNeg) 0)) rfl dX3_hasFreePan_1 ?_
  obtain ⟨b1, h⟩ := gd_some h
  have b1 := of_decide_eq_true b1
  refine fw_getN C (ci := 5) (Cn := RX5) (Tc := TX5) (N := 17) (j := 10) ly_X3_hasFreePan_5 rfl ((fun q hq => hG q (List.mem_append_right _ hq)) _ (allG_3 b1)) (of3_0 _) (ce3 T ad _ _) (by decide) (Nst_use (cx_nst C) (w := .fieldLinkNest RX3 147 "RecipeScheduler$Recipe" "pan" "[I" "RecipeScheduler") 156 (by decide +kernel) rfl) (fun _ h => h) (v := .ref (ad 3 (((Y 1 g0 0 0).toNatClampNeg)) 5)) rfl dX3_hasFreePan_4 ?_
  refine fw_iload_n C dX3_hasFreePan_7 rfl 1 rfl ?_
  obtain ⟨b2, h⟩ := gd_some h
  refine fw_iald2 C ((fun q hq => hG q (List.mem_append_right _ hq)) _ (allG_3 b1)) (of3_5 _) (ca3_5 T ad _ _) b2 (Nat.le_of_ble_eq_true rfl) dX3_hasFreePan_8 ?_
  obtain ⟨v3, e4, h⟩ := lt_some h
  refine fw_top (v' := .int v3) (by rw [e4]) ?_
  refine fw_istore_n C dX3_hasFreePan_9 rfl (by decide) (L' := [(2, .int v3), (0, .ref (ad 1 g0 0)), (1, .int a1)]) rfl ?_
  refine fw_iload_n C dX3_hasFreePan_10 rfl 0 rfl ?_
  refine fw_iconst C dX3_hasFreePan_11 (v := (-1)) rfl ?_
  refine fw_icmp_eq C dX3_hasFreePan_12 (tgt := 35) rfl (fun c5 => ?_) (fun c5 => ?_)
  · have h := ite_t c5 h
    refine fw_sub [] (L' := []) rfl ?_
    exact w_X3_hasFreePan_b35 C hrt hG    h
  · have h := ite_f c5 h
    refine fw_aload_n C dX3_hasFreePan_15 rfl 1 rfl ?_
    refine fw_iload_n C dX3_hasFreePan_16 rfl 0 rfl ?_
    obtain ⟨r6, q7, h⟩ := bd1_some h
    refine fw_callVi C (ci := 3) (Cn := RX3) (Tc := TX3) (N := 5) (As := [.int v3]) (c_X3_occupants (gac (hG _ (List.mem_of_getElem? (i := 0) rfl)) (gac (hG _ (List.mem_of_getElem? (i := 1) rfl)) (fun q hq => hG q (List.mem_append_right _ hq)))) q7) (cwV 1 (cx_ts C) gX3_hasFreePan_X3_occupants rfl rfl rfl (by decide +kernel) ⟨Nat.le_of_ble_eq_true rfl, Nat.le_of_ble_eq_true rfl⟩) rfl (hG _ (List.mem_of_getElem? (i := 0) rfl)) (of1_0 _) (ce1 T ad _ _) rfl (st := []) rfl (Nat.le_of_ble_eq_true rfl) ⟨Nat.le_refl 0, Nat.le_refl 0⟩ dX3_hasFreePan_17 (pp2 ?_)
    obtain ⟨r8, q9, h⟩ := bd1_some h
    refine fw_callSi C (As := [.int r6]) (c_J6_bitCount_0f7a4 ga0 q9) (va_cwS 1 (cx_ts C) gX3_hasFreePan_J6_bitCount_0f7a4 rfl rfl rfl (by decide +kernel) ⟨Nat.le_of_ble_eq_true rfl, Nat.le_of_ble_eq_true rfl⟩) rfl (st := []) rfl (Nat.le_of_ble_eq_true rfl) ⟨Nat.le_refl 0, Nat.le_refl 0⟩ dX3_hasFreePan_20 (pp2 ?_)
    refine fw_aload_n C dX3_hasFreePan_23 rfl 1 rfl ?_
    refine fw_get C (ci := 3) (Cn := RX3) (Tc := TX3) (N := 5) (j := 0) ly_X3_hasFreePan_3 rfl (hG _ (List.mem_of_getElem? (i := 0) rfl)) (of1_0 _) (ce1 T ad _ _) (by decide) (cx_ts C _ fl_X3_hasFreePan_28) (fun _ h => h) (v := .ref (ad 3 ((Y 1 g0 0 0).toNatClampNeg) 0)) rfl dX3_hasFreePan_24 ?_
    refine fw_getN C (ci := 5) (Cn := RX5) (Tc := TX5) (N := 17) (j := 5) ly_X3_hasFreePan_5 rfl ((fun q hq => hG q (List.mem_append_right _ hq)) _ (allG_3 b1)) (of3_0 _) (ce3 T ad _ _) (by decide) (Nst_use (cx_nst C) (w := .fieldLinkNest RX3 153 "RecipeScheduler$Recipe" "capacity" "[I" "RecipeScheduler") 138 (by decide +kernel) rfl) (fun _ h => h) (v := .ref (ad 3 (((Y 1 g0 0 0).toNatClampNeg)) 1)) rfl dX3_hasFreePan_27 ?_
    refine fw_iload_n C dX3_hasFreePan_30 rfl 0 rfl ?_
    obtain ⟨b10, h⟩ := gd_some h
    refine fw_iald2 C ((fun q hq => hG q (List.mem_append_right _ hq)) _ (allG_3 b1)) (of3_1 _) (ca3_1 T ad _ _) b10 (Nat.le_of_ble_eq_true rfl) dX3_hasFreePan_31 ?_
    refine fw_icmp_ge C dX3_hasFreePan_32 (tgt := 39) rfl (fun c11 => ?_) (fun c11 => ?_)
    · have h := ite_t c11 h
      refine fw_iconst C dX3_hasFreePan_39 (v := 0) rfl ?_
      exact fw_zret C hrt (by decide) Y ⟨Option.some.inj h, rfl⟩ (fun t ht => ht) dX3_hasFreePan_40
    · have h := ite_f c11 h
      refine fw_sub [] (L' := []) rfl ?_
      exact w_X3_hasFreePan_b35 C hrt hG    h
end
set_option maxRecDepth 100000 in
set_option maxHeartbeats 4000000 in
theorem c_X3_hasFreePan {l : Launch} {N0 : Nat} {T : Nat → ClassId} {D : va_G} {gr : List (Nat × Nat)} {ad : Nat → Nat → Nat → Nat} {Y : Mem} {g0 : Nat} {a1 : Int32} {res : Int32} (hG : ∀ q ∈ ([(1, g0), (2, g0)] ++ allG), q ∈ gr) (h : X3_hasFreePan Y g0 a1 = some res) : CI l yX3_hasFreePan wsX3_hasFreePan (Rm 1) N0 T D gr ad Y [.ref (ad 1 g0 0), .int a1] (fun r Y1 => r = res ∧ Y1 = Y) :=
  fw_body (by decide +kernel) rfl (Nat.le_of_ble_eq_true rfl) (fun p e s m below meth c C hrt => w_X3_hasFreePan C hrt hG  h)
