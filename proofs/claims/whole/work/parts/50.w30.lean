theorem ly_X3_obstacle_3 : ∀ w ∈ u_ws RX3 TX3 5, w ∈ wsX3_obstacle := by decide +kernel
theorem fl_X3_obstacle_12 : Cond.fieldLink RX3 12 "RecipeScheduler$Kitchen" "state" "LRecipeScheduler$State;" ∈ wsX3_obstacle := by decide +kernel
theorem ly_X3_obstacle_8 : ∀ w ∈ u_ws RX8 TX8 15, w ∈ wsX3_obstacle := by decide +kernel
theorem in_X3_obstacle_11 : Cond.initialized RX11 ∈ wsX3_obstacle := by decide +kernel
theorem sw_X3_obstacle_X11_contains : Cond.static yX11_contains ∈ wsX3_obstacle := by decide +kernel
theorem fl_X3_obstacle_28 : Cond.fieldLink RX3 28 "RecipeScheduler$Kitchen" "recipe" "LRecipeScheduler$Recipe;" ∈ wsX3_obstacle := by decide +kernel
theorem ly_X3_obstacle_5 : ∀ w ∈ u_ws RX5 TX5 17, w ∈ wsX3_obstacle := by decide +kernel
section
variable {p : Program} {l : Launch} {e : Env} {s : State} {m : MethodId} {below : List Frame} {meth : Method} {c : Code} {N0 : Nat} {T : Nat → ClassId} {D : va_G} {gr : List (Nat × Nat)} {ad : Nat → Nat → Nat → Nat}
set_option maxRecDepth 100000 in
set_option maxHeartbeats 4000000 in
theorem w_X3_obstacle {Y : Mem} {g0 : Nat} {a1 : Int32} (C : Cx p s m [.ref (ad 1 g0 0), .int a1].toArray meth c cX3_obstacle 2 wsX3_obstacle RX3 N0 T D gr ad) (hrt : meth.sig.returnType = (some .int)) (hG : ∀ q ∈ ([(1, g0), (2, g0)] ++ allG), q ∈ gr) {res : Int32} (h : X3_obstacle Y g0 a1 = some res) : FW p l e (Rm 2) s m [.ref (ad 1 g0 0), .int a1].toArray below meth c 2 N0 T D gr ad 0 0 (MQ below (va_Qi (fun r Y1 => r = res ∧ Y1 = Y) (WB T D gr ad) (fun q => N0 ≤ q)) [.ref (ad 1 g0 0), .int a1].toArray s 0 0 (fun q => N0 ≤ q)) Y 0 [(0, .ref (ad 1 g0 0)), (1, .int a1)] [] := by
  unfold X3_obstacle at h
  refine fw_aload_n C dX3_obstacle_0 rfl 0 rfl ?_
  refine fw_get C (ci := 1) (Cn := RX3) (Tc := TX3) (N := 5) (j := 1) ly_X3_obstacle_3 rfl (hG _ (List.mem_of_getElem? (i := 0) rfl)) (of1_0 _) (ce1 T ad _ _) (by decide) (cx_ts C _ fl_X3_obstacle_12) (fun _ h => h) (v := .ref (ad 2 g0 0)) rfl dX3_obstacle_1 ?_
  refine fw_getN C (ci := 6) (Cn := RX8) (Tc := TX8) (N := 15) (j := 6) ly_X3_obstacle_8 rfl (hG _ (List.mem_of_getElem? (i := 1) rfl)) (of2_0 _) (ce2 T ad _ _) (by decide) (Nst_use (cx_nst C) (w := .fieldLinkNest RX3 82 "RecipeScheduler$State" "running" "I" "RecipeScheduler") 456 (by decide +kernel) rfl) (fun _ h => h) (v := .int (Y 2 g0 0 6)) rfl dX3_obstacle_4 ?_
  refine fw_iload_n C dX3_obstacle_7 rfl 1 rfl ?_
  obtain ⟨r1, q2, h⟩ := bd1_some h
  refine fw_callSNi C (As := [.int (Y 2 g0 0 6), .int a1]) (c_X11_contains ga0 q2) ⟨(va_cnB 2 (cx_ts C) gX3_obstacle_X11_contains_n100 rfl rfl rfl (cx_nw C (w := .methodLinkNest RX3 100 yX11_contains "RecipeScheduler") 627 (by decide +kernel) rfl) (cx_ts C _ in_X3_obstacle_11) (by decide +kernel) ⟨Nat.le_of_ble_eq_true rfl, Nat.le_of_ble_eq_true rfl⟩), cx_ts C _ sw_X3_obstacle_X11_contains, trivial⟩ rfl (st := []) rfl (Nat.le_of_ble_eq_true rfl) ⟨Nat.le_refl 0, Nat.le_refl 0⟩ dX3_obstacle_8 (pp2 ?_)
  refine fw_if_eq C dX3_obstacle_11 (tgt := 16) rfl (fun c3 => ?_) (fun c3 => ?_)
  · have h := ite_t c3 h
    refine fw_aload_n C dX3_obstacle_16 rfl 0 rfl ?_
    refine fw_get C (ci := 1) (Cn := RX3) (Tc := TX3) (N := 5) (j := 1) ly_X3_obstacle_3 rfl (hG _ (List.mem_of_getElem? (i := 0) rfl)) (of1_0 _) (ce1 T ad _ _) (by decide) (cx_ts C _ fl_X3_obstacle_12) (fun _ h => h) (v := .ref (ad 2 g0 0)) rfl dX3_obstacle_17 ?_
    refine fw_getN C (ci := 6) (Cn := RX8) (Tc := TX8) (N := 15) (j := 7) ly_X3_obstacle_8 rfl (hG _ (List.mem_of_getElem? (i := 1) rfl)) (of2_0 _) (ce2 T ad _ _) (by decide) (Nst_use (cx_nst C) (w := .fieldLinkNest RX3 47 "RecipeScheduler$State" "done" "I" "RecipeScheduler") 459 (by decide +kernel) rfl) (fun _ h => h) (v := .int (Y 2 g0 0 7)) rfl dX3_obstacle_20 ?_
    refine fw_iload_n C dX3_obstacle_23 rfl 1 rfl ?_
    obtain ⟨r4, q5, h⟩ := bd1_some h
    refine fw_callSNi C (As := [.int (Y 2 g0 0 7), .int a1]) (c_X11_contains ga0 q5) ⟨(va_cnB 2 (cx_ts C) gX3_obstacle_X11_contains_n100 rfl rfl rfl (cx_nw C (w := .methodLinkNest RX3 100 yX11_contains "RecipeScheduler") 627 (by decide +kernel) rfl) (cx_ts C _ in_X3_obstacle_11) (by decide +kernel) ⟨Nat.le_of_ble_eq_true rfl, Nat.le_of_ble_eq_true rfl⟩), cx_ts C _ sw_X3_obstacle_X11_contains, trivial⟩ rfl (st := []) rfl (Nat.le_of_ble_eq_true rfl) ⟨Nat.le_refl 0, Nat.le_refl 0⟩ dX3_obstacle_24 (pp2 ?_)
    refine fw_if_eq C dX3_obstacle_27 (tgt := 32) rfl (fun c6 => ?_) (fun c6 => ?_)
    · have h := ite_t c6 h
      refine fw_aload_n C dX3_obstacle_32 rfl 0 rfl ?_
      refine fw_get C (ci := 1) (Cn := RX3) (Tc := TX3) (N := 5) (j := 0) ly_X3_obstacle_3 rfl (hG _ (List.mem_of_getElem? (i := 0) rfl)) (of1_0 _) (ce1 T ad _ _) (by decide) (cx_ts C _ fl_X3_obstacle_28) (fun _ h => h) (v := .ref (ad 3 ((Y 1 g0 0 0).toNatClampNeg) 0)) rfl dX3_obstacle_33 ?_
      obtain ⟨b7, h⟩ := gd_some h
      have b7 := of_decide_eq_true b7
      refine fw_getN C (ci := 3) (Cn := RX5) (Tc := TX5) (N := 17) (j := 13) ly_X3_obstacle_5 rfl ((fun q hq => hG q (List.mem_append_right _ hq)) _ (allG_3 b7)) (of3_0 _) (ce3 T ad _ _) (by decide) (Nst_use (cx_nst C) (w := .fieldLinkNest RX3 138 "RecipeScheduler$Recipe" "predecessorSet" "[I" "RecipeScheduler") 171 (by decide +kernel) rfl) (fun _ h => h) (v := .ref (ad 3 (((Y 1 g0 0 0).toNatClampNeg)) 8)) rfl dX3_obstacle_36 ?_
      refine fw_iload_n C dX3_obstacle_39 rfl 1 rfl ?_
      obtain ⟨b8, h⟩ := gd_some h
      refine fw_iald2 C ((fun q hq => hG q (List.mem_append_right _ hq)) _ (allG_3 b7)) (of3_8 _) (ca3_8 T ad _ _) b8 (Nat.le_of_ble_eq_true rfl) dX3_obstacle_40 ?_
      refine fw_aload_n C dX3_obstacle_41 rfl 0 rfl ?_
      refine fw_get C (ci := 1) (Cn := RX3) (Tc := TX3) (N := 5) (j := 1) ly_X3_obstacle_3 rfl (hG _ (List.mem_of_getElem? (i := 0) rfl)) (of1_0 _) (ce1 T ad _ _) (by decide) (cx_ts C _ fl_X3_obstacle_12) (fun _ h => h) (v := .ref (ad 2 g0 0)) rfl dX3_obstacle_42 ?_
      refine fw_getN C (ci := 6) (Cn := RX8) (Tc := TX8) (N := 15) (j := 7) ly_X3_obstacle_8 rfl (hG _ (List.mem_of_getElem? (i := 1) rfl)) (of2_0 _) (ce2 T ad _ _) (by decide) (Nst_use (cx_nst C) (w := .fieldLinkNest RX3 47 "RecipeScheduler$State" "done" "I" "RecipeScheduler") 459 (by decide +kernel) rfl) (fun _ h => h) (v := .int (Y 2 g0 0 7)) rfl dX3_obstacle_45 ?_
      refine fw_iconst C dX3_obstacle_48 (v := (-1)) rfl ?_
      refine fw_ixor C dX3_obstacle_49 ?_
      refine fw_iand C dX3_obstacle_50 ?_
      refine fw_if_eq C dX3_obstacle_51 (tgt := 56) rfl (fun c9 => ?_) (fun c9 => ?_)
      · have h := ite_t c9 h
        refine fw_aload_n C dX3_obstacle_56 rfl 0 rfl ?_
        refine fw_iload_n C dX3_obstacle_57 rfl 1 rfl ?_
        obtain ⟨r10, q11, h⟩ := bd1_some h
        refine fw_callVi C (ci := 1) (Cn := RX3) (Tc := TX3) (N := 5) (As := [.int a1]) (c_X3_hasFreePan (gac (hG _ (List.mem_of_getElem? (i := 0) rfl)) (gac (hG _ (List.mem_of_getElem? (i := 1) rfl)) (fun q hq => hG q (List.mem_append_right _ hq)))) q11) (cwV 1 (cx_ts C) gX3_obstacle_X3_hasFreePan rfl rfl rfl (by decide +kernel) ⟨Nat.le_of_ble_eq_true rfl, Nat.le_of_ble_eq_true rfl⟩) rfl (hG _ (List.mem_of_getElem? (i := 0) rfl)) (of1_0 _) (ce1 T ad _ _) rfl (st := []) rfl (Nat.le_of_ble_eq_true rfl) ⟨Nat.le_refl 0, Nat.le_refl 0⟩ dX3_obstacle_58 (pp2 ?_)
        refine fw_if_ne C dX3_obstacle_61 (tgt := 66) rfl (fun c12 => ?_) (fun c12 => ?_)
        · have h := ite_f c12 h
          refine fw_aload_n C dX3_obstacle_66 rfl 0 rfl ?_
          refine fw_iload_n C dX3_obstacle_67 rfl 1 rfl ?_
          obtain ⟨r13, q14, h⟩ := bd1_some h
          refine fw_callVi C (ci := 1) (Cn := RX3) (Tc := TX3) (N := 5) (As := [.int a1]) (c_X3_hasFreeCook (gac (hG _ (List.mem_of_getElem? (i := 0) rfl)) (gac (hG _ (List.mem_of_getElem? (i := 1) rfl)) (fun q hq => hG q (List.mem_append_right _ hq)))) q14) (cwV 1 (cx_ts C) gX3_obstacle_X3_hasFreeCook rfl rfl rfl (by decide +kernel) ⟨Nat.le_of_ble_eq_true rfl, Nat.le_of_ble_eq_true rfl⟩) rfl (hG _ (List.mem_of_getElem? (i := 0) rfl)) (of1_0 _) (ce1 T ad _ _) rfl (st := []) rfl (Nat.le_of_ble_eq_true rfl) ⟨Nat.le_refl 0, Nat.le_refl 0⟩ dX3_obstacle_68 (pp2 ?_)
          refine fw_if_eq C dX3_obstacle_71 (tgt := 78) rfl (fun c15 => ?_) (fun c15 => ?_)
          · have h := ite_t c15 h
            refine fw_iconst C dX3_obstacle_78 (v := 4) rfl ?_
            exact fw_iret C hrt Y ⟨Option.some.inj h, rfl⟩ (fun t ht => ht) dX3_obstacle_79
          · have h := ite_f c15 h
            refine fw_iconst C dX3_obstacle_74 (v := 5) rfl ?_
            refine fw_goto C dX3_obstacle_75 (tgt := 79) rfl ?_
            exact fw_iret C hrt Y ⟨Option.some.inj h, rfl⟩ (fun t ht => ht) dX3_obstacle_79
        · have h := ite_t c12 h
          refine fw_iconst C dX3_obstacle_64 (v := 3) rfl ?_
          exact fw_iret C hrt Y ⟨Option.some.inj h, rfl⟩ (fun t ht => ht) dX3_obstacle_65
      · have h := ite_f c9 h
        refine fw_iconst C dX3_obstacle_54 (v := 2) rfl ?_
        exact fw_iret C hrt Y ⟨Option.some.inj h, rfl⟩ (fun t ht => ht) dX3_obstacle_55
    · have h := ite_f c6 h
      refine fw_iconst C dX3_obstacle_30 (v := 1) rfl ?_
      exact fw_iret C hrt Y ⟨Option.some.inj h, rfl⟩ (fun t ht => ht) dX3_obstacle_31
  · have h := ite_f c3 h
    refine fw_iconst C dX3_obstacle_14 (v := 0) rfl ?_
    exact fw_iret C hrt Y ⟨Option.some.inj h, rfl⟩ (fun t ht => ht) dX3_obstacle_15
end
set_option maxRecDepth 100000 in
set_option maxHeartbeats 4000000 in
theorem c_X3_obstacle {l : Launch} {N0 : Nat} {T : Nat → ClassId} {D : va_G} {gr : List (Nat × Nat)} {ad : Nat → Nat → Nat → Nat} {Y : Mem} {g0 : Nat} {a1 : Int32} {res : Int32} (hG : ∀ q ∈ ([(1, g0), (2, g0)] ++ allG), q ∈ gr) (h : X3_obstacle Y g0 a1 = some res) : CI l yX3_obstacle wsX3_obstacle (Rm 2) N0 T D gr ad Y [.ref (ad 1 g0 0), .int a1] (fun r Y1 => r = res ∧ Y1 = Y) :=
  fw_body (by decide +kernel) rfl (Nat.le_of_ble_eq_true rfl) (fun p e s m below meth c C hrt => w_X3_obstacle C hrt hG  h)
theorem ly_X3_missingBefore_3 : ∀ w ∈ u_ws RX3 TX3 5, w ∈ wsX3_missingBefore := by decide +kernel
theorem fl_X3_missingBefore_28 : Cond.fieldLink RX3 28 "RecipeScheduler$Kitchen" "recipe" "LRecipeScheduler$Recipe;" ∈ wsX3_missingBefore := by decide +kernel
theorem ly_X3_missingBefore_5 : ∀ w ∈ u_ws RX5 TX5 17, w ∈ wsX3_missingBefore := by decide +kernel
theorem fl_X3_missingBefore_12 : Cond.fieldLink RX3 12 "RecipeScheduler$Kitchen" "state" "LRecipeScheduler$State;" ∈ wsX3_missingBefore := by decide +kernel
theorem ly_X3_missingBefore_8 : ∀ w ∈ u_ws RX8 TX8 15, w ∈ wsX3_missingBefore := by decide +kernel
theorem in_X3_missingBefore_11 : Cond.initialized RX11 ∈ wsX3_missingBefore := by decide +kernel
theorem sw_X3_missingBefore_X11_contains : Cond.static yX11_contains ∈ wsX3_missingBefore := by decide +kernel
section
variable {p : Program} {l : Launch} {e : Env} {s : State} {m : MethodId} {below : List Frame} {meth : Method} {c : Code} {N0 : Nat} {T : Nat → ClassId} {D : va_G} {gr : List (Nat × Nat)} {ad : Nat → Nat → Nat → Nat}
set_option maxRecDepth 100000 in
set_option maxHeartbeats 4000000 in
theorem w_X3_missingBefore_b2 {Y : Mem} {g0 : Nat} {a1 : Int32} (C : Cx p s m [.ref (ad 1 g0 0), .int a1].toArray meth c cX3_missingBefore 4 wsX3_missingBefore RX3 N0 T D gr ad) (hrt : meth.sig.returnType = (some .int)) (hG : ∀ q ∈ ([(1, g0), (2, g0)] ++ allG), q ∈ gr) {res : Int32} : ∀ (n : Nat) (l2 : Int32), X3_missingBefore_b2 Y g0 a1  n l2 = some res → FW p l e (Rm 1) s m [.ref (ad 1 g0 0), .int a1].toArray below meth c 4 N0 T D gr ad 0 0 (MQ below (va_Qi (fun r Y1 => r = res ∧ Y1 = Y) (WB T D gr ad) (fun q => N0 ≤ q)) [.ref (ad 1 g0 0), .int a1].toArray s 0 0 (fun q => N0 ≤ q)) Y 2 [(2, .int l2), (0, .ref (ad 1 g0 0)), (1, .int a1)] [] := by
  intro n
  induction n with
  | zero =>
    intro l2 h
    unfold X3_missingBefore_b2 at h
    cases h
  | succ n ih =>
    intro l2 h
    unfold X3_missingBefore_b2 at h
    refine fw_iload_n C dX3_missingBefore_2 rfl 0 rfl ?_
    refine fw_aload_n C dX3_missingBefore_3 rfl 1 rfl ?_
    refine fw_get C (ci := 1) (Cn := RX3) (Tc := TX3) (N := 5) (j := 0) ly_X3_missingBefore_3 rfl (hG _ (List.mem_of_getElem? (i := 0) rfl)) (of1_0 _) (ce1 T ad _ _) (by decide) (cx_ts C _ fl_X3_missingBefore_28) (fun _ h => h) (v := .ref (ad 3 ((Y 1 g0 0 0).toNatClampNeg) 0)) rfl dX3_missingBefore_4 ?_
    obtain ⟨b1, h⟩ := gd_some h
    have b1 := of_decide_eq_true b1
    refine fw_getN C (ci := 3) (Cn := RX5) (Tc := TX5) (N := 17) (j := 12) ly_X3_missingBefore_5 rfl ((fun q hq => hG q (List.mem_append_right _ hq)) _ (allG_3 b1)) (of3_0 _) (ce3 T ad _ _) (by decide) (Nst_use (cx_nst C) (w := .fieldLinkNest RX3 184 "RecipeScheduler$Recipe" "predecessorCount" "[I" "RecipeScheduler") 167 (by decide +kernel) rfl) (fun _ h => h) (v := .ref (ad 3 (((Y 1 g0 0 0).toNatClampNeg)) 7)) rfl dX3_missingBefore_7 ?_
    refine fw_iload_n C dX3_missingBefore_10 rfl 2 rfl ?_
    obtain ⟨b2, h⟩ := gd_some h
    refine fw_iald2 C ((fun q hq => hG q (List.mem_append_right _ hq)) _ (allG_3 b1)) (of3_7 _) (ca3_7 T ad _ _) b2 (Nat.le_of_ble_eq_true rfl) dX3_missingBefore_11 ?_
    refine fw_icmp_ge C dX3_missingBefore_12 (tgt := 49) rfl (fun c3 => ?_) (fun c3 => ?_)
    · have h := ite_t c3 h
      refine fw_iconst C dX3_missingBefore_49 (v := (-1)) rfl ?_
      exact fw_iret C hrt Y ⟨Option.some.inj h, rfl⟩ (fun t ht => ht) dX3_missingBefore_50
    · have h := ite_f c3 h
      refine fw_aload_n C dX3_missingBefore_15 rfl 1 rfl ?_
      refine fw_get C (ci := 1) (Cn := RX3) (Tc := TX3) (N := 5) (j := 0) ly_X3_missingBefore_3 rfl (hG _ (List.mem_of_getElem? (i := 0) rfl)) (of1_0 _) (ce1 T ad _ _) (by decide) (cx_ts C _ fl_X3_missingBefore_28) (fun _ h => h) (v := .ref (ad 3 ((Y 1 g0 0 0).toNatClampNeg) 0)) rfl dX3_missingBefore_16 ?_
      refine fw_getN C (ci := 3) (Cn := RX5) (Tc := TX5) (N := 17) (j := 11) ly_X3_missingBefore_5 rfl ((fun q hq => hG q (List.mem_append_right _ hq)) _ (allG_3 b1)) (of3_0 _) (ce3 T ad _ _) (by decide) (Nst_use (cx_nst C) (w := .fieldLinkNest RX3 187 "RecipeScheduler$Recipe" "predecessors" "[[I" "RecipeScheduler") 163 (by decide +kernel) rfl) (fun _ h => h) (v := .ref (ad 3 (((Y 1 g0 0 0).toNatClampNeg)) 6)) rfl dX3_missingBefore_19 ?_
      refine fw_iload_n C dX3_missingBefore_22 rfl 2 rfl ?_
      refine fw_aald2 C 5 ((fun q hq => hG q (List.mem_append_right _ hq)) _ (allG_3 b1)) (of3_6 _) (ca3_6 T ad _ _) rfl rfl b2 (Nat.le_of_ble_eq_true rfl) (v := .ref (ad 3 (((Y 1 g0 0 0).toNatClampNeg)) (20+ix a1))) rfl dX3_missingBefore_23 ?_
      refine fw_iload_n C dX3_missingBefore_24 rfl 0 rfl ?_
      obtain ⟨b4, h⟩ := gd_some h
      refine fw_iald2 C ((fun q hq => hG q (List.mem_append_right _ hq)) _ (allG_3 b1)) (of3_r _ (inb_lt b2)) (ca3_r T ad _ _ _) b4 (Nat.le_of_ble_eq_true rfl) dX3_missingBefore_25 ?_
      obtain ⟨v5, e6, h⟩ := lt_some h
      refine fw_top (v' := .int v5) (by rw [e6]) ?_
      refine fw_istore_n C dX3_missingBefore_26 rfl (by decide) (L' := [(3, .int v5), (2, .int l2), (0, .ref (ad 1 g0 0)), (1, .int a1)]) rfl ?_
      refine fw_aload_n C dX3_missingBefore_27 rfl 2 rfl ?_
      refine fw_get C (ci := 1) (Cn := RX3) (Tc := TX3) (N := 5) (j := 1) ly_X3_missingBefore_3 rfl (hG _ (List.mem_of_getElem? (i := 0) rfl)) (of1_0 _) (ce1 T ad _ _) (by decide) (cx_ts C _ fl_X3_missingBefore_12) (fun _ h => h) (v := .ref (ad 2 g0 0)) rfl dX3_missingBefore_28 ?_
      refine fw_getN C (ci := 6) (Cn := RX8) (Tc := TX8) (N := 15) (j := 7) ly_X3_missingBefore_8 rfl (hG _ (List.mem_of_getElem? (i := 1) rfl)) (of2_0 _) (ce2 T ad _ _) (by decide) (Nst_use (cx_nst C) (w := .fieldLinkNest RX3 47 "RecipeScheduler$State" "done" "I" "RecipeScheduler") 459 (by decide +kernel) rfl) (fun _ h => h) (v := .int (Y 2 g0 0 7)) rfl dX3_missingBefore_31 ?_
      refine fw_iload_n C dX3_missingBefore_34 rfl 0 rfl ?_
      obtain ⟨r7, q8, h⟩ := bd1_some h
      refine fw_callSNi C (As := [.int (Y 2 g0 0 7), .int v5]) (c_X11_contains ga0 q8) ⟨(va_cnB 2 (cx_ts C) gX3_missingBefore_X11_contains_n100 rfl rfl rfl (cx_nw C (w := .methodLinkNest RX3 100 yX11_contains "RecipeScheduler") 627 (by decide +kernel) rfl) (cx_ts C _ in_X3_missingBefore_11) (by decide +kernel) ⟨Nat.le_of_ble_eq_true rfl, Nat.le_of_ble_eq_true rfl⟩), cx_ts C _ sw_X3_missingBefore_X11_contains, trivial⟩ rfl (st := []) rfl (Nat.le_of_ble_eq_true rfl) ⟨Nat.le_refl 0, Nat.le_refl 0⟩ dX3_missingBefore_35 (pp2 ?_)
      refine fw_if_ne C dX3_missingBefore_38 (tgt := 43) rfl (fun c9 => ?_) (fun c9 => ?_)
      · have h := ite_f c9 h
        refine fw_iinc C dX3_missingBefore_43 (kk := 1) (v := l2 + 1) rfl rfl (by decide) (L' := [(2, .int (l2 + 1)), (3, .int v5), (0, .ref (ad 1 g0 0)), (1, .int a1)]) rfl ?_
        refine fw_goto C dX3_missingBefore_46 (tgt := 2) rfl ?_
        refine fw_sub [0, 2, 3] (L' := [(2, .int (l2 + 1)), (0, .ref (ad 1 g0 0)), (1, .int a1)]) rfl ?_
        exact ih _ h
      · have h := ite_t c9 h
        refine fw_iload_n C dX3_missingBefore_41 rfl 0 rfl ?_
        exact fw_iret C hrt Y ⟨Option.some.inj h, rfl⟩ (fun t ht => ht) dX3_missingBefore_42
set_option maxRecDepth 100000 in
set_option maxHeartbeats 4000000 in
theorem w_X3_missingBefore {Y : Mem} {g0 : Nat} {a1 : Int32} (C : Cx p s m [.ref (ad 1 g0 0), .int a1].toArray meth c cX3_missingBefore 4 wsX3_missingBefore RX3 N0 T D gr ad) (hrt : meth.sig.returnType = (some .int)) (hG : ∀ q ∈ ([(1, g0), (2, g0)] ++ allG), q ∈ gr) {res : Int32} (h : X3_missingBefore Y g0 a1 = some res) : FW p l e (Rm 1) s m [.ref (ad 1 g0 0), .int a1].toArray below meth c 4 N0 T D gr ad 0 0 (MQ below (va_Qi (fun r Y1 => r = res ∧ Y1 = Y) (WB T D gr ad) (fun q => N0 ≤ q)) [.ref (ad 1 g0 0), .int a1].toArray s 0 0 (fun q => N0 ≤ q)) Y 0 [(0, .ref (ad 1 g0 0)), (1, .int a1)] [] := by
  unfold X3_missingBefore at h
  refine fw_iconst C dX3_missingBefore_0 (v := 0) rfl ?_
  refine fw_istore_n C dX3_missingBefore_1 rfl (by decide) (L' := [(2, .int 0), (0, .ref (ad 1 g0 0)), (1, .int a1)]) rfl ?_
  exact w_X3_missingBefore_b2 C hrt hG   _ _ h
end
set_option maxRecDepth 100000 in
set_option maxHeartbeats 4000000 in
theorem c_X3_missingBefore {l : Launch} {N0 : Nat} {T : Nat → ClassId} {D : va_G} {gr : List (Nat × Nat)} {ad : Nat → Nat → Nat → Nat} {Y : Mem} {g0 : Nat} {a1 : Int32} {res : Int32} (hG : ∀ q ∈ ([(1, g0), (2, g0)] ++ allG), q ∈ gr) (h : X3_missingBefore Y g0 a1 = some res) : CI l yX3_missingBefore wsX3_missingBefore (Rm 1) N0 T D gr ad Y [.ref (ad 1 g0 0), .int a1] (fun r Y1 => r = res ∧ Y1 = Y) :=
  fw_body (by decide +kernel) rfl (Nat.le_of_ble_eq_true rfl) (fun p e s m below meth c C hrt => w_X3_missingBefore C hrt hG  h)
section
variable {p : Program} {l : Launch} {e : Env} {s : State} {m : MethodId} {below : List Frame} {meth : Method} {c : Code} {N0 : Nat} {T : Nat → ClassId} {D : va_G} {gr : List (Nat × Nat)} {ad : Nat → Nat → Nat → Nat}
set_option maxRecDepth 100000 in
set_option maxHeartbeats 4000000 in
theorem w_X11_lowestOf_b2 {Y : Mem} {a0 : Int32} (C : Cx p s m [.int a0].toArray meth c cX11_lowestOf 2 wsX11_lowestOf RX11 N0 T D gr ad) (hrt : meth.sig.returnType = (some .int)) (hG : ∀ q ∈ [], q ∈ gr) {res : Int32} : ∀ (n : Nat) (l1 : Int32), X11_lowestOf_b2 Y a0  n l1 = some res → FW p l e (Rm 1) s m [.int a0].toArray below meth c 2 N0 T D gr ad 0 0 (MQ below (va_Qi (fun r Y1 => r = res ∧ Y1 = Y) (WB T D gr ad) (fun q => N0 ≤ q)) [.int a0].toArray s 0 0 (fun q => N0 ≤ q)) Y 2 [(1, .int l1), (0, .int a0)] [] := by
  intro n
  induction n with
  | zero =>
    intro l1 h
    unfold X11_lowestOf_b2 at h
    cases h
  | succ n ih =>
    intro l1 h
    unfold X11_lowestOf_b2 at h
    refine fw_iload_n C dX11_lowestOf_2 rfl 0 rfl ?_
    refine fw_bipush C dX11_lowestOf_3 (v := 14) rfl ?_
    refine fw_icmp_ge C dX11_lowestOf_5 (tgt := 24) rfl (fun c1 => ?_) (fun c1 => ?_)
    · have h := ite_t c1 h
      refine fw_iconst C dX11_lowestOf_24 (v := (-1)) rfl ?_
      exact fw_iret C hrt Y ⟨Option.some.inj h, rfl⟩ (fun t ht => ht) dX11_lowestOf_25
    · have h := ite_f c1 h
      refine fw_iload_n C dX11_lowestOf_8 rfl 1 rfl ?_
      refine fw_iload_n C dX11_lowestOf_9 rfl 0 rfl ?_
      obtain ⟨r2, q3, h⟩ := bd1_some h
      refine fw_callSi C (As := [.int a0, .int l1]) (c_X11_contains ga0 q3) (va_cwS 2 (cx_ts C) gX11_lowestOf_X11_contains rfl rfl rfl (by decide +kernel) ⟨Nat.le_of_ble_eq_true rfl, Nat.le_of_ble_eq_true rfl⟩) rfl (st := []) rfl (Nat.le_of_ble_eq_true rfl) ⟨Nat.le_refl 0, Nat.le_refl 0⟩ dX11_lowestOf_10 (pp2 ?_)
      refine fw_if_eq C dX11_lowestOf_13 (tgt := 18) rfl (fun c4 => ?_) (fun c4 => ?_)
      · have h := ite_t c4 h
        refine fw_iinc C dX11_lowestOf_18 (kk := 0) (v := l1 + 1) rfl rfl (by decide) (L' := [(1, .int (l1 + 1)), (0, .int a0)]) rfl ?_
        refine fw_goto C dX11_lowestOf_21 (tgt := 2) rfl ?_
        exact ih _ h
      · have h := ite_f c4 h
        refine fw_iload_n C dX11_lowestOf_16 rfl 0 rfl ?_
        exact fw_iret C hrt Y ⟨Option.some.inj h, rfl⟩ (fun t ht => ht) dX11_lowestOf_17
set_option maxRecDepth 100000 in
set_option maxHeartbeats 4000000 in
theorem w_X11_lowestOf {Y : Mem} {a0 : Int32} (C : Cx p s m [.int a0].toArray meth c cX11_lowestOf 2 wsX11_lowestOf RX11 N0 T D gr ad) (hrt : meth.sig.returnType = (some .int)) (hG : ∀ q ∈ [], q ∈ gr) {res : Int32} (h : X11_lowestOf Y a0 = some res) : FW p l e (Rm 1) s m [.int a0].toArray below meth c 2 N0 T D gr ad 0 0 (MQ below (va_Qi (fun r Y1 => r = res ∧ Y1 = Y) (WB T D gr ad) (fun q => N0 ≤ q)) [.int a0].toArray s 0 0 (fun q => N0 ≤ q)) Y 0 [(0, .int a0)] [] := by
  unfold X11_lowestOf at h
  refine fw_iconst C dX11_lowestOf_0 (v := 0) rfl ?_
  refine fw_istore_n C dX11_lowestOf_1 rfl (by decide) (L' := [(1, .int 0), (0, .int a0)]) rfl ?_
  exact w_X11_lowestOf_b2 C hrt hG   _ _ h
end
set_option maxRecDepth 100000 in
set_option maxHeartbeats 4000000 in
theorem c_X11_lowestOf {l : Launch} {N0 : Nat} {T : Nat → ClassId} {D : va_G} {gr : List (Nat × Nat)} {ad : Nat → Nat → Nat → Nat} {Y : Mem} {a0 : Int32} {res : Int32} (hG : ∀ q ∈ [], q ∈ gr) (h : X11_lowestOf Y a0 = some res) : CI l yX11_lowestOf wsX11_lowestOf (Rm 1) N0 T D gr ad Y [.int a0] (fun r Y1 => r = res ∧ Y1 = Y) :=
  fw_body (by decide +kernel) rfl (Nat.le_of_ble_eq_true rfl) (fun p e s m below meth c C hrt => w_X11_lowestOf C hrt hG  h)
theorem ly_X3_blocker_3 : ∀ w ∈ u_ws RX3 TX3 5, w ∈ wsX3_blocker := by decide +kernel
theorem fl_X3_blocker_28 : Cond.fieldLink RX3 28 "RecipeScheduler$Kitchen" "recipe" "LRecipeScheduler$Recipe;" ∈ wsX3_blocker := by decide +kernel
theorem ly_X3_blocker_5 : ∀ w ∈ u_ws RX5 TX5 17, w ∈ wsX3_blocker := by decide +kernel
theorem in_X3_blocker_11 : Cond.initialized RX11 ∈ wsX3_blocker := by decide +kernel
theorem sw_X3_blocker_X11_lowestOf : Cond.static yX11_lowestOf ∈ wsX3_blocker := by decide +kernel
theorem fl_X3_blocker_12 : Cond.fieldLink RX3 12 "RecipeScheduler$Kitchen" "state" "LRecipeScheduler$State;" ∈ wsX3_blocker := by decide +kernel
theorem ly_X3_blocker_8 : ∀ w ∈ u_ws RX8 TX8 15, w ∈ wsX3_blocker := by decide +kernel
section
variable {p : Program} {l : Launch} {e : Env} {s : State} {m : MethodId} {below : List Frame} {meth : Method} {c : Code} {N0 : Nat} {T : Nat → ClassId} {D : va_G} {gr : List (Nat × Nat)} {ad : Nat → Nat → Nat → Nat}
set_option maxRecDepth 100000 in
set_option maxHeartbeats 4000000 in
theorem w_X3_blocker {Y : Mem} {g0 : Nat} {a1 : Int32} (C : Cx p s m [.ref (ad 1 g0 0), .int a1].toArray meth c cX3_blocker 2 wsX3_blocker RX3 N0 T D gr ad) (hrt : meth.sig.returnType = (some .int)) (hG : ∀ q ∈ ([(2, g0), (1, g0)] ++ allG), q ∈ gr) {res : Int32} (h : X3_blocker Y g0 a1 = some res) : FW p l e (Rm 3) s m [.ref (ad 1 g0 0), .int a1].toArray below meth c 2 N0 T D gr ad 0 0 (MQ below (va_Qi (fun r Y1 => r = res ∧ Y1 = Y) (WB T D gr ad) (fun q => N0 ≤ q)) [.ref (ad 1 g0 0), .int a1].toArray s 0 0 (fun q => N0 ≤ q)) Y 0 [(0, .ref (ad 1 g0 0)), (1, .int a1)] [] := by
  unfold X3_blocker at h
  refine fw_aload_n C dX3_blocker_0 rfl 0 rfl ?_
  refine fw_iload_n C dX3_blocker_1 rfl 1 rfl ?_
  obtain ⟨r1, q2, h⟩ := bd1_some h
  refine fw_callVi C (ci := 1) (Cn := RX3) (Tc := TX3) (N := 5) (As := [.int a1]) (c_X3_obstacle (gac (hG _ (List.mem_of_getElem? (i := 1) rfl)) (gac (hG _ (List.mem_of_getElem? (i := 0) rfl)) (fun q hq => hG q (List.mem_append_right _ hq)))) q2) (cwV 1 (cx_ts C) gX3_blocker_X3_obstacle rfl rfl rfl (by decide +kernel) ⟨Nat.le_of_ble_eq_true rfl, Nat.le_of_ble_eq_true rfl⟩) rfl (hG _ (List.mem_of_getElem? (i := 1) rfl)) (of1_0 _) (ce1 T ad _ _) rfl (st := []) rfl (Nat.le_of_ble_eq_true rfl) ⟨Nat.le_refl 0, Nat.le_refl 0⟩ dX3_blocker_2 (pp2 ?_)
  by_cases c3 : r1 = 2
  · have h := ite_t c3 h
    refine fw_tableIn C dX3_blocker_5 (by rw [c3]; decide +kernel) (by rw [c3]; decide +kernel) (off := 27) (by rw [c3]; decide +kernel) (tgt := 32) rfl ?_
    refine fw_aload_n C dX3_blocker_32 rfl 0 rfl ?_
    refine fw_iload_n C dX3_blocker_33 rfl 1 rfl ?_
    obtain ⟨r4, q5, h⟩ := bd1_some h
    refine fw_callVi C (ci := 1) (Cn := RX3) (Tc := TX3) (N := 5) (As := [.int a1]) (c_X3_missingBefore (gac (hG _ (List.mem_of_getElem? (i := 1) rfl)) (gac (hG _ (List.mem_of_getElem? (i := 0) rfl)) (fun q hq => hG q (List.mem_append_right _ hq)))) q5) (cwV 1 (cx_ts C) gX3_blocker_X3_missingBefore rfl rfl rfl (by decide +kernel) ⟨Nat.le_of_ble_eq_true rfl, Nat.le_of_ble_eq_true rfl⟩) rfl (hG _ (List.mem_of_getElem? (i := 1) rfl)) (of1_0 _) (ce1 T ad _ _) rfl (st := []) rfl (Nat.le_of_ble_eq_true rfl) ⟨Nat.le_refl 0, Nat.le_refl 0⟩ dX3_blocker_34 (pp2 ?_)
    exact fw_iret C hrt Y ⟨Option.some.inj h, rfl⟩ (fun t ht => ht) dX3_blocker_37
  · have h := ite_f c3 h
    by_cases c6 : r1 = 3
    · have h := ite_t c6 h
      refine fw_tableIn C dX3_blocker_5 (by rw [c6]; decide +kernel) (by rw [c6]; decide +kernel) (off := 33) (by rw [c6]; decide +kernel) (tgt := 38) rfl ?_
      refine fw_aload_n C dX3_blocker_38 rfl 0 rfl ?_
      refine fw_aload_n C dX3_blocker_39 rfl 0 rfl ?_
      refine fw_get C (ci := 1) (Cn := RX3) (Tc := TX3) (N := 5) (j := 0) ly_X3_blocker_3 rfl (hG _ (List.mem_of_getElem? (i := 1) rfl)) (of1_0 _) (ce1 T ad _ _) (by decide) (cx_ts C _ fl_X3_blocker_28) (fun _ h => h) (v := .ref (ad 3 ((Y 1 g0 0 0).toNatClampNeg) 0)) rfl dX3_blocker_40 ?_
      obtain ⟨b7, h⟩ := gd_some h
      have b7 := of_decide_eq_true b7
      refine fw_getN C (ci := 3) (Cn := RX5) (Tc := TX5) (N := 17) (j := 10) ly_X3_blocker_5 rfl ((fun q hq => hG q (List.mem_append_right _ hq)) _ (allG_3 b7)) (of3_0 _) (ce3 T ad _ _) (by decide) (Nst_use (cx_nst C) (w := .fieldLinkNest RX3 147 "RecipeScheduler$Recipe" "pan" "[I" "RecipeScheduler") 160 (by decide +kernel) rfl) (fun _ h => h) (v := .ref (ad 3 (((Y 1 g0 0 0).toNatClampNeg)) 5)) rfl dX3_blocker_43 ?_
      refine fw_iload_n C dX3_blocker_46 rfl 1 rfl ?_
      obtain ⟨b8, h⟩ := gd_some h
      refine fw_iald2 C ((fun q hq => hG q (List.mem_append_right _ hq)) _ (allG_3 b7)) (of3_5 _) (ca3_5 T ad _ _) b8 (Nat.le_of_ble_eq_true rfl) dX3_blocker_47 ?_
      obtain ⟨r9, q10, h⟩ := bd1_some h
      refine fw_callVi C (ci := 1) (Cn := RX3) (Tc := TX3) (N := 5) (As := [.int (Y 3 (((Y 1 g0 0 0).toNatClampNeg)) 5 (ix a1))]) (c_X3_occupants (gac (hG _ (List.mem_of_getElem? (i := 1) rfl)) (gac (hG _ (List.mem_of_getElem? (i := 0) rfl)) (fun q hq => hG q (List.mem_append_right _ hq)))) q10) (cwV 1 (cx_ts C) gX3_blocker_X3_occupants rfl rfl rfl (by decide +kernel) ⟨Nat.le_of_ble_eq_true rfl, Nat.le_of_ble_eq_true rfl⟩) rfl (hG _ (List.mem_of_getElem? (i := 1) rfl)) (of1_0 _) (ce1 T ad _ _) rfl (st := []) rfl (Nat.le_of_ble_eq_true rfl) ⟨Nat.le_refl 0, Nat.le_refl 0⟩ dX3_blocker_48 (pp2 ?_)
      obtain ⟨r11, q12, h⟩ := bd1_some h
      refine fw_callSNi C (As := [.int r9]) (c_X11_lowestOf ga0 q12) ⟨(va_cnB 1 (cx_ts C) gX3_blocker_X11_lowestOf_n181 rfl rfl rfl (cx_nw C (w := .methodLinkNest RX3 181 yX11_lowestOf "RecipeScheduler") 1150 (by decide +kernel) rfl) (cx_ts C _ in_X3_blocker_11) (by decide +kernel) ⟨Nat.le_of_ble_eq_true rfl, Nat.le_of_ble_eq_true rfl⟩), cx_ts C _ sw_X3_blocker_X11_lowestOf, trivial⟩ rfl (st := []) rfl (Nat.le_of_ble_eq_true rfl) ⟨Nat.le_refl 0, Nat.le_refl 0⟩ dX3_blocker_51 (pp2 ?_)
      exact fw_iret C hrt Y ⟨Option.some.inj h, rfl⟩ (fun t ht => ht) dX3_blocker_54
    · have h := ite_f c6 h
      by_cases c13 : r1 = 4
      · have h := ite_t c13 h
        refine fw_tableIn C dX3_blocker_5 (by rw [c13]; decide +kernel) (by rw [c13]; decide +kernel) (off := 50) (by rw [c13]; decide +kernel) (tgt := 55) rfl ?_
        refine fw_aload_n C dX3_blocker_55 rfl 0 rfl ?_
        refine fw_get C (ci := 1) (Cn := RX3) (Tc := TX3) (N := 5) (j := 1) ly_X3_blocker_3 rfl (hG _ (List.mem_of_getElem? (i := 1) rfl)) (of1_0 _) (ce1 T ad _ _) (by decide) (cx_ts C _ fl_X3_blocker_12) (fun _ h => h) (v := .ref (ad 2 g0 0)) rfl dX3_blocker_56 ?_
        refine fw_getN C (ci := 6) (Cn := RX8) (Tc := TX8) (N := 15) (j := 6) ly_X3_blocker_8 rfl (hG _ (List.mem_of_getElem? (i := 0) rfl)) (of2_0 _) (ce2 T ad _ _) (by decide) (Nst_use (cx_nst C) (w := .fieldLinkNest RX3 82 "RecipeScheduler$State" "running" "I" "RecipeScheduler") 456 (by decide +kernel) rfl) (fun _ h => h) (v := .int (Y 2 g0 0 6)) rfl dX3_blocker_59 ?_
        refine fw_aload_n C dX3_blocker_62 rfl 0 rfl ?_
        refine fw_get C (ci := 1) (Cn := RX3) (Tc := TX3) (N := 5) (j := 0) ly_X3_blocker_3 rfl (hG _ (List.mem_of_getElem? (i := 1) rfl)) (of1_0 _) (ce1 T ad _ _) (by decide) (cx_ts C _ fl_X3_blocker_28) (fun _ h => h) (v := .ref (ad 3 ((Y 1 g0 0 0).toNatClampNeg) 0)) rfl dX3_blocker_63 ?_
        obtain ⟨b14, h⟩ := gd_some h
        have b14 := of_decide_eq_true b14
        refine fw_getN C (ci := 3) (Cn := RX5) (Tc := TX5) (N := 17) (j := 16) ly_X3_blocker_5 rfl ((fun q hq => hG q (List.mem_append_right _ hq)) _ (allG_3 b14)) (of3_0 _) (ce3 T ad _ _) (by decide) (Nst_use (cx_nst C) (w := .fieldLinkNest RX3 88 "RecipeScheduler$Recipe" "alone" "I" "RecipeScheduler") 181 (by decide +kernel) rfl) (fun _ h => h) (v := .int (Y 3 ((Y 1 g0 0 0).toNatClampNeg) 0 16)) rfl dX3_blocker_66 ?_
        refine fw_iconst C dX3_blocker_69 (v := (-1)) rfl ?_
        refine fw_ixor C dX3_blocker_70 ?_
        refine fw_iand C dX3_blocker_71 ?_
        obtain ⟨r15, q16, h⟩ := bd1_some h
        refine fw_callSNi C (As := [.int ((Y 2 g0 0 6) &&& ((Y 3 ((Y 1 g0 0 0).toNatClampNeg) 0 16) ^^^ ((-1))))]) (c_X11_lowestOf ga0 q16) ⟨(va_cnB 1 (cx_ts C) gX3_blocker_X11_lowestOf_n181 rfl rfl rfl (cx_nw C (w := .methodLinkNest RX3 181 yX11_lowestOf "RecipeScheduler") 1150 (by decide +kernel) rfl) (cx_ts C _ in_X3_blocker_11) (by decide +kernel) ⟨Nat.le_of_ble_eq_true rfl, Nat.le_of_ble_eq_true rfl⟩), cx_ts C _ sw_X3_blocker_X11_lowestOf, trivial⟩ rfl (st := []) rfl (Nat.le_of_ble_eq_true rfl) ⟨Nat.le_refl 0, Nat.le_refl 0⟩ dX3_blocker_72 (pp2 ?_)
        exact fw_iret C hrt Y ⟨Option.some.inj h, rfl⟩ (fun t ht => ht) dX3_blocker_75
      · have h := ite_f c13 h
        have c3 : ¬ (r1).toInt = 2 := fun q => c3 (Int32.toInt_inj.mp (by rw [q]; decide +kernel))
        have c6 : ¬ (r1).toInt = 3 := fun q => c6 (Int32.toInt_inj.mp (by rw [q]; decide +kernel))
        have c13 : ¬ (r1).toInt = 4 := fun q => c13 (Int32.toInt_inj.mp (by rw [q]; decide +kernel))
        refine fw_tableOut C dX3_blocker_5 (by omega) (tgt := 76) rfl ?_
        refine fw_iconst C dX3_blocker_76 (v := (-1)) rfl ?_
        exact fw_iret C hrt Y ⟨Option.some.inj h, rfl⟩ (fun t ht => ht) dX3_blocker_77
end
set_option maxRecDepth 100000 in
set_option maxHeartbeats 4000000 in
theorem c_X3_blocker {l : Launch} {N0 : Nat} {T : Nat → ClassId} {D : va_G} {gr : List (Nat × Nat)} {ad : Nat → Nat → Nat → Nat} {Y : Mem} {g0 : Nat} {a1 : Int32} {res : Int32} (hG : ∀ q ∈ ([(2, g0), (1, g0)] ++ allG), q ∈ gr) (h : X3_blocker Y g0 a1 = some res) : CI l yX3_blocker wsX3_blocker (Rm 3) N0 T D gr ad Y [.ref (ad 1 g0 0), .int a1] (fun r Y1 => r = res ∧ Y1 = Y) :=
  fw_body (by decide +kernel) rfl (Nat.le_of_ble_eq_true rfl) (fun p e s m below meth c C hrt => w_X3_blocker C hrt hG  h)
theorem ly_X11_blockingStep_11 : ∀ w ∈ u_ws RX11 TX11 11, w ∈ wsX11_blockingStep := by decide +kernel
theorem fl_X11_blockingStep_67 : Cond.fieldLink RX11 67 "RecipeScheduler" "now" "LRecipeScheduler$Kitchen;" ∈ wsX11_blockingStep := by decide +kernel
section
variable {p : Program} {l : Launch} {e : Env} {s : State} {m : MethodId} {below : List Frame} {meth : Method} {c : Code} {N0 : Nat} {T : Nat → ClassId} {D : va_G} {gr : List (Nat × Nat)} {ad : Nat → Nat → Nat → Nat}
set_option maxRecDepth 100000 in
set_option maxHeartbeats 4000000 in
theorem w_X11_blockingStep {Y : Mem} {a1 : Int32} (C : Cx p s m [.ref (ad 0 0 0), .int a1].toArray meth c cX11_blockingStep 2 wsX11_blockingStep RX11 N0 T D gr ad) (hrt : meth.sig.returnType = (some .int)) (hG : ∀ q ∈ ([(1, 0), (0, 0), (2, 0)] ++ allG), q ∈ gr) (hl : l.stackTraces = false) (hX : ∀ x ∈ c.exceptionTable.toList, False) {res : (Nat × Mem) ⊕ (Int32 × Mem)} (h : X11_blockingStep Y a1 = some res) : FW p l e (Rx 7 1) s m [.ref (ad 0 0 0), .int a1].toArray below meth c 2 N0 T D gr ad 0 0 (vx_MQ below (va_Qi (fun r Y1 => Sum.inr (r, Y1) = res) (WB T D gr ad) (fun q => N0 ≤ q)) (vx_X (fun u => Sum.inl u = res) (XB T D gr ad) (fun q => N0 ≤ q)) [.ref (ad 0 0 0), .int a1].toArray s 1 6 (fun q => N0 ≤ q)) Y 0 [(0, .ref (ad 0 0 0)), (1, .int a1)] [] := by
  unfold X11_blockingStep at h
  refine fw_aload_n C dX11_blockingStep_0 rfl 0 rfl ?_
  refine fw_iload_n C dX11_blockingStep_1 rfl 1 rfl ?_
  rcases bdxv_some h with ⟨x5, q2, e6⟩ | ⟨Y4, q2, h⟩
  · exact fw_callXVv_l C (ci := 9) (Cn := RX11) (Tc := TX11) (N := 11) (As := [.int a1]) (c_X11_requireStep hl (gac (hG _ (List.mem_of_getElem? (i := 1) rfl)) (gac (hG _ (List.mem_of_getElem? (i := 0) rfl)) (fun q hq => hG q (List.mem_append_right _ hq)))) q2) (cwV 1 (cx_ts C) gX11_blockingStep_X11_requireStep rfl rfl rfl (by decide +kernel) ⟨Nat.le_of_ble_eq_true rfl, Nat.le_of_ble_eq_true rfl⟩) rfl (hG _ (List.mem_of_getElem? (i := 1) rfl)) (of0_0 _) (ce0 T ad _ _) rfl (st := []) rfl (Nat.le_of_ble_eq_true rfl) ⟨Nat.le_of_ble_eq_true rfl, Nat.le_of_ble_eq_true rfl⟩ dX11_blockingStep_2 hX e6 (Nat.le_of_ble_eq_true rfl) (Nat.le_of_ble_eq_true rfl)
  refine fw_callXVv_r C (ci := 9) (Cn := RX11) (Tc := TX11) (N := 11) (As := [.int a1]) (c_X11_requireStep hl (gac (hG _ (List.mem_of_getElem? (i := 1) rfl)) (gac (hG _ (List.mem_of_getElem? (i := 0) rfl)) (fun q hq => hG q (List.mem_append_right _ hq)))) q2) (cwV 1 (cx_ts C) gX11_blockingStep_X11_requireStep rfl rfl rfl (by decide +kernel) ⟨Nat.le_of_ble_eq_true rfl, Nat.le_of_ble_eq_true rfl⟩) rfl (hG _ (List.mem_of_getElem? (i := 1) rfl)) (of0_0 _) (ce0 T ad _ _) rfl (st := []) rfl (Nat.le_of_ble_eq_true rfl) ⟨Nat.le_of_ble_eq_true rfl, Nat.le_of_ble_eq_true rfl⟩ dX11_blockingStep_2 ?_
  refine fw_aload_n C dX11_blockingStep_5 rfl 0 rfl ?_
  refine fw_get C (ci := 9) (Cn := RX11) (Tc := TX11) (N := 11) (j := 5) ly_X11_blockingStep_11 rfl (hG _ (List.mem_of_getElem? (i := 1) rfl)) (of0_0 _) (ce0 T ad _ _) (by decide) (cx_ts C _ fl_X11_blockingStep_67) (fun _ h => h) (v := .ref (ad 1 0 0)) rfl dX11_blockingStep_6 ?_
  refine fw_iload_n C dX11_blockingStep_9 rfl 1 rfl ?_
  obtain ⟨r7, q8, h⟩ := bd1_some h
  refine fw_callVi C (ci := 1) (Cn := RX3) (Tc := TX3) (N := 5) (As := [.int a1]) (c_X3_blocker (gac (hG _ (List.mem_of_getElem? (i := 2) rfl)) (gac (hG _ (List.mem_of_getElem? (i := 0) rfl)) (fun q hq => hG q (List.mem_append_right _ hq)))) q8) (cwV 1 (cx_ts C) gX11_blockingStep_X3_blocker rfl rfl rfl (by decide +kernel) ⟨Nat.le_of_ble_eq_true rfl, Nat.le_of_ble_eq_true rfl⟩) rfl (hG _ (List.mem_of_getElem? (i := 0) rfl)) (of1_0 _) (ce1 T ad _ _) rfl (st := []) rfl (Nat.le_of_ble_eq_true rfl) ⟨Nat.le_of_ble_eq_true rfl, Nat.le_of_ble_eq_true rfl⟩ dX11_blockingStep_10 (pp2 ?_)
  refine fw_xr (Nat.le_of_ble_eq_true rfl) (Nat.le_of_ble_eq_true rfl) ?_
  exact fw_iret C hrt Y4 (Option.some.inj h) (fun t ht => ht) dX11_blockingStep_13
end
set_option maxRecDepth 100000 in
set_option maxHeartbeats 4000000 in
theorem c_X11_blockingStep {l : Launch} {N0 : Nat} {T : Nat → ClassId} {D : va_G} {gr : List (Nat × Nat)} {ad : Nat → Nat → Nat → Nat} {Y : Mem} {a1 : Int32} {res : (Nat × Mem) ⊕ (Int32 × Mem)} (hl : l.stackTraces = false) (hG : ∀ q ∈ ([(1, 0), (0, 0), (2, 0)] ++ allG), q ∈ gr) (h : X11_blockingStep Y a1 = some res) : CXi l yX11_blockingStep wsX11_blockingStep (Rx 7 1) N0 T D gr ad Y [.ref (ad 0 0 0), .int a1] 1 res :=
  fw_xbody (by decide +kernel) rfl (Nat.le_of_ble_eq_true rfl) (fun p e s m below meth c C hrt hX => w_X11_blockingStep C hrt hG hl hX h)
theorem ly_X3_copyFrom_3 : ∀ w ∈ u_ws RX3 TX3 5, w ∈ wsX3_copyFrom := by decide +kernel
theorem fl_X3_copyFrom_28 : Cond.fieldLink RX3 28 "RecipeScheduler$Kitchen" "recipe" "LRecipeScheduler$Recipe;" ∈ wsX3_copyFrom := by decide +kernel
theorem fl_X3_copyFrom_12 : Cond.fieldLink RX3 12 "RecipeScheduler$Kitchen" "state" "LRecipeScheduler$State;" ∈ wsX3_copyFrom := by decide +kernel
section
variable {p : Program} {l : Launch} {e : Env} {s : State} {m : MethodId} {below : List Frame} {meth : Method} {c : Code} {N0 : Nat} {T : Nat → ClassId} {D : va_G} {gr : List (Nat × Nat)} {ad : Nat → Nat → Nat → Nat}
set_option maxRecDepth 100000 in
set_option maxHeartbeats 4000000 in
theorem w_X3_copyFrom {Y : Mem} {g0 : Nat} {g1 : Nat} (C : Cx p s m [.ref (ad 1 g0 0), .ref (ad 1 g1 0)].toArray meth c cX3_copyFrom 2 wsX3_copyFrom RX3 N0 T D gr ad) (hrt : meth.sig.returnType = none) (hG : ∀ q ∈ ([(1, g1), (1, g0), (2, g0), (2, g1)] ++ allG), q ∈ gr) {res : Mem} (h : X3_copyFrom Y g0 g1 = some res) : FW p l e (Rm 2) s m [.ref (ad 1 g0 0), .ref (ad 1 g1 0)].toArray below meth c 2 N0 T D gr ad 0 0 (MQ below (va_Qv (fun Y1 => Y1 = res) (WB T D gr ad) (fun q => N0 ≤ q)) [.ref (ad 1 g0 0), .ref (ad 1 g1 0)].toArray s 0 0 (fun q => N0 ≤ q)) Y 0 [(0, .ref (ad 1 g0 0)), (1, .ref (ad 1 g1 0))] [] := by
  unfold X3_copyFrom at h
  refine fw_aload_n C dX3_copyFrom_0 rfl 0 rfl ?_
  refine fw_aload_n C dX3_copyFrom_1 rfl 1 rfl ?_
  refine fw_get C (ci := 1) (Cn := RX3) (Tc := TX3) (N := 5) (j := 0) ly_X3_copyFrom_3 rfl (hG _ (List.mem_of_getElem? (i := 0) rfl)) (of1_0 _) (ce1 T ad _ _) (by decide) (cx_ts C _ fl_X3_copyFrom_28) (fun _ h => h) (v := .ref (ad 3 ((Y 1 g1 0 0).toNatClampNeg) 0)) rfl dX3_copyFrom_2 ?_
  obtain ⟨b3, h⟩ := gd_some h
  have b3 := of_decide_eq_true b3
  obtain ⟨Y1, e2, h⟩ := lt_some h
  refine fw_put C (ci := 1) (Cn := RX3) (Tc := TX3) (N := 5) (j := 0) (ty := (.object RX5)) (upd (Y 1 g0 0) 0 (Int32.ofNat ((Y 1 g1 0 0).toNatClampNeg))) ly_X3_copyFrom_3 rfl tyX3_ok nmX3 (hG _ (List.mem_of_getElem? (i := 1) rfl)) (of1_0 _) (ce1 T ad _ _) (by decide) (cx_ts C _ fl_X3_copyFrom_28) (fun _ h => h) rfl (by decide +kernel) rfl rfl (Nat.le_of_ble_eq_true rfl) (ce1_put0 T ad _ _ _ b3) dX3_copyFrom_5 ?_
  refine fw_mem ((up_eq _ _ _ _ _ _).symm.trans e2) ?_
  refine fw_aload_n C dX3_copyFrom_8 rfl 0 rfl ?_
  refine fw_get C (ci := 1) (Cn := RX3) (Tc := TX3) (N := 5) (j := 1) ly_X3_copyFrom_3 rfl (hG _ (List.mem_of_getElem? (i := 1) rfl)) (of1_0 _) (ce1 T ad _ _) (by decide) (cx_ts C _ fl_X3_copyFrom_12) (fun _ h => h) (v := .ref (ad 2 g0 0)) rfl dX3_copyFrom_9 ?_
  refine fw_aload_n C dX3_copyFrom_12 rfl 1 rfl ?_
  refine fw_get C (ci := 1) (Cn := RX3) (Tc := TX3) (N := 5) (j := 1) ly_X3_copyFrom_3 rfl (hG _ (List.mem_of_getElem? (i := 0) rfl)) (of1_0 _) (ce1 T ad _ _) (by decide) (cx_ts C _ fl_X3_copyFrom_12) (fun _ h => h) (v := .ref (ad 2 g1 0)) rfl dX3_copyFrom_13 ?_
  obtain ⟨Y6, q5, h⟩ := bd1_some h
  refine fw_callVv C (ci := 6) (Cn := RX8) (Tc := TX8) (N := 15) (As := [.ref (ad 2 g1 0)]) (c_X8_copyFrom (gac (hG _ (List.mem_of_getElem? (i := 3) rfl)) (gac (hG _ (List.mem_of_getElem? (i := 2) rfl)) ga0)) q5) (cwV 1 (cx_ts C) gX3_copyFrom_X8_copyFrom rfl rfl rfl (by decide +kernel) ⟨Nat.le_of_ble_eq_true rfl, Nat.le_of_ble_eq_true rfl⟩) rfl (hG _ (List.mem_of_getElem? (i := 2) rfl)) (of2_0 _) (ce2 T ad _ _) rfl (st := []) rfl (Nat.le_of_ble_eq_true rfl) ⟨Nat.le_refl 0, Nat.le_refl 0⟩ dX3_copyFrom_16 (ppv ?_)
  exact fw_vret C hrt Y6 (Option.some.inj h) (fun t ht => ht) dX3_copyFrom_19
end
set_option maxRecDepth 100000 in
set_option maxHeartbeats 4000000 in
theorem c_X3_copyFrom {l : Launch} {N0 : Nat} {T : Nat → ClassId} {D : va_G} {gr : List (Nat × Nat)} {ad : Nat → Nat → Nat → Nat} {Y : Mem} {g0 : Nat} {g1 : Nat} {res : Mem} (hG : ∀ q ∈ ([(1, g1), (1, g0), (2, g0), (2, g1)] ++ allG), q ∈ gr) (h : X3_copyFrom Y g0 g1 = some res) : CV l yX3_copyFrom wsX3_copyFrom (Rm 2) N0 T D gr ad Y [.ref (ad 1 g0 0), .ref (ad 1 g1 0)] (fun Y1 => Y1 = res) :=
  fw_body (by decide +kernel) rfl (Nat.le_of_ble_eq_true rfl) (fun p e s m below meth c C hrt => w_X3_copyFrom C hrt hG  h)
