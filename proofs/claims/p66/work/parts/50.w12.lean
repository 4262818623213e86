theorem ly_X3_work_3 : ∀ w ∈ u_ws RX3 TX3 5, w ∈ wsX3_work := by decide +kernel
theorem fl_X3_work_12 : Cond.fieldLink RX3 12 "RecipeScheduler$Kitchen" "state" "LRecipeScheduler$State;" ∈ wsX3_work := by decide +kernel
theorem ly_X3_work_8 : ∀ w ∈ u_ws RX8 TX8 15, w ∈ wsX3_work := by decide +kernel
theorem fl_X3_work_28 : Cond.fieldLink RX3 28 "RecipeScheduler$Kitchen" "recipe" "LRecipeScheduler$Recipe;" ∈ wsX3_work := by decide +kernel
theorem ly_X3_work_5 : ∀ w ∈ u_ws RX5 TX5 17, w ∈ wsX3_work := by decide +kernel
theorem ly_X3_work_4 : ∀ w ∈ u_ws RX4 TX4 3, w ∈ wsX3_work := by decide +kernel
theorem in_X3_work_11 : Cond.initialized RX11 ∈ wsX3_work := by decide +kernel
theorem sw_X3_work_X11_contains : Cond.static yX11_contains ∈ wsX3_work := by decide +kernel
section
variable {p : Program} {l : Launch} {e : Env} {s : State} {m : MethodId} {below : List Frame} {meth : Method} {c : Code} {N0 : Nat} {T : Nat → ClassId} {D : va_G} {gr : List (Nat × Nat)} {ad : Nat → Nat → Nat → Nat}
set_option maxRecDepth 100000 in
set_option maxHeartbeats 4000000 in
theorem w_X3_work_b99 {g0 : Nat} (C : Cx p s m [.ref (ad 1 g0 0)].toArray meth c cX3_work 4 wsX3_work RX3 N0 T D gr ad) (hrt : meth.sig.returnType = (some .int)) (hG : ∀ q ∈ ([(1, g0), (2, g0)] ++ allG), q ∈ gr) {res : Int32 × Mem} {k38 : Mem → Int32 → Int32 → Int32 → Option (Int32 × Mem)} (hk38 : ∀ (Y : Mem) (l3 : Int32) (l2 : Int32) (l1 : Int32), k38 Y l3 l2 l1 = some res → FW p l e (Rm 1) s m [.ref (ad 1 g0 0)].toArray below meth c 4 N0 T D gr ad 0 0 (MQ below (va_Qi (fun r Y1 => (r, Y1) = res) (WB T D gr ad) (fun q => N0 ≤ q)) [.ref (ad 1 g0 0)].toArray s 0 0 (fun q => N0 ≤ q)) Y 38 [(3, .int l3), (2, .int l2), (1, .int l1), (0, .ref (ad 1 g0 0))] []) (Y : Mem) (l3 : Int32) (l2 : Int32) (l1 : Int32) (h : X3_work_b99 g0 k38 Y l3 l2 l1 = some res) : FW p l e (Rm 1) s m [.ref (ad 1 g0 0)].toArray below meth c 4 N0 T D gr ad 0 0 (MQ below (va_Qi (fun r Y1 => (r, Y1) = res) (WB T D gr ad) (fun q => N0 ≤ q)) [.ref (ad 1 g0 0)].toArray s 0 0 (fun q => N0 ≤ q)) Y 99 [(3, .int l3), (2, .int l2), (1, .int l1), (0, .ref (ad 1 g0 0))] [] := by
  unfold X3_work_b99 at h
  refine fw_iinc C dX3_work_99 (kk := 0) (v := l3 + 1) rfl rfl (by decide) (L' := [(3, .int (l3 + 1)), (2, .int l2), (1, .int l1), (0, .ref (ad 1 g0 0))]) rfl ?_
  refine fw_goto C dX3_work_102 (tgt := 38) rfl ?_
  exact hk38 _ _ _ _ h
set_option maxRecDepth 100000 in
set_option maxHeartbeats 4000000 in
theorem w_X3_work_b38 {g0 : Nat} (C : Cx p s m [.ref (ad 1 g0 0)].toArray meth c cX3_work 4 wsX3_work RX3 N0 T D gr ad) (hrt : meth.sig.returnType = (some .int)) (hG : ∀ q ∈ ([(1, g0), (2, g0)] ++ allG), q ∈ gr) {res : Int32 × Mem} : ∀ (n : Nat) (Y : Mem) (l3 : Int32) (l2 : Int32) (l1 : Int32), X3_work_b38 g0  n Y l3 l2 l1 = some res → FW p l e (Rm 1) s m [.ref (ad 1 g0 0)].toArray below meth c 4 N0 T D gr ad 0 0 (MQ below (va_Qi (fun r Y1 => (r, Y1) = res) (WB T D gr ad) (fun q => N0 ≤ q)) [.ref (ad 1 g0 0)].toArray s 0 0 (fun q => N0 ≤ q)) Y 38 [(3, .int l3), (2, .int l2), (1, .int l1), (0, .ref (ad 1 g0 0))] [] := by
  intro n
  induction n with
  | zero =>
    intro Y l3 l2 l1 h
    unfold X3_work_b38 at h
    cases h
  | succ n ih =>
    intro Y l3 l2 l1 h
    unfold X3_work_b38 at h
    refine fw_iload_n C dX3_work_38 rfl 0 rfl ?_
    refine fw_aload_n C dX3_work_39 rfl 3 rfl ?_
    refine fw_get C (ci := 3) (Cn := RX3) (Tc := TX3) (N := 5) (j := 0) ly_X3_work_3 rfl (hG _ (List.mem_of_getElem? (i := 0) rfl)) (of1_0 _) (ce1 T ad _ _) (by decide) (cx_ts C _ fl_X3_work_28) (fun _ h => h) (v := .ref (ad 3 ((Y 1 g0 0 0).toNatClampNeg) 0)) rfl dX3_work_40 ?_
    obtain ⟨b8, h⟩ := gd_some h
    have b8 := of_decide_eq_true b8
    refine fw_getN C (ci := 5) (Cn := RX5) (Tc := TX5) (N := 17) (j := 7) ly_X3_work_5 rfl ((fun q hq => hG q (List.mem_append_right _ hq)) _ (allG_3 b8)) (of3_0 _) (ce3 T ad _ _) (by decide) (Nst_use (cx_nst C) (w := .fieldLinkNest RX3 91 "RecipeScheduler$Recipe" "steps" "LRecipeScheduler$Names;" "RecipeScheduler") 146 (by decide +kernel) rfl) (fun _ h => h) (v := .ref (ad 4 (2*((Y 1 g0 0 0).toNatClampNeg)+1) 0)) rfl dX3_work_43 ?_
    obtain ⟨b9, h⟩ := gd_some h
    have b9 := of_decide_eq_true b9
    refine fw_getN C (ci := 4) (Cn := RX4) (Tc := TX4) (N := 3) (j := 2) ly_X3_work_4 rfl ((fun q hq => hG q (List.mem_append_right _ hq)) _ (allG_4b b9)) (of4_0 _) (ce4 T ad _ _) (by decide) (Nst_use (cx_nst C) (w := .fieldLinkNest RX3 95 "RecipeScheduler$Names" "count" "I" "RecipeScheduler") 114 (by decide +kernel) rfl) (fun _ h => h) (v := .int (Y 4 (2*((Y 1 g0 0 0).toNatClampNeg)+1) 0 2)) rfl dX3_work_46 ?_
    refine fw_icmp_ge C dX3_work_49 (tgt := 105) rfl (fun c10 => ?_) (fun c10 => ?_)
    · have h := ite_t c10 h
      refine fw_iload_n C dX3_work_105 rfl 2 rfl ?_
      exact fw_iret C hrt Y (Option.some.inj h) (fun t ht => ht) dX3_work_106
    · have h := ite_f c10 h
      refine fw_iload_n C dX3_work_52 rfl 1 rfl ?_
      refine fw_iload_n C dX3_work_53 rfl 0 rfl ?_
      obtain ⟨r11, q12, h⟩ := bd1_some h
      refine fw_callSNi C (As := [.int l2, .int l3]) (c_X11_contains ga0 q12) ⟨(va_cnB 2 (cx_ts C) gX3_work_X11_contains_n100 rfl rfl rfl (cx_nw C (w := .methodLinkNest RX3 100 yX11_contains "RecipeScheduler") 683 (by decide +kernel) rfl) (cx_ts C _ in_X3_work_11) (by decide +kernel) ⟨Nat.le_of_ble_eq_true rfl, Nat.le_of_ble_eq_true rfl⟩), cx_ts C _ sw_X3_work_X11_contains, trivial⟩ rfl (st := []) rfl (Nat.le_of_ble_eq_true rfl) ⟨Nat.le_refl 0, Nat.le_refl 0⟩ dX3_work_54 (pp2 ?_)
      refine fw_if_eq C dX3_work_57 (tgt := 99) rfl (fun c13 => ?_) (fun c13 => ?_)
      · have h := ite_t c13 h
        exact w_X3_work_b99 C hrt hG  ih _ _ _ _ h
      · have h := ite_f c13 h
        refine fw_aload_n C dX3_work_60 rfl 3 rfl ?_
        refine fw_get C (ci := 3) (Cn := RX3) (Tc := TX3) (N := 5) (j := 1) ly_X3_work_3 rfl (hG _ (List.mem_of_getElem? (i := 0) rfl)) (of1_0 _) (ce1 T ad _ _) (by decide) (cx_ts C _ fl_X3_work_12) (fun _ h => h) (v := .ref (ad 2 g0 0)) rfl dX3_work_61 ?_
        refine fw_getN C (ci := 8) (Cn := RX8) (Tc := TX8) (N := 15) (j := 10) ly_X3_work_8 rfl (hG _ (List.mem_of_getElem? (i := 1) rfl)) (of2_0 _) (ce2 T ad _ _) (by decide) (Nst_use (cx_nst C) (w := .fieldLinkNest RX3 104 "RecipeScheduler$State" "remaining" "[I" "RecipeScheduler") 455 (by decide +kernel) rfl) (fun _ h => h) (v := .ref (ad 2 g0 2)) rfl dX3_work_64 ?_
        refine fw_iload_n C dX3_work_67 rfl 0 rfl ?_
        refine fw_dup2 C dX3_work_68 rfl rfl ?_
        obtain ⟨b14, h⟩ := gd_some h
        refine fw_iald2 C (hG _ (List.mem_of_getElem? (i := 1) rfl)) (of2_2 _) (ca2_2 T ad _ _) b14 (Nat.le_of_ble_eq_true rfl) dX3_work_69 ?_
        refine fw_iconst C dX3_work_70 (v := 1) rfl ?_
        refine fw_isub C dX3_work_71 ?_
        obtain ⟨Y15, e16, h⟩ := lt_some h
        refine fw_iast2 C (hG _ (List.mem_of_getElem? (i := 1) rfl)) (of2_2 _) (ca2_2 T ad _) b14 (Nat.le_of_ble_eq_true rfl) dX3_work_72 ?_
        refine fw_mem e16 ?_
        refine fw_aload_n C dX3_work_73 rfl 3 rfl ?_
        refine fw_get C (ci := 3) (Cn := RX3) (Tc := TX3) (N := 5) (j := 1) ly_X3_work_3 rfl (hG _ (List.mem_of_getElem? (i := 0) rfl)) (of1_0 _) (ce1 T ad _ _) (by decide) (cx_ts C _ fl_X3_work_12) (fun _ h => h) (v := .ref (ad 2 g0 0)) rfl dX3_work_74 ?_
        refine fw_getN C (ci := 8) (Cn := RX8) (Tc := TX8) (N := 15) (j := 10) ly_X3_work_8 rfl (hG _ (List.mem_of_getElem? (i := 1) rfl)) (of2_0 _) (ce2 T ad _ _) (by decide) (Nst_use (cx_nst C) (w := .fieldLinkNest RX3 104 "RecipeScheduler$State" "remaining" "[I" "RecipeScheduler") 455 (by decide +kernel) rfl) (fun _ h => h) (v := .ref (ad 2 g0 2)) rfl dX3_work_77 ?_
        refine fw_iload_n C dX3_work_80 rfl 0 rfl ?_
        refine fw_iald2 C (hG _ (List.mem_of_getElem? (i := 1) rfl)) (of2_2 _) (ca2_2 T ad _ _) b14 (Nat.le_of_ble_eq_true rfl) dX3_work_81 ?_
        refine fw_if_ne C dX3_work_82 (tgt := 99) rfl (fun c17 => ?_) (fun c17 => ?_)
        · have h := ite_f c17 h
          exact w_X3_work_b99 C hrt hG  ih _ _ _ _ h
        · have h := ite_t c17 h
          refine fw_aload_n C dX3_work_85 rfl 3 rfl ?_
          refine fw_get C (ci := 3) (Cn := RX3) (Tc := TX3) (N := 5) (j := 1) ly_X3_work_3 rfl (hG _ (List.mem_of_getElem? (i := 0) rfl)) (of1_0 _) (ce1 T ad _ _) (by decide) (cx_ts C _ fl_X3_work_12) (fun _ h => h) (v := .ref (ad 2 g0 0)) rfl dX3_work_86 ?_
          refine fw_iload_n C dX3_work_89 rfl 0 rfl ?_
          obtain ⟨Y20, q19, h⟩ := bd1_some h
          refine fw_callVv C (ci := 8) (Cn := RX8) (Tc := TX8) (N := 15) (As := [.int l3]) (c_X8_complete (gac (hG _ (List.mem_of_getElem? (i := 1) rfl)) ga0) q19) (cwV 1 (cx_ts C) gX3_work_X8_complete rfl rfl rfl (by decide +kernel) ⟨Nat.le_of_ble_eq_true rfl, Nat.le_of_ble_eq_true rfl⟩) rfl (hG _ (List.mem_of_getElem? (i := 1) rfl)) (of2_0 _) (ce2 T ad _ _) rfl (st := []) rfl (Nat.le_of_ble_eq_true rfl) ⟨Nat.le_refl 0, Nat.le_refl 0⟩ dX3_work_90 (ppv ?_)
          refine fw_iload_n C dX3_work_93 rfl 2 rfl ?_
          refine fw_iconst C dX3_work_94 (v := 1) rfl ?_
          refine fw_iload_n C dX3_work_95 rfl 0 rfl ?_
          refine fw_ishl C dX3_work_96 ?_
          refine fw_ior C dX3_work_97 ?_
          obtain ⟨v21, e22, h⟩ := lt_some h
          refine fw_top (v' := .int v21) (by rw [e22]) ?_
          refine fw_istore_n C dX3_work_98 rfl (by decide) (L' := [(1, .int v21), (3, .int l3), (2, .int l2), (0, .ref (ad 1 g0 0))]) rfl ?_
          refine fw_sub [1, 2, 0, 3] (L' := [(3, .int l3), (2, .int l2), (1, .int v21), (0, .ref (ad 1 g0 0))]) rfl ?_
          exact w_X3_work_b99 C hrt hG  ih _ _ _ _ h
set_option maxRecDepth 100000 in
set_option maxHeartbeats 4000000 in
theorem w_X3_work {Y : Mem} {g0 : Nat} (C : Cx p s m [.ref (ad 1 g0 0)].toArray meth c cX3_work 4 wsX3_work RX3 N0 T D gr ad) (hrt : meth.sig.returnType = (some .int)) (hG : ∀ q ∈ ([(1, g0), (2, g0)] ++ allG), q ∈ gr) {res : Int32 × Mem} (h : X3_work Y g0 = some res) : FW p l e (Rm 1) s m [.ref (ad 1 g0 0)].toArray below meth c 4 N0 T D gr ad 0 0 (MQ below (va_Qi (fun r Y1 => (r, Y1) = res) (WB T D gr ad) (fun q => N0 ≤ q)) [.ref (ad 1 g0 0)].toArray s 0 0 (fun q => N0 ≤ q)) Y 0 [(0, .ref (ad 1 g0 0))] [] := by
  unfold X3_work at h
  refine fw_iconst C dX3_work_0 (v := 0) rfl ?_
  refine fw_istore_n C dX3_work_1 rfl (by decide) (L' := [(1, .int 0), (0, .ref (ad 1 g0 0))]) rfl ?_
  refine fw_aload_n C dX3_work_2 rfl 1 rfl ?_
  refine fw_get C (ci := 3) (Cn := RX3) (Tc := TX3) (N := 5) (j := 1) ly_X3_work_3 rfl (hG _ (List.mem_of_getElem? (i := 0) rfl)) (of1_0 _) (ce1 T ad _ _) (by decide) (cx_ts C _ fl_X3_work_12) (fun _ h => h) (v := .ref (ad 2 g0 0)) rfl dX3_work_3 ?_
  refine fw_getN C (ci := 8) (Cn := RX8) (Tc := TX8) (N := 15) (j := 6) ly_X3_work_8 rfl (hG _ (List.mem_of_getElem? (i := 1) rfl)) (of2_0 _) (ce2 T ad _ _) (by decide) (Nst_use (cx_nst C) (w := .fieldLinkNest RX3 82 "RecipeScheduler$State" "running" "I" "RecipeScheduler") 444 (by decide +kernel) rfl) (fun _ h => h) (v := .int (Y 2 g0 0 6)) rfl dX3_work_6 ?_
  obtain ⟨v1, e2, h⟩ := lt_some h
  refine fw_top (v' := .int v1) (by rw [e2]) ?_
  refine fw_istore_n C dX3_work_9 rfl (by decide) (L' := [(2, .int v1), (1, .int 0), (0, .ref (ad 1 g0 0))]) rfl ?_
  refine fw_aload_n C dX3_work_10 rfl 2 rfl ?_
  refine fw_get C (ci := 3) (Cn := RX3) (Tc := TX3) (N := 5) (j := 1) ly_X3_work_3 rfl (hG _ (List.mem_of_getElem? (i := 0) rfl)) (of1_0 _) (ce1 T ad _ _) (by decide) (cx_ts C _ fl_X3_work_12) (fun _ h => h) (v := .ref (ad 2 g0 0)) rfl dX3_work_11 ?_
  refine fw_dup C dX3_work_14 rfl ?_
  refine fw_getN C (ci := 8) (Cn := RX8) (Tc := TX8) (N := 15) (j := 3) ly_X3_work_8 rfl (hG _ (List.mem_of_getElem? (i := 1) rfl)) (of2_0 _) (ce2 T ad _ _) (by decide) (Nst_use (cx_nst C) (w := .fieldLinkNest RX3 85 "RecipeScheduler$State" "cookMinutes" "I" "RecipeScheduler") 436 (by decide +kernel) rfl) (fun _ h => h) (v := .int (Y 2 g0 0 3)) rfl dX3_work_15 ?_
  refine fw_iload_n C dX3_work_18 rfl 0 rfl ?_
  refine fw_aload_n C dX3_work_19 rfl 2 rfl ?_
  refine fw_get C (ci := 3) (Cn := RX3) (Tc := TX3) (N := 5) (j := 0) ly_X3_work_3 rfl (hG _ (List.mem_of_getElem? (i := 0) rfl)) (of1_0 _) (ce1 T ad _ _) (by decide) (cx_ts C _ fl_X3_work_28) (fun _ h => h) (v := .ref (ad 3 ((Y 1 g0 0 0).toNatClampNeg) 0)) rfl dX3_work_20 ?_
  obtain ⟨b3, h⟩ := gd_some h
  have b3 := of_decide_eq_true b3
  refine fw_getN C (ci := 5) (Cn := RX5) (Tc := TX5) (N := 17) (j := 16) ly_X3_work_5 rfl ((fun q hq => hG q (List.mem_append_right _ hq)) _ (allG_3 b3)) (of3_0 _) (ce3 T ad _ _) (by decide) (Nst_use (cx_nst C) (w := .fieldLinkNest RX3 88 "RecipeScheduler$Recipe" "alone" "I" "RecipeScheduler") 174 (by decide +kernel) rfl) (fun _ h => h) (v := .int (Y 3 ((Y 1 g0 0 0).toNatClampNeg) 0 16)) rfl dX3_work_23 ?_
  refine fw_iconst C dX3_work_26 (v := (-1)) rfl ?_
  refine fw_ixor C dX3_work_27 ?_
  refine fw_iand C dX3_work_28 ?_
  obtain ⟨r4, q5, h⟩ := bd1_some h
  refine fw_callSi C (As := [.int (v1 &&& ((Y 3 ((Y 1 g0 0 0).toNatClampNeg) 0 16) ^^^ ((-1))))]) (c_J6_bitCount_0f7a4 ga0 q5) (va_cwS 1 (cx_ts C) gX3_work_J6_bitCount_0f7a4 rfl rfl rfl (by decide +kernel) ⟨Nat.le_of_ble_eq_true rfl, Nat.le_of_ble_eq_true rfl⟩) rfl (st := [.int (Y 2 g0 0 3), .ref (ad 2 g0 0)]) rfl (Nat.le_of_ble_eq_true rfl) ⟨Nat.le_refl 0, Nat.le_refl 0⟩ dX3_work_29 (pp2 ?_)
  refine fw_iadd C dX3_work_32 ?_
  obtain ⟨Y6, e7, h⟩ := lt_some h
  refine fw_putN C (ci := 8) (Cn := RX8) (Tc := TX8) (N := 15) (j := 3) (ty := .int) (upd (Y 2 g0 0) 3 ((Y 2 g0 0 3) + r4)) ly_X3_work_8 rfl tyX8_ok nmX8 (hG _ (List.mem_of_getElem? (i := 1) rfl)) (of2_0 _) (ce2 T ad _ _) (by decide) (Nst_use (cx_nst C) (w := .fieldLinkNest RX3 85 "RecipeScheduler$State" "cookMinutes" "I" "RecipeScheduler") 436 (by decide +kernel) rfl) (fun _ h => h) rfl (by decide +kernel) rfl rfl (Nat.le_of_ble_eq_true rfl) (ce2_put3 T ad _ _ _) dX3_work_33 ?_
  refine fw_mem ((up_eq _ _ _ _ _ _).symm.trans e7) ?_
  refine fw_iconst C dX3_work_36 (v := 0) rfl ?_
  refine fw_istore_n C dX3_work_37 rfl (by decide) (L' := [(3, .int 0), (2, .int v1), (1, .int 0), (0, .ref (ad 1 g0 0))]) rfl ?_
  exact w_X3_work_b38 C hrt hG   _ _ _ _ _ h
end
set_option maxRecDepth 100000 in
set_option maxHeartbeats 4000000 in
theorem c_X3_work {l : Launch} {N0 : Nat} {T : Nat → ClassId} {D : va_G} {gr : List (Nat × Nat)} {ad : Nat → Nat → Nat → Nat} {Y : Mem} {g0 : Nat} {res : Int32 × Mem} (hG : ∀ q ∈ ([(1, g0), (2, g0)] ++ allG), q ∈ gr) (h : X3_work Y g0 = some res) : CI l yX3_work wsX3_work (Rm 1) N0 T D gr ad Y [.ref (ad 1 g0 0)] (fun r Y1 => (r, Y1) = res) :=
  fw_body (by decide +kernel) rfl (Nat.le_of_ble_eq_true rfl) (fun p e s m below meth c C hrt => w_X3_work C hrt hG  h)
theorem ly_X8_burn_8 : ∀ w ∈ u_ws RX8 TX8 15, w ∈ wsX8_burn := by decide +kernel
theorem fl_X8_burn_56 : Cond.fieldLink RX8 56 "RecipeScheduler$State" "done" "I" ∈ wsX8_burn := by decide +kernel
theorem fl_X8_burn_59 : Cond.fieldLink RX8 59 "RecipeScheduler$State" "burnt" "I" ∈ wsX8_burn := by decide +kernel
theorem fl_X8_burn_18 : Cond.fieldLink RX8 18 "RecipeScheduler$State" "age" "[I" ∈ wsX8_burn := by decide +kernel
theorem fl_X8_burn_27 : Cond.fieldLink RX8 27 "RecipeScheduler$State" "burns" "[I" ∈ wsX8_burn := by decide +kernel
section
variable {p : Program} {l : Launch} {e : Env} {s : State} {m : MethodId} {below : List Frame} {meth : Method} {c : Code} {N0 : Nat} {T : Nat → ClassId} {D : va_G} {gr : List (Nat × Nat)} {ad : Nat → Nat → Nat → Nat}
set_option maxRecDepth 100000 in
set_option maxHeartbeats 4000000 in
theorem w_X8_burn {Y : Mem} {g0 : Nat} {a1 : Int32} (C : Cx p s m [.ref (ad 2 g0 0), .int a1].toArray meth c cX8_burn 2 wsX8_burn RX8 N0 T D gr ad) (hrt : meth.sig.returnType = none) (hG : ∀ q ∈ [(2, g0)], q ∈ gr) {res : Mem} (h : X8_burn Y g0 a1 = some res) : FW p l e (Rm 0) s m [.ref (ad 2 g0 0), .int a1].toArray below meth c 2 N0 T D gr ad 0 0 (MQ below (va_Qv (fun Y1 => Y1 = res) (WB T D gr ad) (fun q => N0 ≤ q)) [.ref (ad 2 g0 0), .int a1].toArray s 0 0 (fun q => N0 ≤ q)) Y 0 [(0, .ref (ad 2 g0 0)), (1, .int a1)] [] := by
  unfold X8_burn at h
  refine fw_aload_n C dX8_burn_0 rfl 0 rfl ?_
  refine fw_dup C dX8_burn_1 rfl ?_
  refine fw_get C (ci := 8) (Cn := RX8) (Tc := TX8) (N := 15) (j := 7) ly_X8_burn_8 rfl (hG _ (List.mem_of_getElem? (i := 0) rfl)) (of2_0 _) (ce2 T ad _ _) (by decide) (cx_ts C _ fl_X8_burn_56) (fun _ h => h) (v := .int (Y 2 g0 0 7)) rfl dX8_burn_2 ?_
  refine fw_iconst C dX8_burn_5 (v := 1) rfl ?_
  refine fw_iload_n C dX8_burn_6 rfl 1 rfl ?_
  refine fw_ishl C dX8_burn_7 ?_
  refine fw_iconst C dX8_burn_8 (v := (-1)) rfl ?_
  refine fw_ixor C dX8_burn_9 ?_
  refine fw_iand C dX8_burn_10 ?_
  obtain ⟨Y1, e2, h⟩ := lt_some h
  refine fw_put C (ci := 8) (Cn := RX8) (Tc := TX8) (N := 15) (j := 7) (ty := .int) (upd (Y 2 g0 0) 7 ((Y 2 g0 0 7) &&& ((1 <<< (a1 &&& 31)) ^^^ ((-1))))) ly_X8_burn_8 rfl tyX8_ok nmX8 (hG _ (List.mem_of_getElem? (i := 0) rfl)) (of2_0 _) (ce2 T ad _ _) (by decide) (cx_ts C _ fl_X8_burn_56) (fun _ h => h) rfl (by decide +kernel) rfl rfl (Nat.le_of_ble_eq_true rfl) (ce2_put7 T ad _ _ _) dX8_burn_11 ?_
  refine fw_mem ((up_eq _ _ _ _ _ _).symm.trans e2) ?_
  refine fw_aload_n C dX8_burn_14 rfl 0 rfl ?_
  refine fw_dup C dX8_burn_15 rfl ?_
  refine fw_get C (ci := 8) (Cn := RX8) (Tc := TX8) (N := 15) (j := 8) ly_X8_burn_8 rfl (hG _ (List.mem_of_getElem? (i := 0) rfl)) (of2_0 _) (ce2 T ad _ _) (by decide) (cx_ts C _ fl_X8_burn_59) (fun _ h => h) (v := .int (Y1 2 g0 0 8)) rfl dX8_burn_16 ?_
  refine fw_iconst C dX8_burn_19 (v := 1) rfl ?_
  refine fw_iload_n C dX8_burn_20 rfl 1 rfl ?_
  refine fw_ishl C dX8_burn_21 ?_
  refine fw_ior C dX8_burn_22 ?_
  obtain ⟨Y3, e4, h⟩ := lt_some h
  refine fw_put C (ci := 8) (Cn := RX8) (Tc := TX8) (N := 15) (j := 8) (ty := .int) (upd (Y1 2 g0 0) 8 ((Y1 2 g0 0 8) ||| (1 <<< (a1 &&& 31)))) ly_X8_burn_8 rfl tyX8_ok nmX8 (hG _ (List.mem_of_getElem? (i := 0) rfl)) (of2_0 _) (ce2 T ad _ _) (by decide) (cx_ts C _ fl_X8_burn_59) (fun _ h => h) rfl (by decide +kernel) rfl rfl (Nat.le_of_ble_eq_true rfl) (ce2_put8 T ad _ _ _) dX8_burn_23 ?_
  refine fw_mem ((up_eq _ _ _ _ _ _).symm.trans e4) ?_
  refine fw_aload_n C dX8_burn_26 rfl 0 rfl ?_
  refine fw_get C (ci := 8) (Cn := RX8) (Tc := TX8) (N := 15) (j := 11) ly_X8_burn_8 rfl (hG _ (List.mem_of_getElem? (i := 0) rfl)) (of2_0 _) (ce2 T ad _ _) (by decide) (cx_ts C _ fl_X8_burn_18) (fun _ h => h) (v := .ref (ad 2 g0 3)) rfl dX8_burn_27 ?_
  refine fw_iload_n C dX8_burn_30 rfl 1 rfl ?_
  refine fw_iconst C dX8_burn_31 (v := 0) rfl ?_
  obtain ⟨b5, h⟩ := gd_some h
  obtain ⟨Y6, e7, h⟩ := lt_some h
  refine fw_iast2 C (hG _ (List.mem_of_getElem? (i := 0) rfl)) (of2_3 _) (ca2_3 T ad _) b5 (Nat.le_of_ble_eq_true rfl) dX8_burn_32 ?_
  refine fw_mem e7 ?_
  refine fw_aload_n C dX8_burn_33 rfl 0 rfl ?_
  refine fw_get C (ci := 8) (Cn := RX8) (Tc := TX8) (N := 15) (j := 14) ly_X8_burn_8 rfl (hG _ (List.mem_of_getElem? (i := 0) rfl)) (of2_0 _) (ce2 T ad _ _) (by decide) (cx_ts C _ fl_X8_burn_27) (fun _ h => h) (v := .ref (ad 2 g0 6)) rfl dX8_burn_34 ?_
  refine fw_iload_n C dX8_burn_37 rfl 1 rfl ?_
  refine fw_dup2 C dX8_burn_38 rfl rfl ?_
  refine fw_iald2 C (hG _ (List.mem_of_getElem? (i := 0) rfl)) (of2_6 _) (ca2_6 T ad _ _) b5 (Nat.le_of_ble_eq_true rfl) dX8_burn_39 ?_
  refine fw_iconst C dX8_burn_40 (v := 1) rfl ?_
  refine fw_iadd C dX8_burn_41 ?_
  obtain ⟨Y8, e9, h⟩ := lt_some h
  refine fw_iast2 C (hG _ (List.mem_of_getElem? (i := 0) rfl)) (of2_6 _) (ca2_6 T ad _) b5 (Nat.le_of_ble_eq_true rfl) dX8_burn_42 ?_
  refine fw_mem e9 ?_
  exact fw_vret C hrt Y8 (Option.some.inj h) (fun t ht => ht) dX8_burn_43
end
set_option maxRecDepth 100000 in
set_option maxHeartbeats 4000000 in
theorem c_X8_burn {l : Launch} {N0 : Nat} {T : Nat → ClassId} {D : va_G} {gr : List (Nat × Nat)} {ad : Nat → Nat → Nat → Nat} {Y : Mem} {g0 : Nat} {a1 : Int32} {res : Mem} (hG : ∀ q ∈ [(2, g0)], q ∈ gr) (h : X8_burn Y g0 a1 = some res) : CV l yX8_burn wsX8_burn (Rm 0) N0 T D gr ad Y [.ref (ad 2 g0 0), .int a1] (fun Y1 => Y1 = res) :=
  fw_body (by decide +kernel) rfl (Nat.le_of_ble_eq_true rfl) (fun p e s m below meth c C hrt => w_X8_burn C hrt hG  h)
theorem ly_X3_growOld_3 : ∀ w ∈ u_ws RX3 TX3 5, w ∈ wsX3_growOld := by decide +kernel
theorem fl_X3_growOld_12 : Cond.fieldLink RX3 12 "RecipeScheduler$Kitchen" "state" "LRecipeScheduler$State;" ∈ wsX3_growOld := by decide +kernel
theorem ly_X3_growOld_8 : ∀ w ∈ u_ws RX8 TX8 15, w ∈ wsX3_growOld := by decide +kernel
theorem fl_X3_growOld_28 : Cond.fieldLink RX3 28 "RecipeScheduler$Kitchen" "recipe" "LRecipeScheduler$Recipe;" ∈ wsX3_growOld := by decide +kernel
theorem ly_X3_growOld_5 : ∀ w ∈ u_ws RX5 TX5 17, w ∈ wsX3_growOld := by decide +kernel
theorem ly_X3_growOld_4 : ∀ w ∈ u_ws RX4 TX4 3, w ∈ wsX3_growOld := by decide +kernel
theorem in_X3_growOld_11 : Cond.initialized RX11 ∈ wsX3_growOld := by decide +kernel
theorem sw_X3_growOld_X11_contains : Cond.static yX11_contains ∈ wsX3_growOld := by decide +kernel
section
variable {p : Program} {l : Launch} {e : Env} {s : State} {m : MethodId} {below : List Frame} {meth : Method} {c : Code} {N0 : Nat} {T : Nat → ClassId} {D : va_G} {gr : List (Nat × Nat)} {ad : Nat → Nat → Nat → Nat}
set_option maxRecDepth 100000 in
set_option maxHeartbeats 4000000 in
theorem w_X3_growOld_b92 {g0 : Nat} {a1 : Int32} (C : Cx p s m [.ref (ad 1 g0 0), .int a1].toArray meth c cX3_growOld 4 wsX3_growOld RX3 N0 T D gr ad) (hrt : meth.sig.returnType = none) (hG : ∀ q ∈ ([(1, g0), (2, g0)] ++ allG), q ∈ gr) {res : Mem} {k22 : Mem → Int32 → Int32 → Option (Mem)} (hk22 : ∀ (Y : Mem) (l3 : Int32) (l2 : Int32), k22 Y l3 l2 = some res → FW p l e (Rm 1) s m [.ref (ad 1 g0 0), .int a1].toArray below meth c 4 N0 T D gr ad 0 0 (MQ below (va_Qv (fun Y1 => Y1 = res) (WB T D gr ad) (fun q => N0 ≤ q)) [.ref (ad 1 g0 0), .int a1].toArray s 0 0 (fun q => N0 ≤ q)) Y 22 [(3, .int l3), (2, .int l2), (0, .ref (ad 1 g0 0))] []) (Y : Mem) (l3 : Int32) (l2 : Int32) (h : X3_growOld_b92 g0 a1 k22 Y l3 l2 = some res) : FW p l e (Rm 1) s m [.ref (ad 1 g0 0), .int a1].toArray below meth c 4 N0 T D gr ad 0 0 (MQ below (va_Qv (fun Y1 => Y1 = res) (WB T D gr ad) (fun q => N0 ≤ q)) [.ref (ad 1 g0 0), .int a1].toArray s 0 0 (fun q => N0 ≤ q)) Y 92 [(3, .int l3), (2, .int l2), (0, .ref (ad 1 g0 0))] [] := by
  unfold X3_growOld_b92 at h
  refine fw_iinc C dX3_growOld_92 (kk := 0) (v := l3 + 1) rfl rfl (by decide) (L' := [(3, .int (l3 + 1)), (2, .int l2), (0, .ref (ad 1 g0 0))]) rfl ?_
  refine fw_goto C dX3_growOld_95 (tgt := 22) rfl ?_
  exact hk22 _ _ _ h
set_option maxRecDepth 100000 in
set_option maxHeartbeats 4000000 in
theorem w_X3_growOld_b22 {g0 : Nat} {a1 : Int32} (C : Cx p s m [.ref (ad 1 g0 0), .int a1].toArray meth c cX3_growOld 4 wsX3_growOld RX3 N0 T D gr ad) (hrt : meth.sig.returnType = none) (hG : ∀ q ∈ ([(1, g0), (2, g0)] ++ allG), q ∈ gr) {res : Mem} : ∀ (n : Nat) (Y : Mem) (l3 : Int32) (l2 : Int32), X3_growOld_b22 g0 a1  n Y l3 l2 = some res → FW p l e (Rm 1) s m [.ref (ad 1 g0 0), .int a1].toArray below meth c 4 N0 T D gr ad 0 0 (MQ below (va_Qv (fun Y1 => Y1 = res) (WB T D gr ad) (fun q => N0 ≤ q)) [.ref (ad 1 g0 0), .int a1].toArray s 0 0 (fun q => N0 ≤ q)) Y 22 [(3, .int l3), (2, .int l2), (0, .ref (ad 1 g0 0))] [] := by
  intro n
  induction n with
  | zero =>
    intro Y l3 l2 h
    unfold X3_growOld_b22 at h
    cases h
  | succ n ih =>
    intro Y l3 l2 h
    unfold X3_growOld_b22 at h
    refine fw_iload_n C dX3_growOld_22 rfl 0 rfl ?_
    refine fw_aload_n C dX3_growOld_23 rfl 2 rfl ?_
    refine fw_get C (ci := 3) (Cn := RX3) (Tc := TX3) (N := 5) (j := 0) ly_X3_growOld_3 rfl (hG _ (List.mem_of_getElem? (i := 0) rfl)) (of1_0 _) (ce1 T ad _ _) (by decide) (cx_ts C _ fl_X3_growOld_28) (fun _ h => h) (v := .ref (ad 3 ((Y 1 g0 0 0).toNatClampNeg) 0)) rfl dX3_growOld_24 ?_
    obtain ⟨b4, h⟩ := gd_some h
    have b4 := of_decide_eq_true b4
    refine fw_getN C (ci := 5) (Cn := RX5) (Tc := TX5) (N := 17) (j := 7) ly_X3_growOld_5 rfl ((fun q hq => hG q (List.mem_append_right _ hq)) _ (allG_3 b4)) (of3_0 _) (ce3 T ad _ _) (by decide) (Nst_use (cx_nst C) (w := .fieldLinkNest RX3 91 "RecipeScheduler$Recipe" "steps" "LRecipeScheduler$Names;" "RecipeScheduler") 146 (by decide +kernel) rfl) (fun _ h => h) (v := .ref (ad 4 (2*((Y 1 g0 0 0).toNatClampNeg)+1) 0)) rfl dX3_growOld_27 ?_
    obtain ⟨b5, h⟩ := gd_some h
    have b5 := of_decide_eq_true b5
    refine fw_getN C (ci := 4) (Cn := RX4) (Tc := TX4) (N := 3) (j := 2) ly_X3_growOld_4 rfl ((fun q hq => hG q (List.mem_append_right _ hq)) _ (allG_4b b5)) (of4_0 _) (ce4 T ad _ _) (by decide) (Nst_use (cx_nst C) (w := .fieldLinkNest RX3 95 "RecipeScheduler$Names" "count" "I" "RecipeScheduler") 114 (by decide +kernel) rfl) (fun _ h => h) (v := .int (Y 4 (2*((Y 1 g0 0 0).toNatClampNeg)+1) 0 2)) rfl dX3_growOld_30 ?_
    refine fw_icmp_ge C dX3_growOld_33 (tgt := 98) rfl (fun c6 => ?_) (fun c6 => ?_)
    · have h := ite_t c6 h
      exact fw_vret C hrt Y (Option.some.inj h) (fun t ht => ht) dX3_growOld_98
    · have h := ite_f c6 h
      refine fw_iload_n C dX3_growOld_36 rfl 1 rfl ?_
      refine fw_iload_n C dX3_growOld_37 rfl 0 rfl ?_
      obtain ⟨r7, q8, h⟩ := bd1_some h
      refine fw_callSNi C (As := [.int l2, .int l3]) (c_X11_contains ga0 q8) ⟨(va_cnB 2 (cx_ts C) gX3_growOld_X11_contains_n100 rfl rfl rfl (cx_nw C (w := .methodLinkNest RX3 100 yX11_contains "RecipeScheduler") 683 (by decide +kernel) rfl) (cx_ts C _ in_X3_growOld_11) (by decide +kernel) ⟨Nat.le_of_ble_eq_true rfl, Nat.le_of_ble_eq_true rfl⟩), cx_ts C _ sw_X3_growOld_X11_contains, trivial⟩ rfl (st := []) rfl (Nat.le_of_ble_eq_true rfl) ⟨Nat.le_refl 0, Nat.le_refl 0⟩ dX3_growOld_38 (pp2 ?_)
      refine fw_if_eq C dX3_growOld_41 (tgt := 92) rfl (fun c9 => ?_) (fun c9 => ?_)
      · have h := ite_t c9 h
        exact w_X3_growOld_b92 C hrt hG  ih _ _ _ h
      · have h := ite_f c9 h
        refine fw_aload_n C dX3_growOld_44 rfl 2 rfl ?_
        refine fw_iload_n C dX3_growOld_45 rfl 0 rfl ?_
        obtain ⟨r10, q11, h⟩ := bd1_some h
        refine fw_callVi C (ci := 3) (Cn := RX3) (Tc := TX3) (N := 5) (As := [.int l3]) (c_X3_isContinued (gac (hG _ (List.mem_of_getElem? (i := 0) rfl)) (gac (hG _ (List.mem_of_getElem? (i := 1) rfl)) (fun q hq => hG q (List.mem_append_right _ hq)))) q11) (cwV 1 (cx_ts C) gX3_growOld_X3_isContinued rfl rfl rfl (by decide +kernel) ⟨Nat.le_of_ble_eq_true rfl, Nat.le_of_ble_eq_true rfl⟩) rfl (hG _ (List.mem_of_getElem? (i := 0) rfl)) (of1_0 _) (ce1 T ad _ _) rfl (st := []) rfl (Nat.le_of_ble_eq_true rfl) ⟨Nat.le_refl 0, Nat.le_refl 0⟩ dX3_growOld_46 (pp2 ?_)
        refine fw_if_ne C dX3_growOld_49 (tgt := 92) rfl (fun c12 => ?_) (fun c12 => ?_)
        · have h := ite_f c12 h
          exact w_X3_growOld_b92 C hrt hG  ih _ _ _ h
        · have h := ite_t c12 h
          refine fw_aload_n C dX3_growOld_52 rfl 2 rfl ?_
          refine fw_get C (ci := 3) (Cn := RX3) (Tc := TX3) (N := 5) (j := 1) ly_X3_growOld_3 rfl (hG _ (List.mem_of_getElem? (i := 0) rfl)) (of1_0 _) (ce1 T ad _ _) (by decide) (cx_ts C _ fl_X3_growOld_12) (fun _ h => h) (v := .ref (ad 2 g0 0)) rfl dX3_growOld_53 ?_
          refine fw_getN C (ci := 8) (Cn := RX8) (Tc := TX8) (N := 15) (j := 11) ly_X3_growOld_8 rfl (hG _ (List.mem_of_getElem? (i := 1) rfl)) (of2_0 _) (ce2 T ad _ _) (by decide) (Nst_use (cx_nst C) (w := .fieldLinkNest RX3 117 "RecipeScheduler$State" "age" "[I" "RecipeScheduler") 458 (by decide +kernel) rfl) (fun _ h => h) (v := .ref (ad 2 g0 3)) rfl dX3_growOld_56 ?_
          refine fw_iload_n C dX3_growOld_59 rfl 0 rfl ?_
          refine fw_dup2 C dX3_growOld_60 rfl rfl ?_
          obtain ⟨b13, h⟩ := gd_some h
          refine fw_iald2 C (hG _ (List.mem_of_getElem? (i := 1) rfl)) (of2_3 _) (ca2_3 T ad _ _) b13 (Nat.le_of_ble_eq_true rfl) dX3_growOld_61 ?_
          refine fw_iconst C dX3_growOld_62 (v := 1) rfl ?_
          refine fw_iadd C dX3_growOld_63 ?_
          obtain ⟨Y14, e15, h⟩ := lt_some h
          refine fw_iast2 C (hG _ (List.mem_of_getElem? (i := 1) rfl)) (of2_3 _) (ca2_3 T ad _) b13 (Nat.le_of_ble_eq_true rfl) dX3_growOld_64 ?_
          refine fw_mem e15 ?_
          refine fw_aload_n C dX3_growOld_65 rfl 2 rfl ?_
          refine fw_get C (ci := 3) (Cn := RX3) (Tc := TX3) (N := 5) (j := 1) ly_X3_growOld_3 rfl (hG _ (List.mem_of_getElem? (i := 0) rfl)) (of1_0 _) (ce1 T ad _ _) (by decide) (cx_ts C _ fl_X3_growOld_12) (fun _ h => h) (v := .ref (ad 2 g0 0)) rfl dX3_growOld_66 ?_
          refine fw_getN C (ci := 8) (Cn := RX8) (Tc := TX8) (N := 15) (j := 11) ly_X3_growOld_8 rfl (hG _ (List.mem_of_getElem? (i := 1) rfl)) (of2_0 _) (ce2 T ad _ _) (by decide) (Nst_use (cx_nst C) (w := .fieldLinkNest RX3 117 "RecipeScheduler$State" "age" "[I" "RecipeScheduler") 458 (by decide +kernel) rfl) (fun _ h => h) (v := .ref (ad 2 g0 3)) rfl dX3_growOld_69 ?_
          refine fw_iload_n C dX3_growOld_72 rfl 0 rfl ?_
          refine fw_iald2 C (hG _ (List.mem_of_getElem? (i := 1) rfl)) (of2_3 _) (ca2_3 T ad _ _) b13 (Nat.le_of_ble_eq_true rfl) dX3_growOld_73 ?_
          refine fw_aload_n C dX3_growOld_74 rfl 2 rfl ?_
          refine fw_get C (ci := 3) (Cn := RX3) (Tc := TX3) (N := 5) (j := 0) ly_X3_growOld_3 rfl (hG _ (List.mem_of_getElem? (i := 0) rfl)) (of1_0 _) (ce1 T ad _ _) (by decide) (cx_ts C _ fl_X3_growOld_28) (fun _ h => h) (v := .ref (ad 3 ((Y14 1 g0 0 0).toNatClampNeg) 0)) rfl dX3_growOld_75 ?_
          obtain ⟨b16, h⟩ := gd_some h
          have b16 := of_decide_eq_true b16
          refine fw_getN C (ci := 5) (Cn := RX5) (Tc := TX5) (N := 17) (j := 1) ly_X3_growOld_5 rfl ((fun q hq => hG q (List.mem_append_right _ hq)) _ (allG_3 b16)) (of3_0 _) (ce3 T ad _ _) (by decide) (Nst_use (cx_nst C) (w := .fieldLinkNest RX3 120 "RecipeScheduler$Recipe" "hold" "I" "RecipeScheduler") 128 (by decide +kernel) rfl) (fun _ h => h) (v := .int (Y14 3 ((Y14 1 g0 0 0).toNatClampNeg) 0 1)) rfl dX3_growOld_78 ?_
          refine fw_icmp_le C dX3_growOld_81 (tgt := 92) rfl (fun c17 => ?_) (fun c17 => ?_)
          · have h := ite_t c17 h
            exact w_X3_growOld_b92 C hrt hG  ih _ _ _ h
          · have h := ite_f c17 h
            refine fw_aload_n C dX3_growOld_84 rfl 2 rfl ?_
            refine fw_get C (ci := 3) (Cn := RX3) (Tc := TX3) (N := 5) (j := 1) ly_X3_growOld_3 rfl (hG _ (List.mem_of_getElem? (i := 0) rfl)) (of1_0 _) (ce1 T ad _ _) (by decide) (cx_ts C _ fl_X3_growOld_12) (fun _ h => h) (v := .ref (ad 2 g0 0)) rfl dX3_growOld_85 ?_
            refine fw_iload_n C dX3_growOld_88 rfl 0 rfl ?_
            obtain ⟨Y20, q19, h⟩ := bd1_some h
            refine fw_callVv C (ci := 8) (Cn := RX8) (Tc := TX8) (N := 15) (As := [.int l3]) (c_X8_burn (gac (hG _ (List.mem_of_getElem? (i := 1) rfl)) ga0) q19) (cwV 1 (cx_ts C) gX3_growOld_X8_burn rfl rfl rfl (by decide +kernel) ⟨Nat.le_of_ble_eq_true rfl, Nat.le_of_ble_eq_true rfl⟩) rfl (hG _ (List.mem_of_getElem? (i := 1) rfl)) (of2_0 _) (ce2 T ad _ _) rfl (st := []) rfl (Nat.le_of_ble_eq_true rfl) ⟨Nat.le_refl 0, Nat.le_refl 0⟩ dX3_growOld_89 (ppv ?_)
            exact w_X3_growOld_b92 C hrt hG  ih _ _ _ h
set_option maxRecDepth 100000 in
set_option maxHeartbeats 4000000 in
theorem w_X3_growOld {Y : Mem} {g0 : Nat} {a1 : Int32} (C : Cx p s m [.ref (ad 1 g0 0), .int a1].toArray meth c cX3_growOld 4 wsX3_growOld RX3 N0 T D gr ad) (hrt : meth.sig.returnType = none) (hG : ∀ q ∈ ([(1, g0), (2, g0)] ++ allG), q ∈ gr) {res : Mem} (h : X3_growOld Y g0 a1 = some res) : FW p l e (Rm 1) s m [.ref (ad 1 g0 0), .int a1].toArray below meth c 4 N0 T D gr ad 0 0 (MQ below (va_Qv (fun Y1 => Y1 = res) (WB T D gr ad) (fun q => N0 ≤ q)) [.ref (ad 1 g0 0), .int a1].toArray s 0 0 (fun q => N0 ≤ q)) Y 0 [(0, .ref (ad 1 g0 0)), (1, .int a1)] [] := by
  unfold X3_growOld at h
  refine fw_aload_n C dX3_growOld_0 rfl 0 rfl ?_
  refine fw_get C (ci := 3) (Cn := RX3) (Tc := TX3) (N := 5) (j := 1) ly_X3_growOld_3 rfl (hG _ (List.mem_of_getElem? (i := 0) rfl)) (of1_0 _) (ce1 T ad _ _) (by decide) (cx_ts C _ fl_X3_growOld_12) (fun _ h => h) (v := .ref (ad 2 g0 0)) rfl dX3_growOld_1 ?_
  refine fw_getN C (ci := 8) (Cn := RX8) (Tc := TX8) (N := 15) (j := 7) ly_X3_growOld_8 rfl (hG _ (List.mem_of_getElem? (i := 1) rfl)) (of2_0 _) (ce2 T ad _ _) (by decide) (Nst_use (cx_nst C) (w := .fieldLinkNest RX3 47 "RecipeScheduler$State" "done" "I" "RecipeScheduler") 447 (by decide +kernel) rfl) (fun _ h => h) (v := .int (Y 2 g0 0 7)) rfl dX3_growOld_4 ?_
  refine fw_aload_n C dX3_growOld_7 rfl 0 rfl ?_
  refine fw_get C (ci := 3) (Cn := RX3) (Tc := TX3) (N := 5) (j := 0) ly_X3_growOld_3 rfl (hG _ (List.mem_of_getElem? (i := 0) rfl)) (of1_0 _) (ce1 T ad _ _) (by decide) (cx_ts C _ fl_X3_growOld_28) (fun _ h => h) (v := .ref (ad 3 ((Y 1 g0 0 0).toNatClampNeg) 0)) rfl dX3_growOld_8 ?_
  obtain ⟨b1, h⟩ := gd_some h
  have b1 := of_decide_eq_true b1
  refine fw_getN C (ci := 5) (Cn := RX5) (Tc := TX5) (N := 17) (j := 15) ly_X3_growOld_5 rfl ((fun q hq => hG q (List.mem_append_right _ hq)) _ (allG_3 b1)) (of3_0 _) (ce3 T ad _ _) (by decide) (Nst_use (cx_nst C) (w := .fieldLinkNest RX3 110 "RecipeScheduler$Recipe" "hot" "I" "RecipeScheduler") 170 (by decide +kernel) rfl) (fun _ h => h) (v := .int (Y 3 ((Y 1 g0 0 0).toNatClampNeg) 0 15)) rfl dX3_growOld_11 ?_
  refine fw_iand C dX3_growOld_14 ?_
  refine fw_iload_n C dX3_growOld_15 rfl 1 rfl ?_
  refine fw_iconst C dX3_growOld_16 (v := (-1)) rfl ?_
  refine fw_ixor C dX3_growOld_17 ?_
  refine fw_iand C dX3_growOld_18 ?_
  obtain ⟨v2, e3, h⟩ := lt_some h
  refine fw_top (v' := .int v2) (by rw [e3]) ?_
  refine fw_istore_n C dX3_growOld_19 rfl (by decide) (L' := [(2, .int v2), (0, .ref (ad 1 g0 0)), (1, .int a1)]) rfl ?_
  refine fw_iconst C dX3_growOld_20 (v := 0) rfl ?_
  refine fw_istore_n C dX3_growOld_21 rfl (by decide) (L' := [(3, .int 0), (2, .int v2), (0, .ref (ad 1 g0 0)), (1, .int a1)]) rfl ?_
  refine fw_sub [0, 1, 2] (L' := [(3, .int 0), (2, .int v2), (0, .ref (ad 1 g0 0))]) rfl ?_
  exact w_X3_growOld_b22 C hrt hG   _ _ _ _ h
end
set_option maxRecDepth 100000 in
set_option maxHeartbeats 4000000 in
theorem c_X3_growOld {l : Launch} {N0 : Nat} {T : Nat → ClassId} {D : va_G} {gr : List (Nat × Nat)} {ad : Nat → Nat → Nat → Nat} {Y : Mem} {g0 : Nat} {a1 : Int32} {res : Mem} (hG : ∀ q ∈ ([(1, g0), (2, g0)] ++ allG), q ∈ gr) (h : X3_growOld Y g0 a1 = some res) : CV l yX3_growOld wsX3_growOld (Rm 1) N0 T D gr ad Y [.ref (ad 1 g0 0), .int a1] (fun Y1 => Y1 = res) :=
  fw_body (by decide +kernel) rfl (Nat.le_of_ble_eq_true rfl) (fun p e s m below meth c C hrt => w_X3_growOld C hrt hG  h)
theorem ly_X5_allSteps_5 : ∀ w ∈ u_ws RX5 TX5 17, w ∈ wsX5_allSteps := by decide +kernel
theorem fl_X5_allSteps_27 : Cond.fieldLink RX5 27 "RecipeScheduler$Recipe" "steps" "LRecipeScheduler$Names;" ∈ wsX5_allSteps := by decide +kernel
theorem ly_X5_allSteps_4 : ∀ w ∈ u_ws RX4 TX4 3, w ∈ wsX5_allSteps := by decide +kernel
section
variable {p : Program} {l : Launch} {e : Env} {s : State} {m : MethodId} {below : List Frame} {meth : Method} {c : Code} {N0 : Nat} {T : Nat → ClassId} {D : va_G} {gr : List (Nat × Nat)} {ad : Nat → Nat → Nat → Nat}
set_option maxRecDepth 100000 in
set_option maxHeartbeats 4000000 in
theorem w_X5_allSteps {Y : Mem} {g0 : Nat} (C : Cx p s m [.ref (ad 3 g0 0)].toArray meth c cX5_allSteps 1 wsX5_allSteps RX5 N0 T D gr ad) (hrt : meth.sig.returnType = (some .int)) (hG : ∀ q ∈ [(3, g0), (4, 2*g0+1)], q ∈ gr) {res : Int32} (h : X5_allSteps Y g0 = some res) : FW p l e (Rm 0) s m [.ref (ad 3 g0 0)].toArray below meth c 1 N0 T D gr ad 0 0 (MQ below (va_Qi (fun r Y1 => r = res ∧ Y1 = Y) (WB T D gr ad) (fun q => N0 ≤ q)) [.ref (ad 3 g0 0)].toArray s 0 0 (fun q => N0 ≤ q)) Y 0 [(0, .ref (ad 3 g0 0))] [] := by
  unfold X5_allSteps at h
  refine fw_iconst C dX5_allSteps_0 (v := 1) rfl ?_
  refine fw_aload_n C dX5_allSteps_1 rfl 0 rfl ?_
  refine fw_get C (ci := 5) (Cn := RX5) (Tc := TX5) (N := 17) (j := 7) ly_X5_allSteps_5 rfl (hG _ (List.mem_of_getElem? (i := 0) rfl)) (of3_0 _) (ce3 T ad _ _) (by decide) (cx_ts C _ fl_X5_allSteps_27) (fun _ h => h) (v := .ref (ad 4 (2*g0+1) 0)) rfl dX5_allSteps_2 ?_
  refine fw_getN C (ci := 4) (Cn := RX4) (Tc := TX4) (N := 3) (j := 2) ly_X5_allSteps_4 rfl (hG _ (List.mem_of_getElem? (i := 1) rfl)) (of4_0 _) (ce4 T ad _ _) (by decide) (Nst_use (cx_nst C) (w := .fieldLinkNest RX5 53 "RecipeScheduler$Names" "count" "I" "RecipeScheduler") 111 (by decide +kernel) rfl) (fun _ h => h) (v := .int (Y 4 (2*g0+1) 0 2)) rfl dX5_allSteps_5 ?_
  refine fw_ishl C dX5_allSteps_8 ?_
  refine fw_iconst C dX5_allSteps_9 (v := 1) rfl ?_
  refine fw_isub C dX5_allSteps_10 ?_
  exact fw_iret C hrt Y ⟨Option.some.inj h, rfl⟩ (fun t ht => ht) dX5_allSteps_11
end
set_option maxRecDepth 100000 in
set_option maxHeartbeats 4000000 in
theorem c_X5_allSteps {l : Launch} {N0 : Nat} {T : Nat → ClassId} {D : va_G} {gr : List (Nat × Nat)} {ad : Nat → Nat → Nat → Nat} {Y : Mem} {g0 : Nat} {res : Int32} (hG : ∀ q ∈ [(3, g0), (4, 2*g0+1)], q ∈ gr) (h : X5_allSteps Y g0 = some res) : CI l yX5_allSteps wsX5_allSteps (Rm 0) N0 T D gr ad Y [.ref (ad 3 g0 0)] (fun r Y1 => r = res ∧ Y1 = Y) :=
  fw_body (by decide +kernel) rfl (Nat.le_of_ble_eq_true rfl) (fun p e s m below meth c C hrt => w_X5_allSteps C hrt hG  h)
