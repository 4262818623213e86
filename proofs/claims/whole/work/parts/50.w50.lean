theorem ly_X3_spareMinutes_3 : ∀ w ∈ u_ws RX3 TX3 5, w ∈ wsX3_spareMinutes := by decide +kernel
theorem fl_X3_spareMinutes_18 : Cond.fieldLink RX3 18 "RecipeScheduler$Kitchen" "path" "[I" ∈ wsX3_spareMinutes := by decide +kernel
theorem fl_X3_spareMinutes_22 : Cond.fieldLink RX3 22 "RecipeScheduler$Kitchen" "order" "[I" ∈ wsX3_spareMinutes := by decide +kernel
theorem fl_X3_spareMinutes_25 : Cond.fieldLink RX3 25 "RecipeScheduler$Kitchen" "head" "[I" ∈ wsX3_spareMinutes := by decide +kernel
theorem fl_X3_spareMinutes_28 : Cond.fieldLink RX3 28 "RecipeScheduler$Kitchen" "recipe" "LRecipeScheduler$Recipe;" ∈ wsX3_spareMinutes := by decide +kernel
theorem ly_X3_spareMinutes_5 : ∀ w ∈ u_ws RX5 TX5 17, w ∈ wsX3_spareMinutes := by decide +kernel
theorem in_X3_spareMinutes_11 : Cond.initialized RX11 ∈ wsX3_spareMinutes := by decide +kernel
theorem sw_X3_spareMinutes_X11_contains : Cond.static yX11_contains ∈ wsX3_spareMinutes := by decide +kernel
theorem fl_X3_spareMinutes_12 : Cond.fieldLink RX3 12 "RecipeScheduler$Kitchen" "state" "LRecipeScheduler$State;" ∈ wsX3_spareMinutes := by decide +kernel
theorem ly_X3_spareMinutes_8 : ∀ w ∈ u_ws RX8 TX8 15, w ∈ wsX3_spareMinutes := by decide +kernel
theorem cw_X3_spareMinutes_max : Cond.methodLink RX3 169 Lib.Math.max.name ∈ wsX3_spareMinutes ∧ Cond.static Lib.Math.max.name ∈ wsX3_spareMinutes ∧ Cond.initialized "java/lang/Math" ∈ wsX3_spareMinutes ∧ Cond.code Lib.Math.max.name Lib.Math.max.code 2 (some .int) ∈ wsX3_spareMinutes := by decide +kernel
section
variable {p : Program} {l : Launch} {e : Env} {s : State} {m : MethodId} {below : List Frame} {meth : Method} {c : Code} {N0 : Nat} {T : Nat → ClassId} {D : va_G} {gr : List (Nat × Nat)} {ad : Nat → Nat → Nat → Nat}
set_option maxRecDepth 100000 in
set_option maxHeartbeats 4000000 in
theorem w_X3_spareMinutes_b76 {g0 : Nat} {a1 : Int32} (C : Cx p s m [.ref (ad 1 g0 0), .int a1].toArray meth c cX3_spareMinutes 5 wsX3_spareMinutes RX3 N0 T D gr ad) (hrt : meth.sig.returnType = (some .int)) (hG : ∀ q ∈ ([(2, g0), (1, g0)] ++ allG), q ∈ gr) {res : Int32 × Mem} {k20 : Mem → Int32 → Int32 → Option (Int32 × Mem)} (hk20 : ∀ (Y : Mem) (l3 : Int32) (l2 : Int32), k20 Y l3 l2 = some res → FW p l e (Rm 3) s m [.ref (ad 1 g0 0), .int a1].toArray below meth c 5 N0 T D gr ad 0 0 (MQ below (va_Qi (fun r Y1 => (r, Y1) = res) (WB T D gr ad) (fun q => N0 ≤ q)) [.ref (ad 1 g0 0), .int a1].toArray s 0 0 (fun q => N0 ≤ q)) Y 20 [(3, .int l3), (2, .int l2), (0, .ref (ad 1 g0 0)), (1, .int a1)] []) (Y : Mem) (l3 : Int32) (l2 : Int32) (h : X3_spareMinutes_b76 g0 a1 k20 Y l3 l2 = some res) : FW p l e (Rm 3) s m [.ref (ad 1 g0 0), .int a1].toArray below meth c 5 N0 T D gr ad 0 0 (MQ below (va_Qi (fun r Y1 => (r, Y1) = res) (WB T D gr ad) (fun q => N0 ≤ q)) [.ref (ad 1 g0 0), .int a1].toArray s 0 0 (fun q => N0 ≤ q)) Y 76 [(3, .int l3), (2, .int l2), (0, .ref (ad 1 g0 0)), (1, .int a1)] [] := by
  unfold X3_spareMinutes_b76 at h
  refine fw_iinc C dX3_spareMinutes_76 (kk := 0) (v := l3 + 1) rfl rfl (by decide) (L' := [(3, .int (l3 + 1)), (2, .int l2), (0, .ref (ad 1 g0 0)), (1, .int a1)]) rfl ?_
  refine fw_goto C dX3_spareMinutes_79 (tgt := 20) rfl ?_
  exact hk20 _ _ _ h
set_option maxRecDepth 100000 in
set_option maxHeartbeats 4000000 in
theorem w_X3_spareMinutes_b20 {g0 : Nat} {a1 : Int32} (C : Cx p s m [.ref (ad 1 g0 0), .int a1].toArray meth c cX3_spareMinutes 5 wsX3_spareMinutes RX3 N0 T D gr ad) (hrt : meth.sig.returnType = (some .int)) (hG : ∀ q ∈ ([(2, g0), (1, g0)] ++ allG), q ∈ gr) {res : Int32 × Mem} {k6 : Mem → Int32 → Option (Int32 × Mem)} (hk6 : ∀ (Y : Mem) (l2 : Int32), k6 Y l2 = some res → FW p l e (Rm 3) s m [.ref (ad 1 g0 0), .int a1].toArray below meth c 5 N0 T D gr ad 0 0 (MQ below (va_Qi (fun r Y1 => (r, Y1) = res) (WB T D gr ad) (fun q => N0 ≤ q)) [.ref (ad 1 g0 0), .int a1].toArray s 0 0 (fun q => N0 ≤ q)) Y 6 [(2, .int l2), (0, .ref (ad 1 g0 0)), (1, .int a1)] []) : ∀ (n : Nat) (Y : Mem) (l3 : Int32) (l2 : Int32), X3_spareMinutes_b20 g0 a1 k6 n Y l3 l2 = some res → FW p l e (Rm 3) s m [.ref (ad 1 g0 0), .int a1].toArray below meth c 5 N0 T D gr ad 0 0 (MQ below (va_Qi (fun r Y1 => (r, Y1) = res) (WB T D gr ad) (fun q => N0 ≤ q)) [.ref (ad 1 g0 0), .int a1].toArray s 0 0 (fun q => N0 ≤ q)) Y 20 [(3, .int l3), (2, .int l2), (0, .ref (ad 1 g0 0)), (1, .int a1)] [] := by
  intro n
  induction n with
  | zero =>
    intro Y l3 l2 h
    unfold X3_spareMinutes_b20 at h
    cases h
  | succ n ih =>
    intro Y l3 l2 h
    unfold X3_spareMinutes_b20 at h
    refine fw_iload_n C dX3_spareMinutes_20 rfl 0 rfl ?_
    refine fw_iload_n C dX3_spareMinutes_21 rfl 1 rfl ?_
    refine fw_icmp_ge C dX3_spareMinutes_22 (tgt := 82) rfl (fun c11 => ?_) (fun c11 => ?_)
    · have h := ite_t c11 h
      refine fw_iinc C dX3_spareMinutes_82 (kk := 1) (v := l2 + 1) rfl rfl (by decide) (L' := [(2, .int (l2 + 1)), (3, .int l3), (0, .ref (ad 1 g0 0)), (1, .int a1)]) rfl ?_
      refine fw_goto C dX3_spareMinutes_85 (tgt := 6) rfl ?_
      refine fw_sub [0, 2, 3] (L' := [(2, .int (l2 + 1)), (0, .ref (ad 1 g0 0)), (1, .int a1)]) rfl ?_
      exact hk6 _ _ h
    · have h := ite_f c11 h
      refine fw_aload_n C dX3_spareMinutes_25 rfl 2 rfl ?_
      refine fw_get C (ci := 1) (Cn := RX3) (Tc := TX3) (N := 5) (j := 0) ly_X3_spareMinutes_3 rfl (hG _ (List.mem_of_getElem? (i := 1) rfl)) (of1_0 _) (ce1 T ad _ _) (by decide) (cx_ts C _ fl_X3_spareMinutes_28) (fun _ h => h) (v := .ref (ad 3 ((Y 1 g0 0 0).toNatClampNeg) 0)) rfl dX3_spareMinutes_26 ?_
      obtain ⟨b12, h⟩ := gd_some h
      have b12 := of_decide_eq_true b12
      refine fw_getN C (ci := 3) (Cn := RX5) (Tc := TX5) (N := 17) (j := 13) ly_X3_spareMinutes_5 rfl ((fun q hq => hG q (List.mem_append_right _ hq)) _ (allG_3 b12)) (of3_0 _) (ce3 T ad _ _) (by decide) (Nst_use (cx_nst C) (w := .fieldLinkNest RX3 138 "RecipeScheduler$Recipe" "predecessorSet" "[I" "RecipeScheduler") 171 (by decide +kernel) rfl) (fun _ h => h) (v := .ref (ad 3 (((Y 1 g0 0 0).toNatClampNeg)) 8)) rfl dX3_spareMinutes_29 ?_
      refine fw_iload_n C dX3_spareMinutes_32 rfl 1 rfl ?_
      obtain ⟨b13, h⟩ := gd_some h
      refine fw_iald2 C ((fun q hq => hG q (List.mem_append_right _ hq)) _ (allG_3 b12)) (of3_8 _) (ca3_8 T ad _ _) b13 (Nat.le_of_ble_eq_true rfl) dX3_spareMinutes_33 ?_
      refine fw_iload_n C dX3_spareMinutes_34 rfl 0 rfl ?_
      obtain ⟨r14, q15, h⟩ := bd1_some h
      refine fw_callSNi C (As := [.int (Y 3 (((Y 1 g0 0 0).toNatClampNeg)) 8 (ix l2)), .int l3]) (c_X11_contains ga0 q15) ⟨(va_cnB 2 (cx_ts C) gX3_spareMinutes_X11_contains_n100 rfl rfl rfl (cx_nw C (w := .methodLinkNest RX3 100 yX11_contains "RecipeScheduler") 627 (by decide +kernel) rfl) (cx_ts C _ in_X3_spareMinutes_11) (by decide +kernel) ⟨Nat.le_of_ble_eq_true rfl, Nat.le_of_ble_eq_true rfl⟩), cx_ts C _ sw_X3_spareMinutes_X11_contains, trivial⟩ rfl (st := []) rfl (Nat.le_of_ble_eq_true rfl) ⟨Nat.le_refl 0, Nat.le_refl 0⟩ dX3_spareMinutes_35 (pp2 ?_)
      refine fw_if_eq C dX3_spareMinutes_38 (tgt := 76) rfl (fun c16 => ?_) (fun c16 => ?_)
      · have h := ite_t c16 h
        exact w_X3_spareMinutes_b76 C hrt hG  ih _ _ _ h
      · have h := ite_f c16 h
        refine fw_aload_n C dX3_spareMinutes_41 rfl 2 rfl ?_
        refine fw_get C (ci := 1) (Cn := RX3) (Tc := TX3) (N := 5) (j := 4) ly_X3_spareMinutes_3 rfl (hG _ (List.mem_of_getElem? (i := 1) rfl)) (of1_0 _) (ce1 T ad _ _) (by decide) (cx_ts C _ fl_X3_spareMinutes_25) (fun _ h => h) (v := .ref (ad 1 g0 3)) rfl dX3_spareMinutes_42 ?_
        refine fw_iload_n C dX3_spareMinutes_45 rfl 0 rfl ?_
        obtain ⟨b17, h⟩ := gd_some h
        refine fw_iald2 C (hG _ (List.mem_of_getElem? (i := 1) rfl)) (of1_3 _) (ca1_3 T ad _ _) b17 (Nat.le_of_ble_eq_true rfl) dX3_spareMinutes_46 ?_
        refine fw_aload_n C dX3_spareMinutes_47 rfl 2 rfl ?_
        refine fw_get C (ci := 1) (Cn := RX3) (Tc := TX3) (N := 5) (j := 1) ly_X3_spareMinutes_3 rfl (hG _ (List.mem_of_getElem? (i := 1) rfl)) (of1_0 _) (ce1 T ad _ _) (by decide) (cx_ts C _ fl_X3_spareMinutes_12) (fun _ h => h) (v := .ref (ad 2 g0 0)) rfl dX3_spareMinutes_48 ?_
        refine fw_getN C (ci := 6) (Cn := RX8) (Tc := TX8) (N := 15) (j := 9) ly_X3_spareMinutes_8 rfl (hG _ (List.mem_of_getElem? (i := 0) rfl)) (of2_0 _) (ce2 T ad _ _) (by decide) (Nst_use (cx_nst C) (w := .fieldLinkNest RX3 162 "RecipeScheduler$State" "duration" "[I" "RecipeScheduler") 464 (by decide +kernel) rfl) (fun _ h => h) (v := .ref (ad 2 g0 1)) rfl dX3_spareMinutes_51 ?_
        refine fw_iload_n C dX3_spareMinutes_54 rfl 0 rfl ?_
        refine fw_iald2 C (hG _ (List.mem_of_getElem? (i := 0) rfl)) (of2_1 _) (ca2_1 T ad _ _) b17 (Nat.le_of_ble_eq_true rfl) dX3_spareMinutes_55 ?_
        refine fw_iadd C dX3_spareMinutes_56 ?_
        obtain ⟨v18, e19, h⟩ := lt_some h
        refine fw_top (v' := .int v18) (by rw [e19]) ?_
        refine fw_istore C dX3_spareMinutes_57 (by decide) (L' := [(4, .int v18), (3, .int l3), (2, .int l2), (0, .ref (ad 1 g0 0)), (1, .int a1)]) rfl ?_
        refine fw_aload_n C dX3_spareMinutes_59 rfl 3 rfl ?_
        refine fw_get C (ci := 1) (Cn := RX3) (Tc := TX3) (N := 5) (j := 4) ly_X3_spareMinutes_3 rfl (hG _ (List.mem_of_getElem? (i := 1) rfl)) (of1_0 _) (ce1 T ad _ _) (by decide) (cx_ts C _ fl_X3_spareMinutes_25) (fun _ h => h) (v := .ref (ad 1 g0 3)) rfl dX3_spareMinutes_60 ?_
        refine fw_iload_n C dX3_spareMinutes_63 rfl 2 rfl ?_
        refine fw_aload_n C dX3_spareMinutes_64 rfl 3 rfl ?_
        refine fw_get C (ci := 1) (Cn := RX3) (Tc := TX3) (N := 5) (j := 4) ly_X3_spareMinutes_3 rfl (hG _ (List.mem_of_getElem? (i := 1) rfl)) (of1_0 _) (ce1 T ad _ _) (by decide) (cx_ts C _ fl_X3_spareMinutes_25) (fun _ h => h) (v := .ref (ad 1 g0 3)) rfl dX3_spareMinutes_65 ?_
        refine fw_iload_n C dX3_spareMinutes_68 rfl 2 rfl ?_
        refine fw_iald2 C (hG _ (List.mem_of_getElem? (i := 1) rfl)) (of1_3 _) (ca1_3 T ad _ _) b13 (Nat.le_of_ble_eq_true rfl) dX3_spareMinutes_69 ?_
        refine fw_iload C dX3_spareMinutes_70 0 rfl ?_
        refine fw_mmax C (st := [.int l2, .ref (ad 1 g0 3)]) (cx_ts C _ cw_X3_spareMinutes_max.1) (cx_ts C _ cw_X3_spareMinutes_max.2.1) (cx_ts C _ cw_X3_spareMinutes_max.2.2.1) (cx_ts C _ cw_X3_spareMinutes_max.2.2.2) (Nat.le_of_ble_eq_true rfl) (Nat.le_of_ble_eq_true rfl) ⟨Nat.zero_le _, Nat.zero_le _⟩ dX3_spareMinutes_72 ?_
        obtain ⟨Y20, e21, h⟩ := lt_some h
        refine fw_iast2 C (hG _ (List.mem_of_getElem? (i := 1) rfl)) (of1_3 _) (ca1_3 T ad _) b13 (Nat.le_of_ble_eq_true rfl) dX3_spareMinutes_75 ?_
        refine fw_mem e21 ?_
        refine fw_sub [1, 2, 3, 4] (L' := [(3, .int l3), (2, .int l2), (0, .ref (ad 1 g0 0)), (1, .int a1)]) rfl ?_
        exact w_X3_spareMinutes_b76 C hrt hG  ih _ _ _ h
set_option maxRecDepth 100000 in
set_option maxHeartbeats 4000000 in
theorem w_X3_spareMinutes_b6 {g0 : Nat} {a1 : Int32} (C : Cx p s m [.ref (ad 1 g0 0), .int a1].toArray meth c cX3_spareMinutes 5 wsX3_spareMinutes RX3 N0 T D gr ad) (hrt : meth.sig.returnType = (some .int)) (hG : ∀ q ∈ ([(2, g0), (1, g0)] ++ allG), q ∈ gr) {res : Int32 × Mem} : ∀ (n : Nat) (Y : Mem) (l2 : Int32), X3_spareMinutes_b6 g0 a1  n Y l2 = some res → FW p l e (Rm 3) s m [.ref (ad 1 g0 0), .int a1].toArray below meth c 5 N0 T D gr ad 0 0 (MQ below (va_Qi (fun r Y1 => (r, Y1) = res) (WB T D gr ad) (fun q => N0 ≤ q)) [.ref (ad 1 g0 0), .int a1].toArray s 0 0 (fun q => N0 ≤ q)) Y 6 [(2, .int l2), (0, .ref (ad 1 g0 0)), (1, .int a1)] [] := by
  intro n
  induction n with
  | zero =>
    intro Y l2 h
    unfold X3_spareMinutes_b6 at h
    cases h
  | succ n ih =>
    intro Y l2 h
    unfold X3_spareMinutes_b6 at h
    refine fw_iload_n C dX3_spareMinutes_6 rfl 0 rfl ?_
    refine fw_iload_n C dX3_spareMinutes_7 rfl 2 rfl ?_
    refine fw_icmp_gt C dX3_spareMinutes_8 (tgt := 88) rfl (fun c4 => ?_) (fun c4 => ?_)
    · have h := ite_t c4 h
      refine fw_aload_n C dX3_spareMinutes_88 rfl 1 rfl ?_
      refine fw_get C (ci := 1) (Cn := RX3) (Tc := TX3) (N := 5) (j := 2) ly_X3_spareMinutes_3 rfl (hG _ (List.mem_of_getElem? (i := 1) rfl)) (of1_0 _) (ce1 T ad _ _) (by decide) (cx_ts C _ fl_X3_spareMinutes_18) (fun _ h => h) (v := .ref (ad 1 g0 1)) rfl dX3_spareMinutes_89 ?_
      refine fw_aload_n C dX3_spareMinutes_92 rfl 1 rfl ?_
      refine fw_get C (ci := 1) (Cn := RX3) (Tc := TX3) (N := 5) (j := 3) ly_X3_spareMinutes_3 rfl (hG _ (List.mem_of_getElem? (i := 1) rfl)) (of1_0 _) (ce1 T ad _ _) (by decide) (cx_ts C _ fl_X3_spareMinutes_22) (fun _ h => h) (v := .ref (ad 1 g0 2)) rfl dX3_spareMinutes_93 ?_
      refine fw_iconst C dX3_spareMinutes_96 (v := 0) rfl ?_
      obtain ⟨b5, h⟩ := gd_some h
      refine fw_iald2 C (hG _ (List.mem_of_getElem? (i := 1) rfl)) (of1_2 _) (ca1_2 T ad _ _) b5 (Nat.le_of_ble_eq_true rfl) dX3_spareMinutes_97 ?_
      obtain ⟨b6, h⟩ := gd_some h
      refine fw_iald2 C (hG _ (List.mem_of_getElem? (i := 1) rfl)) (of1_1 _) (ca1_1 T ad _ _) b6 (Nat.le_of_ble_eq_true rfl) dX3_spareMinutes_98 ?_
      refine fw_aload_n C dX3_spareMinutes_99 rfl 1 rfl ?_
      refine fw_get C (ci := 1) (Cn := RX3) (Tc := TX3) (N := 5) (j := 2) ly_X3_spareMinutes_3 rfl (hG _ (List.mem_of_getElem? (i := 1) rfl)) (of1_0 _) (ce1 T ad _ _) (by decide) (cx_ts C _ fl_X3_spareMinutes_18) (fun _ h => h) (v := .ref (ad 1 g0 1)) rfl dX3_spareMinutes_100 ?_
      refine fw_iload_n C dX3_spareMinutes_103 rfl 2 rfl ?_
      obtain ⟨b7, h⟩ := gd_some h
      refine fw_iald2 C (hG _ (List.mem_of_getElem? (i := 1) rfl)) (of1_1 _) (ca1_1 T ad _ _) b7 (Nat.le_of_ble_eq_true rfl) dX3_spareMinutes_104 ?_
      refine fw_isub C dX3_spareMinutes_105 ?_
      refine fw_aload_n C dX3_spareMinutes_106 rfl 1 rfl ?_
      refine fw_get C (ci := 1) (Cn := RX3) (Tc := TX3) (N := 5) (j := 4) ly_X3_spareMinutes_3 rfl (hG _ (List.mem_of_getElem? (i := 1) rfl)) (of1_0 _) (ce1 T ad _ _) (by decide) (cx_ts C _ fl_X3_spareMinutes_25) (fun _ h => h) (v := .ref (ad 1 g0 3)) rfl dX3_spareMinutes_107 ?_
      refine fw_iload_n C dX3_spareMinutes_110 rfl 2 rfl ?_
      refine fw_iald2 C (hG _ (List.mem_of_getElem? (i := 1) rfl)) (of1_3 _) (ca1_3 T ad _ _) b7 (Nat.le_of_ble_eq_true rfl) dX3_spareMinutes_111 ?_
      refine fw_isub C dX3_spareMinutes_112 ?_
      exact fw_iret C hrt Y (Option.some.inj h) (fun t ht => ht) dX3_spareMinutes_113
    · have h := ite_f c4 h
      refine fw_aload_n C dX3_spareMinutes_11 rfl 1 rfl ?_
      refine fw_get C (ci := 1) (Cn := RX3) (Tc := TX3) (N := 5) (j := 4) ly_X3_spareMinutes_3 rfl (hG _ (List.mem_of_getElem? (i := 1) rfl)) (of1_0 _) (ce1 T ad _ _) (by decide) (cx_ts C _ fl_X3_spareMinutes_25) (fun _ h => h) (v := .ref (ad 1 g0 3)) rfl dX3_spareMinutes_12 ?_
      refine fw_iload_n C dX3_spareMinutes_15 rfl 0 rfl ?_
      refine fw_iconst C dX3_spareMinutes_16 (v := 0) rfl ?_
      obtain ⟨b8, h⟩ := gd_some h
      obtain ⟨Y9, e10, h⟩ := lt_some h
      refine fw_iast2 C (hG _ (List.mem_of_getElem? (i := 1) rfl)) (of1_3 _) (ca1_3 T ad _) b8 (Nat.le_of_ble_eq_true rfl) dX3_spareMinutes_17 ?_
      refine fw_mem e10 ?_
      refine fw_iconst C dX3_spareMinutes_18 (v := 0) rfl ?_
      refine fw_istore_n C dX3_spareMinutes_19 rfl (by decide) (L' := [(3, .int 0), (2, .int l2), (0, .ref (ad 1 g0 0)), (1, .int a1)]) rfl ?_
      exact w_X3_spareMinutes_b20 C hrt hG  ih _ _ _ _ h
set_option maxRecDepth 100000 in
set_option maxHeartbeats 4000000 in
theorem w_X3_spareMinutes {Y : Mem} {g0 : Nat} {a1 : Int32} (C : Cx p s m [.ref (ad 1 g0 0), .int a1].toArray meth c cX3_spareMinutes 5 wsX3_spareMinutes RX3 N0 T D gr ad) (hrt : meth.sig.returnType = (some .int)) (hG : ∀ q ∈ ([(2, g0), (1, g0)] ++ allG), q ∈ gr) {res : Int32 × Mem} (h : X3_spareMinutes Y g0 a1 = some res) : FW p l e (Rm 3) s m [.ref (ad 1 g0 0), .int a1].toArray below meth c 5 N0 T D gr ad 0 0 (MQ below (va_Qi (fun r Y1 => (r, Y1) = res) (WB T D gr ad) (fun q => N0 ≤ q)) [.ref (ad 1 g0 0), .int a1].toArray s 0 0 (fun q => N0 ≤ q)) Y 0 [(0, .ref (ad 1 g0 0)), (1, .int a1)] [] := by
  unfold X3_spareMinutes at h
  refine fw_aload_n C dX3_spareMinutes_0 rfl 0 rfl ?_
  obtain ⟨Y3, q2, h⟩ := bd1_some h
  refine fw_callVv C (ci := 1) (Cn := RX3) (Tc := TX3) (N := 5) (As := []) (c_X3_rank (gac (hG _ (List.mem_of_getElem? (i := 1) rfl)) (gac (hG _ (List.mem_of_getElem? (i := 0) rfl)) (fun q hq => hG q (List.mem_append_right _ hq)))) q2) (cwV 0 (cx_ts C) gX3_spareMinutes_X3_rank rfl rfl rfl (by decide +kernel) ⟨Nat.le_of_ble_eq_true rfl, Nat.le_of_ble_eq_true rfl⟩) rfl (hG _ (List.mem_of_getElem? (i := 1) rfl)) (of1_0 _) (ce1 T ad _ _) rfl (st := []) rfl (Nat.le_of_ble_eq_true rfl) ⟨Nat.le_refl 0, Nat.le_refl 0⟩ dX3_spareMinutes_1 (ppv ?_)
  refine fw_iconst C dX3_spareMinutes_4 (v := 0) rfl ?_
  refine fw_istore_n C dX3_spareMinutes_5 rfl (by decide) (L' := [(2, .int 0), (0, .ref (ad 1 g0 0)), (1, .int a1)]) rfl ?_
  exact w_X3_spareMinutes_b6 C hrt hG   _ _ _ h
end
set_option maxRecDepth 100000 in
set_option maxHeartbeats 4000000 in
theorem c_X3_spareMinutes {l : Launch} {N0 : Nat} {T : Nat → ClassId} {D : va_G} {gr : List (Nat × Nat)} {ad : Nat → Nat → Nat → Nat} {Y : Mem} {g0 : Nat} {a1 : Int32} {res : Int32 × Mem} (hG : ∀ q ∈ ([(2, g0), (1, g0)] ++ allG), q ∈ gr) (h : X3_spareMinutes Y g0 a1 = some res) : CI l yX3_spareMinutes wsX3_spareMinutes (Rm 3) N0 T D gr ad Y [.ref (ad 1 g0 0), .int a1] (fun r Y1 => (r, Y1) = res) :=
  fw_body (by decide +kernel) rfl (Nat.le_of_ble_eq_true rfl) (fun p e s m below meth c C hrt => w_X3_spareMinutes C hrt hG  h)
theorem ly_X11_slack_11 : ∀ w ∈ u_ws RX11 TX11 11, w ∈ wsX11_slack := by decide +kernel
theorem fl_X11_slack_67 : Cond.fieldLink RX11 67 "RecipeScheduler" "now" "LRecipeScheduler$Kitchen;" ∈ wsX11_slack := by decide +kernel
section
variable {p : Program} {l : Launch} {e : Env} {s : State} {m : MethodId} {below : List Frame} {meth : Method} {c : Code} {N0 : Nat} {T : Nat → ClassId} {D : va_G} {gr : List (Nat × Nat)} {ad : Nat → Nat → Nat → Nat}
set_option maxRecDepth 100000 in
set_option maxHeartbeats 4000000 in
theorem w_X11_slack {Y : Mem} {a1 : Int32} (C : Cx p s m [.ref (ad 0 0 0), .int a1].toArray meth c cX11_slack 2 wsX11_slack RX11 N0 T D gr ad) (hrt : meth.sig.returnType = (some .int)) (hG : ∀ q ∈ ([(1, 0), (0, 0), (2, 0)] ++ allG), q ∈ gr) (hl : l.stackTraces = false) (hX : ∀ x ∈ c.exceptionTable.toList, False) {res : (Nat × Mem) ⊕ (Int32 × Mem)} (h : X11_slack Y a1 = some res) : FW p l e (Rx 7 1) s m [.ref (ad 0 0 0), .int a1].toArray below meth c 2 N0 T D gr ad 0 0 (vx_MQ below (va_Qi (fun r Y1 => Sum.inr (r, Y1) = res) (WB T D gr ad) (fun q => N0 ≤ q)) (vx_X (fun u => Sum.inl u = res) (XB T D gr ad) (fun q => N0 ≤ q)) [.ref (ad 0 0 0), .int a1].toArray s 1 6 (fun q => N0 ≤ q)) Y 0 [(0, .ref (ad 0 0 0)), (1, .int a1)] [] := by
  unfold X11_slack at h
  refine fw_aload_n C dX11_slack_0 rfl 0 rfl ?_
  refine fw_iload_n C dX11_slack_1 rfl 1 rfl ?_
  rcases bdxv_some h with ⟨x5, q2, e6⟩ | ⟨Y4, q2, h⟩
  · exact fw_callXVv_l C (ci := 9) (Cn := RX11) (Tc := TX11) (N := 11) (As := [.int a1]) (c_X11_requireStep hl (gac (hG _ (List.mem_of_getElem? (i := 1) rfl)) (gac (hG _ (List.mem_of_getElem? (i := 0) rfl)) (fun q hq => hG q (List.mem_append_right _ hq)))) q2) (cwV 1 (cx_ts C) gX11_slack_X11_requireStep rfl rfl rfl (by decide +kernel) ⟨Nat.le_of_ble_eq_true rfl, Nat.le_of_ble_eq_true rfl⟩) rfl (hG _ (List.mem_of_getElem? (i := 1) rfl)) (of0_0 _) (ce0 T ad _ _) rfl (st := []) rfl (Nat.le_of_ble_eq_true rfl) ⟨Nat.le_of_ble_eq_true rfl, Nat.le_of_ble_eq_true rfl⟩ dX11_slack_2 hX e6 (Nat.le_of_ble_eq_true rfl) (Nat.le_of_ble_eq_true rfl)
  refine fw_callXVv_r C (ci := 9) (Cn := RX11) (Tc := TX11) (N := 11) (As := [.int a1]) (c_X11_requireStep hl (gac (hG _ (List.mem_of_getElem? (i := 1) rfl)) (gac (hG _ (List.mem_of_getElem? (i := 0) rfl)) (fun q hq => hG q (List.mem_append_right _ hq)))) q2) (cwV 1 (cx_ts C) gX11_slack_X11_requireStep rfl rfl rfl (by decide +kernel) ⟨Nat.le_of_ble_eq_true rfl, Nat.le_of_ble_eq_true rfl⟩) rfl (hG _ (List.mem_of_getElem? (i := 1) rfl)) (of0_0 _) (ce0 T ad _ _) rfl (st := []) rfl (Nat.le_of_ble_eq_true rfl) ⟨Nat.le_of_ble_eq_true rfl, Nat.le_of_ble_eq_true rfl⟩ dX11_slack_2 ?_
  refine fw_aload_n C dX11_slack_5 rfl 0 rfl ?_
  refine fw_get C (ci := 9) (Cn := RX11) (Tc := TX11) (N := 11) (j := 5) ly_X11_slack_11 rfl (hG _ (List.mem_of_getElem? (i := 1) rfl)) (of0_0 _) (ce0 T ad _ _) (by decide) (cx_ts C _ fl_X11_slack_67) (fun _ h => h) (v := .ref (ad 1 0 0)) rfl dX11_slack_6 ?_
  refine fw_iload_n C dX11_slack_9 rfl 1 rfl ?_
  obtain ⟨r7, Y9, q8, h⟩ := bd2_some h
  refine fw_callVi C (ci := 1) (Cn := RX3) (Tc := TX3) (N := 5) (As := [.int a1]) (c_X3_spareMinutes (gac (hG _ (List.mem_of_getElem? (i := 2) rfl)) (gac (hG _ (List.mem_of_getElem? (i := 0) rfl)) (fun q hq => hG q (List.mem_append_right _ hq)))) q8) (cwV 1 (cx_ts C) gX11_slack_X3_spareMinutes rfl rfl rfl (by decide +kernel) ⟨Nat.le_of_ble_eq_true rfl, Nat.le_of_ble_eq_true rfl⟩) rfl (hG _ (List.mem_of_getElem? (i := 0) rfl)) (of1_0 _) (ce1 T ad _ _) rfl (st := []) rfl (Nat.le_of_ble_eq_true rfl) ⟨Nat.le_of_ble_eq_true rfl, Nat.le_of_ble_eq_true rfl⟩ dX11_slack_10 (ppw ?_)
  refine fw_xr (Nat.le_of_ble_eq_true rfl) (Nat.le_of_ble_eq_true rfl) ?_
  exact fw_iret C hrt Y9 (Option.some.inj h) (fun t ht => ht) dX11_slack_13
end
set_option maxRecDepth 100000 in
set_option maxHeartbeats 4000000 in
theorem c_X11_slack {l : Launch} {N0 : Nat} {T : Nat → ClassId} {D : va_G} {gr : List (Nat × Nat)} {ad : Nat → Nat → Nat → Nat} {Y : Mem} {a1 : Int32} {res : (Nat × Mem) ⊕ (Int32 × Mem)} (hl : l.stackTraces = false) (hG : ∀ q ∈ ([(1, 0), (0, 0), (2, 0)] ++ allG), q ∈ gr) (h : X11_slack Y a1 = some res) : CXi l yX11_slack wsX11_slack (Rx 7 1) N0 T D gr ad Y [.ref (ad 0 0 0), .int a1] 1 res :=
  fw_xbody (by decide +kernel) rfl (Nat.le_of_ble_eq_true rfl) (fun p e s m below meth c C hrt hX => w_X11_slack C hrt hG hl hX h)
theorem ly_X11_starts_11 : ∀ w ∈ u_ws RX11 TX11 11, w ∈ wsX11_starts := by decide +kernel
theorem fl_X11_starts_67 : Cond.fieldLink RX11 67 "RecipeScheduler" "now" "LRecipeScheduler$Kitchen;" ∈ wsX11_starts := by decide +kernel
theorem ly_X11_starts_3 : ∀ w ∈ u_ws RX3 TX3 5, w ∈ wsX11_starts := by decide +kernel
theorem ly_X11_starts_8 : ∀ w ∈ u_ws RX8 TX8 15, w ∈ wsX11_starts := by decide +kernel
theorem ly_X11_starts_5 : ∀ w ∈ u_ws RX5 TX5 17, w ∈ wsX11_starts := by decide +kernel
theorem ly_X11_starts_4 : ∀ w ∈ u_ws RX4 TX4 3, w ∈ wsX11_starts := by decide +kernel
section
variable {p : Program} {l : Launch} {e : Env} {s : State} {m : MethodId} {below : List Frame} {meth : Method} {c : Code} {N0 : Nat} {T : Nat → ClassId} {D : va_G} {gr : List (Nat × Nat)} {ad : Nat → Nat → Nat → Nat}
set_option maxRecDepth 100000 in
set_option maxHeartbeats 4000000 in
theorem w_X11_starts {Y : Mem} (C : Cx p s m [.ref (ad 0 0 0)].toArray meth c cX11_starts 1 wsX11_starts RX11 N0 T D gr ad) (hrt : meth.sig.returnType = (some .int)) (hG : ∀ q ∈ ([(0, 0), (1, 0), (2, 0)] ++ allG), q ∈ gr) {res : Int32} (h : X11_starts Y = some res) : FW p l e (Rm 1) s m [.ref (ad 0 0 0)].toArray below meth c 1 N0 T D gr ad 0 0 (MQ below (va_Qi (fun r Y1 => r = res ∧ Y1 = Y) (WB T D gr ad) (fun q => N0 ≤ q)) [.ref (ad 0 0 0)].toArray s 0 0 (fun q => N0 ≤ q)) Y 0 [(0, .ref (ad 0 0 0))] [] := by
  unfold X11_starts at h
  refine fw_aload_n C dX11_starts_0 rfl 0 rfl ?_
  refine fw_get C (ci := 9) (Cn := RX11) (Tc := TX11) (N := 11) (j := 5) ly_X11_starts_11 rfl (hG _ (List.mem_of_getElem? (i := 0) rfl)) (of0_0 _) (ce0 T ad _ _) (by decide) (cx_ts C _ fl_X11_starts_67) (fun _ h => h) (v := .ref (ad 1 0 0)) rfl dX11_starts_1 ?_
  refine fw_getN C (ci := 1) (Cn := RX3) (Tc := TX3) (N := 5) (j := 1) ly_X11_starts_3 rfl (hG _ (List.mem_of_getElem? (i := 1) rfl)) (of1_0 _) (ce1 T ad _ _) (by decide) (Nst_use (cx_nst C) (w := .fieldLinkNest RX11 139 "RecipeScheduler$Kitchen" "state" "LRecipeScheduler$State;" "RecipeScheduler") 522 (by decide +kernel) rfl) (fun _ h => h) (v := .ref (ad 2 0 0)) rfl dX11_starts_4 ?_
  refine fw_getN C (ci := 6) (Cn := RX8) (Tc := TX8) (N := 15) (j := 12) ly_X11_starts_8 rfl (hG _ (List.mem_of_getElem? (i := 2) rfl)) (of2_0 _) (ce2 T ad _ _) (by decide) (Nst_use (cx_nst C) (w := .fieldLinkNest RX11 162 "RecipeScheduler$State" "starts" "[I" "RecipeScheduler") 473 (by decide +kernel) rfl) (fun _ h => h) (v := .ref (ad 2 0 4)) rfl dX11_starts_7 ?_
  refine fw_aload_n C dX11_starts_10 rfl 0 rfl ?_
  refine fw_get C (ci := 9) (Cn := RX11) (Tc := TX11) (N := 11) (j := 5) ly_X11_starts_11 rfl (hG _ (List.mem_of_getElem? (i := 0) rfl)) (of0_0 _) (ce0 T ad _ _) (by decide) (cx_ts C _ fl_X11_starts_67) (fun _ h => h) (v := .ref (ad 1 0 0)) rfl dX11_starts_11 ?_
  refine fw_getN C (ci := 1) (Cn := RX3) (Tc := TX3) (N := 5) (j := 0) ly_X11_starts_3 rfl (hG _ (List.mem_of_getElem? (i := 1) rfl)) (of1_0 _) (ce1 T ad _ _) (by decide) (Nst_use (cx_nst C) (w := .fieldLinkNest RX11 117 "RecipeScheduler$Kitchen" "recipe" "LRecipeScheduler$Recipe;" "RecipeScheduler") 520 (by decide +kernel) rfl) (fun _ h => h) (v := .ref (ad 3 ((Y 1 0 0 0).toNatClampNeg) 0)) rfl dX11_starts_14 ?_
  obtain ⟨b1, h⟩ := gd_some h
  have b1 := of_decide_eq_true b1
  refine fw_getN C (ci := 3) (Cn := RX5) (Tc := TX5) (N := 17) (j := 7) ly_X11_starts_5 rfl ((fun q hq => hG q (List.mem_append_right _ hq)) _ (allG_3 b1)) (of3_0 _) (ce3 T ad _ _) (by decide) (Nst_use (cx_nst C) (w := .fieldLinkNest RX11 126 "RecipeScheduler$Recipe" "steps" "LRecipeScheduler$Names;" "RecipeScheduler") 148 (by decide +kernel) rfl) (fun _ h => h) (v := .ref (ad 4 (2*((Y 1 0 0 0).toNatClampNeg)+1) 0)) rfl dX11_starts_17 ?_
  obtain ⟨b2, h⟩ := gd_some h
  have b2 := of_decide_eq_true b2
  refine fw_getN C (ci := 2) (Cn := RX4) (Tc := TX4) (N := 3) (j := 2) ly_X11_starts_4 rfl ((fun q hq => hG q (List.mem_append_right _ hq)) _ (allG_4b b2)) (of4_0 _) (ce4 T ad _ _) (by decide) (Nst_use (cx_nst C) (w := .fieldLinkNest RX11 130 "RecipeScheduler$Names" "count" "I" "RecipeScheduler") 115 (by decide +kernel) rfl) (fun _ h => h) (v := .int (Y 4 (2*((Y 1 0 0 0).toNatClampNeg)+1) 0 2)) rfl dX11_starts_20 ?_
  obtain ⟨r3, q4, h⟩ := bd1_some h
  refine fw_callSi C (As := [.ref (ad 2 0 4), .int (Y 4 (2*((Y 1 0 0 0).toNatClampNeg)+1) 0 2)]) (c_X11_sum (gac (hG _ (List.mem_of_getElem? (i := 2) rfl)) ga0) (ca2_4 T ad _) (of2_4 _) (Nat.le_of_ble_eq_true rfl) q4) (va_cwS 2 (cx_ts C) gX11_starts_X11_sum rfl rfl rfl (by decide +kernel) ⟨Nat.le_of_ble_eq_true rfl, Nat.le_of_ble_eq_true rfl⟩) rfl (st := []) rfl (Nat.le_of_ble_eq_true rfl) ⟨Nat.le_refl 0, Nat.le_refl 0⟩ dX11_starts_23 (pp2 ?_)
  exact fw_iret C hrt Y ⟨Option.some.inj h, rfl⟩ (fun t ht => ht) dX11_starts_26
end
set_option maxRecDepth 100000 in
set_option maxHeartbeats 4000000 in
theorem c_X11_starts {l : Launch} {N0 : Nat} {T : Nat → ClassId} {D : va_G} {gr : List (Nat × Nat)} {ad : Nat → Nat → Nat → Nat} {Y : Mem} {res : Int32} (hG : ∀ q ∈ ([(0, 0), (1, 0), (2, 0)] ++ allG), q ∈ gr) (h : X11_starts Y = some res) : CI l yX11_starts wsX11_starts (Rm 1) N0 T D gr ad Y [.ref (ad 0 0 0)] (fun r Y1 => r = res ∧ Y1 = Y) :=
  fw_body (by decide +kernel) rfl (Nat.le_of_ble_eq_true rfl) (fun p e s m below meth c C hrt => w_X11_starts C hrt hG  h)
theorem ly_X11_startsOf_11 : ∀ w ∈ u_ws RX11 TX11 11, w ∈ wsX11_startsOf := by decide +kernel
theorem fl_X11_startsOf_67 : Cond.fieldLink RX11 67 "RecipeScheduler" "now" "LRecipeScheduler$Kitchen;" ∈ wsX11_startsOf := by decide +kernel
theorem ly_X11_startsOf_3 : ∀ w ∈ u_ws RX3 TX3 5, w ∈ wsX11_startsOf := by decide +kernel
theorem ly_X11_startsOf_8 : ∀ w ∈ u_ws RX8 TX8 15, w ∈ wsX11_startsOf := by decide +kernel
section
variable {p : Program} {l : Launch} {e : Env} {s : State} {m : MethodId} {below : List Frame} {meth : Method} {c : Code} {N0 : Nat} {T : Nat → ClassId} {D : va_G} {gr : List (Nat × Nat)} {ad : Nat → Nat → Nat → Nat}
set_option maxRecDepth 100000 in
set_option maxHeartbeats 4000000 in
theorem w_X11_startsOf {Y : Mem} {a1 : Int32} (C : Cx p s m [.ref (ad 0 0 0), .int a1].toArray meth c cX11_startsOf 2 wsX11_startsOf RX11 N0 T D gr ad) (hrt : meth.sig.returnType = (some .int)) (hG : ∀ q ∈ ([(1, 0), (0, 0), (2, 0)] ++ allG), q ∈ gr) (hl : l.stackTraces = false) (hX : ∀ x ∈ c.exceptionTable.toList, False) {res : (Nat × Mem) ⊕ (Int32 × Mem)} (h : X11_startsOf Y a1 = some res) : FW p l e (Rx 7 1) s m [.ref (ad 0 0 0), .int a1].toArray below meth c 2 N0 T D gr ad 0 0 (vx_MQ below (va_Qi (fun r Y1 => Sum.inr (r, Y1) = res) (WB T D gr ad) (fun q => N0 ≤ q)) (vx_X (fun u => Sum.inl u = res) (XB T D gr ad) (fun q => N0 ≤ q)) [.ref (ad 0 0 0), .int a1].toArray s 1 6 (fun q => N0 ≤ q)) Y 0 [(0, .ref (ad 0 0 0)), (1, .int a1)] [] := by
  unfold X11_startsOf at h
  refine fw_aload_n C dX11_startsOf_0 rfl 0 rfl ?_
  refine fw_iload_n C dX11_startsOf_1 rfl 1 rfl ?_
  rcases bdxv_some h with ⟨x5, q2, e6⟩ | ⟨Y4, q2, h⟩
  · exact fw_callXVv_l C (ci := 9) (Cn := RX11) (Tc := TX11) (N := 11) (As := [.int a1]) (c_X11_requireStep hl (gac (hG _ (List.mem_of_getElem? (i := 1) rfl)) (gac (hG _ (List.mem_of_getElem? (i := 0) rfl)) (fun q hq => hG q (List.mem_append_right _ hq)))) q2) (cwV 1 (cx_ts C) gX11_startsOf_X11_requireStep rfl rfl rfl (by decide +kernel) ⟨Nat.le_of_ble_eq_true rfl, Nat.le_of_ble_eq_true rfl⟩) rfl (hG _ (List.mem_of_getElem? (i := 1) rfl)) (of0_0 _) (ce0 T ad _ _) rfl (st := []) rfl (Nat.le_of_ble_eq_true rfl) ⟨Nat.le_of_ble_eq_true rfl, Nat.le_of_ble_eq_true rfl⟩ dX11_startsOf_2 hX e6 (Nat.le_of_ble_eq_true rfl) (Nat.le_of_ble_eq_true rfl)
  refine fw_callXVv_r C (ci := 9) (Cn := RX11) (Tc := TX11) (N := 11) (As := [.int a1]) (c_X11_requireStep hl (gac (hG _ (List.mem_of_getElem? (i := 1) rfl)) (gac (hG _ (List.mem_of_getElem? (i := 0) rfl)) (fun q hq => hG q (List.mem_append_right _ hq)))) q2) (cwV 1 (cx_ts C) gX11_startsOf_X11_requireStep rfl rfl rfl (by decide +kernel) ⟨Nat.le_of_ble_eq_true rfl, Nat.le_of_ble_eq_true rfl⟩) rfl (hG _ (List.mem_of_getElem? (i := 1) rfl)) (of0_0 _) (ce0 T ad _ _) rfl (st := []) rfl (Nat.le_of_ble_eq_true rfl) ⟨Nat.le_of_ble_eq_true rfl, Nat.le_of_ble_eq_true rfl⟩ dX11_startsOf_2 ?_
  refine fw_aload_n C dX11_startsOf_5 rfl 0 rfl ?_
  refine fw_get C (ci := 9) (Cn := RX11) (Tc := TX11) (N := 11) (j := 5) ly_X11_startsOf_11 rfl (hG _ (List.mem_of_getElem? (i := 1) rfl)) (of0_0 _) (ce0 T ad _ _) (by decide) (cx_ts C _ fl_X11_startsOf_67) (fun _ h => h) (v := .ref (ad 1 0 0)) rfl dX11_startsOf_6 ?_
  refine fw_getN C (ci := 1) (Cn := RX3) (Tc := TX3) (N := 5) (j := 1) ly_X11_startsOf_3 rfl (hG _ (List.mem_of_getElem? (i := 0) rfl)) (of1_0 _) (ce1 T ad _ _) (by decide) (Nst_use (cx_nst C) (w := .fieldLinkNest RX11 139 "RecipeScheduler$Kitchen" "state" "LRecipeScheduler$State;" "RecipeScheduler") 522 (by decide +kernel) rfl) (fun _ h => h) (v := .ref (ad 2 0 0)) rfl dX11_startsOf_9 ?_
  refine fw_getN C (ci := 6) (Cn := RX8) (Tc := TX8) (N := 15) (j := 12) ly_X11_startsOf_8 rfl (hG _ (List.mem_of_getElem? (i := 2) rfl)) (of2_0 _) (ce2 T ad _ _) (by decide) (Nst_use (cx_nst C) (w := .fieldLinkNest RX11 162 "RecipeScheduler$State" "starts" "[I" "RecipeScheduler") 473 (by decide +kernel) rfl) (fun _ h => h) (v := .ref (ad 2 0 4)) rfl dX11_startsOf_12 ?_
  refine fw_iload_n C dX11_startsOf_15 rfl 1 rfl ?_
  obtain ⟨b7, h⟩ := gd_some h
  refine fw_iald2 C (hG _ (List.mem_of_getElem? (i := 2) rfl)) (of2_4 _) (ca2_4 T ad _ _) b7 (Nat.le_of_ble_eq_true rfl) dX11_startsOf_16 ?_
  refine fw_xr (Nat.le_of_ble_eq_true rfl) (Nat.le_of_ble_eq_true rfl) ?_
  exact fw_iret C hrt Y4 (Option.some.inj h) (fun t ht => ht) dX11_startsOf_17
end
set_option maxRecDepth 100000 in
set_option maxHeartbeats 4000000 in
theorem c_X11_startsOf {l : Launch} {N0 : Nat} {T : Nat → ClassId} {D : va_G} {gr : List (Nat × Nat)} {ad : Nat → Nat → Nat → Nat} {Y : Mem} {a1 : Int32} {res : (Nat × Mem) ⊕ (Int32 × Mem)} (hl : l.stackTraces = false) (hG : ∀ q ∈ ([(1, 0), (0, 0), (2, 0)] ++ allG), q ∈ gr) (h : X11_startsOf Y a1 = some res) : CXi l yX11_startsOf wsX11_startsOf (Rx 7 1) N0 T D gr ad Y [.ref (ad 0 0 0), .int a1] 1 res :=
  fw_xbody (by decide +kernel) rfl (Nat.le_of_ble_eq_true rfl) (fun p e s m below meth c C hrt hX => w_X11_startsOf C hrt hG hl hX h)
theorem ly_X11_status_11 : ∀ w ∈ u_ws RX11 TX11 11, w ∈ wsX11_status := by decide +kernel
theorem fl_X11_status_67 : Cond.fieldLink RX11 67 "RecipeScheduler" "now" "LRecipeScheduler$Kitchen;" ∈ wsX11_status := by decide +kernel
theorem ly_X11_status_3 : ∀ w ∈ u_ws RX3 TX3 5, w ∈ wsX11_status := by decide +kernel
section
variable {p : Program} {l : Launch} {e : Env} {s : State} {m : MethodId} {below : List Frame} {meth : Method} {c : Code} {N0 : Nat} {T : Nat → ClassId} {D : va_G} {gr : List (Nat × Nat)} {ad : Nat → Nat → Nat → Nat}
set_option maxRecDepth 100000 in
set_option maxHeartbeats 4000000 in
theorem w_X11_status {Y : Mem} {a1 : Int32} (C : Cx p s m [.ref (ad 0 0 0), .int a1].toArray meth c cX11_status 2 wsX11_status RX11 N0 T D gr ad) (hrt : meth.sig.returnType = (some .int)) (hG : ∀ q ∈ ([(1, 0), (0, 0), (2, 0)] ++ allG), q ∈ gr) (hl : l.stackTraces = false) (hX : ∀ x ∈ c.exceptionTable.toList, False) {res : (Nat × Mem) ⊕ (Int32 × Mem)} (h : X11_status Y a1 = some res) : FW p l e (Rx 7 1) s m [.ref (ad 0 0 0), .int a1].toArray below meth c 2 N0 T D gr ad 0 0 (vx_MQ below (va_Qi (fun r Y1 => Sum.inr (r, Y1) = res) (WB T D gr ad) (fun q => N0 ≤ q)) (vx_X (fun u => Sum.inl u = res) (XB T D gr ad) (fun q => N0 ≤ q)) [.ref (ad 0 0 0), .int a1].toArray s 1 6 (fun q => N0 ≤ q)) Y 0 [(0, .ref (ad 0 0 0)), (1, .int a1)] [] := by
  unfold X11_status at h
  refine fw_aload_n C dX11_status_0 rfl 0 rfl ?_
  refine fw_iload_n C dX11_status_1 rfl 1 rfl ?_
  rcases bdxv_some h with ⟨x5, q2, e6⟩ | ⟨Y4, q2, h⟩
  · exact fw_callXVv_l C (ci := 9) (Cn := RX11) (Tc := TX11) (N := 11) (As := [.int a1]) (c_X11_requireStep hl (gac (hG _ (List.mem_of_getElem? (i := 1) rfl)) (gac (hG _ (List.mem_of_getElem? (i := 0) rfl)) (fun q hq => hG q (List.mem_append_right _ hq)))) q2) (cwV 1 (cx_ts C) gX11_status_X11_requireStep rfl rfl rfl (by decide +kernel) ⟨Nat.le_of_ble_eq_true rfl, Nat.le_of_ble_eq_true rfl⟩) rfl (hG _ (List.mem_of_getElem? (i := 1) rfl)) (of0_0 _) (ce0 T ad _ _) rfl (st := []) rfl (Nat.le_of_ble_eq_true rfl) ⟨Nat.le_of_ble_eq_true rfl, Nat.le_of_ble_eq_true rfl⟩ dX11_status_2 hX e6 (Nat.le_of_ble_eq_true rfl) (Nat.le_of_ble_eq_true rfl)
  refine fw_callXVv_r C (ci := 9) (Cn := RX11) (Tc := TX11) (N := 11) (As := [.int a1]) (c_X11_requireStep hl (gac (hG _ (List.mem_of_getElem? (i := 1) rfl)) (gac (hG _ (List.mem_of_getElem? (i := 0) rfl)) (fun q hq => hG q (List.mem_append_right _ hq)))) q2) (cwV 1 (cx_ts C) gX11_status_X11_requireStep rfl rfl rfl (by decide +kernel) ⟨Nat.le_of_ble_eq_true rfl, Nat.le_of_ble_eq_true rfl⟩) rfl (hG _ (List.mem_of_getElem? (i := 1) rfl)) (of0_0 _) (ce0 T ad _ _) rfl (st := []) rfl (Nat.le_of_ble_eq_true rfl) ⟨Nat.le_of_ble_eq_true rfl, Nat.le_of_ble_eq_true rfl⟩ dX11_status_2 ?_
  refine fw_aload_n C dX11_status_5 rfl 0 rfl ?_
  refine fw_get C (ci := 9) (Cn := RX11) (Tc := TX11) (N := 11) (j := 5) ly_X11_status_11 rfl (hG _ (List.mem_of_getElem? (i := 1) rfl)) (of0_0 _) (ce0 T ad _ _) (by decide) (cx_ts C _ fl_X11_status_67) (fun _ h => h) (v := .ref (ad 1 0 0)) rfl dX11_status_6 ?_
  refine fw_getN C (ci := 1) (Cn := RX3) (Tc := TX3) (N := 5) (j := 1) ly_X11_status_3 rfl (hG _ (List.mem_of_getElem? (i := 0) rfl)) (of1_0 _) (ce1 T ad _ _) (by decide) (Nst_use (cx_nst C) (w := .fieldLinkNest RX11 139 "RecipeScheduler$Kitchen" "state" "LRecipeScheduler$State;" "RecipeScheduler") 522 (by decide +kernel) rfl) (fun _ h => h) (v := .ref (ad 2 0 0)) rfl dX11_status_9 ?_
  refine fw_iload_n C dX11_status_12 rfl 1 rfl ?_
  obtain ⟨r7, q8, h⟩ := bd1_some h
  refine fw_callVi C (ci := 6) (Cn := RX8) (Tc := TX8) (N := 15) (As := [.int a1]) (c_X8_statusOf (gac (hG _ (List.mem_of_getElem? (i := 2) rfl)) ga0) q8) (cwV 1 (cx_ts C) gX11_status_X8_statusOf rfl rfl rfl (by decide +kernel) ⟨Nat.le_of_ble_eq_true rfl, Nat.le_of_ble_eq_true rfl⟩) rfl (hG _ (List.mem_of_getElem? (i := 2) rfl)) (of2_0 _) (ce2 T ad _ _) rfl (st := []) rfl (Nat.le_of_ble_eq_true rfl) ⟨Nat.le_of_ble_eq_true rfl, Nat.le_of_ble_eq_true rfl⟩ dX11_status_13 (pp2 ?_)
  refine fw_xr (Nat.le_of_ble_eq_true rfl) (Nat.le_of_ble_eq_true rfl) ?_
  exact fw_iret C hrt Y4 (Option.some.inj h) (fun t ht => ht) dX11_status_16
end
set_option maxRecDepth 100000 in
set_option maxHeartbeats 4000000 in
theorem c_X11_status {l : Launch} {N0 : Nat} {T : Nat → ClassId} {D : va_G} {gr : List (Nat × Nat)} {ad : Nat → Nat → Nat → Nat} {Y : Mem} {a1 : Int32} {res : (Nat × Mem) ⊕ (Int32 × Mem)} (hl : l.stackTraces = false) (hG : ∀ q ∈ ([(1, 0), (0, 0), (2, 0)] ++ allG), q ∈ gr) (h : X11_status Y a1 = some res) : CXi l yX11_status wsX11_status (Rx 7 1) N0 T D gr ad Y [.ref (ad 0 0 0), .int a1] 1 res :=
  fw_xbody (by decide +kernel) rfl (Nat.le_of_ble_eq_true rfl) (fun p e s m below meth c C hrt hX => w_X11_status C hrt hG hl hX h)
