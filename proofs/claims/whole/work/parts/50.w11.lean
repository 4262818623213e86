theorem ly_X8_complete_8 : ∀ w ∈ u_ws RX8 TX8 15, w ∈ wsX8_complete := by decide +kernel
theorem fl_X8_complete_53 : Cond.fieldLink RX8 53 "RecipeScheduler$State" "running" "I" ∈ wsX8_complete := by decide +kernel
theorem fl_X8_complete_56 : Cond.fieldLink RX8 56 "RecipeScheduler$State" "done" "I" ∈ wsX8_complete := by decide +kernel
theorem fl_X8_complete_24 : Cond.fieldLink RX8 24 "RecipeScheduler$State" "completions" "[I" ∈ wsX8_complete := by decide +kernel
section
variable {p : Program} {l : Launch} {e : Env} {s : State} {m : MethodId} {below : List Frame} {meth : Method} {c : Code} {N0 : Nat} {T : Nat → ClassId} {D : va_G} {gr : List (Nat × Nat)} {ad : Nat → Nat → Nat → Nat}
set_option maxRecDepth 100000 in
set_option maxHeartbeats 4000000 in
theorem w_X8_complete {Y : Mem} {g0 : Nat} {a1 : Int32} (C : Cx p s m [.ref (ad 2 g0 0), .int a1].toArray meth c cX8_complete 2 wsX8_complete RX8 N0 T D gr ad) (hrt : meth.sig.returnType = none) (hG : ∀ q ∈ [(2, g0)], q ∈ gr) {res : Mem} (h : X8_complete Y g0 a1 = some res) : FW p l e (Rm 0) s m [.ref (ad 2 g0 0), .int a1].toArray below meth c 2 N0 T D gr ad 0 0 (MQ below (va_Qv (fun Y1 => Y1 = res) (WB T D gr ad) (fun q => N0 ≤ q)) [.ref (ad 2 g0 0), .int a1].toArray s 0 0 (fun q => N0 ≤ q)) Y 0 [(0, .ref (ad 2 g0 0)), (1, .int a1)] [] := by
  unfold X8_complete at h
  refine fw_aload_n C dX8_complete_0 rfl 0 rfl ?_
  refine fw_dup C dX8_complete_1 rfl ?_
  refine fw_get C (ci := 6) (Cn := RX8) (Tc := TX8) (N := 15) (j := 6) ly_X8_complete_8 rfl (hG _ (List.mem_of_getElem? (i := 0) rfl)) (of2_0 _) (ce2 T ad _ _) (by decide) (cx_ts C _ fl_X8_complete_53) (fun _ h => h) (v := .int (Y 2 g0 0 6)) rfl dX8_complete_2 ?_
  refine fw_iconst C dX8_complete_5 (v := 1) rfl ?_
  refine fw_iload_n C dX8_complete_6 rfl 1 rfl ?_
  refine fw_ishl C dX8_complete_7 ?_
  refine fw_iconst C dX8_complete_8 (v := (-1)) rfl ?_
  refine fw_ixor C dX8_complete_9 ?_
  refine fw_iand C dX8_complete_10 ?_
  obtain ⟨Y1, e2, h⟩ := lt_some h
  refine fw_put C (ci := 6) (Cn := RX8) (Tc := TX8) (N := 15) (j := 6) (ty := .int) (upd (Y 2 g0 0) 6 ((Y 2 g0 0 6) &&& ((1 <<< (a1 &&& 31)) ^^^ ((-1))))) ly_X8_complete_8 rfl tyX8_ok nmX8 (hG _ (List.mem_of_getElem? (i := 0) rfl)) (of2_0 _) (ce2 T ad _ _) (by decide) (cx_ts C _ fl_X8_complete_53) (fun _ h => h) rfl (by decide +kernel) rfl rfl (Nat.le_of_ble_eq_true rfl) (ce2_put6 T ad _ _ _) dX8_complete_11 ?_
  refine fw_mem ((up_eq _ _ _ _ _ _).symm.trans e2) ?_
  refine fw_aload_n C dX8_complete_14 rfl 0 rfl ?_
  refine fw_dup C dX8_complete_15 rfl ?_
  refine fw_get C (ci := 6) (Cn := RX8) (Tc := TX8) (N := 15) (j := 7) ly_X8_complete_8 rfl (hG _ (List.mem_of_getElem? (i := 0) rfl)) (of2_0 _) (ce2 T ad _ _) (by decide) (cx_ts C _ fl_X8_complete_56) (fun _ h => h) (v := .int (Y1 2 g0 0 7)) rfl dX8_complete_16 ?_
  refine fw_iconst C dX8_complete_19 (v := 1) rfl ?_
  refine fw_iload_n C dX8_complete_20 rfl 1 rfl ?_
  refine fw_ishl C dX8_complete_21 ?_
  refine fw_ior C dX8_complete_22 ?_
  obtain ⟨Y3, e4, h⟩ := lt_some h
  refine fw_put C (ci := 6) (Cn := RX8) (Tc := TX8) (N := 15) (j := 7) (ty := .int) (upd (Y1 2 g0 0) 7 ((Y1 2 g0 0 7) ||| (1 <<< (a1 &&& 31)))) ly_X8_complete_8 rfl tyX8_ok nmX8 (hG _ (List.mem_of_getElem? (i := 0) rfl)) (of2_0 _) (ce2 T ad _ _) (by decide) (cx_ts C _ fl_X8_complete_56) (fun _ h => h) rfl (by decide +kernel) rfl rfl (Nat.le_of_ble_eq_true rfl) (ce2_put7 T ad _ _ _) dX8_complete_23 ?_
  refine fw_mem ((up_eq _ _ _ _ _ _).symm.trans e4) ?_
  refine fw_aload_n C dX8_complete_26 rfl 0 rfl ?_
  refine fw_get C (ci := 6) (Cn := RX8) (Tc := TX8) (N := 15) (j := 13) ly_X8_complete_8 rfl (hG _ (List.mem_of_getElem? (i := 0) rfl)) (of2_0 _) (ce2 T ad _ _) (by decide) (cx_ts C _ fl_X8_complete_24) (fun _ h => h) (v := .ref (ad 2 g0 5)) rfl dX8_complete_27 ?_
  refine fw_iload_n C dX8_complete_30 rfl 1 rfl ?_
  refine fw_dup2 C dX8_complete_31 rfl rfl ?_
  obtain ⟨b5, h⟩ := gd_some h
  refine fw_iald2 C (hG _ (List.mem_of_getElem? (i := 0) rfl)) (of2_5 _) (ca2_5 T ad _ _) b5 (Nat.le_of_ble_eq_true rfl) dX8_complete_32 ?_
  refine fw_iconst C dX8_complete_33 (v := 1) rfl ?_
  refine fw_iadd C dX8_complete_34 ?_
  obtain ⟨Y6, e7, h⟩ := lt_some h
  refine fw_iast2 C (hG _ (List.mem_of_getElem? (i := 0) rfl)) (of2_5 _) (ca2_5 T ad _) b5 (Nat.le_of_ble_eq_true rfl) dX8_complete_35 ?_
  refine fw_mem e7 ?_
  exact fw_vret C hrt Y6 (Option.some.inj h) (fun t ht => ht) dX8_complete_36
end
set_option maxRecDepth 100000 in
set_option maxHeartbeats 4000000 in
theorem c_X8_complete {l : Launch} {N0 : Nat} {T : Nat → ClassId} {D : va_G} {gr : List (Nat × Nat)} {ad : Nat → Nat → Nat → Nat} {Y : Mem} {g0 : Nat} {a1 : Int32} {res : Mem} (hG : ∀ q ∈ [(2, g0)], q ∈ gr) (h : X8_complete Y g0 a1 = some res) : CV l yX8_complete wsX8_complete (Rm 0) N0 T D gr ad Y [.ref (ad 2 g0 0), .int a1] (fun Y1 => Y1 = res) :=
  fw_body (by decide +kernel) rfl (Nat.le_of_ble_eq_true rfl) (fun p e s m below meth c C hrt => w_X8_complete C hrt hG  h)
theorem ly_X3_work_3 : ∀ w ∈ u_ws RX3 TX3 5, w ∈ wsX3_work := by decide +kernel
theorem fl_X3_work_12 : Cond.fieldLink RX3 12 "RecipeScheduler$Kitchen" "state" "LRecipeScheduler$State;" ∈ wsX3_work := by decide +kernel
theorem ly_X3_work_8 : ∀ w ∈ u_ws RX8 TX8 15, w ∈ wsX3_work := by decide +kernel
theorem fl_X3_work_28 : Cond.fieldLink RX3 28 "RecipeScheduler$Kitchen" "recipe" "LRecipeScheduler$Recipe;" ∈ wsX3_work := by decide +kernel
theorem ly_X3_work_5 : ∀ w ∈ u_ws RX5 TX5 17, w ∈ wsX3_work := by decide +kernel
theorem ly_X3_work_4 : ∀ w ∈ u_ws RX4 TX4 3, w ∈ wsX3_work := by decide +kernel
theorem in_X3_work_11 : Cond.initialized RX11 ∈ wsX3_work := by decide +kernel
theorem sw_X3_work_X11_contains : Cond.static yX11_contains ∈ wsX3_work := by decide +kernel
section
variable {p : Program} {l : Launch} {e : Env} {s : State} {m : MethodId} {below : List Frame} {meth : Method} {c : Code} {N0 : Nat} {T : Nat → ClassId} {D : va_G} {gr : List (Nat × Nat)} {ad : Nat → Nat → Nat → Nat}
set_option maxRecDepth 100000 in
set_option maxHeartbeats 4000000 in
theorem w_X3_work_b99 {g0 : Nat} (C : Cx p s m [.ref (ad 1 g0 0)].toArray meth c cX3_work 4 wsX3_work RX3 N0 T D gr ad) (hrt : meth.sig.returnType = (some .int)) (hG : ∀ q ∈ ([(1, g0), (2, g0)] ++ allG), q ∈ gr) {res : Int32 × Mem} {k38 : Mem → Int32 → Int32 → Int32 → Option (Int32 × Mem)} (hk38 : ∀ (Y : Mem) (l3 : Int32) (l2 : Int32) (l1 : Int32), k38 Y l3 l2 l1 = some res → FW p l e (Rm 1) s m [.ref (ad 1 g0 0)].toArray below meth c 4 N0 T D gr ad 0 0 (MQ below (va_Qi (fun r Y1 => (r, Y1) = res) (WB T D gr ad) (fun q => N0 ≤ q)) [.ref (ad 1 g0 0)].toArray s 0 0 (fun q => N0 ≤ q)) Y 38 [(3, .int l3), (2, .int l2), (1, .int l1), (0, .ref (ad 1 g0 0))] []) (Y : Mem) (l3 : Int32) (l2 : Int32) (l1 : Int32) (h : X3_work_b99 g0 k38 Y l3 l2 l1 = some res) : FW p l e (Rm 1) s m [.ref (ad 1 g0 0)].toArray below meth c 4 N0 T D gr ad 0 0 (MQ below (va_Qi (fun r Y1 => (r, Y1) = res) (WB T D gr ad) (fun q => N0 ≤ q)) [.ref (ad 1 g0 0)].toArray s 0 0 (fun q => N0 ≤ q)) Y 99 [(3, .int l3), (2, .int l2), (1, .int l1), (0, .ref (ad 1 g0 0))] [] := by
  unfold X3_work_b99 at h
  refine fw_iinc C dX3_work_99 (kk := 0) (v := l3 + 1) rfl rfl (by decide) (L' := [(3, .int (l3 + 1)), (2, .int l2), (1, .int l1), (0, .ref (ad 1 g0 0))]) rfl ?_
  refine fw_goto C dX3_work_102 (tgt := 38) rfl ?_
  exact hk38 _ _ _ _ h
set_option maxRecDepth 100000 in
set_option maxHeartbeats 4000000 in
theorem w_X3_work_b38 {g0 : Nat} (C : Cx p s m [.ref (ad 1 g0 0)].toArray meth c cX3_work 4 wsX3_work RX3 N0 T D gr ad) (hrt : meth.sig.returnType = (some .int)) (hG : ∀ q ∈ ([(1, g0), (2, g0)] ++ allG), q ∈ gr) {res : Int32 × Mem} : ∀ (n : Nat) (Y : Mem) (l3 : Int32) (l2 : Int32) (l1 : Int32), X3_work_b38 g0  n Y l3 l2 l1 = some res → FW p l e (Rm 1) s m [.ref (ad 1 g0 0)].toArray below meth c 4 N0 T D gr ad 0 0 (MQ below (va_Qi (fun r Y1 => (r, Y1) = res) (WB T D gr ad) (fun q => N0 ≤ q)) [.ref (ad 1 g0 0)].toArray s 0 0 (fun q => N0 ≤ q)) Y 38 [(3, .int l3), (2, .int l2), (1, .int l1), (0, .ref (ad 1 g0 0))] [] := by
  intro n
  induction n with
  | zero =>
    intro Y l3 l2 l1 h
    unfold X3_work_b38 at h
    cases h
  | succ n ih =>
    intro Y l3 l2 l1 h
    unfold X3_work_b38 at h
    refine fw_iload_n C dX3_work_38 rfl 0 rfl ?_
    refine fw_aload_n C dX3_work_39 rfl 3 rfl ?_
    refine fw_get C (ci := 1) (Cn := RX3) (Tc := TX3) (N := 5) (j := 0) ly_X3_work_3 rfl (hG _ (List.mem_of_getElem? (i := 0) rfl)) (of1_0 _) (ce1 T ad _ _) (by decide) (cx_ts C _ fl_X3_work_28) (fun _ h => h) (v := .ref (ad 3 ((Y 1 g0 0 0).toNatClampNeg) 0)) rfl dX3_work_40 ?_
    obtain ⟨b8, h⟩ := gd_some h
    have b8 := of_decide_eq_true b8
    refine fw_getN C (ci := 3) (Cn := RX5) (Tc := TX5) (N := 17) (j := 7) ly_X3_work_5 rfl ((fun q hq => hG q (List.mem_append_right _ hq)) _ (allG_3 b8)) (of3_0 _) (ce3 T ad _ _) (by decide) (Nst_use (cx_nst C) (w := .fieldLinkNest RX3 91 "RecipeScheduler$Recipe" "steps" "LRecipeScheduler$Names;" "RecipeScheduler") 148 (by decide +kernel) rfl) (fun _ h => h) (v := .ref (ad 4 (2*((Y 1 g0 0 0).toNatClampNeg)+1) 0)) rfl dX3_work_43 ?_
    obtain ⟨b9, h⟩ := gd_some h
    have b9 := of_decide_eq_true b9
    refine fw_getN C (ci := 2) (Cn := RX4) (Tc := TX4) (N := 3) (j := 2) ly_X3_work_4 rfl ((fun q hq => hG q (List.mem_append_right _ hq)) _ (allG_4b b9)) (of4_0 _) (ce4 T ad _ _) (by decide) (Nst_use (cx_nst C) (w := .fieldLinkNest RX3 95 "RecipeScheduler$Names" "count" "I" "RecipeScheduler") 114 (by decide +kernel) rfl) (fun _ h => h) (v := .int (Y 4 (2*((Y 1 g0 0 0).toNatClampNeg)+1) 0 2)) rfl dX3_work_46 ?_
    refine fw_icmp_ge C dX3_work_49 (tgt := 105) rfl (fun c10 => ?_) (fun c10 => ?_)
    · have h := ite_t c10 h
      refine fw_iload_n C dX3_work_105 rfl 2 rfl ?_
      exact fw_iret C hrt Y (Option.some.inj h) (fun t ht => ht) dX3_work_106
    · have h := ite_f c10 h
      refine fw_iload_n C dX3_work_52 rfl 1 rfl ?_
      refine fw_iload_n C dX3_work_53 rfl 0 rfl ?_
      obtain ⟨r11, q12, h⟩ := bd1_some h
      refine fw_callSNi C (As := [.int l2, .int l3]) (c_X11_contains ga0 q12) ⟨(va_cnB 2 (cx_ts C) gX3_work_X11_contains_n100 rfl rfl rfl (cx_nw C (w := .methodLinkNest RX3 100 yX11_contains "RecipeScheduler") 623 (by decide +kernel) rfl) (cx_ts C _ in_X3_work_11) (by decide +kernel) ⟨Nat.le_of_ble_eq_true rfl, Nat.le_of_ble_eq_true rfl⟩), cx_ts C _ sw_X3_work_X11_contains, trivial⟩ rfl (st := []) rfl (Nat.le_of_ble_eq_true rfl) ⟨Nat.le_refl 0, Nat.le_refl 0⟩ dX3_work_54 (pp2 ?_)
      refine fw_if_eq C dX3_work_57 (tgt := 99) rfl (fun c13 => ?_) (fun c13 => ?_)
      · have h := ite_t c13 h
        exact w_X3_work_b99 C hrt hG  ih _ _ _ _ h
      · have h := ite_f c13 h
        refine fw_aload_n C dX3_work_60 rfl 3 rfl ?_
        refine fw_get C (ci := 1) (Cn := RX3) (Tc := TX3) (N := 5) (j := 1) ly_X3_work_3 rfl (hG _ (List.mem_of_getElem? (i := 0) rfl)) (of1_0 _) (ce1 T ad _ _) (by decide) (cx_ts C _ fl_X3_work_12) (fun _ h => h) (v := .ref (ad 2 g0 0)) rfl dX3_work_61 ?_
        refine fw_getN C (ci := 6) (Cn := RX8) (Tc := TX8) (N := 15) (j := 10) ly_X3_work_8 rfl (hG _ (List.mem_of_getElem? (i := 1) rfl)) (of2_0 _) (ce2 T ad _ _) (by decide) (Nst_use (cx_nst C) (w := .fieldLinkNest RX3 104 "RecipeScheduler$State" "remaining" "[I" "RecipeScheduler") 463 (by decide +kernel) rfl) (fun _ h => h) (v := .ref (ad 2 g0 2)) rfl dX3_work_64 ?_
        refine fw_iload_n C dX3_work_67 rfl 0 rfl ?_
        refine fw_dup2 C dX3_work_68 rfl rfl ?_
        obtain ⟨b14, h⟩ := gd_some h
        refine fw_iald2 C (hG _ (List.mem_of_getElem? (i := 1) rfl)) (of2_2 _) (ca2_2 T ad _ _) b14 (Nat.le_of_ble_eq_true rfl) dX3_work_69 ?_
        refine fw_iconst C dX3_work_70 (v := 1) rfl ?_
        refine fw_isub C dX3_work_71 ?_
        obtain ⟨Y15, e16, h⟩ := lt_some h
        refine fw_iast2 C (hG _ (List.mem_of_getElem? (i := 1) rfl)) (of2_2 _) (ca2_2 T ad _) b14 (Nat.le_of_ble_eq_true rfl) dX3_work_72 ?_
        refine fw_mem e16 ?_
        refine fw_aload_n C dX3_work_73 rfl 3 rfl ?_
        refine fw_get C (ci := 1) (Cn := RX3) (Tc := TX3) (N := 5) (j := 1) ly_X3_work_3 rfl (hG _ (List.mem_of_getElem? (i := 0) rfl)) (of1_0 _) (ce1 T ad _ _) (by decide) (cx_ts C _ fl_X3_work_12) (fun _ h => h) (v := .ref (ad 2 g0 0)) rfl dX3_work_74 ?_
        refine fw_getN C (ci := 6) (Cn := RX8) (Tc := TX8) (N := 15) (j := 10) ly_X3_work_8 rfl (hG _ (List.mem_of_getElem? (i := 1) rfl)) (of2_0 _) (ce2 T ad _ _) (by decide) (Nst_use (cx_nst C) (w := .fieldLinkNest RX3 104 "RecipeScheduler$State" "remaining" "[I" "RecipeScheduler") 463 (by decide +kernel) rfl) (fun _ h => h) (v := .ref (ad 2 g0 2)) rfl dX3_work_77 ?_
        refine fw_iload_n C dX3_work_80 rfl 0 rfl ?_
        refine fw_iald2 C (hG _ (List.mem_of_getElem? (i := 1) rfl)) (of2_2 _) (ca2_2 T ad _ _) b14 (Nat.le_of_ble_eq_true rfl) dX3_work_81 ?_
        refine fw_if_ne C dX3_work_82 (tgt := 99) rfl (fun c17 => ?_) (fun c17 => ?_)
        · have h := ite_f c17 h
          exact w_X3_work_b99 C hrt hG  ih _ _ _ _ h
        · have h := ite_t c17 h
          refine fw_aload_n C dX3_work_85 rfl 3 rfl ?_
          refine fw_get C (ci := 1) (Cn := RX3) (Tc := TX3) (N := 5) (j := 1) ly_X3_work_3 rfl (hG _ (List.mem_of_getElem? (i := 0) rfl)) (of1_0 _) (ce1 T ad _ _) (by decide) (cx_ts C _ fl_X3_work_12) (fun _ h => h) (v := .ref (ad 2 g0 0)) rfl dX3_work_86 ?_
          refine fw_iload_n C dX3_work_89 rfl 0 rfl ?_
          obtain ⟨Y20, q19, h⟩ := bd1_some h
          refine fw_callVv C (ci := 6) (Cn := RX8) (Tc := TX8) (N := 15) (As := [.int l3]) (c_X8_complete (gac (hG _ (List.mem_of_getElem? (i := 1) rfl)) ga0) q19) (cwV 1 (cx_ts C) gX3_work_X8_complete rfl rfl rfl (by decide +kernel) ⟨Nat.le_of_ble_eq_true rfl, Nat.le_of_ble_eq_true rfl⟩) rfl (hG _ (List.mem_of_getElem? (i := 1) rfl)) (of2_0 _) (ce2 T ad _ _) rfl (st := []) rfl (Nat.le_of_ble_eq_true rfl) ⟨Nat.le_refl 0, Nat.le_refl 0⟩ dX3_work_90 (ppv ?_)
          refine fw_iload_n C dX3_work_93 rfl 2 rfl ?_
          refine fw_iconst C dX3_work_94 (v := 1) rfl ?_
          refine fw_iload_n C dX3_work_95 rfl 0 rfl ?_
          refine fw_ishl C dX3_work_96 ?_
          refine fw_ior C dX3_work_97 ?_
          obtain ⟨v21, e22, h⟩ := lt_some h
          refine fw_top (v' := .int v21) (by rw [e22]) ?_
          refine fw_istore_n C dX3_work_98 rfl (by decide) (L' := [(1, .int v21), (3, .int l3), (2, .int l2), (0, .ref (ad 1 g0 0))]) rfl ?_
          refine fw_sub [1, 2, 0, 3] (L' := [(3, .int l3), (2, .int l2), (1, .int v21), (0, .ref (ad 1 g0 0))]) rfl ?_
          exact w_X3_work_b99 C hrt hG  ih _ _ _ _ h
set_option maxRecDepth 100000 in
set_option maxHeartbeats 4000000 in
theorem w_X3_work {Y : Mem} {g0 : Nat} (C : Cx p s m [.ref (ad 1 g0 0)].toArray meth c cX3_work 4 wsX3_work RX3 N0 T D gr ad) (hrt : meth.sig.returnType = (some .int)) (hG : ∀ q ∈ ([(1, g0), (2, g0)] ++ allG), q ∈ gr) {res : Int32 × Mem} (h : X3_work Y g0 = some res) : FW p l e (Rm 1) s m [.ref (ad 1 g0 0)].toArray below meth c 4 N0 T D gr ad 0 0 (MQ below (va_Qi (fun r Y1 => (r, Y1) = res) (WB T D gr ad) (fun q => N0 ≤ q)) [.ref (ad 1 g0 0)].toArray s 0 0 (fun q => N0 ≤ q)) Y 0 [(0, .ref (ad 1 g0 0))] [] := by
  unfold X3_work at h
  refine fw_iconst C dX3_work_0 (v := 0) rfl ?_
  refine fw_istore_n C dX3_work_1 rfl (by decide) (L' := [(1, .int 0), (0, .ref (ad 1 g0 0))]) rfl ?_
  refine fw_aload_n C dX3_work_2 rfl 1 rfl ?_
  refine fw_get C (ci := 1) (Cn := RX3) (Tc := TX3) (N := 5) (j := 1) ly_X3_work_3 rfl (hG _ (List.mem_of_getElem? (i := 0) rfl)) (of1_0 _) (ce1 T ad _ _) (by decide) (cx_ts C _ fl_X3_work_12) (fun _ h => h) (v := .ref (ad 2 g0 0)) rfl dX3_work_3 ?_
  refine fw_getN C (ci := 6) (Cn := RX8) (Tc := TX8) (N := 15) (j := 6) ly_X3_work_8 rfl (hG _ (List.mem_of_getElem? (i := 1) rfl)) (of2_0 _) (ce2 T ad _ _) (by decide) (Nst_use (cx_nst C) (w := .fieldLinkNest RX3 82 "RecipeScheduler$State" "running" "I" "RecipeScheduler") 452 (by decide +kernel) rfl) (fun _ h => h) (v := .int (Y 2 g0 0 6)) rfl dX3_work_6 ?_
  obtain ⟨v1, e2, h⟩ := lt_some h
  refine fw_top (v' := .int v1) (by rw [e2]) ?_
  refine fw_istore_n C dX3_work_9 rfl (by decide) (L' := [(2, .int v1), (1, .int 0), (0, .ref (ad 1 g0 0))]) rfl ?_
  refine fw_aload_n C dX3_work_10 rfl 2 rfl ?_
  refine fw_get C (ci := 1) (Cn := RX3) (Tc := TX3) (N := 5) (j := 1) ly_X3_work_3 rfl (hG _ (List.mem_of_getElem? (i := 0) rfl)) (of1_0 _) (ce1 T ad _ _) (by decide) (cx_ts C _ fl_X3_work_12) (fun _ h => h) (v := .ref (ad 2 g0 0)) rfl dX3_work_11 ?_
  refine fw_dup C dX3_work_14 rfl ?_
  refine fw_getN C (ci := 6) (Cn := RX8) (Tc := TX8) (N := 15) (j := 3) ly_X3_work_8 rfl (hG _ (List.mem_of_getElem? (i := 1) rfl)) (of2_0 _) (ce2 T ad _ _) (by decide) (Nst_use (cx_nst C) (w := .fieldLinkNest RX3 85 "RecipeScheduler$State" "cookMinutes" "I" "RecipeScheduler") 444 (by decide +kernel) rfl) (fun _ h => h) (v := .int (Y 2 g0 0 3)) rfl dX3_work_15 ?_
  refine fw_iload_n C dX3_work_18 rfl 0 rfl ?_
  refine fw_aload_n C dX3_work_19 rfl 2 rfl ?_
  refine fw_get C (ci := 1) (Cn := RX3) (Tc := TX3) (N := 5) (j := 0) ly_X3_work_3 rfl (hG _ (List.mem_of_getElem? (i := 0) rfl)) (of1_0 _) (ce1 T ad _ _) (by decide) (cx_ts C _ fl_X3_work_28) (fun _ h => h) (v := .ref (ad 3 ((Y 1 g0 0 0).toNatClampNeg) 0)) rfl dX3_work_20 ?_
  obtain ⟨b3, h⟩ := gd_some h
  have b3 := of_decide_eq_true b3
  refine fw_getN C (ci := 3) (Cn := RX5) (Tc := TX5) (N := 17) (j := 16) ly_X3_work_5 rfl ((fun q hq => hG q (List.mem_append_right _ hq)) _ (allG_3 b3)) (of3_0 _) (ce3 T ad _ _) (by decide) (Nst_use (cx_nst C) (w := .fieldLinkNest RX3 88 "RecipeScheduler$Recipe" "alone" "I" "RecipeScheduler") 179 (by decide +kernel) rfl) (fun _ h => h) (v := .int (Y 3 ((Y 1 g0 0 0).toNatClampNeg) 0 16)) rfl dX3_work_23 ?_
  refine fw_iconst C dX3_work_26 (v := (-1)) rfl ?_
  refine fw_ixor C dX3_work_27 ?_
  refine fw_iand C dX3_work_28 ?_
  obtain ⟨r4, q5, h⟩ := bd1_some h
  refine fw_callSi C (As := [.int (v1 &&& ((Y 3 ((Y 1 g0 0 0).toNatClampNeg) 0 16) ^^^ ((-1))))]) (c_J6_bitCount_0f7a4 ga0 q5) (va_cwS 1 (cx_ts C) gX3_work_J6_bitCount_0f7a4 rfl rfl rfl (by decide +kernel) ⟨Nat.le_of_ble_eq_true rfl, Nat.le_of_ble_eq_true rfl⟩) rfl (st := [.int (Y 2 g0 0 3), .ref (ad 2 g0 0)]) rfl (Nat.le_of_ble_eq_true rfl) ⟨Nat.le_refl 0, Nat.le_refl 0⟩ dX3_work_29 (pp2 ?_)
  refine fw_iadd C dX3_work_32 ?_
  obtain ⟨Y6, e7, h⟩ := lt_some h
  refine fw_putN C (ci := 6) (Cn := RX8) (Tc := TX8) (N := 15) (j := 3) (ty := .int) (upd (Y 2 g0 0) 3 ((Y 2 g0 0 3) + r4)) ly_X3_work_8 rfl tyX8_ok nmX8 (hG _ (List.mem_of_getElem? (i := 1) rfl)) (of2_0 _) (ce2 T ad _ _) (by decide) (Nst_use (cx_nst C) (w := .fieldLinkNest RX3 85 "RecipeScheduler$State" "cookMinutes" "I" "RecipeScheduler") 444 (by decide +kernel) rfl) (fun _ h => h) rfl (by decide +kernel) rfl rfl (Nat.le_of_ble_eq_true rfl) (ce2_put3 T ad _ _ _) dX3_work_33 ?_
  refine fw_mem ((up_eq _ _ _ _ _ _).symm.trans e7) ?_
  refine fw_iconst C dX3_work_36 (v := 0) rfl ?_
  refine fw_istore_n C dX3_work_37 rfl (by decide) (L' := [(3, .int 0), (2, .int v1), (1, .int 0), (0, .ref (ad 1 g0 0))]) rfl ?_
  exact w_X3_work_b38 C hrt hG   _ _ _ _ _ h
end
set_option maxRecDepth 100000 in
set_option maxHeartbeats 4000000 in
theorem c_X3_work {l : Launch} {N0 : Nat} {T : Nat → ClassId} {D : va_G} {gr : List (Nat × Nat)} {ad : Nat → Nat → Nat → Nat} {Y : Mem} {g0 : Nat} {res : Int32 × Mem} (hG : ∀ q ∈ ([(1, g0), (2, g0)] ++ allG), q ∈ gr) (h : X3_work Y g0 = some res) : CI l yX3_work wsX3_work (Rm 1) N0 T D gr ad Y [.ref (ad 1 g0 0)] (fun r Y1 => (r, Y1) = res) :=
  fw_body (by decide +kernel) rfl (Nat.le_of_ble_eq_true rfl) (fun p e s m below meth c C hrt => w_X3_work C hrt hG  h)
theorem ly_X3_isContinued_3 : ∀ w ∈ u_ws RX3 TX3 5, w ∈ wsX3_isContinued := by decide +kernel
theorem fl_X3_isContinued_28 : Cond.fieldLink RX3 28 "RecipeScheduler$Kitchen" "recipe" "LRecipeScheduler$Recipe;" ∈ wsX3_isContinued := by decide +kernel
theorem ly_X3_isContinued_5 : ∀ w ∈ u_ws RX5 TX5 17, w ∈ wsX3_isContinued := by decide +kernel
theorem fl_X3_isContinued_12 : Cond.fieldLink RX3 12 "RecipeScheduler$Kitchen" "state" "LRecipeScheduler$State;" ∈ wsX3_isContinued := by decide +kernel
theorem ly_X3_isContinued_8 : ∀ w ∈ u_ws RX8 TX8 15, w ∈ wsX3_isContinued := by decide +kernel
section
variable {p : Program} {l : Launch} {e : Env} {s : State} {m : MethodId} {below : List Frame} {meth : Method} {c : Code} {N0 : Nat} {T : Nat → ClassId} {D : va_G} {gr : List (Nat × Nat)} {ad : Nat → Nat → Nat → Nat}
set_option maxRecDepth 100000 in
set_option maxHeartbeats 4000000 in
theorem w_X3_isContinued {Y : Mem} {g0 : Nat} {a1 : Int32} (C : Cx p s m [.ref (ad 1 g0 0), .int a1].toArray meth c cX3_isContinued 2 wsX3_isContinued RX3 N0 T D gr ad) (hrt : meth.sig.returnType = (some .boolean)) (hG : ∀ q ∈ ([(1, g0), (2, g0)] ++ allG), q ∈ gr) {res : Int32} (h : X3_isContinued Y g0 a1 = some res) : FW p l e (Rm 0) s m [.ref (ad 1 g0 0), .int a1].toArray below meth c 2 N0 T D gr ad 0 0 (MQ below (va_Qi (fun r Y1 => r = res ∧ Y1 = Y) (WB T D gr ad) (fun q => N0 ≤ q)) [.ref (ad 1 g0 0), .int a1].toArray s 0 0 (fun q => N0 ≤ q)) Y 0 [(0, .ref (ad 1 g0 0)), (1, .int a1)] [] := by
  unfold X3_isContinued at h
  refine fw_aload_n C dX3_isContinued_0 rfl 0 rfl ?_
  refine fw_get C (ci := 1) (Cn := RX3) (Tc := TX3) (N := 5) (j := 0) ly_X3_isContinued_3 rfl (hG _ (List.mem_of_getElem? (i := 0) rfl)) (of1_0 _) (ce1 T ad _ _) (by decide) (cx_ts C _ fl_X3_isContinued_28) (fun _ h => h) (v := .ref (ad 3 ((Y 1 g0 0 0).toNatClampNeg) 0)) rfl dX3_isContinued_1 ?_
  obtain ⟨b1, h⟩ := gd_some h
  have b1 := of_decide_eq_true b1
  refine fw_getN C (ci := 3) (Cn := RX5) (Tc := TX5) (N := 17) (j := 14) ly_X3_isContinued_5 rfl ((fun q hq => hG q (List.mem_append_right _ hq)) _ (allG_3 b1)) (of3_0 _) (ce3 T ad _ _) (by decide) (Nst_use (cx_nst C) (w := .fieldLinkNest RX3 141 "RecipeScheduler$Recipe" "successorSet" "[I" "RecipeScheduler") 171 (by decide +kernel) rfl) (fun _ h => h) (v := .ref (ad 3 (((Y 1 g0 0 0).toNatClampNeg)) 9)) rfl dX3_isContinued_4 ?_
  refine fw_iload_n C dX3_isContinued_7 rfl 1 rfl ?_
  obtain ⟨b2, h⟩ := gd_some h
  refine fw_iald2 C ((fun q hq => hG q (List.mem_append_right _ hq)) _ (allG_3 b1)) (of3_9 _) (ca3_9 T ad _ _) b2 (Nat.le_of_ble_eq_true rfl) dX3_isContinued_8 ?_
  refine fw_aload_n C dX3_isContinued_9 rfl 0 rfl ?_
  refine fw_get C (ci := 1) (Cn := RX3) (Tc := TX3) (N := 5) (j := 1) ly_X3_isContinued_3 rfl (hG _ (List.mem_of_getElem? (i := 0) rfl)) (of1_0 _) (ce1 T ad _ _) (by decide) (cx_ts C _ fl_X3_isContinued_12) (fun _ h => h) (v := .ref (ad 2 g0 0)) rfl dX3_isContinued_10 ?_
  refine fw_getN C (ci := 6) (Cn := RX8) (Tc := TX8) (N := 15) (j := 6) ly_X3_isContinued_8 rfl (hG _ (List.mem_of_getElem? (i := 1) rfl)) (of2_0 _) (ce2 T ad _ _) (by decide) (Nst_use (cx_nst C) (w := .fieldLinkNest RX3 82 "RecipeScheduler$State" "running" "I" "RecipeScheduler") 452 (by decide +kernel) rfl) (fun _ h => h) (v := .int (Y 2 g0 0 6)) rfl dX3_isContinued_13 ?_
  refine fw_aload_n C dX3_isContinued_16 rfl 0 rfl ?_
  refine fw_get C (ci := 1) (Cn := RX3) (Tc := TX3) (N := 5) (j := 1) ly_X3_isContinued_3 rfl (hG _ (List.mem_of_getElem? (i := 0) rfl)) (of1_0 _) (ce1 T ad _ _) (by decide) (cx_ts C _ fl_X3_isContinued_12) (fun _ h => h) (v := .ref (ad 2 g0 0)) rfl dX3_isContinued_17 ?_
  refine fw_getN C (ci := 6) (Cn := RX8) (Tc := TX8) (N := 15) (j := 7) ly_X3_isContinued_8 rfl (hG _ (List.mem_of_getElem? (i := 1) rfl)) (of2_0 _) (ce2 T ad _ _) (by decide) (Nst_use (cx_nst C) (w := .fieldLinkNest RX3 47 "RecipeScheduler$State" "done" "I" "RecipeScheduler") 455 (by decide +kernel) rfl) (fun _ h => h) (v := .int (Y 2 g0 0 7)) rfl dX3_isContinued_20 ?_
  refine fw_ior C dX3_isContinued_23 ?_
  refine fw_iand C dX3_isContinued_24 ?_
  refine fw_if_eq C dX3_isContinued_25 (tgt := 32) rfl (fun c3 => ?_) (fun c3 => ?_)
  · have h := ite_t c3 h
    refine fw_iconst C dX3_isContinued_32 (v := 0) rfl ?_
    exact fw_zret C hrt (by decide) Y ⟨Option.some.inj h, rfl⟩ (fun t ht => ht) dX3_isContinued_33
  · have h := ite_f c3 h
    refine fw_iconst C dX3_isContinued_28 (v := 1) rfl ?_
    refine fw_goto C dX3_isContinued_29 (tgt := 33) rfl ?_
    exact fw_zret C hrt (by decide) Y ⟨Option.some.inj h, rfl⟩ (fun t ht => ht) dX3_isContinued_33
end
set_option maxRecDepth 100000 in
set_option maxHeartbeats 4000000 in
theorem c_X3_isContinued {l : Launch} {N0 : Nat} {T : Nat → ClassId} {D : va_G} {gr : List (Nat × Nat)} {ad : Nat → Nat → Nat → Nat} {Y : Mem} {g0 : Nat} {a1 : Int32} {res : Int32} (hG : ∀ q ∈ ([(1, g0), (2, g0)] ++ allG), q ∈ gr) (h : X3_isContinued Y g0 a1 = some res) : CI l yX3_isContinued wsX3_isContinued (Rm 0) N0 T D gr ad Y [.ref (ad 1 g0 0), .int a1] (fun r Y1 => r = res ∧ Y1 = Y) :=
  fw_body (by decide +kernel) rfl (Nat.le_of_ble_eq_true rfl) (fun p e s m below meth c C hrt => w_X3_isContinued C hrt hG  h)
theorem ly_X8_burn_8 : ∀ w ∈ u_ws RX8 TX8 15, w ∈ wsX8_burn := by decide +kernel
theorem fl_X8_burn_56 : Cond.fieldLink RX8 56 "RecipeScheduler$State" "done" "I" ∈ wsX8_burn := by decide +kernel
theorem fl_X8_burn_59 : Cond.fieldLink RX8 59 "RecipeScheduler$State" "burnt" "I" ∈ wsX8_burn := by decide +kernel
theorem fl_X8_burn_18 : Cond.fieldLink RX8 18 "RecipeScheduler$State" "age" "[I" ∈ wsX8_burn := by decide +kernel
theorem fl_X8_burn_27 : Cond.fieldLink RX8 27 "RecipeScheduler$State" "burns" "[I" ∈ wsX8_burn := by decide +kernel
section
variable {p : Program} {l : Launch} {e : Env} {s : State} {m : MethodId} {below : List Frame} {meth : Method} {c : Code} {N0 : Nat} {T : Nat → ClassId} {D : va_G} {gr : List (Nat × Nat)} {ad : Nat → Nat → Nat → Nat}
set_option maxRecDepth 100000 in
set_option maxHeartbeats 4000000 in
theorem w_X8_burn {Y : Mem} {g0 : Nat} {a1 : Int32} (C : Cx p s m [.ref (ad 2 g0 0), .int a1].toArray meth c cX8_burn 2 wsX8_burn RX8 N0 T D gr ad) (hrt : meth.sig.returnType = none) (hG : ∀ q ∈ [(2, g0)], q ∈ gr) {res : Mem} (h : X8_burn Y g0 a1 = some res) : FW p l e (Rm 0) s m [.ref (ad 2 g0 0), .int a1].toArray below meth c 2 N0 T D gr ad 0 0 (MQ below (va_Qv (fun Y1 => Y1 = res) (WB T D gr ad) (fun q => N0 ≤ q)) [.ref (ad 2 g0 0), .int a1].toArray s 0 0 (fun q => N0 ≤ q)) Y 0 [(0, .ref (ad 2 g0 0)), (1, .int a1)] [] := by
  unfold X8_burn at h
  refine fw_aload_n C dX8_burn_0 rfl 0 rfl ?_
  refine fw_dup C dX8_burn_1 rfl ?_
  refine fw_get C (ci := 6) (Cn := RX8) (Tc := TX8) (N := 15) (j := 7) ly_X8_burn_8 rfl (hG _ (List.mem_of_getElem? (i := 0) rfl)) (of2_0 _) (ce2 T ad _ _) (by decide) (cx_ts C _ fl_X8_burn_56) (fun _ h => h) (v := .int (Y 2 g0 0 7)) rfl dX8_burn_2 ?_
  refine fw_iconst C dX8_burn_5 (v := 1) rfl ?_
  refine fw_iload_n C dX8_burn_6 rfl 1 rfl ?_
  refine fw_ishl C dX8_burn_7 ?_
  refine fw_iconst C dX8_burn_8 (v := (-1)) rfl ?_
  refine fw_ixor C dX8_burn_9 ?_
  refine fw_iand C dX8_burn_10 ?_
  obtain ⟨Y1, e2, h⟩ := lt_some h
  refine fw_put C (ci := 6) (Cn := RX8) (Tc := TX8) (N := 15) (j := 7) (ty := .int) (upd (Y 2 g0 0) 7 ((Y 2 g0 0 7) &&& ((1 <<< (a1 &&& 31)) ^^^ ((-1))))) ly_X8_burn_8 rfl tyX8_ok nmX8 (hG _ (List.mem_of_getElem? (i := 0) rfl)) (of2_0 _) (ce2 T ad _ _) (by decide) (cx_ts C _ fl_X8_burn_56) (fun _ h => h) rfl (by decide +kernel) rfl rfl (Nat.le_of_ble_eq_true rfl) (ce2_put7 T ad _ _ _) dX8_burn_11 ?_
  refine fw_mem ((up_eq _ _ _ _ _ _).symm.trans e2) ?_
  refine fw_aload_n C dX8_burn_14 rfl 0 rfl ?_
  refine fw_dup C dX8_burn_15 rfl ?_
  refine fw_get C (ci := 6) (Cn := RX8) (Tc := TX8) (N := 15) (j := 8) ly_X8_burn_8 rfl (hG _ (List.mem_of_getElem? (i := 0) rfl)) (of2_0 _) (ce2 T ad _ _) (by decide) (cx_ts C _ fl_X8_burn_59) (fun _ h => h) (v := .int (Y1 2 g0 0 8)) rfl dX8_burn_16 ?_
  refine fw_iconst C dX8_burn_19 (v := 1) rfl ?_
  refine fw_iload_n C dX8_burn_20 rfl 1 rfl ?_
  refine fw_ishl C dX8_burn_21 ?_
  refine fw_ior C dX8_burn_22 ?_
  obtain ⟨Y3, e4, h⟩ := lt_some h
  refine fw_put C (ci := 6) (Cn := RX8) (Tc := TX8) (N := 15) (j := 8) (ty := .int) (upd (Y1 2 g0 0) 8 ((Y1 2 g0 0 8) ||| (1 <<< (a1 &&& 31)))) ly_X8_burn_8 rfl tyX8_ok nmX8 (hG _ (List.mem_of_getElem? (i := 0) rfl)) (of2_0 _) (ce2 T ad _ _) (by decide) (cx_ts C _ fl_X8_burn_59) (fun _ h => h) rfl (by decide +kernel) rfl rfl (Nat.le_of_ble_eq_true rfl) (ce2_put8 T ad _ _ _) dX8_burn_23 ?_
  refine fw_mem ((up_eq _ _ _ _ _ _).symm.trans e4) ?_
  refine fw_aload_n C dX8_burn_26 rfl 0 rfl ?_
  refine fw_get C (ci := 6) (Cn := RX8) (Tc := TX8) (N := 15) (j := 11) ly_X8_burn_8 rfl (hG _ (List.mem_of_getElem? (i := 0) rfl)) (of2_0 _) (ce2 T ad _ _) (by decide) (cx_ts C _ fl_X8_burn_18) (fun _ h => h) (v := .ref (ad 2 g0 3)) rfl dX8_burn_27 ?_
  refine fw_iload_n C dX8_burn_30 rfl 1 rfl ?_
  refine fw_iconst C dX8_burn_31 (v := 0) rfl ?_
  obtain ⟨b5, h⟩ := gd_some h
  obtain ⟨Y6, e7, h⟩ := lt_some h
  refine fw_iast2 C (hG _ (List.mem_of_getElem? (i := 0) rfl)) (of2_3 _) (ca2_3 T ad _) b5 (Nat.le_of_ble_eq_true rfl) dX8_burn_32 ?_
  refine fw_mem e7 ?_
  refine fw_aload_n C dX8_burn_33 rfl 0 rfl ?_
  refine fw_get C (ci := 6) (Cn := RX8) (Tc := TX8) (N := 15) (j := 14) ly_X8_burn_8 rfl (hG _ (List.mem_of_getElem? (i := 0) rfl)) (of2_0 _) (ce2 T ad _ _) (by decide) (cx_ts C _ fl_X8_burn_27) (fun _ h => h) (v := .ref (ad 2 g0 6)) rfl dX8_burn_34 ?_
  refine fw_iload_n C dX8_burn_37 rfl 1 rfl ?_
  refine fw_dup2 C dX8_burn_38 rfl rfl ?_
  refine fw_iald2 C (hG _ (List.mem_of_getElem? (i := 0) rfl)) (of2_6 _) (ca2_6 T ad _ _) b5 (Nat.le_of_ble_eq_true rfl) dX8_burn_39 ?_
  refine fw_iconst C dX8_burn_40 (v := 1) rfl ?_
  refine fw_iadd C dX8_burn_41 ?_
  obtain ⟨Y8, e9, h⟩ := lt_some h
  refine fw_iast2 C (hG _ (List.mem_of_getElem? (i := 0) rfl)) (of2_6 _) (ca2_6 T ad _) b5 (Nat.le_of_ble_eq_true rfl) dX8_burn_42 ?_
  refine fw_mem e9 ?_
  exact fw_vret C hrt Y8 (Option.some.inj h) (fun t ht => ht) dX8_burn_43
end
set_option maxRecDepth 100000 in
set_option maxHeartbeats 4000000 in
theorem c_X8_burn {l : Launch} {N0 : Nat} {T : Nat → ClassId} {D : va_G} {gr : List (Nat × Nat)} {ad : Nat → Nat → Nat → Nat} {Y : Mem} {g0 : Nat} {a1 : Int32} {res : Mem} (hG : ∀ q ∈ [(2, g0)], q ∈ gr) (h : X8_burn Y g0 a1 = some res) : CV l yX8_burn wsX8_burn (Rm 0) N0 T D gr ad Y [.ref (ad 2 g0 0), .int a1] (fun Y1 => Y1 = res) :=
  fw_body (by decide +kernel) rfl (Nat.le_of_ble_eq_true rfl) (fun p e s m below meth c C hrt => w_X8_burn C hrt hG  h)
theorem ly_X3_growOld_3 : ∀ w ∈ u_ws RX3 TX3 5, w ∈ wsX3_growOld := by decide +kernel
theorem fl_X3_growOld_12 : Cond.fieldLink RX3 12 "RecipeScheduler$Kitchen" "state" "LRecipeScheduler$State;" ∈ wsX3_growOld := by decide +kernel
theorem ly_X3_growOld_8 : ∀ w ∈ u_ws RX8 TX8 15, w ∈ wsX3_growOld := by decide +kernel
theorem fl_X3_growOld_28 : Cond.fieldLink RX3 28 "RecipeScheduler$Kitchen" "recipe" "LRecipeScheduler$Recipe;" ∈ wsX3_growOld := by decide +kernel
theorem ly_X3_growOld_5 : ∀ w ∈ u_ws RX5 TX5 17, w ∈ wsX3_growOld := by decide +kernel
theorem ly_X3_growOld_4 : ∀ w ∈ u_ws RX4 TX4 3, w ∈ wsX3_growOld := by decide +kernel
theorem in_X3_growOld_11 : Cond.initialized RX11 ∈ wsX3_growOld := by decide +kernel
theorem sw_X3_growOld_X11_contains : Cond.static yX11_contains ∈ wsX3_growOld := by decide +kernel
section
variable {p : Program} {l : Launch} {e : Env} {s : State} {m : MethodId} {below : List Frame} {meth : Method} {c : Code} {N0 : Nat} {T : Nat → ClassId} {D : va_G} {gr : List (Nat × Nat)} {ad : Nat → Nat → Nat → Nat}
set_option maxRecDepth 100000 in
set_option maxHeartbeats 4000000 in
theorem w_X3_growOld_b92 {g0 : Nat} {a1 : Int32} (C : Cx p s m [.ref (ad 1 g0 0), .int a1].toArray meth c cX3_growOld 4 wsX3_growOld RX3 N0 T D gr ad) (hrt : meth.sig.returnType = none) (hG : ∀ q ∈ ([(1, g0), (2, g0)] ++ allG), q ∈ gr) {res : Mem} {k22 : Mem → Int32 → Int32 → Option (Mem)} (hk22 : ∀ (Y : Mem) (l3 : Int32) (l2 : Int32), k22 Y l3 l2 = some res → FW p l e (Rm 1) s m [.ref (ad 1 g0 0), .int a1].toArray below meth c 4 N0 T D gr ad 0 0 (MQ below (va_Qv (fun Y1 => Y1 = res) (WB T D gr ad) (fun q => N0 ≤ q)) [.ref (ad 1 g0 0), .int a1].toArray s 0 0 (fun q => N0 ≤ q)) Y 22 [(3, .int l3), (2, .int l2), (0, .ref (ad 1 g0 0))] []) (Y : Mem) (l3 : Int32) (l2 : Int32) (h : X3_growOld_b92 g0 a1 k22 Y l3 l2 = some res) : FW p l e (Rm 1) s m [.ref (ad 1 g0 0), .int a1].toArray below meth c 4 N0 T D gr ad 0 0 (MQ below (va_Qv (fun Y1 => Y1 = res) (WB T D gr ad) (fun q => N0 ≤ q)) [.ref (ad 1 g0 0), .int a1].toArray s 0 0 (fun q => N0 ≤ q)) Y 92 [(3, .int l3), (2, .int l2), (0, .ref (ad 1 g0 0))] [] := by
  unfold X3_growOld_b92 at h
  refine fw_iinc C dX3_growOld_92 (kk := 0) (v := l3 + 1) rfl rfl (by decide) (L' := [(3, .int (l3 + 1)), (2, .int l2), (0, .ref (ad 1 g0 0))]) rfl ?_
  refine fw_goto C dX3_growOld_95 (tgt := 22) rfl ?_
  exact hk22 _ _ _ h
set_option maxRecDepth 100000 in
set_option maxHeartbeats 4000000 in
theorem w_X3_growOld_b22 {g0 : Nat} {a1 : Int32} (C : Cx p s m [.ref (ad 1 g0 0), .int a1].toArray meth c cX3_growOld 4 wsX3_growOld RX3 N0 T D gr ad) (hrt : meth.sig.returnType = none) (hG : ∀ q ∈ ([(1, g0), (2, g0)] ++ allG), q ∈ gr) {res : Mem} : ∀ (n : Nat) (Y : Mem) (l3 : Int32) (l2 : Int32), X3_growOld_b22 g0 a1  n Y l3 l2 = some res → FW p l e (Rm 1) s m [.ref (ad 1 g0 0), .int a1].toArray below meth c 4 N0 T D gr ad 0 0 (MQ below (va_Qv (fun Y1 => Y1 = res) (WB T D gr ad) (fun q => N0 ≤ q)) [.ref (ad 1 g0 0), .int a1].toArray s 0 0 (fun q => N0 ≤ q)) Y 22 [(3, .int l3), (2, .int l2), (0, .ref (ad 1 g0 0))] [] := by
  intro n
  induction n with
  | zero =>
    intro Y l3 l2 h
    unfold X3_growOld_b22 at h
    cases h
  | succ n ih =>
    intro Y l3 l2 h
    unfold X3_growOld_b22 at h
    refine fw_iload_n C dX3_growOld_22 rfl 0 rfl ?_
    refine fw_aload_n C dX3_growOld_23 rfl 2 rfl ?_
    refine fw_get C (ci := 1) (Cn := RX3) (Tc := TX3) (N := 5) (j := 0) ly_X3_growOld_3 rfl (hG _ (List.mem_of_getElem? (i := 0) rfl)) (of1_0 _) (ce1 T ad _ _) (by decide) (cx_ts C _ fl_X3_growOld_28) (fun _ h => h) (v := .ref (ad 3 ((Y 1 g0 0 0).toNatClampNeg) 0)) rfl dX3_growOld_24 ?_
    obtain ⟨b4, h⟩ := gd_some h
    have b4 := of_decide_eq_true b4
    refine fw_getN C (ci := 3) (Cn := RX5) (Tc := TX5) (N := 17) (j := 7) ly_X3_growOld_5 rfl ((fun q hq => hG q (List.mem_append_right _ hq)) _ (allG_3 b4)) (of3_0 _) (ce3 T ad _ _) (by decide) (Nst_use (cx_nst C) (w := .fieldLinkNest RX3 91 "RecipeScheduler$Recipe" "steps" "LRecipeScheduler$Names;" "RecipeScheduler") 148 (by decide +kernel) rfl) (fun _ h => h) (v := .ref (ad 4 (2*((Y 1 g0 0 0).toNatClampNeg)+1) 0)) rfl dX3_growOld_27 ?_
    obtain ⟨b5, h⟩ := gd_some h
    have b5 := of_decide_eq_true b5
    refine fw_getN C (ci := 2) (Cn := RX4) (Tc := TX4) (N := 3) (j := 2) ly_X3_growOld_4 rfl ((fun q hq => hG q (List.mem_append_right _ hq)) _ (allG_4b b5)) (of4_0 _) (ce4 T ad _ _) (by decide) (Nst_use (cx_nst C) (w := .fieldLinkNest RX3 95 "RecipeScheduler$Names" "count" "I" "RecipeScheduler") 114 (by decide +kernel) rfl) (fun _ h => h) (v := .int (Y 4 (2*((Y 1 g0 0 0).toNatClampNeg)+1) 0 2)) rfl dX3_growOld_30 ?_
    refine fw_icmp_ge C dX3_growOld_33 (tgt := 98) rfl (fun c6 => ?_) (fun c6 => ?_)
    · have h := ite_t c6 h
      exact fw_vret C hrt Y (Option.some.inj h) (fun t ht => ht) dX3_growOld_98
    · have h := ite_f c6 h
      refine fw_iload_n C dX3_growOld_36 rfl 1 rfl ?_
      refine fw_iload_n C dX3_growOld_37 rfl 0 rfl ?_
      obtain ⟨r7, q8, h⟩ := bd1_some h
      refine fw_callSNi C (As := [.int l2, .int l3]) (c_X11_contains ga0 q8) ⟨(va_cnB 2 (cx_ts C) gX3_growOld_X11_contains_n100 rfl rfl rfl (cx_nw C (w := .methodLinkNest RX3 100 yX11_contains "RecipeScheduler") 623 (by decide +kernel) rfl) (cx_ts C _ in_X3_growOld_11) (by decide +kernel) ⟨Nat.le_of_ble_eq_true rfl, Nat.le_of_ble_eq_true rfl⟩), cx_ts C _ sw_X3_growOld_X11_contains, trivial⟩ rfl (st := []) rfl (Nat.le_of_ble_eq_true rfl) ⟨Nat.le_refl 0, Nat.le_refl 0⟩ dX3_growOld_38 (pp2 ?_)
      refine fw_if_eq C dX3_growOld_41 (tgt := 92) rfl (fun c9 => ?_) (fun c9 => ?_)
      · have h := ite_t c9 h
        exact w_X3_growOld_b92 C hrt hG  ih _ _ _ h
      · have h := ite_f c9 h
        refine fw_aload_n C dX3_growOld_44 rfl 2 rfl ?_
        refine fw_iload_n C dX3_growOld_45 rfl 0 rfl ?_
        obtain ⟨r10, q11, h⟩ := bd1_some h
        refine fw_callVi C (ci := 1) (Cn := RX3) (Tc := TX3) (N := 5) (As := [.int l3]) (c_X3_isContinued (gac (hG _ (List.mem_of_getElem? (i := 0) rfl)) (gac (hG _ (List.mem_of_getElem? (i := 1) rfl)) (fun q hq => hG q (List.mem_append_right _ hq)))) q11) (cwV 1 (cx_ts C) gX3_growOld_X3_isContinued rfl rfl rfl (by decide +kernel) ⟨Nat.le_of_ble_eq_true rfl, Nat.le_of_ble_eq_true rfl⟩) rfl (hG _ (List.mem_of_getElem? (i := 0) rfl)) (of1_0 _) (ce1 T ad _ _) rfl (st := []) rfl (Nat.le_of_ble_eq_true rfl) ⟨Nat.le_refl 0, Nat.le_refl 0⟩ dX3_growOld_46 (pp2 ?_)
        refine fw_if_ne C dX3_growOld_49 (tgt := 92) rfl (fun c12 => ?_) (fun c12 => ?_)
        · have h := ite_f c12 h
          exact w_X3_growOld_b92 C hrt hG  ih _ _ _ h
        · have h := ite_t c12 h
          refine fw_aload_n C dX3_growOld_52 rfl 2 rfl ?_
          refine fw_get C (ci := 1) (Cn := RX3) (Tc := TX3) (N := 5) (j := 1) ly_X3_growOld_3 rfl (hG _ (List.mem_of_getElem? (i := 0) rfl)) (of1_0 _) (ce1 T ad _ _) (by decide) (cx_ts C _ fl_X3_growOld_12) (fun _ h => h) (v := .ref (ad 2 g0 0)) rfl dX3_growOld_53 ?_
          refine fw_getN C (ci := 6) (Cn := RX8) (Tc := TX8) (N := 15) (j := 11) ly_X3_growOld_8 rfl (hG _ (List.mem_of_getElem? (i := 1) rfl)) (of2_0 _) (ce2 T ad _ _) (by decide) (Nst_use (cx_nst C) (w := .fieldLinkNest RX3 117 "RecipeScheduler$State" "age" "[I" "RecipeScheduler") 466 (by decide +kernel) rfl) (fun _ h => h) (v := .ref (ad 2 g0 3)) rfl dX3_growOld_56 ?_
          refine fw_iload_n C dX3_growOld_59 rfl 0 rfl ?_
          refine fw_dup2 C dX3_growOld_60 rfl rfl ?_
          obtain ⟨b13, h⟩ := gd_some h
          refine fw_iald2 C (hG _ (List.mem_of_getElem? (i := 1) rfl)) (of2_3 _) (ca2_3 T ad _ _) b13 (Nat.le_of_ble_eq_true rfl) dX3_growOld_61 ?_
          refine fw_iconst C dX3_growOld_62 (v := 1) rfl ?_
          refine fw_iadd C dX3_growOld_63 ?_
          obtain ⟨Y14, e15, h⟩ := lt_some h
          refine fw_iast2 C (hG _ (List.mem_of_getElem? (i := 1) rfl)) (of2_3 _) (ca2_3 T ad _) b13 (Nat.le_of_ble_eq_true rfl) dX3_growOld_64 ?_
          refine fw_mem e15 ?_
          refine fw_aload_n C dX3_growOld_65 rfl 2 rfl ?_
          refine fw_get C (ci := 1) (Cn := RX3) (Tc := TX3) (N := 5) (j := 1) ly_X3_growOld_3 rfl (hG _ (List.mem_of_getElem? (i := 0) rfl)) (of1_0 _) (ce1 T ad _ _) (by decide) (cx_ts C _ fl_X3_growOld_12) (fun _ h => h) (v := .ref (ad 2 g0 0)) rfl dX3_growOld_66 ?_
          refine fw_getN C (ci := 6) (Cn := RX8) (Tc := TX8) (N := 15) (j := 11) ly_X3_growOld_8 rfl (hG _ (List.mem_of_getElem? (i := 1) rfl)) (of2_0 _) (ce2 T ad _ _) (by decide) (Nst_use (cx_nst C) (w := .fieldLinkNest RX3 117 "RecipeScheduler$State" "age" "[I" "RecipeScheduler") 466 (by decide +kernel) rfl) (fun _ h => h) (v := .ref (ad 2 g0 3)) rfl dX3_growOld_69 ?_
          refine fw_iload_n C dX3_growOld_72 rfl 0 rfl ?_
          refine fw_iald2 C (hG _ (List.mem_of_getElem? (i := 1) rfl)) (of2_3 _) (ca2_3 T ad _ _) b13 (Nat.le_of_ble_eq_true rfl) dX3_growOld_73 ?_
          refine fw_aload_n C dX3_growOld_74 rfl 2 rfl ?_
          refine fw_get C (ci := 1) (Cn := RX3) (Tc := TX3) (N := 5) (j := 0) ly_X3_growOld_3 rfl (hG _ (List.mem_of_getElem? (i := 0) rfl)) (of1_0 _) (ce1 T ad _ _) (by decide) (cx_ts C _ fl_X3_growOld_28) (fun _ h => h) (v := .ref (ad 3 ((Y14 1 g0 0 0).toNatClampNeg) 0)) rfl dX3_growOld_75 ?_
          obtain ⟨b16, h⟩ := gd_some h
          have b16 := of_decide_eq_true b16
          refine fw_getN C (ci := 3) (Cn := RX5) (Tc := TX5) (N := 17) (j := 1) ly_X3_growOld_5 rfl ((fun q hq => hG q (List.mem_append_right _ hq)) _ (allG_3 b16)) (of3_0 _) (ce3 T ad _ _) (by decide) (Nst_use (cx_nst C) (w := .fieldLinkNest RX3 120 "RecipeScheduler$Recipe" "hold" "I" "RecipeScheduler") 128 (by decide +kernel) rfl) (fun _ h => h) (v := .int (Y14 3 ((Y14 1 g0 0 0).toNatClampNeg) 0 1)) rfl dX3_growOld_78 ?_
          refine fw_icmp_le C dX3_growOld_81 (tgt := 92) rfl (fun c17 => ?_) (fun c17 => ?_)
          · have h := ite_t c17 h
            exact w_X3_growOld_b92 C hrt hG  ih _ _ _ h
          · have h := ite_f c17 h
            refine fw_aload_n C dX3_growOld_84 rfl 2 rfl ?_
            refine fw_get C (ci := 1) (Cn := RX3) (Tc := TX3) (N := 5) (j := 1) ly_X3_growOld_3 rfl (hG _ (List.mem_of_getElem? (i := 0) rfl)) (of1_0 _) (ce1 T ad _ _) (by decide) (cx_ts C _ fl_X3_growOld_12) (fun _ h => h) (v := .ref (ad 2 g0 0)) rfl dX3_growOld_85 ?_
            refine fw_iload_n C dX3_growOld_88 rfl 0 rfl ?_
            obtain ⟨Y20, q19, h⟩ := bd1_some h
            refine fw_callVv C (ci := 6) (Cn := RX8) (Tc := TX8) (N := 15) (As := [.int l3]) (c_X8_burn (gac (hG _ (List.mem_of_getElem? (i := 1) rfl)) ga0) q19) (cwV 1 (cx_ts C) gX3_growOld_X8_burn rfl rfl rfl (by decide +kernel) ⟨Nat.le_of_ble_eq_true rfl, Nat.le_of_ble_eq_true rfl⟩) rfl (hG _ (List.mem_of_getElem? (i := 1) rfl)) (of2_0 _) (ce2 T ad _ _) rfl (st := []) rfl (Nat.le_of_ble_eq_true rfl) ⟨Nat.le_refl 0, Nat.le_refl 0⟩ dX3_growOld_89 (ppv ?_)
            exact w_X3_growOld_b92 C hrt hG  ih _ _ _ h
set_option maxRecDepth 100000 in
set_option maxHeartbeats 4000000 in
theorem w_X3_growOld {Y : Mem} {g0 : Nat} {a1 : Int32} (C : Cx p s m [.ref (ad 1 g0 0), .int a1].toArray meth c cX3_growOld 4 wsX3_growOld RX3 N0 T D gr ad) (hrt : meth.sig.returnType = none) (hG : ∀ q ∈ ([(1, g0), (2, g0)] ++ allG), q ∈ gr) {res : Mem} (h : X3_growOld Y g0 a1 = some res) : FW p l e (Rm 1) s m [.ref (ad 1 g0 0), .int a1].toArray below meth c 4 N0 T D gr ad 0 0 (MQ below (va_Qv (fun Y1 => Y1 = res) (WB T D gr ad) (fun q => N0 ≤ q)) [.ref (ad 1 g0 0), .int a1].toArray s 0 0 (fun q => N0 ≤ q)) Y 0 [(0, .ref (ad 1 g0 0)), (1, .int a1)] [] := by
  unfold X3_growOld at h
  refine fw_aload_n C dX3_growOld_0 rfl 0 rfl ?_
  refine fw_get C (ci := 1) (Cn := RX3) (Tc := TX3) (N := 5) (j := 1) ly_X3_growOld_3 rfl (hG _ (List.mem_of_getElem? (i := 0) rfl)) (of1_0 _) (ce1 T ad _ _) (by decide) (cx_ts C _ fl_X3_growOld_12) (fun _ h => h) (v := .ref (ad 2 g0 0)) rfl dX3_growOld_1 ?_
  refine fw_getN C (ci := 6) (Cn := RX8) (Tc := TX8) (N := 15) (j := 7) ly_X3_growOld_8 rfl (hG _ (List.mem_of_getElem? (i := 1) rfl)) (of2_0 _) (ce2 T ad _ _) (by decide) (Nst_use (cx_nst C) (w := .fieldLinkNest RX3 47 "RecipeScheduler$State" "done" "I" "RecipeScheduler") 455 (by decide +kernel) rfl) (fun _ h => h) (v := .int (Y 2 g0 0 7)) rfl dX3_growOld_4 ?_
  refine fw_aload_n C dX3_growOld_7 rfl 0 rfl ?_
  refine fw_get C (ci := 1) (Cn := RX3) (Tc := TX3) (N := 5) (j := 0) ly_X3_growOld_3 rfl (hG _ (List.mem_of_getElem? (i := 0) rfl)) (of1_0 _) (ce1 T ad _ _) (by decide) (cx_ts C _ fl_X3_growOld_28) (fun _ h => h) (v := .ref (ad 3 ((Y 1 g0 0 0).toNatClampNeg) 0)) rfl dX3_growOld_8 ?_
  obtain ⟨b1, h⟩ := gd_some h
  have b1 := of_decide_eq_true b1
  refine fw_getN C (ci := 3) (Cn := RX5) (Tc := TX5) (N := 17) (j := 15) ly_X3_growOld_5 rfl ((fun q hq => hG q (List.mem_append_right _ hq)) _ (allG_3 b1)) (of3_0 _) (ce3 T ad _ _) (by decide) (Nst_use (cx_nst C) (w := .fieldLinkNest RX3 110 "RecipeScheduler$Recipe" "hot" "I" "RecipeScheduler") 175 (by decide +kernel) rfl) (fun _ h => h) (v := .int (Y 3 ((Y 1 g0 0 0).toNatClampNeg) 0 15)) rfl dX3_growOld_11 ?_
  refine fw_iand C dX3_growOld_14 ?_
  refine fw_iload_n C dX3_growOld_15 rfl 1 rfl ?_
  refine fw_iconst C dX3_growOld_16 (v := (-1)) rfl ?_
  refine fw_ixor C dX3_growOld_17 ?_
  refine fw_iand C dX3_growOld_18 ?_
  obtain ⟨v2, e3, h⟩ := lt_some h
  refine fw_top (v' := .int v2) (by rw [e3]) ?_
  refine fw_istore_n C dX3_growOld_19 rfl (by decide) (L' := [(2, .int v2), (0, .ref (ad 1 g0 0)), (1, .int a1)]) rfl ?_
  refine fw_iconst C dX3_growOld_20 (v := 0) rfl ?_
  refine fw_istore_n C dX3_growOld_21 rfl (by decide) (L' := [(3, .int 0), (2, .int v2), (0, .ref (ad 1 g0 0)), (1, .int a1)]) rfl ?_
  refine fw_sub [0, 1, 2] (L' := [(3, .int 0), (2, .int v2), (0, .ref (ad 1 g0 0))]) rfl ?_
  exact w_X3_growOld_b22 C hrt hG   _ _ _ _ h
end
set_option maxRecDepth 100000 in
set_option maxHeartbeats 4000000 in
theorem c_X3_growOld {l : Launch} {N0 : Nat} {T : Nat → ClassId} {D : va_G} {gr : List (Nat × Nat)} {ad : Nat → Nat → Nat → Nat} {Y : Mem} {g0 : Nat} {a1 : Int32} {res : Mem} (hG : ∀ q ∈ ([(1, g0), (2, g0)] ++ allG), q ∈ gr) (h : X3_growOld Y g0 a1 = some res) : CV l yX3_growOld wsX3_growOld (Rm 1) N0 T D gr ad Y [.ref (ad 1 g0 0), .int a1] (fun Y1 => Y1 = res) :=
  fw_body (by decide +kernel) rfl (Nat.le_of_ble_eq_true rfl) (fun p e s m below meth c C hrt => w_X3_growOld C hrt hG  h)
theorem ly_X3_readySteps_3 : ∀ w ∈ u_ws RX3 TX3 5, w ∈ wsX3_readySteps := by decide +kernel
theorem fl_X3_readySteps_28 : Cond.fieldLink RX3 28 "RecipeScheduler$Kitchen" "recipe" "LRecipeScheduler$Recipe;" ∈ wsX3_readySteps := by decide +kernel
theorem fl_X3_readySteps_12 : Cond.fieldLink RX3 12 "RecipeScheduler$Kitchen" "state" "LRecipeScheduler$State;" ∈ wsX3_readySteps := by decide +kernel
theorem ly_X3_readySteps_8 : ∀ w ∈ u_ws RX8 TX8 15, w ∈ wsX3_readySteps := by decide +kernel
theorem ly_X3_readySteps_5 : ∀ w ∈ u_ws RX5 TX5 17, w ∈ wsX3_readySteps := by decide +kernel
theorem ly_X3_readySteps_4 : ∀ w ∈ u_ws RX4 TX4 3, w ∈ wsX3_readySteps := by decide +kernel
theorem in_X3_readySteps_11 : Cond.initialized RX11 ∈ wsX3_readySteps := by decide +kernel
theorem sw_X3_readySteps_X11_contains : Cond.static yX11_contains ∈ wsX3_readySteps := by decide +kernel
section
variable {p : Program} {l : Launch} {e : Env} {s : State} {m : MethodId} {below : List Frame} {meth : Method} {c : Code} {N0 : Nat} {T : Nat → ClassId} {D : va_G} {gr : List (Nat × Nat)} {ad : Nat → Nat → Nat → Nat}
set_option maxRecDepth 100000 in
set_option maxHeartbeats 4000000 in
theorem w_X3_readySteps_b80 {Y : Mem} {g0 : Nat} (C : Cx p s m [.ref (ad 1 g0 0)].toArray meth c cX3_readySteps 4 wsX3_readySteps RX3 N0 T D gr ad) (hrt : meth.sig.returnType = (some .int)) (hG : ∀ q ∈ ([(1, g0), (2, g0)] ++ allG), q ∈ gr) {res : Int32} {k30 : Int32 → Int32 → Int32 → Option (Int32)} (hk30 : ∀ (l3 : Int32) (l2 : Int32) (l1 : Int32), k30 l3 l2 l1 = some res → FW p l e (Rm 1) s m [.ref (ad 1 g0 0)].toArray below meth c 4 N0 T D gr ad 0 0 (MQ below (va_Qi (fun r Y1 => r = res ∧ Y1 = Y) (WB T D gr ad) (fun q => N0 ≤ q)) [.ref (ad 1 g0 0)].toArray s 0 0 (fun q => N0 ≤ q)) Y 30 [(3, .int l3), (2, .int l2), (1, .int l1), (0, .ref (ad 1 g0 0))] []) (l3 : Int32) (l2 : Int32) (l1 : Int32) (h : X3_readySteps_b80 Y g0 k30 l3 l2 l1 = some res) : FW p l e (Rm 1) s m [.ref (ad 1 g0 0)].toArray below meth c 4 N0 T D gr ad 0 0 (MQ below (va_Qi (fun r Y1 => r = res ∧ Y1 = Y) (WB T D gr ad) (fun q => N0 ≤ q)) [.ref (ad 1 g0 0)].toArray s 0 0 (fun q => N0 ≤ q)) Y 80 [(3, .int l3), (2, .int l2), (1, .int l1), (0, .ref (ad 1 g0 0))] [] := by
  unfold X3_readySteps_b80 at h
  refine fw_iinc C dX3_readySteps_80 (kk := 0) (v := l3 + 1) rfl rfl (by decide) (L' := [(3, .int (l3 + 1)), (2, .int l2), (1, .int l1), (0, .ref (ad 1 g0 0))]) rfl ?_
  refine fw_goto C dX3_readySteps_83 (tgt := 30) rfl ?_
  exact hk30 _ _ _ h
set_option maxRecDepth 100000 in
set_option maxHeartbeats 4000000 in
theorem w_X3_readySteps_b30 {Y : Mem} {g0 : Nat} (C : Cx p s m [.ref (ad 1 g0 0)].toArray meth c cX3_readySteps 4 wsX3_readySteps RX3 N0 T D gr ad) (hrt : meth.sig.returnType = (some .int)) (hG : ∀ q ∈ ([(1, g0), (2, g0)] ++ allG), q ∈ gr) {res : Int32} : ∀ (n : Nat) (l3 : Int32) (l2 : Int32) (l1 : Int32), X3_readySteps_b30 Y g0  n l3 l2 l1 = some res → FW p l e (Rm 1) s m [.ref (ad 1 g0 0)].toArray below meth c 4 N0 T D gr ad 0 0 (MQ below (va_Qi (fun r Y1 => r = res ∧ Y1 = Y) (WB T D gr ad) (fun q => N0 ≤ q)) [.ref (ad 1 g0 0)].toArray s 0 0 (fun q => N0 ≤ q)) Y 30 [(3, .int l3), (2, .int l2), (1, .int l1), (0, .ref (ad 1 g0 0))] [] := by
  intro n
  induction n with
  | zero =>
    intro l3 l2 l1 h
    unfold X3_readySteps_b30 at h
    cases h
  | succ n ih =>
    intro l3 l2 l1 h
    unfold X3_readySteps_b30 at h
    refine fw_iload_n C dX3_readySteps_30 rfl 0 rfl ?_
    refine fw_aload_n C dX3_readySteps_31 rfl 3 rfl ?_
    refine fw_get C (ci := 1) (Cn := RX3) (Tc := TX3) (N := 5) (j := 0) ly_X3_readySteps_3 rfl (hG _ (List.mem_of_getElem? (i := 0) rfl)) (of1_0 _) (ce1 T ad _ _) (by decide) (cx_ts C _ fl_X3_readySteps_28) (fun _ h => h) (v := .ref (ad 3 ((Y 1 g0 0 0).toNatClampNeg) 0)) rfl dX3_readySteps_32 ?_
    obtain ⟨b7, h⟩ := gd_some h
    have b7 := of_decide_eq_true b7
    refine fw_getN C (ci := 3) (Cn := RX5) (Tc := TX5) (N := 17) (j := 7) ly_X3_readySteps_5 rfl ((fun q hq => hG q (List.mem_append_right _ hq)) _ (allG_3 b7)) (of3_0 _) (ce3 T ad _ _) (by decide) (Nst_use (cx_nst C) (w := .fieldLinkNest RX3 91 "RecipeScheduler$Recipe" "steps" "LRecipeScheduler$Names;" "RecipeScheduler") 148 (by decide +kernel) rfl) (fun _ h => h) (v := .ref (ad 4 (2*((Y 1 g0 0 0).toNatClampNeg)+1) 0)) rfl dX3_readySteps_35 ?_
    obtain ⟨b8, h⟩ := gd_some h
    have b8 := of_decide_eq_true b8
    refine fw_getN C (ci := 2) (Cn := RX4) (Tc := TX4) (N := 3) (j := 2) ly_X3_readySteps_4 rfl ((fun q hq => hG q (List.mem_append_right _ hq)) _ (allG_4b b8)) (of4_0 _) (ce4 T ad _ _) (by decide) (Nst_use (cx_nst C) (w := .fieldLinkNest RX3 95 "RecipeScheduler$Names" "count" "I" "RecipeScheduler") 114 (by decide +kernel) rfl) (fun _ h => h) (v := .int (Y 4 (2*((Y 1 g0 0 0).toNatClampNeg)+1) 0 2)) rfl dX3_readySteps_38 ?_
    refine fw_icmp_ge C dX3_readySteps_41 (tgt := 86) rfl (fun c9 => ?_) (fun c9 => ?_)
    · have h := ite_t c9 h
      refine fw_iload_n C dX3_readySteps_86 rfl 2 rfl ?_
      exact fw_iret C hrt Y ⟨Option.some.inj h, rfl⟩ (fun t ht => ht) dX3_readySteps_87
    · have h := ite_f c9 h
      refine fw_iload_n C dX3_readySteps_44 rfl 1 rfl ?_
      refine fw_iload_n C dX3_readySteps_45 rfl 0 rfl ?_
      obtain ⟨r10, q11, h⟩ := bd1_some h
      refine fw_callSNi C (As := [.int l2, .int l3]) (c_X11_contains ga0 q11) ⟨(va_cnB 2 (cx_ts C) gX3_readySteps_X11_contains_n100 rfl rfl rfl (cx_nw C (w := .methodLinkNest RX3 100 yX11_contains "RecipeScheduler") 623 (by decide +kernel) rfl) (cx_ts C _ in_X3_readySteps_11) (by decide +kernel) ⟨Nat.le_of_ble_eq_true rfl, Nat.le_of_ble_eq_true rfl⟩), cx_ts C _ sw_X3_readySteps_X11_contains, trivial⟩ rfl (st := []) rfl (Nat.le_of_ble_eq_true rfl) ⟨Nat.le_refl 0, Nat.le_refl 0⟩ dX3_readySteps_46 (pp2 ?_)
      refine fw_if_eq C dX3_readySteps_49 (tgt := 80) rfl (fun c12 => ?_) (fun c12 => ?_)
      · have h := ite_t c12 h
        exact w_X3_readySteps_b80 C hrt hG  ih _ _ _ h
      · have h := ite_f c12 h
        refine fw_aload_n C dX3_readySteps_52 rfl 3 rfl ?_
        refine fw_get C (ci := 1) (Cn := RX3) (Tc := TX3) (N := 5) (j := 0) ly_X3_readySteps_3 rfl (hG _ (List.mem_of_getElem? (i := 0) rfl)) (of1_0 _) (ce1 T ad _ _) (by decide) (cx_ts C _ fl_X3_readySteps_28) (fun _ h => h) (v := .ref (ad 3 ((Y 1 g0 0 0).toNatClampNeg) 0)) rfl dX3_readySteps_53 ?_
        refine fw_getN C (ci := 3) (Cn := RX5) (Tc := TX5) (N := 17) (j := 13) ly_X3_readySteps_5 rfl ((fun q hq => hG q (List.mem_append_right _ hq)) _ (allG_3 b7)) (of3_0 _) (ce3 T ad _ _) (by decide) (Nst_use (cx_nst C) (w := .fieldLinkNest RX3 138 "RecipeScheduler$Recipe" "predecessorSet" "[I" "RecipeScheduler") 169 (by decide +kernel) rfl) (fun _ h => h) (v := .ref (ad 3 (((Y 1 g0 0 0).toNatClampNeg)) 8)) rfl dX3_readySteps_56 ?_
        refine fw_iload_n C dX3_readySteps_59 rfl 0 rfl ?_
        obtain ⟨b13, h⟩ := gd_some h
        refine fw_iald2 C ((fun q hq => hG q (List.mem_append_right _ hq)) _ (allG_3 b7)) (of3_8 _) (ca3_8 T ad _ _) b13 (Nat.le_of_ble_eq_true rfl) dX3_readySteps_60 ?_
        refine fw_aload_n C dX3_readySteps_61 rfl 3 rfl ?_
        refine fw_get C (ci := 1) (Cn := RX3) (Tc := TX3) (N := 5) (j := 1) ly_X3_readySteps_3 rfl (hG _ (List.mem_of_getElem? (i := 0) rfl)) (of1_0 _) (ce1 T ad _ _) (by decide) (cx_ts C _ fl_X3_readySteps_12) (fun _ h => h) (v := .ref (ad 2 g0 0)) rfl dX3_readySteps_62 ?_
        refine fw_getN C (ci := 6) (Cn := RX8) (Tc := TX8) (N := 15) (j := 7) ly_X3_readySteps_8 rfl (hG _ (List.mem_of_getElem? (i := 1) rfl)) (of2_0 _) (ce2 T ad _ _) (by decide) (Nst_use (cx_nst C) (w := .fieldLinkNest RX3 47 "RecipeScheduler$State" "done" "I" "RecipeScheduler") 455 (by decide +kernel) rfl) (fun _ h => h) (v := .int (Y 2 g0 0 7)) rfl dX3_readySteps_65 ?_
        refine fw_iconst C dX3_readySteps_68 (v := (-1)) rfl ?_
        refine fw_ixor C dX3_readySteps_69 ?_
        refine fw_iand C dX3_readySteps_70 ?_
        refine fw_if_ne C dX3_readySteps_71 (tgt := 80) rfl (fun c14 => ?_) (fun c14 => ?_)
        · have h := ite_f c14 h
          exact w_X3_readySteps_b80 C hrt hG  ih _ _ _ h
        · have h := ite_t c14 h
          refine fw_iload_n C dX3_readySteps_74 rfl 2 rfl ?_
          refine fw_iconst C dX3_readySteps_75 (v := 1) rfl ?_
          refine fw_iload_n C dX3_readySteps_76 rfl 0 rfl ?_
          refine fw_ishl C dX3_readySteps_77 ?_
          refine fw_ior C dX3_readySteps_78 ?_
          obtain ⟨v15, e16, h⟩ := lt_some h
          refine fw_top (v' := .int v15) (by rw [e16]) ?_
          refine fw_istore_n C dX3_readySteps_79 rfl (by decide) (L' := [(1, .int v15), (3, .int l3), (2, .int l2), (0, .ref (ad 1 g0 0))]) rfl ?_
          refine fw_sub [1, 2, 0, 3] (L' := [(3, .int l3), (2, .int l2), (1, .int v15), (0, .ref (ad 1 g0 0))]) rfl ?_
          exact w_X3_readySteps_b80 C hrt hG  ih _ _ _ h
set_option maxRecDepth 100000 in
set_option maxHeartbeats 4000000 in
theorem w_X3_readySteps {Y : Mem} {g0 : Nat} (C : Cx p s m [.ref (ad 1 g0 0)].toArray meth c cX3_readySteps 4 wsX3_readySteps RX3 N0 T D gr ad) (hrt : meth.sig.returnType = (some .int)) (hG : ∀ q ∈ ([(1, g0), (2, g0)] ++ allG), q ∈ gr) {res : Int32} (h : X3_readySteps Y g0 = some res) : FW p l e (Rm 1) s m [.ref (ad 1 g0 0)].toArray below meth c 4 N0 T D gr ad 0 0 (MQ below (va_Qi (fun r Y1 => r = res ∧ Y1 = Y) (WB T D gr ad) (fun q => N0 ≤ q)) [.ref (ad 1 g0 0)].toArray s 0 0 (fun q => N0 ≤ q)) Y 0 [(0, .ref (ad 1 g0 0))] [] := by
  unfold X3_readySteps at h
  refine fw_iconst C dX3_readySteps_0 (v := 0) rfl ?_
  refine fw_istore_n C dX3_readySteps_1 rfl (by decide) (L' := [(1, .int 0), (0, .ref (ad 1 g0 0))]) rfl ?_
  refine fw_aload_n C dX3_readySteps_2 rfl 1 rfl ?_
  refine fw_get C (ci := 1) (Cn := RX3) (Tc := TX3) (N := 5) (j := 0) ly_X3_readySteps_3 rfl (hG _ (List.mem_of_getElem? (i := 0) rfl)) (of1_0 _) (ce1 T ad _ _) (by decide) (cx_ts C _ fl_X3_readySteps_28) (fun _ h => h) (v := .ref (ad 3 ((Y 1 g0 0 0).toNatClampNeg) 0)) rfl dX3_readySteps_3 ?_
  obtain ⟨b1, h⟩ := gd_some h
  have b1 := of_decide_eq_true b1
  obtain ⟨b2, h⟩ := gd_some h
  have b2 := of_decide_eq_true b2
  obtain ⟨r3, q4, h⟩ := bd1_some h
  refine fw_callVi C (ci := 3) (Cn := RX5) (Tc := TX5) (N := 17) (As := []) (c_X5_allSteps (gac ((fun q hq => hG q (List.mem_append_right _ hq)) _ (allG_3 b2)) (gac ((fun q hq => hG q (List.mem_append_right _ hq)) _ (allG_4b b1)) ga0)) q4) (cwV 0 (cx_ts C) gX3_readySteps_X5_allSteps rfl rfl rfl (by decide +kernel) ⟨Nat.le_of_ble_eq_true rfl, Nat.le_of_ble_eq_true rfl⟩) rfl ((fun q hq => hG q (List.mem_append_right _ hq)) _ (allG_3 b2)) (of3_0 _) (ce3 T ad _ _) rfl (st := []) rfl (Nat.le_of_ble_eq_true rfl) ⟨Nat.le_refl 0, Nat.le_refl 0⟩ dX3_readySteps_6 (pp2 ?_)
  refine fw_aload_n C dX3_readySteps_9 rfl 1 rfl ?_
  refine fw_get C (ci := 1) (Cn := RX3) (Tc := TX3) (N := 5) (j := 1) ly_X3_readySteps_3 rfl (hG _ (List.mem_of_getElem? (i := 0) rfl)) (of1_0 _) (ce1 T ad _ _) (by decide) (cx_ts C _ fl_X3_readySteps_12) (fun _ h => h) (v := .ref (ad 2 g0 0)) rfl dX3_readySteps_10 ?_
  refine fw_getN C (ci := 6) (Cn := RX8) (Tc := TX8) (N := 15) (j := 6) ly_X3_readySteps_8 rfl (hG _ (List.mem_of_getElem? (i := 1) rfl)) (of2_0 _) (ce2 T ad _ _) (by decide) (Nst_use (cx_nst C) (w := .fieldLinkNest RX3 82 "RecipeScheduler$State" "running" "I" "RecipeScheduler") 452 (by decide +kernel) rfl) (fun _ h => h) (v := .int (Y 2 g0 0 6)) rfl dX3_readySteps_13 ?_
  refine fw_aload_n C dX3_readySteps_16 rfl 1 rfl ?_
  refine fw_get C (ci := 1) (Cn := RX3) (Tc := TX3) (N := 5) (j := 1) ly_X3_readySteps_3 rfl (hG _ (List.mem_of_getElem? (i := 0) rfl)) (of1_0 _) (ce1 T ad _ _) (by decide) (cx_ts C _ fl_X3_readySteps_12) (fun _ h => h) (v := .ref (ad 2 g0 0)) rfl dX3_readySteps_17 ?_
  refine fw_getN C (ci := 6) (Cn := RX8) (Tc := TX8) (N := 15) (j := 7) ly_X3_readySteps_8 rfl (hG _ (List.mem_of_getElem? (i := 1) rfl)) (of2_0 _) (ce2 T ad _ _) (by decide) (Nst_use (cx_nst C) (w := .fieldLinkNest RX3 47 "RecipeScheduler$State" "done" "I" "RecipeScheduler") 455 (by decide +kernel) rfl) (fun _ h => h) (v := .int (Y 2 g0 0 7)) rfl dX3_readySteps_20 ?_
  refine fw_ior C dX3_readySteps_23 ?_
  refine fw_iconst C dX3_readySteps_24 (v := (-1)) rfl ?_
  refine fw_ixor C dX3_readySteps_25 ?_
  refine fw_iand C dX3_readySteps_26 ?_
  obtain ⟨v5, e6, h⟩ := lt_some h
  refine fw_top (v' := .int v5) (by rw [e6]) ?_
  refine fw_istore_n C dX3_readySteps_27 rfl (by decide) (L' := [(2, .int v5), (1, .int 0), (0, .ref (ad 1 g0 0))]) rfl ?_
  refine fw_iconst C dX3_readySteps_28 (v := 0) rfl ?_
  refine fw_istore_n C dX3_readySteps_29 rfl (by decide) (L' := [(3, .int 0), (2, .int v5), (1, .int 0), (0, .ref (ad 1 g0 0))]) rfl ?_
  exact w_X3_readySteps_b30 C hrt hG   _ _ _ _ h
end
set_option maxRecDepth 100000 in
set_option maxHeartbeats 4000000 in
theorem c_X3_readySteps {l : Launch} {N0 : Nat} {T : Nat → ClassId} {D : va_G} {gr : List (Nat × Nat)} {ad : Nat → Nat → Nat → Nat} {Y : Mem} {g0 : Nat} {res : Int32} (hG : ∀ q ∈ ([(1, g0), (2, g0)] ++ allG), q ∈ gr) (h : X3_readySteps Y g0 = some res) : CI l yX3_readySteps wsX3_readySteps (Rm 1) N0 T D gr ad Y [.ref (ad 1 g0 0)] (fun r Y1 => r = res ∧ Y1 = Y) :=
  fw_body (by decide +kernel) rfl (Nat.le_of_ble_eq_true rfl) (fun p e s m below meth c C hrt => w_X3_readySteps C hrt hG  h)
theorem ly_X8_start_8 : ∀ w ∈ u_ws RX8 TX8 15, w ∈ wsX8_start := by decide +kernel
theorem fl_X8_start_59 : Cond.fieldLink RX8 59 "RecipeScheduler$State" "burnt" "I" ∈ wsX8_start := by decide +kernel
theorem fl_X8_start_53 : Cond.fieldLink RX8 53 "RecipeScheduler$State" "running" "I" ∈ wsX8_start := by decide +kernel
theorem fl_X8_start_15 : Cond.fieldLink RX8 15 "RecipeScheduler$State" "remaining" "[I" ∈ wsX8_start := by decide +kernel
theorem fl_X8_start_9 : Cond.fieldLink RX8 9 "RecipeScheduler$State" "duration" "[I" ∈ wsX8_start := by decide +kernel
theorem fl_X8_start_21 : Cond.fieldLink RX8 21 "RecipeScheduler$State" "starts" "[I" ∈ wsX8_start := by decide +kernel
section
variable {p : Program} {l : Launch} {e : Env} {s : State} {m : MethodId} {below : List Frame} {meth : Method} {c : Code} {N0 : Nat} {T : Nat → ClassId} {D : va_G} {gr : List (Nat × Nat)} {ad : Nat → Nat → Nat → Nat}
set_option maxRecDepth 100000 in
set_option maxHeartbeats 4000000 in
theorem w_X8_start {Y : Mem} {g0 : Nat} {a1 : Int32} (C : Cx p s m [.ref (ad 2 g0 0), .int a1].toArray meth c cX8_start 2 wsX8_start RX8 N0 T D gr ad) (hrt : meth.sig.returnType = none) (hG : ∀ q ∈ [(2, g0)], q ∈ gr) {res : Mem} (h : X8_start Y g0 a1 = some res) : FW p l e (Rm 0) s m [.ref (ad 2 g0 0), .int a1].toArray below meth c 2 N0 T D gr ad 0 0 (MQ below (va_Qv (fun Y1 => Y1 = res) (WB T D gr ad) (fun q => N0 ≤ q)) [.ref (ad 2 g0 0), .int a1].toArray s 0 0 (fun q => N0 ≤ q)) Y 0 [(0, .ref (ad 2 g0 0)), (1, .int a1)] [] := by
  unfold X8_start at h
  refine fw_aload_n C dX8_start_0 rfl 0 rfl ?_
  refine fw_dup C dX8_start_1 rfl ?_
  refine fw_get C (ci := 6) (Cn := RX8) (Tc := TX8) (N := 15) (j := 8) ly_X8_start_8 rfl (hG _ (List.mem_of_getElem? (i := 0) rfl)) (of2_0 _) (ce2 T ad _ _) (by decide) (cx_ts C _ fl_X8_start_59) (fun _ h => h) (v := .int (Y 2 g0 0 8)) rfl dX8_start_2 ?_
  refine fw_iconst C dX8_start_5 (v := 1) rfl ?_
  refine fw_iload_n C dX8_start_6 rfl 1 rfl ?_
  refine fw_ishl C dX8_start_7 ?_
  refine fw_iconst C dX8_start_8 (v := (-1)) rfl ?_
  refine fw_ixor C dX8_start_9 ?_
  refine fw_iand C dX8_start_10 ?_
  obtain ⟨Y1, e2, h⟩ := lt_some h
  refine fw_put C (ci := 6) (Cn := RX8) (Tc := TX8) (N := 15) (j := 8) (ty := .int) (upd (Y 2 g0 0) 8 ((Y 2 g0 0 8) &&& ((1 <<< (a1 &&& 31)) ^^^ ((-1))))) ly_X8_start_8 rfl tyX8_ok nmX8 (hG _ (List.mem_of_getElem? (i := 0) rfl)) (of2_0 _) (ce2 T ad _ _) (by decide) (cx_ts C _ fl_X8_start_59) (fun _ h => h) rfl (by decide +kernel) rfl rfl (Nat.le_of_ble_eq_true rfl) (ce2_put8 T ad _ _ _) dX8_start_11 ?_
  refine fw_mem ((up_eq _ _ _ _ _ _).symm.trans e2) ?_
  refine fw_aload_n C dX8_start_14 rfl 0 rfl ?_
  refine fw_dup C dX8_start_15 rfl ?_
  refine fw_get C (ci := 6) (Cn := RX8) (Tc := TX8) (N := 15) (j := 6) ly_X8_start_8 rfl (hG _ (List.mem_of_getElem? (i := 0) rfl)) (of2_0 _) (ce2 T ad _ _) (by decide) (cx_ts C _ fl_X8_start_53) (fun _ h => h) (v := .int (Y1 2 g0 0 6)) rfl dX8_start_16 ?_
  refine fw_iconst C dX8_start_19 (v := 1) rfl ?_
  refine fw_iload_n C dX8_start_20 rfl 1 rfl ?_
  refine fw_ishl C dX8_start_21 ?_
  refine fw_ior C dX8_start_22 ?_
  obtain ⟨Y3, e4, h⟩ := lt_some h
  refine fw_put C (ci := 6) (Cn := RX8) (Tc := TX8) (N := 15) (j := 6) (ty := .int) (upd (Y1 2 g0 0) 6 ((Y1 2 g0 0 6) ||| (1 <<< (a1 &&& 31)))) ly_X8_start_8 rfl tyX8_ok nmX8 (hG _ (List.mem_of_getElem? (i := 0) rfl)) (of2_0 _) (ce2 T ad _ _) (by decide) (cx_ts C _ fl_X8_start_53) (fun _ h => h) rfl (by decide +kernel) rfl rfl (Nat.le_of_ble_eq_true rfl) (ce2_put6 T ad _ _ _) dX8_start_23 ?_
  refine fw_mem ((up_eq _ _ _ _ _ _).symm.trans e4) ?_
  refine fw_aload_n C dX8_start_26 rfl 0 rfl ?_
  refine fw_get C (ci := 6) (Cn := RX8) (Tc := TX8) (N := 15) (j := 10) ly_X8_start_8 rfl (hG _ (List.mem_of_getElem? (i := 0) rfl)) (of2_0 _) (ce2 T ad _ _) (by decide) (cx_ts C _ fl_X8_start_15) (fun _ h => h) (v := .ref (ad 2 g0 2)) rfl dX8_start_27 ?_
  refine fw_iload_n C dX8_start_30 rfl 1 rfl ?_
  refine fw_aload_n C dX8_start_31 rfl 0 rfl ?_
  refine fw_get C (ci := 6) (Cn := RX8) (Tc := TX8) (N := 15) (j := 9) ly_X8_start_8 rfl (hG _ (List.mem_of_getElem? (i := 0) rfl)) (of2_0 _) (ce2 T ad _ _) (by decide) (cx_ts C _ fl_X8_start_9) (fun _ h => h) (v := .ref (ad 2 g0 1)) rfl dX8_start_32 ?_
  refine fw_iload_n C dX8_start_35 rfl 1 rfl ?_
  obtain ⟨b5, h⟩ := gd_some h
  refine fw_iald2 C (hG _ (List.mem_of_getElem? (i := 0) rfl)) (of2_1 _) (ca2_1 T ad _ _) b5 (Nat.le_of_ble_eq_true rfl) dX8_start_36 ?_
  obtain ⟨Y6, e7, h⟩ := lt_some h
  refine fw_iast2 C (hG _ (List.mem_of_getElem? (i := 0) rfl)) (of2_2 _) (ca2_2 T ad _) b5 (Nat.le_of_ble_eq_true rfl) dX8_start_37 ?_
  refine fw_mem e7 ?_
  refine fw_aload_n C dX8_start_38 rfl 0 rfl ?_
  refine fw_get C (ci := 6) (Cn := RX8) (Tc := TX8) (N := 15) (j := 12) ly_X8_start_8 rfl (hG _ (List.mem_of_getElem? (i := 0) rfl)) (of2_0 _) (ce2 T ad _ _) (by decide) (cx_ts C _ fl_X8_start_21) (fun _ h => h) (v := .ref (ad 2 g0 4)) rfl dX8_start_39 ?_
  refine fw_iload_n C dX8_start_42 rfl 1 rfl ?_
  refine fw_dup2 C dX8_start_43 rfl rfl ?_
  refine fw_iald2 C (hG _ (List.mem_of_getElem? (i := 0) rfl)) (of2_4 _) (ca2_4 T ad _ _) b5 (Nat.le_of_ble_eq_true rfl) dX8_start_44 ?_
  refine fw_iconst C dX8_start_45 (v := 1) rfl ?_
  refine fw_iadd C dX8_start_46 ?_
  obtain ⟨Y8, e9, h⟩ := lt_some h
  refine fw_iast2 C (hG _ (List.mem_of_getElem? (i := 0) rfl)) (of2_4 _) (ca2_4 T ad _) b5 (Nat.le_of_ble_eq_true rfl) dX8_start_47 ?_
  refine fw_mem e9 ?_
  exact fw_vret C hrt Y8 (Option.some.inj h) (fun t ht => ht) dX8_start_48
end
set_option maxRecDepth 100000 in
set_option maxHeartbeats 4000000 in
theorem c_X8_start {l : Launch} {N0 : Nat} {T : Nat → ClassId} {D : va_G} {gr : List (Nat × Nat)} {ad : Nat → Nat → Nat → Nat} {Y : Mem} {g0 : Nat} {a1 : Int32} {res : Mem} (hG : ∀ q ∈ [(2, g0)], q ∈ gr) (h : X8_start Y g0 a1 = some res) : CV l yX8_start wsX8_start (Rm 0) N0 T D gr ad Y [.ref (ad 2 g0 0), .int a1] (fun Y1 => Y1 = res) :=
  fw_body (by decide +kernel) rfl (Nat.le_of_ble_eq_true rfl) (fun p e s m below meth c C hrt => w_X8_start C hrt hG  h)
theorem ly_X3_startSteps_3 : ∀ w ∈ u_ws RX3 TX3 5, w ∈ wsX3_startSteps := by decide +kernel
theorem fl_X3_startSteps_28 : Cond.fieldLink RX3 28 "RecipeScheduler$Kitchen" "recipe" "LRecipeScheduler$Recipe;" ∈ wsX3_startSteps := by decide +kernel
theorem ly_X3_startSteps_5 : ∀ w ∈ u_ws RX5 TX5 17, w ∈ wsX3_startSteps := by decide +kernel
theorem ly_X3_startSteps_4 : ∀ w ∈ u_ws RX4 TX4 3, w ∈ wsX3_startSteps := by decide +kernel
theorem fl_X3_startSteps_22 : Cond.fieldLink RX3 22 "RecipeScheduler$Kitchen" "order" "[I" ∈ wsX3_startSteps := by decide +kernel
theorem in_X3_startSteps_11 : Cond.initialized RX11 ∈ wsX3_startSteps := by decide +kernel
theorem sw_X3_startSteps_X11_contains : Cond.static yX11_contains ∈ wsX3_startSteps := by decide +kernel
theorem fl_X3_startSteps_12 : Cond.fieldLink RX3 12 "RecipeScheduler$Kitchen" "state" "LRecipeScheduler$State;" ∈ wsX3_startSteps := by decide +kernel
section
variable {p : Program} {l : Launch} {e : Env} {s : State} {m : MethodId} {below : List Frame} {meth : Method} {c : Code} {N0 : Nat} {T : Nat → ClassId} {D : va_G} {gr : List (Nat × Nat)} {ad : Nat → Nat → Nat → Nat}
set_option maxRecDepth 100000 in
set_option maxHeartbeats 4000000 in
theorem w_X3_startSteps_b60 {g0 : Nat} (C : Cx p s m [.ref (ad 1 g0 0)].toArray meth c cX3_startSteps 4 wsX3_startSteps RX3 N0 T D gr ad) (hrt : meth.sig.returnType = none) (hG : ∀ q ∈ ([(2, g0), (1, g0)] ++ allG), q ∈ gr) {res : Mem} {k7 : Mem → Int32 → Int32 → Option (Mem)} (hk7 : ∀ (Y : Mem) (l2 : Int32) (l1 : Int32), k7 Y l2 l1 = some res → FW p l e (Rm 2) s m [.ref (ad 1 g0 0)].toArray below meth c 4 N0 T D gr ad 0 0 (MQ below (va_Qv (fun Y1 => Y1 = res) (WB T D gr ad) (fun q => N0 ≤ q)) [.ref (ad 1 g0 0)].toArray s 0 0 (fun q => N0 ≤ q)) Y 7 [(2, .int l2), (1, .int l1), (0, .ref (ad 1 g0 0))] []) (Y : Mem) (l2 : Int32) (l1 : Int32) (h : X3_startSteps_b60 g0 k7 Y l2 l1 = some res) : FW p l e (Rm 2) s m [.ref (ad 1 g0 0)].toArray below meth c 4 N0 T D gr ad 0 0 (MQ below (va_Qv (fun Y1 => Y1 = res) (WB T D gr ad) (fun q => N0 ≤ q)) [.ref (ad 1 g0 0)].toArray s 0 0 (fun q => N0 ≤ q)) Y 60 [(2, .int l2), (1, .int l1), (0, .ref (ad 1 g0 0))] [] := by
  unfold X3_startSteps_b60 at h
  refine fw_iinc C dX3_startSteps_60 (kk := 0) (v := l2 + 1) rfl rfl (by decide) (L' := [(2, .int (l2 + 1)), (1, .int l1), (0, .ref (ad 1 g0 0))]) rfl ?_
  refine fw_goto C dX3_startSteps_63 (tgt := 7) rfl ?_
  exact hk7 _ _ _ h
set_option maxRecDepth 100000 in
set_option maxHeartbeats 4000000 in
theorem w_X3_startSteps_b7 {g0 : Nat} (C : Cx p s m [.ref (ad 1 g0 0)].toArray meth c cX3_startSteps 4 wsX3_startSteps RX3 N0 T D gr ad) (hrt : meth.sig.returnType = none) (hG : ∀ q ∈ ([(2, g0), (1, g0)] ++ allG), q ∈ gr) {res : Mem} : ∀ (n : Nat) (Y : Mem) (l2 : Int32) (l1 : Int32), X3_startSteps_b7 g0  n Y l2 l1 = some res → FW p l e (Rm 2) s m [.ref (ad 1 g0 0)].toArray below meth c 4 N0 T D gr ad 0 0 (MQ below (va_Qv (fun Y1 => Y1 = res) (WB T D gr ad) (fun q => N0 ≤ q)) [.ref (ad 1 g0 0)].toArray s 0 0 (fun q => N0 ≤ q)) Y 7 [(2, .int l2), (1, .int l1), (0, .ref (ad 1 g0 0))] [] := by
  intro n
  induction n with
  | zero =>
    intro Y l2 l1 h
    unfold X3_startSteps_b7 at h
    cases h
  | succ n ih =>
    intro Y l2 l1 h
    unfold X3_startSteps_b7 at h
    refine fw_iload_n C dX3_startSteps_7 rfl 0 rfl ?_
    refine fw_aload_n C dX3_startSteps_8 rfl 2 rfl ?_
    refine fw_get C (ci := 1) (Cn := RX3) (Tc := TX3) (N := 5) (j := 0) ly_X3_startSteps_3 rfl (hG _ (List.mem_of_getElem? (i := 1) rfl)) (of1_0 _) (ce1 T ad _ _) (by decide) (cx_ts C _ fl_X3_startSteps_28) (fun _ h => h) (v := .ref (ad 3 ((Y 1 g0 0 0).toNatClampNeg) 0)) rfl dX3_startSteps_9 ?_
    obtain ⟨b3, h⟩ := gd_some h
    have b3 := of_decide_eq_true b3
    refine fw_getN C (ci := 3) (Cn := RX5) (Tc := TX5) (N := 17) (j := 7) ly_X3_startSteps_5 rfl ((fun q hq => hG q (List.mem_append_right _ hq)) _ (allG_3 b3)) (of3_0 _) (ce3 T ad _ _) (by decide) (Nst_use (cx_nst C) (w := .fieldLinkNest RX3 91 "RecipeScheduler$Recipe" "steps" "LRecipeScheduler$Names;" "RecipeScheduler") 148 (by decide +kernel) rfl) (fun _ h => h) (v := .ref (ad 4 (2*((Y 1 g0 0 0).toNatClampNeg)+1) 0)) rfl dX3_startSteps_12 ?_
    obtain ⟨b4, h⟩ := gd_some h
    have b4 := of_decide_eq_true b4
    refine fw_getN C (ci := 2) (Cn := RX4) (Tc := TX4) (N := 3) (j := 2) ly_X3_startSteps_4 rfl ((fun q hq => hG q (List.mem_append_right _ hq)) _ (allG_4b b4)) (of4_0 _) (ce4 T ad _ _) (by decide) (Nst_use (cx_nst C) (w := .fieldLinkNest RX3 95 "RecipeScheduler$Names" "count" "I" "RecipeScheduler") 114 (by decide +kernel) rfl) (fun _ h => h) (v := .int (Y 4 (2*((Y 1 g0 0 0).toNatClampNeg)+1) 0 2)) rfl dX3_startSteps_15 ?_
    refine fw_icmp_ge C dX3_startSteps_18 (tgt := 66) rfl (fun c5 => ?_) (fun c5 => ?_)
    · have h := ite_t c5 h
      exact fw_vret C hrt Y (Option.some.inj h) (fun t ht => ht) dX3_startSteps_66
    · have h := ite_f c5 h
      refine fw_aload_n C dX3_startSteps_21 rfl 2 rfl ?_
      refine fw_get C (ci := 1) (Cn := RX3) (Tc := TX3) (N := 5) (j := 3) ly_X3_startSteps_3 rfl (hG _ (List.mem_of_getElem? (i := 1) rfl)) (of1_0 _) (ce1 T ad _ _) (by decide) (cx_ts C _ fl_X3_startSteps_22) (fun _ h => h) (v := .ref (ad 1 g0 2)) rfl dX3_startSteps_22 ?_
      refine fw_iload_n C dX3_startSteps_25 rfl 0 rfl ?_
      obtain ⟨b6, h⟩ := gd_some h
      refine fw_iald2 C (hG _ (List.mem_of_getElem? (i := 1) rfl)) (of1_2 _) (ca1_2 T ad _ _) b6 (Nat.le_of_ble_eq_true rfl) dX3_startSteps_26 ?_
      obtain ⟨v7, e8, h⟩ := lt_some h
      refine fw_top (v' := .int v7) (by rw [e8]) ?_
      refine fw_istore_n C dX3_startSteps_27 rfl (by decide) (L' := [(3, .int v7), (2, .int l2), (1, .int l1), (0, .ref (ad 1 g0 0))]) rfl ?_
      refine fw_iload_n C dX3_startSteps_28 rfl 2 rfl ?_
      refine fw_iload_n C dX3_startSteps_29 rfl 0 rfl ?_
      obtain ⟨r9, q10, h⟩ := bd1_some h
      refine fw_callSNi C (As := [.int l1, .int v7]) (c_X11_contains ga0 q10) ⟨(va_cnB 2 (cx_ts C) gX3_startSteps_X11_contains_n100 rfl rfl rfl (cx_nw C (w := .methodLinkNest RX3 100 yX11_contains "RecipeScheduler") 623 (by decide +kernel) rfl) (cx_ts C _ in_X3_startSteps_11) (by decide +kernel) ⟨Nat.le_of_ble_eq_true rfl, Nat.le_of_ble_eq_true rfl⟩), cx_ts C _ sw_X3_startSteps_X11_contains, trivial⟩ rfl (st := []) rfl (Nat.le_of_ble_eq_true rfl) ⟨Nat.le_refl 0, Nat.le_refl 0⟩ dX3_startSteps_30 (pp2 ?_)
      refine fw_if_eq C dX3_startSteps_33 (tgt := 60) rfl (fun c11 => ?_) (fun c11 => ?_)
      · have h := ite_t c11 h
        refine fw_sub [1, 2, 3] (L' := [(2, .int l2), (1, .int l1), (0, .ref (ad 1 g0 0))]) rfl ?_
        exact w_X3_startSteps_b60 C hrt hG  ih _ _ _ h
      · have h := ite_f c11 h
        refine fw_aload_n C dX3_startSteps_36 rfl 3 rfl ?_
        refine fw_iload_n C dX3_startSteps_37 rfl 0 rfl ?_
        obtain ⟨r12, q13, h⟩ := bd1_some h
        refine fw_callVi C (ci := 1) (Cn := RX3) (Tc := TX3) (N := 5) (As := [.int v7]) (c_X3_hasFreeCook (gac (hG _ (List.mem_of_getElem? (i := 1) rfl)) (gac (hG _ (List.mem_of_getElem? (i := 0) rfl)) (fun q hq => hG q (List.mem_append_right _ hq)))) q13) (cwV 1 (cx_ts C) gX3_startSteps_X3_hasFreeCook rfl rfl rfl (by decide +kernel) ⟨Nat.le_of_ble_eq_true rfl, Nat.le_of_ble_eq_true rfl⟩) rfl (hG _ (List.mem_of_getElem? (i := 1) rfl)) (of1_0 _) (ce1 T ad _ _) rfl (st := []) rfl (Nat.le_of_ble_eq_true rfl) ⟨Nat.le_refl 0, Nat.le_refl 0⟩ dX3_startSteps_38 (pp2 ?_)
        refine fw_if_eq C dX3_startSteps_41 (tgt := 60) rfl (fun c14 => ?_) (fun c14 => ?_)
        · have h := ite_t c14 h
          refine fw_sub [1, 2, 3] (L' := [(2, .int l2), (1, .int l1), (0, .ref (ad 1 g0 0))]) rfl ?_
          exact w_X3_startSteps_b60 C hrt hG  ih _ _ _ h
        · have h := ite_f c14 h
          refine fw_aload_n C dX3_startSteps_44 rfl 3 rfl ?_
          refine fw_iload_n C dX3_startSteps_45 rfl 0 rfl ?_
          obtain ⟨r15, q16, h⟩ := bd1_some h
          refine fw_callVi C (ci := 1) (Cn := RX3) (Tc := TX3) (N := 5) (As := [.int v7]) (c_X3_hasFreePan (gac (hG _ (List.mem_of_getElem? (i := 1) rfl)) (gac (hG _ (List.mem_of_getElem? (i := 0) rfl)) (fun q hq => hG q (List.mem_append_right _ hq)))) q16) (cwV 1 (cx_ts C) gX3_startSteps_X3_hasFreePan rfl rfl rfl (by decide +kernel) ⟨Nat.le_of_ble_eq_true rfl, Nat.le_of_ble_eq_true rfl⟩) rfl (hG _ (List.mem_of_getElem? (i := 1) rfl)) (of1_0 _) (ce1 T ad _ _) rfl (st := []) rfl (Nat.le_of_ble_eq_true rfl) ⟨Nat.le_refl 0, Nat.le_refl 0⟩ dX3_startSteps_46 (pp2 ?_)
          refine fw_if_eq C dX3_startSteps_49 (tgt := 60) rfl (fun c17 => ?_) (fun c17 => ?_)
          · have h := ite_t c17 h
            refine fw_sub [1, 2, 3] (L' := [(2, .int l2), (1, .int l1), (0, .ref (ad 1 g0 0))]) rfl ?_
            exact w_X3_startSteps_b60 C hrt hG  ih _ _ _ h
          · have h := ite_f c17 h
            refine fw_aload_n C dX3_startSteps_52 rfl 3 rfl ?_
            refine fw_get C (ci := 1) (Cn := RX3) (Tc := TX3) (N := 5) (j := 1) ly_X3_startSteps_3 rfl (hG _ (List.mem_of_getElem? (i := 1) rfl)) (of1_0 _) (ce1 T ad _ _) (by decide) (cx_ts C _ fl_X3_startSteps_12) (fun _ h => h) (v := .ref (ad 2 g0 0)) rfl dX3_startSteps_53 ?_
            refine fw_iload_n C dX3_startSteps_56 rfl 0 rfl ?_
            obtain ⟨Y20, q19, h⟩ := bd1_some h
            refine fw_callVv C (ci := 6) (Cn := RX8) (Tc := TX8) (N := 15) (As := [.int v7]) (c_X8_start (gac (hG _ (List.mem_of_getElem? (i := 0) rfl)) ga0) q19) (cwV 1 (cx_ts C) gX3_startSteps_X8_start rfl rfl rfl (by decide +kernel) ⟨Nat.le_of_ble_eq_true rfl, Nat.le_of_ble_eq_true rfl⟩) rfl (hG _ (List.mem_of_getElem? (i := 0) rfl)) (of2_0 _) (ce2 T ad _ _) rfl (st := []) rfl (Nat.le_of_ble_eq_true rfl) ⟨Nat.le_refl 0, Nat.le_refl 0⟩ dX3_startSteps_57 (ppv ?_)
            refine fw_sub [1, 2, 3] (L' := [(2, .int l2), (1, .int l1), (0, .ref (ad 1 g0 0))]) rfl ?_
            exact w_X3_startSteps_b60 C hrt hG  ih _ _ _ h
set_option maxRecDepth 100000 in
set_option maxHeartbeats 4000000 in
theorem w_X3_startSteps {Y : Mem} {g0 : Nat} (C : Cx p s m [.ref (ad 1 g0 0)].toArray meth c cX3_startSteps 4 wsX3_startSteps RX3 N0 T D gr ad) (hrt : meth.sig.returnType = none) (hG : ∀ q ∈ ([(2, g0), (1, g0)] ++ allG), q ∈ gr) {res : Mem} (h : X3_startSteps Y g0 = some res) : FW p l e (Rm 2) s m [.ref (ad 1 g0 0)].toArray below meth c 4 N0 T D gr ad 0 0 (MQ below (va_Qv (fun Y1 => Y1 = res) (WB T D gr ad) (fun q => N0 ≤ q)) [.ref (ad 1 g0 0)].toArray s 0 0 (fun q => N0 ≤ q)) Y 0 [(0, .ref (ad 1 g0 0))] [] := by
  unfold X3_startSteps at h
  refine fw_aload_n C dX3_startSteps_0 rfl 0 rfl ?_
  obtain ⟨r1, q2, h⟩ := bd1_some h
  refine fw_callVi C (ci := 1) (Cn := RX3) (Tc := TX3) (N := 5) (As := []) (c_X3_readySteps (gac (hG _ (List.mem_of_getElem? (i := 1) rfl)) (gac (hG _ (List.mem_of_getElem? (i := 0) rfl)) (fun q hq => hG q (List.mem_append_right _ hq)))) q2) (cwV 0 (cx_ts C) gX3_startSteps_X3_readySteps rfl rfl rfl (by decide +kernel) ⟨Nat.le_of_ble_eq_true rfl, Nat.le_of_ble_eq_true rfl⟩) rfl (hG _ (List.mem_of_getElem? (i := 1) rfl)) (of1_0 _) (ce1 T ad _ _) rfl (st := []) rfl (Nat.le_of_ble_eq_true rfl) ⟨Nat.le_refl 0, Nat.le_refl 0⟩ dX3_startSteps_1 (pp2 ?_)
  refine fw_istore_n C dX3_startSteps_4 rfl (by decide) (L' := [(1, .int r1), (0, .ref (ad 1 g0 0))]) rfl ?_
  refine fw_iconst C dX3_startSteps_5 (v := 0) rfl ?_
  refine fw_istore_n C dX3_startSteps_6 rfl (by decide) (L' := [(2, .int 0), (1, .int r1), (0, .ref (ad 1 g0 0))]) rfl ?_
  exact w_X3_startSteps_b7 C hrt hG   _ _ _ _ h
end
set_option maxRecDepth 100000 in
set_option maxHeartbeats 4000000 in
theorem c_X3_startSteps {l : Launch} {N0 : Nat} {T : Nat → ClassId} {D : va_G} {gr : List (Nat × Nat)} {ad : Nat → Nat → Nat → Nat} {Y : Mem} {g0 : Nat} {res : Mem} (hG : ∀ q ∈ ([(2, g0), (1, g0)] ++ allG), q ∈ gr) (h : X3_startSteps Y g0 = some res) : CV l yX3_startSteps wsX3_startSteps (Rm 2) N0 T D gr ad Y [.ref (ad 1 g0 0)] (fun Y1 => Y1 = res) :=
  fw_body (by decide +kernel) rfl (Nat.le_of_ble_eq_true rfl) (fun p e s m below meth c C hrt => w_X3_startSteps C hrt hG  h)
theorem ly_X3_runMinute_3 : ∀ w ∈ u_ws RX3 TX3 5, w ∈ wsX3_runMinute := by decide +kernel
theorem fl_X3_runMinute_12 : Cond.fieldLink RX3 12 "RecipeScheduler$Kitchen" "state" "LRecipeScheduler$State;" ∈ wsX3_runMinute := by decide +kernel
theorem ly_X3_runMinute_8 : ∀ w ∈ u_ws RX8 TX8 15, w ∈ wsX3_runMinute := by decide +kernel
section
variable {p : Program} {l : Launch} {e : Env} {s : State} {m : MethodId} {below : List Frame} {meth : Method} {c : Code} {N0 : Nat} {T : Nat → ClassId} {D : va_G} {gr : List (Nat × Nat)} {ad : Nat → Nat → Nat → Nat}
set_option maxRecDepth 100000 in
set_option maxHeartbeats 4000000 in
theorem w_X3_runMinute_b26 {g0 : Nat} (C : Cx p s m [.ref (ad 1 g0 0)].toArray meth c cX3_runMinute 2 wsX3_runMinute RX3 N0 T D gr ad) (hrt : meth.sig.returnType = (some .int)) (hG : ∀ q ∈ ([(1, g0), (2, g0)] ++ allG), q ∈ gr) {res : Int32 × Mem} (Y : Mem) (l1 : Int32) (h : X3_runMinute_b26 g0  Y l1 = some res) : FW p l e (Rm 3) s m [.ref (ad 1 g0 0)].toArray below meth c 2 N0 T D gr ad 0 0 (MQ below (va_Qi (fun r Y1 => (r, Y1) = res) (WB T D gr ad) (fun q => N0 ≤ q)) [.ref (ad 1 g0 0)].toArray s 0 0 (fun q => N0 ≤ q)) Y 26 [(1, .int l1), (0, .ref (ad 1 g0 0))] [] := by
  unfold X3_runMinute_b26 at h
  refine fw_aload_n C dX3_runMinute_26 rfl 1 rfl ?_
  refine fw_get C (ci := 1) (Cn := RX3) (Tc := TX3) (N := 5) (j := 1) ly_X3_runMinute_3 rfl (hG _ (List.mem_of_getElem? (i := 0) rfl)) (of1_0 _) (ce1 T ad _ _) (by decide) (cx_ts C _ fl_X3_runMinute_12) (fun _ h => h) (v := .ref (ad 2 g0 0)) rfl dX3_runMinute_27 ?_
  refine fw_dup C dX3_runMinute_30 rfl ?_
  refine fw_getN C (ci := 6) (Cn := RX8) (Tc := TX8) (N := 15) (j := 1) ly_X3_runMinute_8 rfl (hG _ (List.mem_of_getElem? (i := 1) rfl)) (of2_0 _) (ce2 T ad _ _) (by decide) (Nst_use (cx_nst C) (w := .fieldLinkNest RX3 73 "RecipeScheduler$State" "minute" "I" "RecipeScheduler") 438 (by decide +kernel) rfl) (fun _ h => h) (v := .int (Y 2 g0 0 1)) rfl dX3_runMinute_31 ?_
  refine fw_iconst C dX3_runMinute_34 (v := 1) rfl ?_
  refine fw_iadd C dX3_runMinute_35 ?_
  obtain ⟨Y2, e3, h⟩ := lt_some h
  refine fw_putN C (ci := 6) (Cn := RX8) (Tc := TX8) (N := 15) (j := 1) (ty := .int) (upd (Y 2 g0 0) 1 ((Y 2 g0 0 1) + 1)) ly_X3_runMinute_8 rfl tyX8_ok nmX8 (hG _ (List.mem_of_getElem? (i := 1) rfl)) (of2_0 _) (ce2 T ad _ _) (by decide) (Nst_use (cx_nst C) (w := .fieldLinkNest RX3 73 "RecipeScheduler$State" "minute" "I" "RecipeScheduler") 438 (by decide +kernel) rfl) (fun _ h => h) rfl (by decide +kernel) rfl rfl (Nat.le_of_ble_eq_true rfl) (ce2_put1 T ad _ _ _) dX3_runMinute_36 ?_
  refine fw_mem ((up_eq _ _ _ _ _ _).symm.trans e3) ?_
  refine fw_iload_n C dX3_runMinute_39 rfl 0 rfl ?_
  obtain ⟨r4, q5, h⟩ := bd1_some h
  refine fw_callSi C (As := [.int l1]) (c_J6_bitCount_0f7a4 ga0 q5) (va_cwS 1 (cx_ts C) gX3_runMinute_J6_bitCount_0f7a4 rfl rfl rfl (by decide +kernel) ⟨Nat.le_of_ble_eq_true rfl, Nat.le_of_ble_eq_true rfl⟩) rfl (st := []) rfl (Nat.le_of_ble_eq_true rfl) ⟨Nat.le_refl 0, Nat.le_refl 0⟩ dX3_runMinute_40 (pp2 ?_)
  exact fw_iret C hrt Y2 (Option.some.inj h) (fun t ht => ht) dX3_runMinute_43
set_option maxRecDepth 100000 in
set_option maxHeartbeats 4000000 in
theorem w_X3_runMinute {Y : Mem} {g0 : Nat} (C : Cx p s m [.ref (ad 1 g0 0)].toArray meth c cX3_runMinute 2 wsX3_runMinute RX3 N0 T D gr ad) (hrt : meth.sig.returnType = (some .int)) (hG : ∀ q ∈ ([(1, g0), (2, g0)] ++ allG), q ∈ gr) {res : Int32 × Mem} (h : X3_runMinute Y g0 = some res) : FW p l e (Rm 3) s m [.ref (ad 1 g0 0)].toArray below meth c 2 N0 T D gr ad 0 0 (MQ below (va_Qi (fun r Y1 => (r, Y1) = res) (WB T D gr ad) (fun q => N0 ≤ q)) [.ref (ad 1 g0 0)].toArray s 0 0 (fun q => N0 ≤ q)) Y 0 [(0, .ref (ad 1 g0 0))] [] := by
  unfold X3_runMinute at h
  refine fw_iconst C dX3_runMinute_0 (v := 0) rfl ?_
  refine fw_istore_n C dX3_runMinute_1 rfl (by decide) (L' := [(1, .int 0), (0, .ref (ad 1 g0 0))]) rfl ?_
  refine fw_aload_n C dX3_runMinute_2 rfl 1 rfl ?_
  refine fw_get C (ci := 1) (Cn := RX3) (Tc := TX3) (N := 5) (j := 1) ly_X3_runMinute_3 rfl (hG _ (List.mem_of_getElem? (i := 0) rfl)) (of1_0 _) (ce1 T ad _ _) (by decide) (cx_ts C _ fl_X3_runMinute_12) (fun _ h => h) (v := .ref (ad 2 g0 0)) rfl dX3_runMinute_3 ?_
  refine fw_getN C (ci := 6) (Cn := RX8) (Tc := TX8) (N := 15) (j := 5) ly_X3_runMinute_8 rfl (hG _ (List.mem_of_getElem? (i := 1) rfl)) (of2_0 _) (ce2 T ad _ _) (by decide) (Nst_use (cx_nst C) (w := .fieldLinkNest RX3 59 "RecipeScheduler$State" "served" "Z" "RecipeScheduler") 449 (by decide +kernel) rfl) (fun _ h => h) (v := .int (Y 2 g0 0 5)) rfl dX3_runMinute_6 ?_
  refine fw_if_ne C dX3_runMinute_9 (tgt := 26) rfl (fun c1 => ?_) (fun c1 => ?_)
  · have h := ite_f c1 h
    exact w_X3_runMinute_b26 C hrt hG   _ _ h
  · have h := ite_t c1 h
    refine fw_aload_n C dX3_runMinute_12 rfl 1 rfl ?_
    obtain ⟨r6, Y8, q7, h⟩ := bd2_some h
    refine fw_callVi C (ci := 1) (Cn := RX3) (Tc := TX3) (N := 5) (As := []) (c_X3_work (gac (hG _ (List.mem_of_getElem? (i := 0) rfl)) (gac (hG _ (List.mem_of_getElem? (i := 1) rfl)) (fun q hq => hG q (List.mem_append_right _ hq)))) q7) (cwV 0 (cx_ts C) gX3_runMinute_X3_work rfl rfl rfl (by decide +kernel) ⟨Nat.le_of_ble_eq_true rfl, Nat.le_of_ble_eq_true rfl⟩) rfl (hG _ (List.mem_of_getElem? (i := 0) rfl)) (of1_0 _) (ce1 T ad _ _) rfl (st := []) rfl (Nat.le_of_ble_eq_true rfl) ⟨Nat.le_refl 0, Nat.le_refl 0⟩ dX3_runMinute_13 (ppw ?_)
    refine fw_istore_n C dX3_runMinute_16 rfl (by decide) (L' := [(1, .int r6), (0, .ref (ad 1 g0 0))]) rfl ?_
    refine fw_aload_n C dX3_runMinute_17 rfl 1 rfl ?_
    refine fw_iload_n C dX3_runMinute_18 rfl 0 rfl ?_
    obtain ⟨Y11, q10, h⟩ := bd1_some h
    refine fw_callVv C (ci := 1) (Cn := RX3) (Tc := TX3) (N := 5) (As := [.int r6]) (c_X3_growOld (gac (hG _ (List.mem_of_getElem? (i := 0) rfl)) (gac (hG _ (List.mem_of_getElem? (i := 1) rfl)) (fun q hq => hG q (List.mem_append_right _ hq)))) q10) (cwV 1 (cx_ts C) gX3_runMinute_X3_growOld rfl rfl rfl (by decide +kernel) ⟨Nat.le_of_ble_eq_true rfl, Nat.le_of_ble_eq_true rfl⟩) rfl (hG _ (List.mem_of_getElem? (i := 0) rfl)) (of1_0 _) (ce1 T ad _ _) rfl (st := []) rfl (Nat.le_of_ble_eq_true rfl) ⟨Nat.le_refl 0, Nat.le_refl 0⟩ dX3_runMinute_19 (ppv ?_)
    refine fw_aload_n C dX3_runMinute_22 rfl 1 rfl ?_
    obtain ⟨Y14, q13, h⟩ := bd1_some h
    refine fw_callVv C (ci := 1) (Cn := RX3) (Tc := TX3) (N := 5) (As := []) (c_X3_startSteps (gac (hG _ (List.mem_of_getElem? (i := 1) rfl)) (gac (hG _ (List.mem_of_getElem? (i := 0) rfl)) (fun q hq => hG q (List.mem_append_right _ hq)))) q13) (cwV 0 (cx_ts C) gX3_runMinute_X3_startSteps rfl rfl rfl (by decide +kernel) ⟨Nat.le_of_ble_eq_true rfl, Nat.le_of_ble_eq_true rfl⟩) rfl (hG _ (List.mem_of_getElem? (i := 0) rfl)) (of1_0 _) (ce1 T ad _ _) rfl (st := []) rfl (Nat.le_of_ble_eq_true rfl) ⟨Nat.le_refl 0, Nat.le_refl 0⟩ dX3_runMinute_23 (ppv ?_)
    exact w_X3_runMinute_b26 C hrt hG   _ _ h
end
set_option maxRecDepth 100000 in
set_option maxHeartbeats 4000000 in
theorem c_X3_runMinute {l : Launch} {N0 : Nat} {T : Nat → ClassId} {D : va_G} {gr : List (Nat × Nat)} {ad : Nat → Nat → Nat → Nat} {Y : Mem} {g0 : Nat} {res : Int32 × Mem} (hG : ∀ q ∈ ([(1, g0), (2, g0)] ++ allG), q ∈ gr) (h : X3_runMinute Y g0 = some res) : CI l yX3_runMinute wsX3_runMinute (Rm 3) N0 T D gr ad Y [.ref (ad 1 g0 0)] (fun r Y1 => (r, Y1) = res) :=
  fw_body (by decide +kernel) rfl (Nat.le_of_ble_eq_true rfl) (fun p e s m below meth c C hrt => w_X3_runMinute C hrt hG  h)
theorem ly_X3_runToFinish_3 : ∀ w ∈ u_ws RX3 TX3 5, w ∈ wsX3_runToFinish := by decide +kernel
theorem fl_X3_runToFinish_12 : Cond.fieldLink RX3 12 "RecipeScheduler$Kitchen" "state" "LRecipeScheduler$State;" ∈ wsX3_runToFinish := by decide +kernel
theorem ly_X3_runToFinish_8 : ∀ w ∈ u_ws RX8 TX8 15, w ∈ wsX3_runToFinish := by decide +kernel
theorem fl_X3_runToFinish_28 : Cond.fieldLink RX3 28 "RecipeScheduler$Kitchen" "recipe" "LRecipeScheduler$Recipe;" ∈ wsX3_runToFinish := by decide +kernel
section
variable {p : Program} {l : Launch} {e : Env} {s : State} {m : MethodId} {below : List Frame} {meth : Method} {c : Code} {N0 : Nat} {T : Nat → ClassId} {D : va_G} {gr : List (Nat × Nat)} {ad : Nat → Nat → Nat → Nat}
set_option maxRecDepth 100000 in
set_option maxHeartbeats 4000000 in
theorem w_X3_runToFinish_b6 {g0 : Nat} (C : Cx p s m [.ref (ad 1 g0 0)].toArray meth c cX3_runToFinish 2 wsX3_runToFinish RX3 N0 T D gr ad) (hrt : meth.sig.returnType = (some .int)) (hG : ∀ q ∈ ([(2, g0), (1, g0)] ++ allG), q ∈ gr) {res : Int32 × Mem} : ∀ (n : Nat) (Y : Mem) (l1 : Int32), X3_runToFinish_b6 g0  n Y l1 = some res → FW p l e (Rm 4) s m [.ref (ad 1 g0 0)].toArray below meth c 2 N0 T D gr ad 0 0 (MQ below (va_Qi (fun r Y1 => (r, Y1) = res) (WB T D gr ad) (fun q => N0 ≤ q)) [.ref (ad 1 g0 0)].toArray s 0 0 (fun q => N0 ≤ q)) Y 6 [(1, .int l1), (0, .ref (ad 1 g0 0))] [] := by
  intro n
  induction n with
  | zero =>
    intro Y l1 h
    unfold X3_runToFinish_b6 at h
    cases h
  | succ n ih =>
    intro Y l1 h
    unfold X3_runToFinish_b6 at h
    refine fw_iload_n C dX3_runToFinish_6 rfl 0 rfl ?_
    refine fw_sipush C dX3_runToFinish_7 (v := 500) rfl ?_
    refine fw_icmp_ge C dX3_runToFinish_10 (tgt := 43) rfl (fun c4 => ?_) (fun c4 => ?_)
    · have h := ite_t c4 h
      refine fw_aload_n C dX3_runToFinish_43 rfl 1 rfl ?_
      refine fw_get C (ci := 1) (Cn := RX3) (Tc := TX3) (N := 5) (j := 1) ly_X3_runToFinish_3 rfl (hG _ (List.mem_of_getElem? (i := 1) rfl)) (of1_0 _) (ce1 T ad _ _) (by decide) (cx_ts C _ fl_X3_runToFinish_12) (fun _ h => h) (v := .ref (ad 2 g0 0)) rfl dX3_runToFinish_44 ?_
      refine fw_getN C (ci := 6) (Cn := RX8) (Tc := TX8) (N := 15) (j := 7) ly_X3_runToFinish_8 rfl (hG _ (List.mem_of_getElem? (i := 0) rfl)) (of2_0 _) (ce2 T ad _ _) (by decide) (Nst_use (cx_nst C) (w := .fieldLinkNest RX3 47 "RecipeScheduler$State" "done" "I" "RecipeScheduler") 455 (by decide +kernel) rfl) (fun _ h => h) (v := .int (Y 2 g0 0 7)) rfl dX3_runToFinish_47 ?_
      refine fw_aload_n C dX3_runToFinish_50 rfl 1 rfl ?_
      refine fw_get C (ci := 1) (Cn := RX3) (Tc := TX3) (N := 5) (j := 0) ly_X3_runToFinish_3 rfl (hG _ (List.mem_of_getElem? (i := 1) rfl)) (of1_0 _) (ce1 T ad _ _) (by decide) (cx_ts C _ fl_X3_runToFinish_28) (fun _ h => h) (v := .ref (ad 3 ((Y 1 g0 0 0).toNatClampNeg) 0)) rfl dX3_runToFinish_51 ?_
      obtain ⟨b5, h⟩ := gd_some h
      have b5 := of_decide_eq_true b5
      obtain ⟨b6, h⟩ := gd_some h
      have b6 := of_decide_eq_true b6
      obtain ⟨r7, q8, h⟩ := bd1_some h
      refine fw_callVi C (ci := 3) (Cn := RX5) (Tc := TX5) (N := 17) (As := []) (c_X5_allSteps (gac ((fun q hq => hG q (List.mem_append_right _ hq)) _ (allG_3 b6)) (gac ((fun q hq => hG q (List.mem_append_right _ hq)) _ (allG_4b b5)) ga0)) q8) (cwV 0 (cx_ts C) gX3_runToFinish_X5_allSteps rfl rfl rfl (by decide +kernel) ⟨Nat.le_of_ble_eq_true rfl, Nat.le_of_ble_eq_true rfl⟩) rfl ((fun q hq => hG q (List.mem_append_right _ hq)) _ (allG_3 b6)) (of3_0 _) (ce3 T ad _ _) rfl (st := [.int (Y 2 g0 0 7)]) rfl (Nat.le_of_ble_eq_true rfl) ⟨Nat.le_refl 0, Nat.le_refl 0⟩ dX3_runToFinish_54 (pp2 ?_)
      refine fw_icmp_ne C dX3_runToFinish_57 (tgt := 66) rfl (fun c9 => ?_) (fun c9 => ?_)
      · have h := ite_f c9 h
        refine fw_iconst C dX3_runToFinish_66 (v := (-1)) rfl ?_
        exact fw_iret C hrt Y (Option.some.inj h) (fun t ht => ht) dX3_runToFinish_67
      · have h := ite_t c9 h
        refine fw_sipush C dX3_runToFinish_60 (v := 500) rfl ?_
        refine fw_goto C dX3_runToFinish_63 (tgt := 67) rfl ?_
        exact fw_iret C hrt Y (Option.some.inj h) (fun t ht => ht) dX3_runToFinish_67
    · have h := ite_f c4 h
      refine fw_aload_n C dX3_runToFinish_13 rfl 1 rfl ?_
      refine fw_get C (ci := 1) (Cn := RX3) (Tc := TX3) (N := 5) (j := 1) ly_X3_runToFinish_3 rfl (hG _ (List.mem_of_getElem? (i := 1) rfl)) (of1_0 _) (ce1 T ad _ _) (by decide) (cx_ts C _ fl_X3_runToFinish_12) (fun _ h => h) (v := .ref (ad 2 g0 0)) rfl dX3_runToFinish_14 ?_
      refine fw_getN C (ci := 6) (Cn := RX8) (Tc := TX8) (N := 15) (j := 7) ly_X3_runToFinish_8 rfl (hG _ (List.mem_of_getElem? (i := 0) rfl)) (of2_0 _) (ce2 T ad _ _) (by decide) (Nst_use (cx_nst C) (w := .fieldLinkNest RX3 47 "RecipeScheduler$State" "done" "I" "RecipeScheduler") 455 (by decide +kernel) rfl) (fun _ h => h) (v := .int (Y 2 g0 0 7)) rfl dX3_runToFinish_17 ?_
      refine fw_aload_n C dX3_runToFinish_20 rfl 1 rfl ?_
      refine fw_get C (ci := 1) (Cn := RX3) (Tc := TX3) (N := 5) (j := 0) ly_X3_runToFinish_3 rfl (hG _ (List.mem_of_getElem? (i := 1) rfl)) (of1_0 _) (ce1 T ad _ _) (by decide) (cx_ts C _ fl_X3_runToFinish_28) (fun _ h => h) (v := .ref (ad 3 ((Y 1 g0 0 0).toNatClampNeg) 0)) rfl dX3_runToFinish_21 ?_
      obtain ⟨b10, h⟩ := gd_some h
      have b10 := of_decide_eq_true b10
      obtain ⟨b11, h⟩ := gd_some h
      have b11 := of_decide_eq_true b11
      obtain ⟨r12, q13, h⟩ := bd1_some h
      refine fw_callVi C (ci := 3) (Cn := RX5) (Tc := TX5) (N := 17) (As := []) (c_X5_allSteps (gac ((fun q hq => hG q (List.mem_append_right _ hq)) _ (allG_3 b11)) (gac ((fun q hq => hG q (List.mem_append_right _ hq)) _ (allG_4b b10)) ga0)) q13) (cwV 0 (cx_ts C) gX3_runToFinish_X5_allSteps rfl rfl rfl (by decide +kernel) ⟨Nat.le_of_ble_eq_true rfl, Nat.le_of_ble_eq_true rfl⟩) rfl ((fun q hq => hG q (List.mem_append_right _ hq)) _ (allG_3 b11)) (of3_0 _) (ce3 T ad _ _) rfl (st := [.int (Y 2 g0 0 7)]) rfl (Nat.le_of_ble_eq_true rfl) ⟨Nat.le_refl 0, Nat.le_refl 0⟩ dX3_runToFinish_24 (pp2 ?_)
      refine fw_icmp_ne C dX3_runToFinish_27 (tgt := 32) rfl (fun c14 => ?_) (fun c14 => ?_)
      · have h := ite_f c14 h
        refine fw_aload_n C dX3_runToFinish_32 rfl 1 rfl ?_
        obtain ⟨r15, Y17, q16, h⟩ := bd2_some h
        refine fw_callVi C (ci := 1) (Cn := RX3) (Tc := TX3) (N := 5) (As := []) (c_X3_runMinute (gac (hG _ (List.mem_of_getElem? (i := 1) rfl)) (gac (hG _ (List.mem_of_getElem? (i := 0) rfl)) (fun q hq => hG q (List.mem_append_right _ hq)))) q16) (cwV 0 (cx_ts C) gX3_runToFinish_X3_runMinute rfl rfl rfl (by decide +kernel) ⟨Nat.le_of_ble_eq_true rfl, Nat.le_of_ble_eq_true rfl⟩) rfl (hG _ (List.mem_of_getElem? (i := 1) rfl)) (of1_0 _) (ce1 T ad _ _) rfl (st := []) rfl (Nat.le_of_ble_eq_true rfl) ⟨Nat.le_refl 0, Nat.le_refl 0⟩ dX3_runToFinish_33 (ppw ?_)
        refine fw_pop C dX3_runToFinish_36 rfl ?_
        refine fw_iinc C dX3_runToFinish_37 (kk := 0) (v := l1 + 1) rfl rfl (by decide) (L' := [(1, .int (l1 + 1)), (0, .ref (ad 1 g0 0))]) rfl ?_
        refine fw_goto C dX3_runToFinish_40 (tgt := 6) rfl ?_
        exact ih _ _ h
      · have h := ite_t c14 h
        refine fw_iload_n C dX3_runToFinish_30 rfl 0 rfl ?_
        exact fw_iret C hrt Y (Option.some.inj h) (fun t ht => ht) dX3_runToFinish_31
set_option maxRecDepth 100000 in
set_option maxHeartbeats 4000000 in
theorem w_X3_runToFinish {Y : Mem} {g0 : Nat} (C : Cx p s m [.ref (ad 1 g0 0)].toArray meth c cX3_runToFinish 2 wsX3_runToFinish RX3 N0 T D gr ad) (hrt : meth.sig.returnType = (some .int)) (hG : ∀ q ∈ ([(2, g0), (1, g0)] ++ allG), q ∈ gr) {res : Int32 × Mem} (h : X3_runToFinish Y g0 = some res) : FW p l e (Rm 4) s m [.ref (ad 1 g0 0)].toArray below meth c 2 N0 T D gr ad 0 0 (MQ below (va_Qi (fun r Y1 => (r, Y1) = res) (WB T D gr ad) (fun q => N0 ≤ q)) [.ref (ad 1 g0 0)].toArray s 0 0 (fun q => N0 ≤ q)) Y 0 [(0, .ref (ad 1 g0 0))] [] := by
  unfold X3_runToFinish at h
  refine fw_aload_n C dX3_runToFinish_0 rfl 0 rfl ?_
  obtain ⟨Y3, q2, h⟩ := bd1_some h
  refine fw_callVv C (ci := 1) (Cn := RX3) (Tc := TX3) (N := 5) (As := []) (c_X3_rank (gac (hG _ (List.mem_of_getElem? (i := 1) rfl)) (gac (hG _ (List.mem_of_getElem? (i := 0) rfl)) (fun q hq => hG q (List.mem_append_right _ hq)))) q2) (cwV 0 (cx_ts C) gX3_runToFinish_X3_rank rfl rfl rfl (by decide +kernel) ⟨Nat.le_of_ble_eq_true rfl, Nat.le_of_ble_eq_true rfl⟩) rfl (hG _ (List.mem_of_getElem? (i := 1) rfl)) (of1_0 _) (ce1 T ad _ _) rfl (st := []) rfl (Nat.le_of_ble_eq_true rfl) ⟨Nat.le_refl 0, Nat.le_refl 0⟩ dX3_runToFinish_1 (ppv ?_)
  refine fw_iconst C dX3_runToFinish_4 (v := 0) rfl ?_
  refine fw_istore_n C dX3_runToFinish_5 rfl (by decide) (L' := [(1, .int 0), (0, .ref (ad 1 g0 0))]) rfl ?_
  exact w_X3_runToFinish_b6 C hrt hG   _ _ _ h
end
set_option maxRecDepth 100000 in
set_option maxHeartbeats 4000000 in
theorem c_X3_runToFinish {l : Launch} {N0 : Nat} {T : Nat → ClassId} {D : va_G} {gr : List (Nat × Nat)} {ad : Nat → Nat → Nat → Nat} {Y : Mem} {g0 : Nat} {res : Int32 × Mem} (hG : ∀ q ∈ ([(2, g0), (1, g0)] ++ allG), q ∈ gr) (h : X3_runToFinish Y g0 = some res) : CI l yX3_runToFinish wsX3_runToFinish (Rm 4) N0 T D gr ad Y [.ref (ad 1 g0 0)] (fun r Y1 => (r, Y1) = res) :=
  fw_body (by decide +kernel) rfl (Nat.le_of_ble_eq_true rfl) (fun p e s m below meth c C hrt => w_X3_runToFinish C hrt hG  h)
theorem ly_X11_finishWithShorter_11 : ∀ w ∈ u_ws RX11 TX11 11, w ∈ wsX11_finishWithShorter := by decide +kernel
theorem fl_X11_finishWithShorter_71 : Cond.fieldLink RX11 71 "RecipeScheduler" "forecast" "LRecipeScheduler$Kitchen;" ∈ wsX11_finishWithShorter := by decide +kernel
theorem fl_X11_finishWithShorter_67 : Cond.fieldLink RX11 67 "RecipeScheduler" "now" "LRecipeScheduler$Kitchen;" ∈ wsX11_finishWithShorter := by decide +kernel
theorem ly_X11_finishWithShorter_3 : ∀ w ∈ u_ws RX3 TX3 5, w ∈ wsX11_finishWithShorter := by decide +kernel
theorem ly_X11_finishWithShorter_8 : ∀ w ∈ u_ws RX8 TX8 15, w ∈ wsX11_finishWithShorter := by decide +kernel
section
variable {p : Program} {l : Launch} {e : Env} {s : State} {m : MethodId} {below : List Frame} {meth : Method} {c : Code} {N0 : Nat} {T : Nat → ClassId} {D : va_G} {gr : List (Nat × Nat)} {ad : Nat → Nat → Nat → Nat}
set_option maxRecDepth 100000 in
set_option maxHeartbeats 4000000 in
theorem w_X11_finishWithShorter_b43 {a1 : Int32} (C : Cx p s m [.ref (ad 0 0 0), .int a1].toArray meth c cX11_finishWithShorter 3 wsX11_finishWithShorter RX11 N0 T D gr ad) (hrt : meth.sig.returnType = (some .int)) (hG : ∀ q ∈ ([(0, 0), (2, 0), (2, 1), (1, 1), (1, 0)] ++ allG), q ∈ gr) {res : Int32 × Mem} (Y : Mem) (h : X11_finishWithShorter_b43 a1  Y = some res) : FW p l e (Rm 5) s m [.ref (ad 0 0 0), .int a1].toArray below meth c 3 N0 T D gr ad 0 0 (MQ below (va_Qi (fun r Y1 => (r, Y1) = res) (WB T D gr ad) (fun q => N0 ≤ q)) [.ref (ad 0 0 0), .int a1].toArray s 0 0 (fun q => N0 ≤ q)) Y 43 [(0, .ref (ad 0 0 0))] [] := by
  unfold X11_finishWithShorter_b43 at h
  refine fw_aload_n C dX11_finishWithShorter_43 rfl 0 rfl ?_
  refine fw_get C (ci := 9) (Cn := RX11) (Tc := TX11) (N := 11) (j := 6) ly_X11_finishWithShorter_11 rfl (hG _ (List.mem_of_getElem? (i := 0) rfl)) (of0_0 _) (ce0 T ad _ _) (by decide) (cx_ts C _ fl_X11_finishWithShorter_71) (fun _ h => h) (v := .ref (ad 1 1 0)) rfl dX11_finishWithShorter_44 ?_
  obtain ⟨r6, Y8, q7, h⟩ := bd2_some h
  refine fw_callVi C (ci := 1) (Cn := RX3) (Tc := TX3) (N := 5) (As := []) (c_X3_runToFinish (gac (hG _ (List.mem_of_getElem? (i := 2) rfl)) (gac (hG _ (List.mem_of_getElem? (i := 3) rfl)) (fun q hq => hG q (List.mem_append_right _ hq)))) q7) (cwV 0 (cx_ts C) gX11_finishWithShorter_X3_runToFinish rfl rfl rfl (by decide +kernel) ⟨Nat.le_of_ble_eq_true rfl, Nat.le_of_ble_eq_true rfl⟩) rfl (hG _ (List.mem_of_getElem? (i := 3) rfl)) (of1_0 _) (ce1 T ad _ _) rfl (st := []) rfl (Nat.le_of_ble_eq_true rfl) ⟨Nat.le_refl 0, Nat.le_refl 0⟩ dX11_finishWithShorter_47 (ppw ?_)
  refine fw_istore_n C dX11_finishWithShorter_50 rfl (by decide) (L' := [(2, .int r6), (0, .ref (ad 0 0 0))]) rfl ?_
  refine fw_iload_n C dX11_finishWithShorter_51 rfl 0 rfl ?_
  refine fw_iconst C dX11_finishWithShorter_52 (v := (-1)) rfl ?_
  refine fw_icmp_ne C dX11_finishWithShorter_53 (tgt := 62) rfl (fun c9 => ?_) (fun c9 => ?_)
  · have h := ite_f c9 h
    refine fw_iload_n C dX11_finishWithShorter_62 rfl 0 rfl ?_
    exact fw_iret C hrt Y8 (Option.some.inj h) (fun t ht => ht) dX11_finishWithShorter_63
  · have h := ite_t c9 h
    refine fw_sipush C dX11_finishWithShorter_56 (v := 501) rfl ?_
    refine fw_goto C dX11_finishWithShorter_59 (tgt := 63) rfl ?_
    exact fw_iret C hrt Y8 (Option.some.inj h) (fun t ht => ht) dX11_finishWithShorter_63
set_option maxRecDepth 100000 in
set_option maxHeartbeats 4000000 in
theorem w_X11_finishWithShorter {Y : Mem} {a1 : Int32} (C : Cx p s m [.ref (ad 0 0 0), .int a1].toArray meth c cX11_finishWithShorter 3 wsX11_finishWithShorter RX11 N0 T D gr ad) (hrt : meth.sig.returnType = (some .int)) (hG : ∀ q ∈ ([(0, 0), (2, 0), (2, 1), (1, 1), (1, 0)] ++ allG), q ∈ gr) {res : Int32 × Mem} (h : X11_finishWithShorter Y a1 = some res) : FW p l e (Rm 5) s m [.ref (ad 0 0 0), .int a1].toArray below meth c 3 N0 T D gr ad 0 0 (MQ below (va_Qi (fun r Y1 => (r, Y1) = res) (WB T D gr ad) (fun q => N0 ≤ q)) [.ref (ad 0 0 0), .int a1].toArray s 0 0 (fun q => N0 ≤ q)) Y 0 [(0, .ref (ad 0 0 0)), (1, .int a1)] [] := by
  unfold X11_finishWithShorter at h
  refine fw_aload_n C dX11_finishWithShorter_0 rfl 0 rfl ?_
  refine fw_get C (ci := 9) (Cn := RX11) (Tc := TX11) (N := 11) (j := 6) ly_X11_finishWithShorter_11 rfl (hG _ (List.mem_of_getElem? (i := 0) rfl)) (of0_0 _) (ce0 T ad _ _) (by decide) (cx_ts C _ fl_X11_finishWithShorter_71) (fun _ h => h) (v := .ref (ad 1 1 0)) rfl dX11_finishWithShorter_1 ?_
  refine fw_aload_n C dX11_finishWithShorter_4 rfl 0 rfl ?_
  refine fw_get C (ci := 9) (Cn := RX11) (Tc := TX11) (N := 11) (j := 5) ly_X11_finishWithShorter_11 rfl (hG _ (List.mem_of_getElem? (i := 0) rfl)) (of0_0 _) (ce0 T ad _ _) (by decide) (cx_ts C _ fl_X11_finishWithShorter_67) (fun _ h => h) (v := .ref (ad 1 0 0)) rfl dX11_finishWithShorter_5 ?_
  obtain ⟨Y3, q2, h⟩ := bd1_some h
  refine fw_callVv C (ci := 1) (Cn := RX3) (Tc := TX3) (N := 5) (As := [.ref (ad 1 0 0)]) (c_X3_copyFrom (gac (hG _ (List.mem_of_getElem? (i := 4) rfl)) (gac (hG _ (List.mem_of_getElem? (i := 3) rfl)) (gac (hG _ (List.mem_of_getElem? (i := 2) rfl)) (gac (hG _ (List.mem_of_getElem? (i := 1) rfl)) (fun q hq => hG q (List.mem_append_right _ hq)))))) q2) (cwV 1 (cx_ts C) gX11_finishWithShorter_X3_copyFrom rfl rfl rfl (by decide +kernel) ⟨Nat.le_of_ble_eq_true rfl, Nat.le_of_ble_eq_true rfl⟩) rfl (hG _ (List.mem_of_getElem? (i := 3) rfl)) (of1_0 _) (ce1 T ad _ _) rfl (st := []) rfl (Nat.le_of_ble_eq_true rfl) ⟨Nat.le_refl 0, Nat.le_refl 0⟩ dX11_finishWithShorter_8 (ppv ?_)
  refine fw_aload_n C dX11_finishWithShorter_11 rfl 0 rfl ?_
  refine fw_get C (ci := 9) (Cn := RX11) (Tc := TX11) (N := 11) (j := 6) ly_X11_finishWithShorter_11 rfl (hG _ (List.mem_of_getElem? (i := 0) rfl)) (of0_0 _) (ce0 T ad _ _) (by decide) (cx_ts C _ fl_X11_finishWithShorter_71) (fun _ h => h) (v := .ref (ad 1 1 0)) rfl dX11_finishWithShorter_12 ?_
  refine fw_getN C (ci := 1) (Cn := RX3) (Tc := TX3) (N := 5) (j := 1) ly_X11_finishWithShorter_3 rfl (hG _ (List.mem_of_getElem? (i := 3) rfl)) (of1_0 _) (ce1 T ad _ _) (by decide) (Nst_use (cx_nst C) (w := .fieldLinkNest RX11 139 "RecipeScheduler$Kitchen" "state" "LRecipeScheduler$State;" "RecipeScheduler") 518 (by decide +kernel) rfl) (fun _ h => h) (v := .ref (ad 2 1 0)) rfl dX11_finishWithShorter_15 ?_
  refine fw_getN C (ci := 6) (Cn := RX8) (Tc := TX8) (N := 15) (j := 9) ly_X11_finishWithShorter_8 rfl (hG _ (List.mem_of_getElem? (i := 2) rfl)) (of2_0 _) (ce2 T ad _ _) (by decide) (Nst_use (cx_nst C) (w := .fieldLinkNest RX11 196 "RecipeScheduler$State" "duration" "[I" "RecipeScheduler") 461 (by decide +kernel) rfl) (fun _ h => h) (v := .ref (ad 2 1 1)) rfl dX11_finishWithShorter_18 ?_
  refine fw_iload_n C dX11_finishWithShorter_21 rfl 1 rfl ?_
  obtain ⟨b4, h⟩ := gd_some h
  refine fw_iald2 C (hG _ (List.mem_of_getElem? (i := 2) rfl)) (of2_1 _) (ca2_1 T ad _ _) b4 (Nat.le_of_ble_eq_true rfl) dX11_finishWithShorter_22 ?_
  refine fw_iconst C dX11_finishWithShorter_23 (v := 1) rfl ?_
  refine fw_icmp_le C dX11_finishWithShorter_24 (tgt := 43) rfl (fun c5 => ?_) (fun c5 => ?_)
  · have h := ite_t c5 h
    refine fw_sub [0] (L' := [(0, .ref (ad 0 0 0))]) rfl ?_
    exact w_X11_finishWithShorter_b43 C hrt hG   _ h
  · have h := ite_f c5 h
    refine fw_aload_n C dX11_finishWithShorter_27 rfl 0 rfl ?_
    refine fw_get C (ci := 9) (Cn := RX11) (Tc := TX11) (N := 11) (j := 6) ly_X11_finishWithShorter_11 rfl (hG _ (List.mem_of_getElem? (i := 0) rfl)) (of0_0 _) (ce0 T ad _ _) (by decide) (cx_ts C _ fl_X11_finishWithShorter_71) (fun _ h => h) (v := .ref (ad 1 1 0)) rfl dX11_finishWithShorter_28 ?_
    refine fw_getN C (ci := 1) (Cn := RX3) (Tc := TX3) (N := 5) (j := 1) ly_X11_finishWithShorter_3 rfl (hG _ (List.mem_of_getElem? (i := 3) rfl)) (of1_0 _) (ce1 T ad _ _) (by decide) (Nst_use (cx_nst C) (w := .fieldLinkNest RX11 139 "RecipeScheduler$Kitchen" "state" "LRecipeScheduler$State;" "RecipeScheduler") 518 (by decide +kernel) rfl) (fun _ h => h) (v := .ref (ad 2 1 0)) rfl dX11_finishWithShorter_31 ?_
    refine fw_getN C (ci := 6) (Cn := RX8) (Tc := TX8) (N := 15) (j := 9) ly_X11_finishWithShorter_8 rfl (hG _ (List.mem_of_getElem? (i := 2) rfl)) (of2_0 _) (ce2 T ad _ _) (by decide) (Nst_use (cx_nst C) (w := .fieldLinkNest RX11 196 "RecipeScheduler$State" "duration" "[I" "RecipeScheduler") 461 (by decide +kernel) rfl) (fun _ h => h) (v := .ref (ad 2 1 1)) rfl dX11_finishWithShorter_34 ?_
    refine fw_iload_n C dX11_finishWithShorter_37 rfl 1 rfl ?_
    refine fw_dup2 C dX11_finishWithShorter_38 rfl rfl ?_
    refine fw_iald2 C (hG _ (List.mem_of_getElem? (i := 2) rfl)) (of2_1 _) (ca2_1 T ad _ _) b4 (Nat.le_of_ble_eq_true rfl) dX11_finishWithShorter_39 ?_
    refine fw_iconst C dX11_finishWithShorter_40 (v := 1) rfl ?_
    refine fw_isub C dX11_finishWithShorter_41 ?_
    obtain ⟨Y10, e11, h⟩ := lt_some h
    refine fw_iast2 C (hG _ (List.mem_of_getElem? (i := 2) rfl)) (of2_1 _) (ca2_1 T ad _) b4 (Nat.le_of_ble_eq_true rfl) dX11_finishWithShorter_42 ?_
    refine fw_mem e11 ?_
    refine fw_sub [0] (L' := [(0, .ref (ad 0 0 0))]) rfl ?_
    exact w_X11_finishWithShorter_b43 C hrt hG   _ h
end
set_option maxRecDepth 100000 in
set_option maxHeartbeats 4000000 in
theorem c_X11_finishWithShorter {l : Launch} {N0 : Nat} {T : Nat → ClassId} {D : va_G} {gr : List (Nat × Nat)} {ad : Nat → Nat → Nat → Nat} {Y : Mem} {a1 : Int32} {res : Int32 × Mem} (hG : ∀ q ∈ ([(0, 0), (2, 0), (2, 1), (1, 1), (1, 0)] ++ allG), q ∈ gr) (h : X11_finishWithShorter Y a1 = some res) : CI l yX11_finishWithShorter wsX11_finishWithShorter (Rm 5) N0 T D gr ad Y [.ref (ad 0 0 0), .int a1] (fun r Y1 => (r, Y1) = res) :=
  fw_body (by decide +kernel) rfl (Nat.le_of_ble_eq_true rfl) (fun p e s m below meth c C hrt => w_X11_finishWithShorter C hrt hG  h)
theorem ly_X11_bottleneck_11 : ∀ w ∈ u_ws RX11 TX11 11, w ∈ wsX11_bottleneck := by decide +kernel
theorem fl_X11_bottleneck_67 : Cond.fieldLink RX11 67 "RecipeScheduler" "now" "LRecipeScheduler$Kitchen;" ∈ wsX11_bottleneck := by decide +kernel
theorem ly_X11_bottleneck_3 : ∀ w ∈ u_ws RX3 TX3 5, w ∈ wsX11_bottleneck := by decide +kernel
theorem ly_X11_bottleneck_5 : ∀ w ∈ u_ws RX5 TX5 17, w ∈ wsX11_bottleneck := by decide +kernel
theorem ly_X11_bottleneck_4 : ∀ w ∈ u_ws RX4 TX4 3, w ∈ wsX11_bottleneck := by decide +kernel
theorem th_X11_bottleneck_74 : Cond.classLink RX11 250 "java/util/NoSuchElementException" ∈ wsX11_bottleneck ∧ Cond.initialized "java/util/NoSuchElementException" ∈ wsX11_bottleneck ∧ ∀ w ∈ vx_atS RX11 254 "java/util/NoSuchElementException" ["java/lang/RuntimeException", "java/lang/Exception"], w ∈ wsX11_bottleneck := by decide +kernel
theorem tg_4_254_250 : ∀ w ∈ Cond.classLink RX11 250 "java/util/NoSuchElementException" :: Cond.initialized "java/util/NoSuchElementException" :: vx_atS RX11 254 "java/util/NoSuchElementException" ["java/lang/RuntimeException", "java/lang/Exception"], vx_ot w = true := by decide +kernel
theorem ly_X11_bottleneck_8 : ∀ w ∈ u_ws RX8 TX8 15, w ∈ wsX11_bottleneck := by decide +kernel
section
variable {p : Program} {l : Launch} {e : Env} {s : State} {m : MethodId} {below : List Frame} {meth : Method} {c : Code} {N0 : Nat} {T : Nat → ClassId} {D : va_G} {gr : List (Nat × Nat)} {ad : Nat → Nat → Nat → Nat}
set_option maxRecDepth 100000 in
set_option maxHeartbeats 4000000 in
theorem w_X11_bottleneck_b63  (C : Cx p s m [.ref (ad 0 0 0)].toArray meth c cX11_bottleneck 5 wsX11_bottleneck RX11 N0 T D gr ad) (hrt : meth.sig.returnType = (some .int)) (hG : ∀ q ∈ ([(0, 0), (1, 0), (2, 0), (1, 1), (2, 1)] ++ allG), q ∈ gr) (hl : l.stackTraces = false) (hX : ∀ x ∈ c.exceptionTable.toList, False) {res : (Nat × Mem) ⊕ (Int32 × Mem)} {k6 : Mem → Int32 → Int32 → Int32 → Option ((Nat × Mem) ⊕ (Int32 × Mem))} (hk6 : ∀ (Y : Mem) (l3 : Int32) (l2 : Int32) (l1 : Int32), k6 Y l3 l2 l1 = some res → FW p l e (Rx 6 1) s m [.ref (ad 0 0 0)].toArray below meth c 5 N0 T D gr ad 0 0 (vx_MQ below (va_Qi (fun r Y1 => Sum.inr (r, Y1) = res) (WB T D gr ad) (fun q => N0 ≤ q)) (vx_X (fun u => Sum.inl u = res) (XB T D gr ad) (fun q => N0 ≤ q)) [.ref (ad 0 0 0)].toArray s 1 6 (fun q => N0 ≤ q)) Y 6 [(3, .int l3), (2, .int l2), (1, .int l1), (0, .ref (ad 0 0 0))] []) (Y : Mem) (l3 : Int32) (l2 : Int32) (l1 : Int32) (h : X11_bottleneck_b63  k6 Y l3 l2 l1 = some res) : FW p l e (Rx 6 1) s m [.ref (ad 0 0 0)].toArray below meth c 5 N0 T D gr ad 0 0 (vx_MQ below (va_Qi (fun r Y1 => Sum.inr (r, Y1) = res) (WB T D gr ad) (fun q => N0 ≤ q)) (vx_X (fun u => Sum.inl u = res) (XB T D gr ad) (fun q => N0 ≤ q)) [.ref (ad 0 0 0)].toArray s 1 6 (fun q => N0 ≤ q)) Y 63 [(3, .int l3), (2, .int l2), (1, .int l1), (0, .ref (ad 0 0 0))] [] := by
  unfold X11_bottleneck_b63 at h
  refine fw_iinc C dX11_bottleneck_63 (kk := 0) (v := l3 + 1) rfl rfl (by decide) (L' := [(3, .int (l3 + 1)), (2, .int l2), (1, .int l1), (0, .ref (ad 0 0 0))]) rfl ?_
  refine fw_goto C dX11_bottleneck_66 (tgt := 6) rfl ?_
  exact hk6 _ _ _ _ h
set_option maxRecDepth 100000 in
set_option maxHeartbeats 4000000 in
theorem w_X11_bottleneck_b58  (C : Cx p s m [.ref (ad 0 0 0)].toArray meth c cX11_bottleneck 5 wsX11_bottleneck RX11 N0 T D gr ad) (hrt : meth.sig.returnType = (some .int)) (hG : ∀ q ∈ ([(0, 0), (1, 0), (2, 0), (1, 1), (2, 1)] ++ allG), q ∈ gr) (hl : l.stackTraces = false) (hX : ∀ x ∈ c.exceptionTable.toList, False) {res : (Nat × Mem) ⊕ (Int32 × Mem)} {k6 : Mem → Int32 → Int32 → Int32 → Option ((Nat × Mem) ⊕ (Int32 × Mem))} (hk6 : ∀ (Y : Mem) (l3 : Int32) (l2 : Int32) (l1 : Int32), k6 Y l3 l2 l1 = some res → FW p l e (Rx 6 1) s m [.ref (ad 0 0 0)].toArray below meth c 5 N0 T D gr ad 0 0 (vx_MQ below (va_Qi (fun r Y1 => Sum.inr (r, Y1) = res) (WB T D gr ad) (fun q => N0 ≤ q)) (vx_X (fun u => Sum.inl u = res) (XB T D gr ad) (fun q => N0 ≤ q)) [.ref (ad 0 0 0)].toArray s 1 6 (fun q => N0 ≤ q)) Y 6 [(3, .int l3), (2, .int l2), (1, .int l1), (0, .ref (ad 0 0 0))] []) (Y : Mem) (l4 : Int32) (l3 : Int32) (h : X11_bottleneck_b58  k6 Y l4 l3 = some res) : FW p l e (Rx 6 1) s m [.ref (ad 0 0 0)].toArray below meth c 5 N0 T D gr ad 0 0 (vx_MQ below (va_Qi (fun r Y1 => Sum.inr (r, Y1) = res) (WB T D gr ad) (fun q => N0 ≤ q)) (vx_X (fun u => Sum.inl u = res) (XB T D gr ad) (fun q => N0 ≤ q)) [.ref (ad 0 0 0)].toArray s 1 6 (fun q => N0 ≤ q)) Y 58 [(4, .int l4), (3, .int l3), (0, .ref (ad 0 0 0))] [] := by
  unfold X11_bottleneck_b58 at h
  refine fw_iload_n C dX11_bottleneck_58 rfl 1 rfl ?_
  refine fw_istore_n C dX11_bottleneck_59 rfl (by decide) (L' := [(1, .int l3), (4, .int l4), (3, .int l3), (0, .ref (ad 0 0 0))]) rfl ?_
  refine fw_iload C dX11_bottleneck_60 1 rfl ?_
  refine fw_istore_n C dX11_bottleneck_62 rfl (by decide) (L' := [(2, .int l4), (1, .int l3), (4, .int l4), (3, .int l3), (0, .ref (ad 0 0 0))]) rfl ?_
  refine fw_sub [3, 0, 1, 4] (L' := [(3, .int l3), (2, .int l4), (1, .int l3), (0, .ref (ad 0 0 0))]) rfl ?_
  exact w_X11_bottleneck_b63 C hrt hG  hl hX hk6 _ _ _ _ h
set_option maxRecDepth 100000 in
set_option maxHeartbeats 4000000 in
theorem w_X11_bottleneck_b6  (C : Cx p s m [.ref (ad 0 0 0)].toArray meth c cX11_bottleneck 5 wsX11_bottleneck RX11 N0 T D gr ad) (hrt : meth.sig.returnType = (some .int)) (hG : ∀ q ∈ ([(0, 0), (1, 0), (2, 0), (1, 1), (2, 1)] ++ allG), q ∈ gr) (hl : l.stackTraces = false) (hX : ∀ x ∈ c.exceptionTable.toList, False) {res : (Nat × Mem) ⊕ (Int32 × Mem)} : ∀ (n : Nat) (Y : Mem) (l3 : Int32) (l2 : Int32) (l1 : Int32), X11_bottleneck_b6   n Y l3 l2 l1 = some res → FW p l e (Rx 6 1) s m [.ref (ad 0 0 0)].toArray below meth c 5 N0 T D gr ad 0 0 (vx_MQ below (va_Qi (fun r Y1 => Sum.inr (r, Y1) = res) (WB T D gr ad) (fun q => N0 ≤ q)) (vx_X (fun u => Sum.inl u = res) (XB T D gr ad) (fun q => N0 ≤ q)) [.ref (ad 0 0 0)].toArray s 1 6 (fun q => N0 ≤ q)) Y 6 [(3, .int l3), (2, .int l2), (1, .int l1), (0, .ref (ad 0 0 0))] [] := by
  intro n
  induction n with
  | zero =>
    intro Y l3 l2 l1 h
    unfold X11_bottleneck_b6 at h
    cases h
  | succ n ih =>
    intro Y l3 l2 l1 h
    unfold X11_bottleneck_b6 at h
    refine fw_iload_n C dX11_bottleneck_6 rfl 0 rfl ?_
    refine fw_aload_n C dX11_bottleneck_7 rfl 3 rfl ?_
    refine fw_get C (ci := 9) (Cn := RX11) (Tc := TX11) (N := 11) (j := 5) ly_X11_bottleneck_11 rfl (hG _ (List.mem_of_getElem? (i := 0) rfl)) (of0_0 _) (ce0 T ad _ _) (by decide) (cx_ts C _ fl_X11_bottleneck_67) (fun _ h => h) (v := .ref (ad 1 0 0)) rfl dX11_bottleneck_8 ?_
    refine fw_getN C (ci := 1) (Cn := RX3) (Tc := TX3) (N := 5) (j := 0) ly_X11_bottleneck_3 rfl (hG _ (List.mem_of_getElem? (i := 1) rfl)) (of1_0 _) (ce1 T ad _ _) (by decide) (Nst_use (cx_nst C) (w := .fieldLinkNest RX11 117 "RecipeScheduler$Kitchen" "recipe" "LRecipeScheduler$Recipe;" "RecipeScheduler") 516 (by decide +kernel) rfl) (fun _ h => h) (v := .ref (ad 3 ((Y 1 0 0 0).toNatClampNeg) 0)) rfl dX11_bottleneck_11 ?_
    obtain ⟨b1, h⟩ := gd_some h
    have b1 := of_decide_eq_true b1
    refine fw_getN C (ci := 3) (Cn := RX5) (Tc := TX5) (N := 17) (j := 7) ly_X11_bottleneck_5 rfl ((fun q hq => hG q (List.mem_append_right _ hq)) _ (allG_3 b1)) (of3_0 _) (ce3 T ad _ _) (by decide) (Nst_use (cx_nst C) (w := .fieldLinkNest RX11 126 "RecipeScheduler$Recipe" "steps" "LRecipeScheduler$Names;" "RecipeScheduler") 146 (by decide +kernel) rfl) (fun _ h => h) (v := .ref (ad 4 (2*((Y 1 0 0 0).toNatClampNeg)+1) 0)) rfl dX11_bottleneck_14 ?_
    obtain ⟨b2, h⟩ := gd_some h
    have b2 := of_decide_eq_true b2
    refine fw_getN C (ci := 2) (Cn := RX4) (Tc := TX4) (N := 3) (j := 2) ly_X11_bottleneck_4 rfl ((fun q hq => hG q (List.mem_append_right _ hq)) _ (allG_4b b2)) (of4_0 _) (ce4 T ad _ _) (by decide) (Nst_use (cx_nst C) (w := .fieldLinkNest RX11 130 "RecipeScheduler$Names" "count" "I" "RecipeScheduler") 113 (by decide +kernel) rfl) (fun _ h => h) (v := .int (Y 4 (2*((Y 1 0 0 0).toNatClampNeg)+1) 0 2)) rfl dX11_bottleneck_17 ?_
    refine fw_icmp_ge C dX11_bottleneck_20 (tgt := 69) rfl (fun c3 => ?_) (fun c3 => ?_)
    · have h := ite_t c3 h
      refine fw_iload_n C dX11_bottleneck_69 rfl 2 rfl ?_
      refine fw_iconst C dX11_bottleneck_70 (v := (-1)) rfl ?_
      refine fw_icmp_ne C dX11_bottleneck_71 (tgt := 85) rfl (fun c4 => ?_) (fun c4 => ?_)
      · have h := ite_f c4 h
        refine fw_iload_n C dX11_bottleneck_85 rfl 2 rfl ?_
        refine fw_xr (Nat.le_of_ble_eq_true rfl) (Nat.le_of_ble_eq_true rfl) ?_
        exact fw_iret C hrt Y (Option.some.inj h) (fun t ht => ht) dX11_bottleneck_86
      · have h := ite_t c4 h
        exact fw_throwSW C hl hX (cls := "java/util/NoSuchElementException") (names := ["java/lang/RuntimeException", "java/lang/Exception"]) 4 rfl (by decide +kernel) (by decide +kernel) (cx_ts C _ th_X11_bottleneck_74.1) (cx_ts C _ th_X11_bottleneck_74.2.1) ((cx_st C).2.1 _ (List.mem_of_getElem? (i := 18) rfl)) (fun w hw => cx_ts C _ (th_X11_bottleneck_74.2.2 w hw)) tg_4_254_250 dX11_bottleneck_74 dX11_bottleneck_77 dX11_bottleneck_78 dX11_bottleneck_81 dX11_bottleneck_84 (Nat.le_of_ble_eq_true rfl) (Nat.le_of_ble_eq_true rfl) (Nat.le_of_ble_eq_true rfl) (Nat.le_of_ble_eq_true rfl) (Nat.le_of_ble_eq_true rfl) (Nat.le_of_ble_eq_true rfl) (Option.some.inj h)
    · have h := ite_f c3 h
      refine fw_aload_n C dX11_bottleneck_23 rfl 3 rfl ?_
      refine fw_get C (ci := 9) (Cn := RX11) (Tc := TX11) (N := 11) (j := 5) ly_X11_bottleneck_11 rfl (hG _ (List.mem_of_getElem? (i := 0) rfl)) (of0_0 _) (ce0 T ad _ _) (by decide) (cx_ts C _ fl_X11_bottleneck_67) (fun _ h => h) (v := .ref (ad 1 0 0)) rfl dX11_bottleneck_24 ?_
      refine fw_getN C (ci := 1) (Cn := RX3) (Tc := TX3) (N := 5) (j := 1) ly_X11_bottleneck_3 rfl (hG _ (List.mem_of_getElem? (i := 1) rfl)) (of1_0 _) (ce1 T ad _ _) (by decide) (Nst_use (cx_nst C) (w := .fieldLinkNest RX11 139 "RecipeScheduler$Kitchen" "state" "LRecipeScheduler$State;" "RecipeScheduler") 518 (by decide +kernel) rfl) (fun _ h => h) (v := .ref (ad 2 0 0)) rfl dX11_bottleneck_27 ?_
      refine fw_getN C (ci := 6) (Cn := RX8) (Tc := TX8) (N := 15) (j := 7) ly_X11_bottleneck_8 rfl (hG _ (List.mem_of_getElem? (i := 2) rfl)) (of2_0 _) (ce2 T ad _ _) (by decide) (Nst_use (cx_nst C) (w := .fieldLinkNest RX11 261 "RecipeScheduler$State" "done" "I" "RecipeScheduler") 456 (by decide +kernel) rfl) (fun _ h => h) (v := .int (Y 2 0 0 7)) rfl dX11_bottleneck_30 ?_
      refine fw_iload_n C dX11_bottleneck_33 rfl 0 rfl ?_
      obtain ⟨r5, q6, h⟩ := bd1_some h
      refine fw_callSi C (As := [.int (Y 2 0 0 7), .int l3]) (c_X11_contains ga0 q6) (va_cwS 2 (cx_ts C) gX11_bottleneck_X11_contains rfl rfl rfl (by decide +kernel) ⟨Nat.le_of_ble_eq_true rfl, Nat.le_of_ble_eq_true rfl⟩) rfl (st := []) rfl (Nat.le_of_ble_eq_true rfl) ⟨Nat.le_refl 0, Nat.le_refl 0⟩ dX11_bottleneck_34 (pp2 ?_)
      refine fw_if_ne C dX11_bottleneck_37 (tgt := 63) rfl (fun c7 => ?_) (fun c7 => ?_)
      · have h := ite_f c7 h
        exact w_X11_bottleneck_b63 C hrt hG  hl hX ih _ _ _ _ h
      · have h := ite_t c7 h
        refine fw_aload_n C dX11_bottleneck_40 rfl 3 rfl ?_
        refine fw_iload_n C dX11_bottleneck_41 rfl 0 rfl ?_
        obtain ⟨r8, Y10, q9, h⟩ := bd2_some h
        refine fw_callVi C (ci := 9) (Cn := RX11) (Tc := TX11) (N := 11) (As := [.int l3]) (c_X11_finishWithShorter (gac (hG _ (List.mem_of_getElem? (i := 0) rfl)) (gac (hG _ (List.mem_of_getElem? (i := 2) rfl)) (gac (hG _ (List.mem_of_getElem? (i := 4) rfl)) (gac (hG _ (List.mem_of_getElem? (i := 3) rfl)) (gac (hG _ (List.mem_of_getElem? (i := 1) rfl)) (fun q hq => hG q (List.mem_append_right _ hq))))))) q9) (cwV 1 (cx_ts C) gX11_bottleneck_X11_finishWithShorter rfl rfl rfl (by decide +kernel) ⟨Nat.le_of_ble_eq_true rfl, Nat.le_of_ble_eq_true rfl⟩) rfl (hG _ (List.mem_of_getElem? (i := 0) rfl)) (of0_0 _) (ce0 T ad _ _) rfl (st := []) rfl (Nat.le_of_ble_eq_true rfl) ⟨Nat.le_refl 0, Nat.le_refl 0⟩ dX11_bottleneck_42 (ppw ?_)
        refine fw_istore C dX11_bottleneck_45 (by decide) (L' := [(4, .int r8), (3, .int l3), (2, .int l2), (1, .int l1), (0, .ref (ad 0 0 0))]) rfl ?_
        refine fw_iload_n C dX11_bottleneck_47 rfl 3 rfl ?_
        refine fw_iconst C dX11_bottleneck_48 (v := (-1)) rfl ?_
        refine fw_icmp_eq C dX11_bottleneck_49 (tgt := 58) rfl (fun c11 => ?_) (fun c11 => ?_)
        · have h := ite_t c11 h
          refine fw_sub [0, 1, 4] (L' := [(4, .int r8), (3, .int l3), (0, .ref (ad 0 0 0))]) rfl ?_
          exact w_X11_bottleneck_b58 C hrt hG  hl hX ih _ _ _ h
        · have h := ite_f c11 h
          refine fw_iload C dX11_bottleneck_52 0 rfl ?_
          refine fw_iload_n C dX11_bottleneck_54 rfl 2 rfl ?_
          refine fw_icmp_ge C dX11_bottleneck_55 (tgt := 63) rfl (fun c12 => ?_) (fun c12 => ?_)
          · have h := ite_t c12 h
            refine fw_sub [1, 2, 3, 4] (L' := [(3, .int l3), (2, .int l2), (1, .int l1), (0, .ref (ad 0 0 0))]) rfl ?_
            exact w_X11_bottleneck_b63 C hrt hG  hl hX ih _ _ _ _ h
          · have h := ite_f c12 h
            refine fw_sub [0, 1, 4] (L' := [(4, .int r8), (3, .int l3), (0, .ref (ad 0 0 0))]) rfl ?_
            exact w_X11_bottleneck_b58 C hrt hG  hl hX ih _ _ _ h
set_option maxRecDepth 100000 in
set_option maxHeartbeats 4000000 in
theorem w_X11_bottleneck {Y : Mem} (C : Cx p s m [.ref (ad 0 0 0)].toArray meth c cX11_bottleneck 5 wsX11_bottleneck RX11 N0 T D gr ad) (hrt : meth.sig.returnType = (some .int)) (hG : ∀ q ∈ ([(0, 0), (1, 0), (2, 0), (1, 1), (2, 1)] ++ allG), q ∈ gr) (hl : l.stackTraces = false) (hX : ∀ x ∈ c.exceptionTable.toList, False) {res : (Nat × Mem) ⊕ (Int32 × Mem)} (h : X11_bottleneck Y = some res) : FW p l e (Rx 6 1) s m [.ref (ad 0 0 0)].toArray below meth c 5 N0 T D gr ad 0 0 (vx_MQ below (va_Qi (fun r Y1 => Sum.inr (r, Y1) = res) (WB T D gr ad) (fun q => N0 ≤ q)) (vx_X (fun u => Sum.inl u = res) (XB T D gr ad) (fun q => N0 ≤ q)) [.ref (ad 0 0 0)].toArray s 1 6 (fun q => N0 ≤ q)) Y 0 [(0, .ref (ad 0 0 0))] [] := by
  unfold X11_bottleneck at h
  refine fw_iconst C dX11_bottleneck_0 (v := (-1)) rfl ?_
  refine fw_istore_n C dX11_bottleneck_1 rfl (by decide) (L' := [(1, .int ((-1))), (0, .ref (ad 0 0 0))]) rfl ?_
  refine fw_iconst C dX11_bottleneck_2 (v := 0) rfl ?_
  refine fw_istore_n C dX11_bottleneck_3 rfl (by decide) (L' := [(2, .int 0), (1, .int ((-1))), (0, .ref (ad 0 0 0))]) rfl ?_
  refine fw_iconst C dX11_bottleneck_4 (v := 0) rfl ?_
  refine fw_istore_n C dX11_bottleneck_5 rfl (by decide) (L' := [(3, .int 0), (2, .int 0), (1, .int ((-1))), (0, .ref (ad 0 0 0))]) rfl ?_
  exact w_X11_bottleneck_b6 C hrt hG  hl hX  _ _ _ _ _ h
end
set_option maxRecDepth 100000 in
set_option maxHeartbeats 4000000 in
theorem c_X11_bottleneck {l : Launch} {N0 : Nat} {T : Nat → ClassId} {D : va_G} {gr : List (Nat × Nat)} {ad : Nat → Nat → Nat → Nat} {Y : Mem} {res : (Nat × Mem) ⊕ (Int32 × Mem)} (hl : l.stackTraces = false) (hG : ∀ q ∈ ([(0, 0), (1, 0), (2, 0), (1, 1), (2, 1)] ++ allG), q ∈ gr) (h : X11_bottleneck Y = some res) : CXi l yX11_bottleneck wsX11_bottleneck (Rx 6 1) N0 T D gr ad Y [.ref (ad 0 0 0)] 1 res :=
  fw_xbody (by decide +kernel) rfl (Nat.le_of_ble_eq_true rfl) (fun p e s m below meth c C hrt hX => w_X11_bottleneck C hrt hG hl hX h)
