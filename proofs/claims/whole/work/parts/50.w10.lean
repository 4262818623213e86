theorem ly_X11_append_11 : ∀ w ∈ u_ws RX11 TX11 11, w ∈ wsX11_append := by decide +kernel
theorem fl_X11_append_41 : Cond.fieldLink RX11 41 "RecipeScheduler" "input" "LRecipeScheduler$Text;" ∈ wsX11_append := by decide +kernel
theorem ly_X11_append_9 : ∀ w ∈ u_ws RX9 TX9 2, w ∈ wsX11_append := by decide +kernel
theorem th_X11_append_13 : Cond.classLink RX11 96 "java/lang/IllegalStateException" ∈ wsX11_append ∧ Cond.initialized "java/lang/IllegalStateException" ∈ wsX11_append ∧ ∀ w ∈ vx_atS RX11 100 "java/lang/IllegalStateException" ["java/lang/RuntimeException", "java/lang/Exception"], w ∈ wsX11_append := by decide +kernel
section
variable {p : Program} {l : Launch} {e : Env} {s : State} {m : MethodId} {below : List Frame} {meth : Method} {c : Code} {N0 : Nat} {T : Nat → ClassId} {D : va_G} {gr : List (Nat × Nat)} {ad : Nat → Nat → Nat → Nat}
set_option maxRecDepth 100000 in
set_option maxHeartbeats 4000000 in
theorem w_X11_append {Y : Mem} {a1 : Int32} {a2 : Int32} {a3 : Int32} {a4 : Int32} {a5 : Int32} (C : Cx p s m [.ref (ad 0 0 0), .int a1, .int a2, .int a3, .int a4, .int a5].toArray meth c cX11_append 6 wsX11_append RX11 N0 T D gr ad) (hrt : meth.sig.returnType = (some .int)) (hG : ∀ q ∈ [(0, 0), (5, 0)], q ∈ gr) (hl : l.stackTraces = false) (hX : ∀ x ∈ c.exceptionTable.toList, False) {res : (Nat × Mem) ⊕ (Int32 × Mem)} (h : X11_append Y a1 a2 a3 a4 a5 = some res) : FW p l e (Rx 6 1) s m [.ref (ad 0 0 0), .int a1, .int a2, .int a3, .int a4, .int a5].toArray below meth c 6 N0 T D gr ad 0 0 (vx_MQ below (va_Qi (fun r Y1 => Sum.inr (r, Y1) = res) (WB T D gr ad) (fun q => N0 ≤ q)) (vx_X (fun u => Sum.inl u = res) (XB T D gr ad) (fun q => N0 ≤ q)) [.ref (ad 0 0 0), .int a1, .int a2, .int a3, .int a4, .int a5].toArray s 1 6 (fun q => N0 ≤ q)) Y 0 [(0, .ref (ad 0 0 0)), (1, .int a1), (2, .int a2), (3, .int a3), (4, .int a4), (5, .int a5)] [] := by
  unfold X11_append at h
  refine fw_aload_n C dX11_append_0 rfl 0 rfl ?_
  refine fw_get C (ci := 9) (Cn := RX11) (Tc := TX11) (N := 11) (j := 0) ly_X11_append_11 rfl (hG _ (List.mem_of_getElem? (i := 0) rfl)) (of0_0 _) (ce0 T ad _ _) (by decide) (cx_ts C _ fl_X11_append_41) (fun _ h => h) (v := .ref (ad 5 0 0)) rfl dX11_append_1 ?_
  refine fw_getN C (ci := 7) (Cn := RX9) (Tc := TX9) (N := 2) (j := 1) ly_X11_append_9 rfl (hG _ (List.mem_of_getElem? (i := 1) rfl)) (of5_0 _) (ce5 T ad _ _) (by decide) (Nst_use (cx_nst C) (w := .fieldLinkNest RX11 37 "RecipeScheduler$Text" "length" "I" "RecipeScheduler") 46 (by decide +kernel) rfl) (fun _ h => h) (v := .int (Y 5 0 0 1)) rfl dX11_append_4 ?_
  refine fw_sipush C dX11_append_7 (v := 680) rfl ?_
  refine fw_icmp_le C dX11_append_10 (tgt := 23) rfl (fun c1 => ?_) (fun c1 => ?_)
  · have h := ite_t c1 h
    refine fw_aload_n C dX11_append_23 rfl 0 rfl ?_
    refine fw_get C (ci := 9) (Cn := RX11) (Tc := TX11) (N := 11) (j := 0) ly_X11_append_11 rfl (hG _ (List.mem_of_getElem? (i := 0) rfl)) (of0_0 _) (ce0 T ad _ _) (by decide) (cx_ts C _ fl_X11_append_41) (fun _ h => h) (v := .ref (ad 5 0 0)) rfl dX11_append_24 ?_
    refine fw_iload_n C dX11_append_27 rfl 1 rfl ?_
    obtain ⟨Y4, q3, h⟩ := bd1_some h
    refine fw_callVv C (ci := 7) (Cn := RX9) (Tc := TX9) (N := 2) (As := [.int a1]) (c_X9_addFourBytes (gac (hG _ (List.mem_of_getElem? (i := 1) rfl)) ga0) q3) (cwV 1 (cx_ts C) gX11_append_X9_addFourBytes rfl rfl rfl (by decide +kernel) ⟨Nat.le_of_ble_eq_true rfl, Nat.le_of_ble_eq_true rfl⟩) rfl (hG _ (List.mem_of_getElem? (i := 1) rfl)) (of5_0 _) (ce5 T ad _ _) rfl (st := []) rfl (Nat.le_of_ble_eq_true rfl) ⟨Nat.le_refl 0, Nat.le_refl 0⟩ dX11_append_28 (ppv ?_)
    refine fw_aload_n C dX11_append_31 rfl 0 rfl ?_
    refine fw_get C (ci := 9) (Cn := RX11) (Tc := TX11) (N := 11) (j := 0) ly_X11_append_11 rfl (hG _ (List.mem_of_getElem? (i := 0) rfl)) (of0_0 _) (ce0 T ad _ _) (by decide) (cx_ts C _ fl_X11_append_41) (fun _ h => h) (v := .ref (ad 5 0 0)) rfl dX11_append_32 ?_
    refine fw_iload_n C dX11_append_35 rfl 2 rfl ?_
    obtain ⟨Y7, q6, h⟩ := bd1_some h
    refine fw_callVv C (ci := 7) (Cn := RX9) (Tc := TX9) (N := 2) (As := [.int a2]) (c_X9_addFourBytes (gac (hG _ (List.mem_of_getElem? (i := 1) rfl)) ga0) q6) (cwV 1 (cx_ts C) gX11_append_X9_addFourBytes rfl rfl rfl (by decide +kernel) ⟨Nat.le_of_ble_eq_true rfl, Nat.le_of_ble_eq_true rfl⟩) rfl (hG _ (List.mem_of_getElem? (i := 1) rfl)) (of5_0 _) (ce5 T ad _ _) rfl (st := []) rfl (Nat.le_of_ble_eq_true rfl) ⟨Nat.le_refl 0, Nat.le_refl 0⟩ dX11_append_36 (ppv ?_)
    refine fw_aload_n C dX11_append_39 rfl 0 rfl ?_
    refine fw_get C (ci := 9) (Cn := RX11) (Tc := TX11) (N := 11) (j := 0) ly_X11_append_11 rfl (hG _ (List.mem_of_getElem? (i := 0) rfl)) (of0_0 _) (ce0 T ad _ _) (by decide) (cx_ts C _ fl_X11_append_41) (fun _ h => h) (v := .ref (ad 5 0 0)) rfl dX11_append_40 ?_
    refine fw_iload_n C dX11_append_43 rfl 3 rfl ?_
    obtain ⟨Y10, q9, h⟩ := bd1_some h
    refine fw_callVv C (ci := 7) (Cn := RX9) (Tc := TX9) (N := 2) (As := [.int a3]) (c_X9_addFourBytes (gac (hG _ (List.mem_of_getElem? (i := 1) rfl)) ga0) q9) (cwV 1 (cx_ts C) gX11_append_X9_addFourBytes rfl rfl rfl (by decide +kernel) ⟨Nat.le_of_ble_eq_true rfl, Nat.le_of_ble_eq_true rfl⟩) rfl (hG _ (List.mem_of_getElem? (i := 1) rfl)) (of5_0 _) (ce5 T ad _ _) rfl (st := []) rfl (Nat.le_of_ble_eq_true rfl) ⟨Nat.le_refl 0, Nat.le_refl 0⟩ dX11_append_44 (ppv ?_)
    refine fw_aload_n C dX11_append_47 rfl 0 rfl ?_
    refine fw_get C (ci := 9) (Cn := RX11) (Tc := TX11) (N := 11) (j := 0) ly_X11_append_11 rfl (hG _ (List.mem_of_getElem? (i := 0) rfl)) (of0_0 _) (ce0 T ad _ _) (by decide) (cx_ts C _ fl_X11_append_41) (fun _ h => h) (v := .ref (ad 5 0 0)) rfl dX11_append_48 ?_
    refine fw_iload C dX11_append_51 4 rfl ?_
    obtain ⟨Y13, q12, h⟩ := bd1_some h
    refine fw_callVv C (ci := 7) (Cn := RX9) (Tc := TX9) (N := 2) (As := [.int a4]) (c_X9_addFourBytes (gac (hG _ (List.mem_of_getElem? (i := 1) rfl)) ga0) q12) (cwV 1 (cx_ts C) gX11_append_X9_addFourBytes rfl rfl rfl (by decide +kernel) ⟨Nat.le_of_ble_eq_true rfl, Nat.le_of_ble_eq_true rfl⟩) rfl (hG _ (List.mem_of_getElem? (i := 1) rfl)) (of5_0 _) (ce5 T ad _ _) rfl (st := []) rfl (Nat.le_of_ble_eq_true rfl) ⟨Nat.le_refl 0, Nat.le_refl 0⟩ dX11_append_53 (ppv ?_)
    refine fw_aload_n C dX11_append_56 rfl 0 rfl ?_
    refine fw_get C (ci := 9) (Cn := RX11) (Tc := TX11) (N := 11) (j := 0) ly_X11_append_11 rfl (hG _ (List.mem_of_getElem? (i := 0) rfl)) (of0_0 _) (ce0 T ad _ _) (by decide) (cx_ts C _ fl_X11_append_41) (fun _ h => h) (v := .ref (ad 5 0 0)) rfl dX11_append_57 ?_
    refine fw_iload C dX11_append_60 5 rfl ?_
    obtain ⟨Y16, q15, h⟩ := bd1_some h
    refine fw_callVv C (ci := 7) (Cn := RX9) (Tc := TX9) (N := 2) (As := [.int a5]) (c_X9_addFourBytes (gac (hG _ (List.mem_of_getElem? (i := 1) rfl)) ga0) q15) (cwV 1 (cx_ts C) gX11_append_X9_addFourBytes rfl rfl rfl (by decide +kernel) ⟨Nat.le_of_ble_eq_true rfl, Nat.le_of_ble_eq_true rfl⟩) rfl (hG _ (List.mem_of_getElem? (i := 1) rfl)) (of5_0 _) (ce5 T ad _ _) rfl (st := []) rfl (Nat.le_of_ble_eq_true rfl) ⟨Nat.le_refl 0, Nat.le_refl 0⟩ dX11_append_62 (ppv ?_)
    refine fw_aload_n C dX11_append_65 rfl 0 rfl ?_
    refine fw_get C (ci := 9) (Cn := RX11) (Tc := TX11) (N := 11) (j := 0) ly_X11_append_11 rfl (hG _ (List.mem_of_getElem? (i := 0) rfl)) (of0_0 _) (ce0 T ad _ _) (by decide) (cx_ts C _ fl_X11_append_41) (fun _ h => h) (v := .ref (ad 5 0 0)) rfl dX11_append_66 ?_
    refine fw_getN C (ci := 7) (Cn := RX9) (Tc := TX9) (N := 2) (j := 1) ly_X11_append_9 rfl (hG _ (List.mem_of_getElem? (i := 1) rfl)) (of5_0 _) (ce5 T ad _ _) (by decide) (Nst_use (cx_nst C) (w := .fieldLinkNest RX11 37 "RecipeScheduler$Text" "length" "I" "RecipeScheduler") 46 (by decide +kernel) rfl) (fun _ h => h) (v := .int (Y16 5 0 0 1)) rfl dX11_append_69 ?_
    refine fw_xr (Nat.le_of_ble_eq_true rfl) (Nat.le_of_ble_eq_true rfl) ?_
    exact fw_iret C hrt Y16 (Option.some.inj h) (fun t ht => ht) dX11_append_72
  · have h := ite_f c1 h
    exact fw_throwS C hl hX (cls := "java/lang/IllegalStateException") (names := ["java/lang/RuntimeException", "java/lang/Exception"]) 1 rfl (by decide +kernel) (by decide +kernel) (cx_ts C _ th_X11_append_13.1) (cx_ts C _ th_X11_append_13.2.1) ((cx_st C).2.1 _ (List.mem_of_getElem? (i := 8) rfl)) (fun w hw => cx_ts C _ (th_X11_append_13.2.2 w hw)) tg_1_100_96 dX11_append_13 dX11_append_16 dX11_append_17 dX11_append_19 dX11_append_22 (Nat.le_of_ble_eq_true rfl) (Nat.le_of_ble_eq_true rfl) (Nat.le_of_ble_eq_true rfl) (Nat.le_of_ble_eq_true rfl) (Nat.le_of_ble_eq_true rfl) (Nat.le_of_ble_eq_true rfl) (Option.some.inj h)
end
set_option maxRecDepth 100000 in
set_option maxHeartbeats 4000000 in
theorem c_X11_append {l : Launch} {N0 : Nat} {T : Nat → ClassId} {D : va_G} {gr : List (Nat × Nat)} {ad : Nat → Nat → Nat → Nat} {Y : Mem} {a1 : Int32} {a2 : Int32} {a3 : Int32} {a4 : Int32} {a5 : Int32} {res : (Nat × Mem) ⊕ (Int32 × Mem)} (hl : l.stackTraces = false) (hG : ∀ q ∈ [(0, 0), (5, 0)], q ∈ gr) (h : X11_append Y a1 a2 a3 a4 a5 = some res) : CXi l yX11_append wsX11_append (Rx 6 1) N0 T D gr ad Y [.ref (ad 0 0 0), .int a1, .int a2, .int a3, .int a4, .int a5] 1 res :=
  fw_xbody (by decide +kernel) rfl (Nat.le_of_ble_eq_true rfl) (fun p e s m below meth c C hrt hX => w_X11_append C hrt hG hl hX h)
theorem ly_X3_occupants_3 : ∀ w ∈ u_ws RX3 TX3 5, w ∈ wsX3_occupants := by decide +kernel
theorem fl_X3_occupants_28 : Cond.fieldLink RX3 28 "RecipeScheduler$Kitchen" "recipe" "LRecipeScheduler$Recipe;" ∈ wsX3_occupants := by decide +kernel
theorem ly_X3_occupants_5 : ∀ w ∈ u_ws RX5 TX5 17, w ∈ wsX3_occupants := by decide +kernel
theorem fl_X3_occupants_12 : Cond.fieldLink RX3 12 "RecipeScheduler$Kitchen" "state" "LRecipeScheduler$State;" ∈ wsX3_occupants := by decide +kernel
theorem ly_X3_occupants_8 : ∀ w ∈ u_ws RX8 TX8 15, w ∈ wsX3_occupants := by decide +kernel
theorem ly_X3_occupants_4 : ∀ w ∈ u_ws RX4 TX4 3, w ∈ wsX3_occupants := by decide +kernel
section
variable {p : Program} {l : Launch} {e : Env} {s : State} {m : MethodId} {below : List Frame} {meth : Method} {c : Code} {N0 : Nat} {T : Nat → ClassId} {D : va_G} {gr : List (Nat × Nat)} {ad : Nat → Nat → Nat → Nat}
set_option maxRecDepth 100000 in
set_option maxHeartbeats 4000000 in
theorem w_X3_occupants_b99 {Y : Mem} {g0 : Nat} {a1 : Int32} (C : Cx p s m [.ref (ad 1 g0 0), .int a1].toArray meth c cX3_occupants 7 wsX3_occupants RX3 N0 T D gr ad) (hrt : meth.sig.returnType = (some .int)) (hG : ∀ q ∈ ([(1, g0), (2, g0)] ++ allG), q ∈ gr) {res : Int32} {k40 : Int32 → Int32 → Int32 → Int32 → Option (Int32)} (hk40 : ∀ (l5 : Int32) (l4 : Int32) (l3 : Int32) (l2 : Int32), k40 l5 l4 l3 l2 = some res → FW p l e (Rm 0) s m [.ref (ad 1 g0 0), .int a1].toArray below meth c 7 N0 T D gr ad 0 0 (MQ below (va_Qi (fun r Y1 => r = res ∧ Y1 = Y) (WB T D gr ad) (fun q => N0 ≤ q)) [.ref (ad 1 g0 0), .int a1].toArray s 0 0 (fun q => N0 ≤ q)) Y 40 [(5, .int l5), (4, .int l4), (3, .int l3), (2, .int l2), (0, .ref (ad 1 g0 0))] []) (l5 : Int32) (l4 : Int32) (l3 : Int32) (l2 : Int32) (h : X3_occupants_b99 Y g0 a1 k40 l5 l4 l3 l2 = some res) : FW p l e (Rm 0) s m [.ref (ad 1 g0 0), .int a1].toArray below meth c 7 N0 T D gr ad 0 0 (MQ below (va_Qi (fun r Y1 => r = res ∧ Y1 = Y) (WB T D gr ad) (fun q => N0 ≤ q)) [.ref (ad 1 g0 0), .int a1].toArray s 0 0 (fun q => N0 ≤ q)) Y 99 [(5, .int l5), (4, .int l4), (3, .int l3), (2, .int l2), (0, .ref (ad 1 g0 0))] [] := by
  unfold X3_occupants_b99 at h
  refine fw_iinc C dX3_occupants_99 (kk := 0) (v := l5 + 1) rfl rfl (by decide) (L' := [(5, .int (l5 + 1)), (4, .int l4), (3, .int l3), (2, .int l2), (0, .ref (ad 1 g0 0))]) rfl ?_
  refine fw_goto C dX3_occupants_102 (tgt := 40) rfl ?_
  exact hk40 _ _ _ _ h
set_option maxRecDepth 100000 in
set_option maxHeartbeats 4000000 in
theorem w_X3_occupants_b40 {Y : Mem} {g0 : Nat} {a1 : Int32} (C : Cx p s m [.ref (ad 1 g0 0), .int a1].toArray meth c cX3_occupants 7 wsX3_occupants RX3 N0 T D gr ad) (hrt : meth.sig.returnType = (some .int)) (hG : ∀ q ∈ ([(1, g0), (2, g0)] ++ allG), q ∈ gr) {res : Int32} : ∀ (n : Nat) (l5 : Int32) (l4 : Int32) (l3 : Int32) (l2 : Int32), X3_occupants_b40 Y g0 a1  n l5 l4 l3 l2 = some res → FW p l e (Rm 0) s m [.ref (ad 1 g0 0), .int a1].toArray below meth c 7 N0 T D gr ad 0 0 (MQ below (va_Qi (fun r Y1 => r = res ∧ Y1 = Y) (WB T D gr ad) (fun q => N0 ≤ q)) [.ref (ad 1 g0 0), .int a1].toArray s 0 0 (fun q => N0 ≤ q)) Y 40 [(5, .int l5), (4, .int l4), (3, .int l3), (2, .int l2), (0, .ref (ad 1 g0 0))] [] := by
  intro n
  induction n with
  | zero =>
    intro l5 l4 l3 l2 h
    unfold X3_occupants_b40 at h
    cases h
  | succ n ih =>
    intro l5 l4 l3 l2 h
    unfold X3_occupants_b40 at h
    refine fw_iload C dX3_occupants_40 0 rfl ?_
    refine fw_aload_n C dX3_occupants_42 rfl 4 rfl ?_
    refine fw_get C (ci := 1) (Cn := RX3) (Tc := TX3) (N := 5) (j := 0) ly_X3_occupants_3 rfl (hG _ (List.mem_of_getElem? (i := 0) rfl)) (of1_0 _) (ce1 T ad _ _) (by decide) (cx_ts C _ fl_X3_occupants_28) (fun _ h => h) (v := .ref (ad 3 ((Y 1 g0 0 0).toNatClampNeg) 0)) rfl dX3_occupants_43 ?_
    obtain ⟨b9, h⟩ := gd_some h
    have b9 := of_decide_eq_true b9
    refine fw_getN C (ci := 3) (Cn := RX5) (Tc := TX5) (N := 17) (j := 7) ly_X3_occupants_5 rfl ((fun q hq => hG q (List.mem_append_right _ hq)) _ (allG_3 b9)) (of3_0 _) (ce3 T ad _ _) (by decide) (Nst_use (cx_nst C) (w := .fieldLinkNest RX3 91 "RecipeScheduler$Recipe" "steps" "LRecipeScheduler$Names;" "RecipeScheduler") 148 (by decide +kernel) rfl) (fun _ h => h) (v := .ref (ad 4 (2*((Y 1 g0 0 0).toNatClampNeg)+1) 0)) rfl dX3_occupants_46 ?_
    obtain ⟨b10, h⟩ := gd_some h
    have b10 := of_decide_eq_true b10
    refine fw_getN C (ci := 2) (Cn := RX4) (Tc := TX4) (N := 3) (j := 2) ly_X3_occupants_4 rfl ((fun q hq => hG q (List.mem_append_right _ hq)) _ (allG_4b b10)) (of4_0 _) (ce4 T ad _ _) (by decide) (Nst_use (cx_nst C) (w := .fieldLinkNest RX3 95 "RecipeScheduler$Names" "count" "I" "RecipeScheduler") 114 (by decide +kernel) rfl) (fun _ h => h) (v := .int (Y 4 (2*((Y 1 g0 0 0).toNatClampNeg)+1) 0 2)) rfl dX3_occupants_49 ?_
    refine fw_icmp_ge C dX3_occupants_52 (tgt := 105) rfl (fun c11 => ?_) (fun c11 => ?_)
    · have h := ite_t c11 h
      refine fw_iload_n C dX3_occupants_105 rfl 2 rfl ?_
      exact fw_iret C hrt Y ⟨Option.some.inj h, rfl⟩ (fun t ht => ht) dX3_occupants_106
    · have h := ite_f c11 h
      refine fw_iconst C dX3_occupants_55 (v := 1) rfl ?_
      refine fw_iload C dX3_occupants_56 0 rfl ?_
      refine fw_ishl C dX3_occupants_58 ?_
      obtain ⟨v12, e13, h⟩ := lt_some h
      refine fw_top (v' := .int v12) (by rw [e13]) ?_
      refine fw_istore C dX3_occupants_59 (by decide) (L' := [(6, .int v12), (5, .int l5), (4, .int l4), (3, .int l3), (2, .int l2), (0, .ref (ad 1 g0 0))]) rfl ?_
      refine fw_iload_n C dX3_occupants_61 rfl 4 rfl ?_
      refine fw_aload_n C dX3_occupants_62 rfl 5 rfl ?_
      refine fw_get C (ci := 1) (Cn := RX3) (Tc := TX3) (N := 5) (j := 1) ly_X3_occupants_3 rfl (hG _ (List.mem_of_getElem? (i := 0) rfl)) (of1_0 _) (ce1 T ad _ _) (by decide) (cx_ts C _ fl_X3_occupants_12) (fun _ h => h) (v := .ref (ad 2 g0 0)) rfl dX3_occupants_63 ?_
      refine fw_getN C (ci := 6) (Cn := RX8) (Tc := TX8) (N := 15) (j := 7) ly_X3_occupants_8 rfl (hG _ (List.mem_of_getElem? (i := 1) rfl)) (of2_0 _) (ce2 T ad _ _) (by decide) (Nst_use (cx_nst C) (w := .fieldLinkNest RX3 47 "RecipeScheduler$State" "done" "I" "RecipeScheduler") 455 (by decide +kernel) rfl) (fun _ h => h) (v := .int (Y 2 g0 0 7)) rfl dX3_occupants_66 ?_
      refine fw_iand C dX3_occupants_69 ?_
      refine fw_iload C dX3_occupants_70 0 rfl ?_
      refine fw_iand C dX3_occupants_72 ?_
      refine fw_if_eq C dX3_occupants_73 (tgt := 99) rfl (fun c14 => ?_) (fun c14 => ?_)
      · have h := ite_t c14 h
        refine fw_sub [1, 2, 3, 4, 5] (L' := [(5, .int l5), (4, .int l4), (3, .int l3), (2, .int l2), (0, .ref (ad 1 g0 0))]) rfl ?_
        exact w_X3_occupants_b99 C hrt hG  ih _ _ _ _ h
      · have h := ite_f c14 h
        refine fw_aload_n C dX3_occupants_76 rfl 5 rfl ?_
        refine fw_get C (ci := 1) (Cn := RX3) (Tc := TX3) (N := 5) (j := 0) ly_X3_occupants_3 rfl (hG _ (List.mem_of_getElem? (i := 0) rfl)) (of1_0 _) (ce1 T ad _ _) (by decide) (cx_ts C _ fl_X3_occupants_28) (fun _ h => h) (v := .ref (ad 3 ((Y 1 g0 0 0).toNatClampNeg) 0)) rfl dX3_occupants_77 ?_
        refine fw_getN C (ci := 3) (Cn := RX5) (Tc := TX5) (N := 17) (j := 14) ly_X3_occupants_5 rfl ((fun q hq => hG q (List.mem_append_right _ hq)) _ (allG_3 b9)) (of3_0 _) (ce3 T ad _ _) (by decide) (Nst_use (cx_nst C) (w := .fieldLinkNest RX3 141 "RecipeScheduler$Recipe" "successorSet" "[I" "RecipeScheduler") 171 (by decide +kernel) rfl) (fun _ h => h) (v := .ref (ad 3 (((Y 1 g0 0 0).toNatClampNeg)) 9)) rfl dX3_occupants_80 ?_
        refine fw_iload C dX3_occupants_83 1 rfl ?_
        obtain ⟨b15, h⟩ := gd_some h
        refine fw_iald2 C ((fun q hq => hG q (List.mem_append_right _ hq)) _ (allG_3 b9)) (of3_9 _) (ca3_9 T ad _ _) b15 (Nat.le_of_ble_eq_true rfl) dX3_occupants_85 ?_
        refine fw_iload C dX3_occupants_86 2 rfl ?_
        refine fw_iconst C dX3_occupants_88 (v := (-1)) rfl ?_
        refine fw_ixor C dX3_occupants_89 ?_
        refine fw_iand C dX3_occupants_90 ?_
        refine fw_if_eq C dX3_occupants_91 (tgt := 99) rfl (fun c16 => ?_) (fun c16 => ?_)
        · have h := ite_t c16 h
          refine fw_sub [1, 2, 3, 4, 5] (L' := [(5, .int l5), (4, .int l4), (3, .int l3), (2, .int l2), (0, .ref (ad 1 g0 0))]) rfl ?_
          exact w_X3_occupants_b99 C hrt hG  ih _ _ _ _ h
        · have h := ite_f c16 h
          refine fw_iload_n C dX3_occupants_94 rfl 3 rfl ?_
          refine fw_iload C dX3_occupants_95 0 rfl ?_
          refine fw_ior C dX3_occupants_97 ?_
          obtain ⟨v17, e18, h⟩ := lt_some h
          refine fw_top (v' := .int v17) (by rw [e18]) ?_
          refine fw_istore_n C dX3_occupants_98 rfl (by decide) (L' := [(3, .int v17), (6, .int v12), (5, .int l5), (4, .int l4), (2, .int l2), (0, .ref (ad 1 g0 0))]) rfl ?_
          refine fw_sub [2, 3, 0, 4, 5] (L' := [(5, .int l5), (4, .int l4), (3, .int v17), (2, .int l2), (0, .ref (ad 1 g0 0))]) rfl ?_
          exact w_X3_occupants_b99 C hrt hG  ih _ _ _ _ h
set_option maxRecDepth 100000 in
set_option maxHeartbeats 4000000 in
theorem w_X3_occupants {Y : Mem} {g0 : Nat} {a1 : Int32} (C : Cx p s m [.ref (ad 1 g0 0), .int a1].toArray meth c cX3_occupants 7 wsX3_occupants RX3 N0 T D gr ad) (hrt : meth.sig.returnType = (some .int)) (hG : ∀ q ∈ ([(1, g0), (2, g0)] ++ allG), q ∈ gr) {res : Int32} (h : X3_occupants Y g0 a1 = some res) : FW p l e (Rm 0) s m [.ref (ad 1 g0 0), .int a1].toArray below meth c 7 N0 T D gr ad 0 0 (MQ below (va_Qi (fun r Y1 => r = res ∧ Y1 = Y) (WB T D gr ad) (fun q => N0 ≤ q)) [.ref (ad 1 g0 0), .int a1].toArray s 0 0 (fun q => N0 ≤ q)) Y 0 [(0, .ref (ad 1 g0 0)), (1, .int a1)] [] := by
  unfold X3_occupants at h
  refine fw_aload_n C dX3_occupants_0 rfl 0 rfl ?_
  refine fw_get C (ci := 1) (Cn := RX3) (Tc := TX3) (N := 5) (j := 0) ly_X3_occupants_3 rfl (hG _ (List.mem_of_getElem? (i := 0) rfl)) (of1_0 _) (ce1 T ad _ _) (by decide) (cx_ts C _ fl_X3_occupants_28) (fun _ h => h) (v := .ref (ad 3 ((Y 1 g0 0 0).toNatClampNeg) 0)) rfl dX3_occupants_1 ?_
  obtain ⟨b1, h⟩ := gd_some h
  have b1 := of_decide_eq_true b1
  refine fw_getN C (ci := 3) (Cn := RX5) (Tc := TX5) (N := 17) (j := 6) ly_X3_occupants_5 rfl ((fun q hq => hG q (List.mem_append_right _ hq)) _ (allG_3 b1)) (of3_0 _) (ce3 T ad _ _) (by decide) (Nst_use (cx_nst C) (w := .fieldLinkNest RX3 156 "RecipeScheduler$Recipe" "panUsers" "[I" "RecipeScheduler") 144 (by decide +kernel) rfl) (fun _ h => h) (v := .ref (ad 3 (((Y 1 g0 0 0).toNatClampNeg)) 2)) rfl dX3_occupants_4 ?_
  refine fw_iload_n C dX3_occupants_7 rfl 1 rfl ?_
  obtain ⟨b2, h⟩ := gd_some h
  refine fw_iald2 C ((fun q hq => hG q (List.mem_append_right _ hq)) _ (allG_3 b1)) (of3_2 _) (ca3_2 T ad _ _) b2 (Nat.le_of_ble_eq_true rfl) dX3_occupants_8 ?_
  obtain ⟨v3, e4, h⟩ := lt_some h
  refine fw_top (v' := .int v3) (by rw [e4]) ?_
  refine fw_istore_n C dX3_occupants_9 rfl (by decide) (L' := [(2, .int v3), (0, .ref (ad 1 g0 0)), (1, .int a1)]) rfl ?_
  refine fw_iload_n C dX3_occupants_10 rfl 0 rfl ?_
  refine fw_aload_n C dX3_occupants_11 rfl 1 rfl ?_
  refine fw_get C (ci := 1) (Cn := RX3) (Tc := TX3) (N := 5) (j := 1) ly_X3_occupants_3 rfl (hG _ (List.mem_of_getElem? (i := 0) rfl)) (of1_0 _) (ce1 T ad _ _) (by decide) (cx_ts C _ fl_X3_occupants_12) (fun _ h => h) (v := .ref (ad 2 g0 0)) rfl dX3_occupants_12 ?_
  refine fw_getN C (ci := 6) (Cn := RX8) (Tc := TX8) (N := 15) (j := 6) ly_X3_occupants_8 rfl (hG _ (List.mem_of_getElem? (i := 1) rfl)) (of2_0 _) (ce2 T ad _ _) (by decide) (Nst_use (cx_nst C) (w := .fieldLinkNest RX3 82 "RecipeScheduler$State" "running" "I" "RecipeScheduler") 452 (by decide +kernel) rfl) (fun _ h => h) (v := .int (Y 2 g0 0 6)) rfl dX3_occupants_15 ?_
  refine fw_iand C dX3_occupants_18 ?_
  obtain ⟨v5, e6, h⟩ := lt_some h
  refine fw_top (v' := .int v5) (by rw [e6]) ?_
  refine fw_istore_n C dX3_occupants_19 rfl (by decide) (L' := [(3, .int v5), (2, .int v3), (0, .ref (ad 1 g0 0)), (1, .int a1)]) rfl ?_
  refine fw_aload_n C dX3_occupants_20 rfl 2 rfl ?_
  refine fw_get C (ci := 1) (Cn := RX3) (Tc := TX3) (N := 5) (j := 1) ly_X3_occupants_3 rfl (hG _ (List.mem_of_getElem? (i := 0) rfl)) (of1_0 _) (ce1 T ad _ _) (by decide) (cx_ts C _ fl_X3_occupants_12) (fun _ h => h) (v := .ref (ad 2 g0 0)) rfl dX3_occupants_21 ?_
  refine fw_getN C (ci := 6) (Cn := RX8) (Tc := TX8) (N := 15) (j := 6) ly_X3_occupants_8 rfl (hG _ (List.mem_of_getElem? (i := 1) rfl)) (of2_0 _) (ce2 T ad _ _) (by decide) (Nst_use (cx_nst C) (w := .fieldLinkNest RX3 82 "RecipeScheduler$State" "running" "I" "RecipeScheduler") 452 (by decide +kernel) rfl) (fun _ h => h) (v := .int (Y 2 g0 0 6)) rfl dX3_occupants_24 ?_
  refine fw_aload_n C dX3_occupants_27 rfl 2 rfl ?_
  refine fw_get C (ci := 1) (Cn := RX3) (Tc := TX3) (N := 5) (j := 1) ly_X3_occupants_3 rfl (hG _ (List.mem_of_getElem? (i := 0) rfl)) (of1_0 _) (ce1 T ad _ _) (by decide) (cx_ts C _ fl_X3_occupants_12) (fun _ h => h) (v := .ref (ad 2 g0 0)) rfl dX3_occupants_28 ?_
  refine fw_getN C (ci := 6) (Cn := RX8) (Tc := TX8) (N := 15) (j := 7) ly_X3_occupants_8 rfl (hG _ (List.mem_of_getElem? (i := 1) rfl)) (of2_0 _) (ce2 T ad _ _) (by decide) (Nst_use (cx_nst C) (w := .fieldLinkNest RX3 47 "RecipeScheduler$State" "done" "I" "RecipeScheduler") 455 (by decide +kernel) rfl) (fun _ h => h) (v := .int (Y 2 g0 0 7)) rfl dX3_occupants_31 ?_
  refine fw_ior C dX3_occupants_34 ?_
  obtain ⟨v7, e8, h⟩ := lt_some h
  refine fw_top (v' := .int v7) (by rw [e8]) ?_
  refine fw_istore C dX3_occupants_35 (by decide) (L' := [(4, .int v7), (3, .int v5), (2, .int v3), (0, .ref (ad 1 g0 0)), (1, .int a1)]) rfl ?_
  refine fw_iconst C dX3_occupants_37 (v := 0) rfl ?_
  refine fw_istore C dX3_occupants_38 (by decide) (L' := [(5, .int 0), (4, .int v7), (3, .int v5), (2, .int v3), (0, .ref (ad 1 g0 0)), (1, .int a1)]) rfl ?_
  refine fw_sub [0, 1, 2, 3, 4] (L' := [(5, .int 0), (4, .int v7), (3, .int v5), (2, .int v3), (0, .ref (ad 1 g0 0))]) rfl ?_
  exact w_X3_occupants_b40 C hrt hG   _ _ _ _ _ h
end
set_option maxRecDepth 100000 in
set_option maxHeartbeats 4000000 in
theorem c_X3_occupants {l : Launch} {N0 : Nat} {T : Nat → ClassId} {D : va_G} {gr : List (Nat × Nat)} {ad : Nat → Nat → Nat → Nat} {Y : Mem} {g0 : Nat} {a1 : Int32} {res : Int32} (hG : ∀ q ∈ ([(1, g0), (2, g0)] ++ allG), q ∈ gr) (h : X3_occupants Y g0 a1 = some res) : CI l yX3_occupants wsX3_occupants (Rm 0) N0 T D gr ad Y [.ref (ad 1 g0 0), .int a1] (fun r Y1 => r = res ∧ Y1 = Y) :=
  fw_body (by decide +kernel) rfl (Nat.le_of_ble_eq_true rfl) (fun p e s m below meth c C hrt => w_X3_occupants C hrt hG  h)
theorem kc_J6_bitCount_0f7a4_265 : Cond.constant RJ6 265 (1431655765) ∈ wsJ6_bitCount_0f7a4 := by decide +kernel
theorem kc_J6_bitCount_0f7a4_266 : Cond.constant RJ6 266 (858993459) ∈ wsJ6_bitCount_0f7a4 := by decide +kernel
theorem kc_J6_bitCount_0f7a4_267 : Cond.constant RJ6 267 (252645135) ∈ wsJ6_bitCount_0f7a4 := by decide +kernel
section
variable {p : Program} {l : Launch} {e : Env} {s : State} {m : MethodId} {below : List Frame} {meth : Method} {c : Code} {N0 : Nat} {T : Nat → ClassId} {D : va_G} {gr : List (Nat × Nat)} {ad : Nat → Nat → Nat → Nat}
set_option maxRecDepth 100000 in
set_option maxHeartbeats 4000000 in
theorem w_J6_bitCount_0f7a4 {Y : Mem} {a0 : Int32} (C : Cx p s m [.int a0].toArray meth c cJ6_bitCount_0f7a4 1 wsJ6_bitCount_0f7a4 RJ6 N0 T D gr ad) (hrt : meth.sig.returnType = (some .int)) (hG : ∀ q ∈ [], q ∈ gr) {res : Int32} (h : J6_bitCount_0f7a4 Y a0 = some res) : FW p l e (Rm 0) s m [.int a0].toArray below meth c 1 N0 T D gr ad 0 0 (MQ below (va_Qi (fun r Y1 => r = res ∧ Y1 = Y) (WB T D gr ad) (fun q => N0 ≤ q)) [.int a0].toArray s 0 0 (fun q => N0 ≤ q)) Y 0 [(0, .int a0)] [] := by
  unfold J6_bitCount_0f7a4 at h
  refine fw_iload_n C dJ6_bitCount_0f7a4_0 rfl 0 rfl ?_
  refine fw_iload_n C dJ6_bitCount_0f7a4_1 rfl 0 rfl ?_
  refine fw_iconst C dJ6_bitCount_0f7a4_2 (v := 1) rfl ?_
  refine fw_iushr C dJ6_bitCount_0f7a4_3 (v := us a0 1) rfl ?_
  refine fw_ldc_w C (cx_ts C _ kc_J6_bitCount_0f7a4_265) dJ6_bitCount_0f7a4_4 ?_
  refine fw_iand C dJ6_bitCount_0f7a4_7 ?_
  refine fw_isub C dJ6_bitCount_0f7a4_8 ?_
  obtain ⟨v1, e2, h⟩ := lt_some h
  refine fw_top (v' := .int v1) (by rw [e2]) ?_
  refine fw_istore_n C dJ6_bitCount_0f7a4_9 rfl (by decide) (L' := [(0, .int v1)]) rfl ?_
  refine fw_iload_n C dJ6_bitCount_0f7a4_10 rfl 0 rfl ?_
  refine fw_ldc_w C (cx_ts C _ kc_J6_bitCount_0f7a4_266) dJ6_bitCount_0f7a4_11 ?_
  refine fw_iand C dJ6_bitCount_0f7a4_14 ?_
  refine fw_iload_n C dJ6_bitCount_0f7a4_15 rfl 0 rfl ?_
  refine fw_iconst C dJ6_bitCount_0f7a4_16 (v := 2) rfl ?_
  refine fw_iushr C dJ6_bitCount_0f7a4_17 (v := us v1 2) rfl ?_
  refine fw_ldc_w C (cx_ts C _ kc_J6_bitCount_0f7a4_266) dJ6_bitCount_0f7a4_18 ?_
  refine fw_iand C dJ6_bitCount_0f7a4_21 ?_
  refine fw_iadd C dJ6_bitCount_0f7a4_22 ?_
  obtain ⟨v3, e4, h⟩ := lt_some h
  refine fw_top (v' := .int v3) (by rw [e4]) ?_
  refine fw_istore_n C dJ6_bitCount_0f7a4_23 rfl (by decide) (L' := [(0, .int v3)]) rfl ?_
  refine fw_iload_n C dJ6_bitCount_0f7a4_24 rfl 0 rfl ?_
  refine fw_iload_n C dJ6_bitCount_0f7a4_25 rfl 0 rfl ?_
  refine fw_iconst C dJ6_bitCount_0f7a4_26 (v := 4) rfl ?_
  refine fw_iushr C dJ6_bitCount_0f7a4_27 (v := us v3 4) rfl ?_
  refine fw_iadd C dJ6_bitCount_0f7a4_28 ?_
  refine fw_ldc_w C (cx_ts C _ kc_J6_bitCount_0f7a4_267) dJ6_bitCount_0f7a4_29 ?_
  refine fw_iand C dJ6_bitCount_0f7a4_32 ?_
  obtain ⟨v5, e6, h⟩ := lt_some h
  refine fw_top (v' := .int v5) (by rw [e6]) ?_
  refine fw_istore_n C dJ6_bitCount_0f7a4_33 rfl (by decide) (L' := [(0, .int v5)]) rfl ?_
  refine fw_iload_n C dJ6_bitCount_0f7a4_34 rfl 0 rfl ?_
  refine fw_iload_n C dJ6_bitCount_0f7a4_35 rfl 0 rfl ?_
  refine fw_bipush C dJ6_bitCount_0f7a4_36 (v := 8) rfl ?_
  refine fw_iushr C dJ6_bitCount_0f7a4_38 (v := us v5 8) rfl ?_
  refine fw_iadd C dJ6_bitCount_0f7a4_39 ?_
  obtain ⟨v7, e8, h⟩ := lt_some h
  refine fw_top (v' := .int v7) (by rw [e8]) ?_
  refine fw_istore_n C dJ6_bitCount_0f7a4_40 rfl (by decide) (L' := [(0, .int v7)]) rfl ?_
  refine fw_iload_n C dJ6_bitCount_0f7a4_41 rfl 0 rfl ?_
  refine fw_iload_n C dJ6_bitCount_0f7a4_42 rfl 0 rfl ?_
  refine fw_bipush C dJ6_bitCount_0f7a4_43 (v := 16) rfl ?_
  refine fw_iushr C dJ6_bitCount_0f7a4_45 (v := us v7 16) rfl ?_
  refine fw_iadd C dJ6_bitCount_0f7a4_46 ?_
  obtain ⟨v9, e10, h⟩ := lt_some h
  refine fw_top (v' := .int v9) (by rw [e10]) ?_
  refine fw_istore_n C dJ6_bitCount_0f7a4_47 rfl (by decide) (L' := [(0, .int v9)]) rfl ?_
  refine fw_iload_n C dJ6_bitCount_0f7a4_48 rfl 0 rfl ?_
  refine fw_bipush C dJ6_bitCount_0f7a4_49 (v := 63) rfl ?_
  refine fw_iand C dJ6_bitCount_0f7a4_51 ?_
  exact fw_iret C hrt Y ⟨Option.some.inj h, rfl⟩ (fun t ht => ht) dJ6_bitCount_0f7a4_52
end
set_option maxRecDepth 100000 in
set_option maxHeartbeats 4000000 in
theorem c_J6_bitCount_0f7a4 {l : Launch} {N0 : Nat} {T : Nat → ClassId} {D : va_G} {gr : List (Nat × Nat)} {ad : Nat → Nat → Nat → Nat} {Y : Mem} {a0 : Int32} {res : Int32} (hG : ∀ q ∈ [], q ∈ gr) (h : J6_bitCount_0f7a4 Y a0 = some res) : CI l yJ6_bitCount_0f7a4 wsJ6_bitCount_0f7a4 (Rm 0) N0 T D gr ad Y [.int a0] (fun r Y1 => r = res ∧ Y1 = Y) :=
  fw_body (by decide +kernel) rfl (Nat.le_of_ble_eq_true rfl) (fun p e s m below meth c C hrt => w_J6_bitCount_0f7a4 C hrt hG  h)
theorem ly_X3_hasFreePan_3 : ∀ w ∈ u_ws RX3 TX3 5, w ∈ wsX3_hasFreePan := by decide +kernel
theorem fl_X3_hasFreePan_28 : Cond.fieldLink RX3 28 "RecipeScheduler$Kitchen" "recipe" "LRecipeScheduler$Recipe;" ∈ wsX3_hasFreePan := by decide +kernel
theorem ly_X3_hasFreePan_5 : ∀ w ∈ u_ws RX5 TX5 17, w ∈ wsX3_hasFreePan := by decide +kernel
section
variable {p : Program} {l : Launch} {e : Env} {s : State} {m : MethodId} {below : List Frame} {meth : Method} {c : Code} {N0 : Nat} {T : Nat → ClassId} {D : va_G} {gr : List (Nat × Nat)} {ad : Nat → Nat → Nat → Nat}
set_option maxRecDepth 100000 in
set_option maxHeartbeats 4000000 in
theorem w_X3_hasFreePan_b35 {Y : Mem} {g0 : Nat} {a1 : Int32} (C : Cx p s m [.ref (ad 1 g0 0), .int a1].toArray meth c cX3_hasFreePan 3 wsX3_hasFreePan RX3 N0 T D gr ad) (hrt : meth.sig.returnType = (some .boolean)) (hG : ∀ q ∈ ([(1, g0), (2, g0)] ++ allG), q ∈ gr) {res : Int32}  (h : X3_hasFreePan_b35 Y g0 a1   = some res) : FW p l e (Rm 1) s m [.ref (ad 1 g0 0), .int a1].toArray below meth c 3 N0 T D gr ad 0 0 (MQ below (va_Qi (fun r Y1 => r = res ∧ Y1 = Y) (WB T D gr ad) (fun q => N0 ≤ q)) [.ref (ad 1 g0 0), .int a1].toArray s 0 0 (fun q => N0 ≤ q)) Y 35 [] [] := by
  unfold X3_hasFreePan_b35 at h
  refine fw_iconst C dX3_hasFreePan_35 (v := 1) rfl ?_
  refine fw_goto C dX3_hasFreePan_36 (tgt := 40) rfl ?_
  exact fw_zret C hrt (by decide) Y ⟨Option.some.inj h, rfl⟩ (fun t ht => ht) dX3_hasFreePan_40
set_option maxRecDepth 100000 in
set_option maxHeartbeats 4000000 in
theorem w_X3_hasFreePan {Y : Mem} {g0 : Nat} {a1 : Int32} (C : Cx p s m [.ref (ad 1 g0 0), .int a1].toArray meth c cX3_hasFreePan 3 wsX3_hasFreePan RX3 N0 T D gr ad) (hrt : meth.sig.returnType = (some .boolean)) (hG : ∀ q ∈ ([(1, g0), (2, g0)] ++ allG), q ∈ gr) {res : Int32} (h : X3_hasFreePan Y g0 a1 = some res) : FW p l e (Rm 1) s m [.ref (ad 1 g0 0), .int a1].toArray below meth c 3 N0 T D gr ad 0 0 (MQ below (va_Qi (fun r Y1 => r = res ∧ Y1 = Y) (WB T D gr ad) (fun q => N0 ≤ q)) [.ref (ad 1 g0 0), .int a1].toArray s 0 0 (fun q => N0 ≤ q)) Y 0 [(0, .ref (ad 1 g0 0)), (1, .int a1)] [] := by
  unfold X3_hasFreePan at h
  refine fw_aload_n C dX3_hasFreePan_0 rfl 0 rfl ?_
  refine fw_get C (ci := 1) (Cn := RX3) (Tc := TX3) (N := 5) (j := 0) ly_X3_hasFreePan_3 rfl (hG _ (List.mem_of_getElem? (i := 0) rfl)) (of1_0 _) (ce1 T ad _ _) (by decide) (cx_ts C _ fl_X3_hasFreePan_28) (fun _ h => h) (v := .ref (ad 3 ((Y 1 g0 0 0).toNatClampNeg) 0)) rfl dX3_hasFreePan_1 ?_
  obtain ⟨b1, h⟩ := gd_some h
  have b1 := of_decide_eq_true b1
  refine fw_getN C (ci := 3) (Cn := RX5) (Tc := TX5) (N := 17) (j := 10) ly_X3_hasFreePan_5 rfl ((fun q hq => hG q (List.mem_append_right _ hq)) _ (allG_3 b1)) (of3_0 _) (ce3 T ad _ _) (by decide) (Nst_use (cx_nst C) (w := .fieldLinkNest RX3 147 "RecipeScheduler$Recipe" "pan" "[I" "RecipeScheduler") 158 (by decide +kernel) rfl) (fun _ h => h) (v := .ref (ad 3 (((Y 1 g0 0 0).toNatClampNeg)) 5)) rfl dX3_hasFreePan_4 ?_
  refine fw_iload_n C dX3_hasFreePan_7 rfl 1 rfl ?_
  obtain ⟨b2, h⟩ := gd_some h
  refine fw_iald2 C ((fun q hq => hG q (List.mem_append_right _ hq)) _ (allG_3 b1)) (of3_5 _) (ca3_5 T ad _ _) b2 (Nat.le_of_ble_eq_true rfl) dX3_hasFreePan_8 ?_
  obtain ⟨v3, e4, h⟩ := lt_some h
  refine fw_top (v' := .int v3) (by rw [e4]) ?_
  refine fw_istore_n C dX3_hasFreePan_9 rfl (by decide) (L' := [(2, .int v3), (0, .ref (ad 1 g0 0)), (1, .int a1)]) rfl ?_
  refine fw_iload_n C dX3_hasFreePan_10 rfl 0 rfl ?_
  refine fw_iconst C dX3_hasFreePan_11 (v := (-1)) rfl ?_
  refine fw_icmp_eq C dX3_hasFreePan_12 (tgt := 35) rfl (fun c5 => ?_) (fun c5 => ?_)
  · have h := ite_t c5 h
    refine fw_sub [] (L' := []) rfl ?_
    exact w_X3_hasFreePan_b35 C hrt hG    h
  · have h := ite_f c5 h
    refine fw_aload_n C dX3_hasFreePan_15 rfl 1 rfl ?_
    refine fw_iload_n C dX3_hasFreePan_16 rfl 0 rfl ?_
    obtain ⟨r6, q7, h⟩ := bd1_some h
    refine fw_callVi C (ci := 1) (Cn := RX3) (Tc := TX3) (N := 5) (As := [.int v3]) (c_X3_occupants (gac (hG _ (List.mem_of_getElem? (i := 0) rfl)) (gac (hG _ (List.mem_of_getElem? (i := 1) rfl)) (fun q hq => hG q (List.mem_append_right _ hq)))) q7) (cwV 1 (cx_ts C) gX3_hasFreePan_X3_occupants rfl rfl rfl (by decide +kernel) ⟨Nat.le_of_ble_eq_true rfl, Nat.le_of_ble_eq_true rfl⟩) rfl (hG _ (List.mem_of_getElem? (i := 0) rfl)) (of1_0 _) (ce1 T ad _ _) rfl (st := []) rfl (Nat.le_of_ble_eq_true rfl) ⟨Nat.le_refl 0, Nat.le_refl 0⟩ dX3_hasFreePan_17 (pp2 ?_)
    obtain ⟨r8, q9, h⟩ := bd1_some h
    refine fw_callSi C (As := [.int r6]) (c_J6_bitCount_0f7a4 ga0 q9) (va_cwS 1 (cx_ts C) gX3_hasFreePan_J6_bitCount_0f7a4 rfl rfl rfl (by decide +kernel) ⟨Nat.le_of_ble_eq_true rfl, Nat.le_of_ble_eq_true rfl⟩) rfl (st := []) rfl (Nat.le_of_ble_eq_true rfl) ⟨Nat.le_refl 0, Nat.le_refl 0⟩ dX3_hasFreePan_20 (pp2 ?_)
    refine fw_aload_n C dX3_hasFreePan_23 rfl 1 rfl ?_
    refine fw_get C (ci := 1) (Cn := RX3) (Tc := TX3) (N := 5) (j := 0) ly_X3_hasFreePan_3 rfl (hG _ (List.mem_of_getElem? (i := 0) rfl)) (of1_0 _) (ce1 T ad _ _) (by decide) (cx_ts C _ fl_X3_hasFreePan_28) (fun _ h => h) (v := .ref (ad 3 ((Y 1 g0 0 0).toNatClampNeg) 0)) rfl dX3_hasFreePan_24 ?_
    refine fw_getN C (ci := 3) (Cn := RX5) (Tc := TX5) (N := 17) (j := 5) ly_X3_hasFreePan_5 rfl ((fun q hq => hG q (List.mem_append_right _ hq)) _ (allG_3 b1)) (of3_0 _) (ce3 T ad _ _) (by decide) (Nst_use (cx_nst C) (w := .fieldLinkNest RX3 153 "RecipeScheduler$Recipe" "capacity" "[I" "RecipeScheduler") 140 (by decide +kernel) rfl) (fun _ h => h) (v := .ref (ad 3 (((Y 1 g0 0 0).toNatClampNeg)) 1)) rfl dX3_hasFreePan_27 ?_
    refine fw_iload_n C dX3_hasFreePan_30 rfl 0 rfl ?_
    obtain ⟨b10, h⟩ := gd_some h
    refine fw_iald2 C ((fun q hq => hG q (List.mem_append_right _ hq)) _ (allG_3 b1)) (of3_1 _) (ca3_1 T ad _ _) b10 (Nat.le_of_ble_eq_true rfl) dX3_hasFreePan_31 ?_
    refine fw_icmp_ge C dX3_hasFreePan_32 (tgt := 39) rfl (fun c11 => ?_) (fun c11 => ?_)
    · have h := ite_t c11 h
      refine fw_iconst C dX3_hasFreePan_39 (v := 0) rfl ?_
      exact fw_zret C hrt (by decide) Y ⟨Option.some.inj h, rfl⟩ (fun t ht => ht) dX3_hasFreePan_40
    · have h := ite_f c11 h
      refine fw_sub [] (L' := []) rfl ?_
      exact w_X3_hasFreePan_b35 C hrt hG    h
end
set_option maxRecDepth 100000 in
set_option maxHeartbeats 4000000 in
theorem c_X3_hasFreePan {l : Launch} {N0 : Nat} {T : Nat → ClassId} {D : va_G} {gr : List (Nat × Nat)} {ad : Nat → Nat → Nat → Nat} {Y : Mem} {g0 : Nat} {a1 : Int32} {res : Int32} (hG : ∀ q ∈ ([(1, g0), (2, g0)] ++ allG), q ∈ gr) (h : X3_hasFreePan Y g0 a1 = some res) : CI l yX3_hasFreePan wsX3_hasFreePan (Rm 1) N0 T D gr ad Y [.ref (ad 1 g0 0), .int a1] (fun r Y1 => r = res ∧ Y1 = Y) :=
  fw_body (by decide +kernel) rfl (Nat.le_of_ble_eq_true rfl) (fun p e s m below meth c C hrt => w_X3_hasFreePan C hrt hG  h)
theorem ly_X3_hasFreeCook_3 : ∀ w ∈ u_ws RX3 TX3 5, w ∈ wsX3_hasFreeCook := by decide +kernel
theorem fl_X3_hasFreeCook_28 : Cond.fieldLink RX3 28 "RecipeScheduler$Kitchen" "recipe" "LRecipeScheduler$Recipe;" ∈ wsX3_hasFreeCook := by decide +kernel
theorem ly_X3_hasFreeCook_5 : ∀ w ∈ u_ws RX5 TX5 17, w ∈ wsX3_hasFreeCook := by decide +kernel
theorem in_X3_hasFreeCook_11 : Cond.initialized RX11 ∈ wsX3_hasFreeCook := by decide +kernel
theorem sw_X3_hasFreeCook_X11_contains : Cond.static yX11_contains ∈ wsX3_hasFreeCook := by decide +kernel
theorem fl_X3_hasFreeCook_12 : Cond.fieldLink RX3 12 "RecipeScheduler$Kitchen" "state" "LRecipeScheduler$State;" ∈ wsX3_hasFreeCook := by decide +kernel
theorem ly_X3_hasFreeCook_8 : ∀ w ∈ u_ws RX8 TX8 15, w ∈ wsX3_hasFreeCook := by decide +kernel
section
variable {p : Program} {l : Launch} {e : Env} {s : State} {m : MethodId} {below : List Frame} {meth : Method} {c : Code} {N0 : Nat} {T : Nat → ClassId} {D : va_G} {gr : List (Nat × Nat)} {ad : Nat → Nat → Nat → Nat}
set_option maxRecDepth 100000 in
set_option maxHeartbeats 4000000 in
theorem w_X3_hasFreeCook_b44 {Y : Mem} {g0 : Nat} {a1 : Int32} (C : Cx p s m [.ref (ad 1 g0 0), .int a1].toArray meth c cX3_hasFreeCook 2 wsX3_hasFreeCook RX3 N0 T D gr ad) (hrt : meth.sig.returnType = (some .boolean)) (hG : ∀ q ∈ ([(1, g0), (2, g0)] ++ allG), q ∈ gr) {res : Int32}  (h : X3_hasFreeCook_b44 Y g0 a1   = some res) : FW p l e (Rm 1) s m [.ref (ad 1 g0 0), .int a1].toArray below meth c 2 N0 T D gr ad 0 0 (MQ below (va_Qi (fun r Y1 => r = res ∧ Y1 = Y) (WB T D gr ad) (fun q => N0 ≤ q)) [.ref (ad 1 g0 0), .int a1].toArray s 0 0 (fun q => N0 ≤ q)) Y 44 [] [] := by
  unfold X3_hasFreeCook_b44 at h
  refine fw_iconst C dX3_hasFreeCook_44 (v := 1) rfl ?_
  refine fw_goto C dX3_hasFreeCook_45 (tgt := 49) rfl ?_
  exact fw_zret C hrt (by decide) Y ⟨Option.some.inj h, rfl⟩ (fun t ht => ht) dX3_hasFreeCook_49
set_option maxRecDepth 100000 in
set_option maxHeartbeats 4000000 in
theorem w_X3_hasFreeCook {Y : Mem} {g0 : Nat} {a1 : Int32} (C : Cx p s m [.ref (ad 1 g0 0), .int a1].toArray meth c cX3_hasFreeCook 2 wsX3_hasFreeCook RX3 N0 T D gr ad) (hrt : meth.sig.returnType = (some .boolean)) (hG : ∀ q ∈ ([(1, g0), (2, g0)] ++ allG), q ∈ gr) {res : Int32} (h : X3_hasFreeCook Y g0 a1 = some res) : FW p l e (Rm 1) s m [.ref (ad 1 g0 0), .int a1].toArray below meth c 2 N0 T D gr ad 0 0 (MQ below (va_Qi (fun r Y1 => r = res ∧ Y1 = Y) (WB T D gr ad) (fun q => N0 ≤ q)) [.ref (ad 1 g0 0), .int a1].toArray s 0 0 (fun q => N0 ≤ q)) Y 0 [(0, .ref (ad 1 g0 0)), (1, .int a1)] [] := by
  unfold X3_hasFreeCook at h
  refine fw_aload_n C dX3_hasFreeCook_0 rfl 0 rfl ?_
  refine fw_get C (ci := 1) (Cn := RX3) (Tc := TX3) (N := 5) (j := 0) ly_X3_hasFreeCook_3 rfl (hG _ (List.mem_of_getElem? (i := 0) rfl)) (of1_0 _) (ce1 T ad _ _) (by decide) (cx_ts C _ fl_X3_hasFreeCook_28) (fun _ h => h) (v := .ref (ad 3 ((Y 1 g0 0 0).toNatClampNeg) 0)) rfl dX3_hasFreeCook_1 ?_
  obtain ⟨b1, h⟩ := gd_some h
  have b1 := of_decide_eq_true b1
  refine fw_getN C (ci := 3) (Cn := RX5) (Tc := TX5) (N := 17) (j := 16) ly_X3_hasFreeCook_5 rfl ((fun q hq => hG q (List.mem_append_right _ hq)) _ (allG_3 b1)) (of3_0 _) (ce3 T ad _ _) (by decide) (Nst_use (cx_nst C) (w := .fieldLinkNest RX3 88 "RecipeScheduler$Recipe" "alone" "I" "RecipeScheduler") 179 (by decide +kernel) rfl) (fun _ h => h) (v := .int (Y 3 ((Y 1 g0 0 0).toNatClampNeg) 0 16)) rfl dX3_hasFreeCook_4 ?_
  refine fw_iload_n C dX3_hasFreeCook_7 rfl 1 rfl ?_
  obtain ⟨r2, q3, h⟩ := bd1_some h
  refine fw_callSNi C (As := [.int (Y 3 ((Y 1 g0 0 0).toNatClampNeg) 0 16), .int a1]) (c_X11_contains ga0 q3) ⟨(va_cnB 2 (cx_ts C) gX3_hasFreeCook_X11_contains_n100 rfl rfl rfl (cx_nw C (w := .methodLinkNest RX3 100 yX11_contains "RecipeScheduler") 623 (by decide +kernel) rfl) (cx_ts C _ in_X3_hasFreeCook_11) (by decide +kernel) ⟨Nat.le_of_ble_eq_true rfl, Nat.le_of_ble_eq_true rfl⟩), cx_ts C _ sw_X3_hasFreeCook_X11_contains, trivial⟩ rfl (st := []) rfl (Nat.le_of_ble_eq_true rfl) ⟨Nat.le_refl 0, Nat.le_refl 0⟩ dX3_hasFreeCook_8 (pp2 ?_)
  refine fw_if_ne C dX3_hasFreeCook_11 (tgt := 44) rfl (fun c4 => ?_) (fun c4 => ?_)
  · have h := ite_f c4 h
    refine fw_sub [] (L' := []) rfl ?_
    exact w_X3_hasFreeCook_b44 C hrt hG    h
  · have h := ite_t c4 h
    refine fw_aload_n C dX3_hasFreeCook_14 rfl 0 rfl ?_
    refine fw_get C (ci := 1) (Cn := RX3) (Tc := TX3) (N := 5) (j := 1) ly_X3_hasFreeCook_3 rfl (hG _ (List.mem_of_getElem? (i := 0) rfl)) (of1_0 _) (ce1 T ad _ _) (by decide) (cx_ts C _ fl_X3_hasFreeCook_12) (fun _ h => h) (v := .ref (ad 2 g0 0)) rfl dX3_hasFreeCook_15 ?_
    refine fw_getN C (ci := 6) (Cn := RX8) (Tc := TX8) (N := 15) (j := 6) ly_X3_hasFreeCook_8 rfl (hG _ (List.mem_of_getElem? (i := 1) rfl)) (of2_0 _) (ce2 T ad _ _) (by decide) (Nst_use (cx_nst C) (w := .fieldLinkNest RX3 82 "RecipeScheduler$State" "running" "I" "RecipeScheduler") 452 (by decide +kernel) rfl) (fun _ h => h) (v := .int (Y 2 g0 0 6)) rfl dX3_hasFreeCook_18 ?_
    refine fw_aload_n C dX3_hasFreeCook_21 rfl 0 rfl ?_
    refine fw_get C (ci := 1) (Cn := RX3) (Tc := TX3) (N := 5) (j := 0) ly_X3_hasFreeCook_3 rfl (hG _ (List.mem_of_getElem? (i := 0) rfl)) (of1_0 _) (ce1 T ad _ _) (by decide) (cx_ts C _ fl_X3_hasFreeCook_28) (fun _ h => h) (v := .ref (ad 3 ((Y 1 g0 0 0).toNatClampNeg) 0)) rfl dX3_hasFreeCook_22 ?_
    refine fw_getN C (ci := 3) (Cn := RX5) (Tc := TX5) (N := 17) (j := 16) ly_X3_hasFreeCook_5 rfl ((fun q hq => hG q (List.mem_append_right _ hq)) _ (allG_3 b1)) (of3_0 _) (ce3 T ad _ _) (by decide) (Nst_use (cx_nst C) (w := .fieldLinkNest RX3 88 "RecipeScheduler$Recipe" "alone" "I" "RecipeScheduler") 179 (by decide +kernel) rfl) (fun _ h => h) (v := .int (Y 3 ((Y 1 g0 0 0).toNatClampNeg) 0 16)) rfl dX3_hasFreeCook_25 ?_
    refine fw_iconst C dX3_hasFreeCook_28 (v := (-1)) rfl ?_
    refine fw_ixor C dX3_hasFreeCook_29 ?_
    refine fw_iand C dX3_hasFreeCook_30 ?_
    obtain ⟨r5, q6, h⟩ := bd1_some h
    refine fw_callSi C (As := [.int ((Y 2 g0 0 6) &&& ((Y 3 ((Y 1 g0 0 0).toNatClampNeg) 0 16) ^^^ ((-1))))]) (c_J6_bitCount_0f7a4 ga0 q6) (va_cwS 1 (cx_ts C) gX3_hasFreeCook_J6_bitCount_0f7a4 rfl rfl rfl (by decide +kernel) ⟨Nat.le_of_ble_eq_true rfl, Nat.le_of_ble_eq_true rfl⟩) rfl (st := []) rfl (Nat.le_of_ble_eq_true rfl) ⟨Nat.le_refl 0, Nat.le_refl 0⟩ dX3_hasFreeCook_31 (pp2 ?_)
    refine fw_aload_n C dX3_hasFreeCook_34 rfl 0 rfl ?_
    refine fw_get C (ci := 1) (Cn := RX3) (Tc := TX3) (N := 5) (j := 1) ly_X3_hasFreeCook_3 rfl (hG _ (List.mem_of_getElem? (i := 0) rfl)) (of1_0 _) (ce1 T ad _ _) (by decide) (cx_ts C _ fl_X3_hasFreeCook_12) (fun _ h => h) (v := .ref (ad 2 g0 0)) rfl dX3_hasFreeCook_35 ?_
    refine fw_getN C (ci := 6) (Cn := RX8) (Tc := TX8) (N := 15) (j := 0) ly_X3_hasFreeCook_8 rfl (hG _ (List.mem_of_getElem? (i := 1) rfl)) (of2_0 _) (ce2 T ad _ _) (by decide) (Nst_use (cx_nst C) (w := .fieldLinkNest RX3 144 "RecipeScheduler$State" "cooks" "I" "RecipeScheduler") 436 (by decide +kernel) rfl) (fun _ h => h) (v := .int (Y 2 g0 0 0)) rfl dX3_hasFreeCook_38 ?_
    refine fw_icmp_ge C dX3_hasFreeCook_41 (tgt := 48) rfl (fun c7 => ?_) (fun c7 => ?_)
    · have h := ite_t c7 h
      refine fw_iconst C dX3_hasFreeCook_48 (v := 0) rfl ?_
      exact fw_zret C hrt (by decide) Y ⟨Option.some.inj h, rfl⟩ (fun t ht => ht) dX3_hasFreeCook_49
    · have h := ite_f c7 h
      refine fw_sub [] (L' := []) rfl ?_
      exact w_X3_hasFreeCook_b44 C hrt hG    h
end
set_option maxRecDepth 100000 in
set_option maxHeartbeats 4000000 in
theorem c_X3_hasFreeCook {l : Launch} {N0 : Nat} {T : Nat → ClassId} {D : va_G} {gr : List (Nat × Nat)} {ad : Nat → Nat → Nat → Nat} {Y : Mem} {g0 : Nat} {a1 : Int32} {res : Int32} (hG : ∀ q ∈ ([(1, g0), (2, g0)] ++ allG), q ∈ gr) (h : X3_hasFreeCook Y g0 a1 = some res) : CI l yX3_hasFreeCook wsX3_hasFreeCook (Rm 1) N0 T D gr ad Y [.ref (ad 1 g0 0), .int a1] (fun r Y1 => r = res ∧ Y1 = Y) :=
  fw_body (by decide +kernel) rfl (Nat.le_of_ble_eq_true rfl) (fun p e s m below meth c C hrt => w_X3_hasFreeCook C hrt hG  h)
theorem ly_X3_obstacle_3 : ∀ w ∈ u_ws RX3 TX3 5, w ∈ wsX3_obstacle := by decide +kernel
theorem fl_X3_obstacle_12 : Cond.fieldLink RX3 12 "RecipeScheduler$Kitchen" "state" "LRecipeScheduler$State;" ∈ wsX3_obstacle := by decide +kernel
theorem ly_X3_obstacle_8 : ∀ w ∈ u_ws RX8 TX8 15, w ∈ wsX3_obstacle := by decide +kernel
theorem in_X3_obstacle_11 : Cond.initialized RX11 ∈ wsX3_obstacle := by decide +kernel
theorem sw_X3_obstacle_X11_contains : Cond.static yX11_contains ∈ wsX3_obstacle := by decide +kernel
theorem fl_X3_obstacle_28 : Cond.fieldLink RX3 28 "RecipeScheduler$Kitchen" "recipe" "LRecipeScheduler$Recipe;" ∈ wsX3_obstacle := by decide +kernel
theorem ly_X3_obstacle_5 : ∀ w ∈ u_ws RX5 TX5 17, w ∈ wsX3_obstacle := by decide +kernel
section
variable {p : Program} {l : Launch} {e : Env} {s : State} {m : MethodId} {below : List Frame} {meth : Method} {c : Code} {N0 : Nat} {T : Nat → ClassId} {D : va_G} {gr : List (Nat × Nat)} {ad : Nat → Nat → Nat → Nat}
set_option maxRecDepth 100000 in
set_option maxHeartbeats 4000000 in
theorem w_X3_obstacle {Y : Mem} {g0 : Nat} {a1 : Int32} (C : Cx p s m [.ref (ad 1 g0 0), .int a1].toArray meth c cX3_obstacle 2 wsX3_obstacle RX3 N0 T D gr ad) (hrt : meth.sig.returnType = (some .int)) (hG : ∀ q ∈ ([(1, g0), (2, g0)] ++ allG), q ∈ gr) {res : Int32} (h : X3_obstacle Y g0 a1 = some res) : FW p l e (Rm 2) s m [.ref (ad 1 g0 0), .int a1].toArray below meth c 2 N0 T D gr ad 0 0 (MQ below (va_Qi (fun r Y1 => r = res ∧ Y1 = Y) (WB T D gr ad) (fun q => N0 ≤ q)) [.ref (ad 1 g0 0), .int a1].toArray s 0 0 (fun q => N0 ≤ q)) Y 0 [(0, .ref (ad 1 g0 0)), (1, .int a1)] [] := by
  unfold X3_obstacle at h
  refine fw_aload_n C dX3_obstacle_0 rfl 0 rfl ?_
  refine fw_get C (ci := 1) (Cn := RX3) (Tc := TX3) (N := 5) (j := 1) ly_X3_obstacle_3 rfl (hG _ (List.mem_of_getElem? (i := 0) rfl)) (of1_0 _) (ce1 T ad _ _) (by decide) (cx_ts C _ fl_X3_obstacle_12) (fun _ h => h) (v := .ref (ad 2 g0 0)) rfl dX3_obstacle_1 ?_
  refine fw_getN C (ci := 6) (Cn := RX8) (Tc := TX8) (N := 15) (j := 6) ly_X3_obstacle_8 rfl (hG _ (List.mem_of_getElem? (i := 1) rfl)) (of2_0 _) (ce2 T ad _ _) (by decide) (Nst_use (cx_nst C) (w := .fieldLinkNest RX3 82 "RecipeScheduler$State" "running" "I" "RecipeScheduler") 452 (by decide +kernel) rfl) (fun _ h => h) (v := .int (Y 2 g0 0 6)) rfl dX3_obstacle_4 ?_
  refine fw_iload_n C dX3_obstacle_7 rfl 1 rfl ?_
  obtain ⟨r1, q2, h⟩ := bd1_some h
  refine fw_callSNi C (As := [.int (Y 2 g0 0 6), .int a1]) (c_X11_contains ga0 q2) ⟨(va_cnB 2 (cx_ts C) gX3_obstacle_X11_contains_n100 rfl rfl rfl (cx_nw C (w := .methodLinkNest RX3 100 yX11_contains "RecipeScheduler") 623 (by decide +kernel) rfl) (cx_ts C _ in_X3_obstacle_11) (by decide +kernel) ⟨Nat.le_of_ble_eq_true rfl, Nat.le_of_ble_eq_true rfl⟩), cx_ts C _ sw_X3_obstacle_X11_contains, trivial⟩ rfl (st := []) rfl (Nat.le_of_ble_eq_true rfl) ⟨Nat.le_refl 0, Nat.le_refl 0⟩ dX3_obstacle_8 (pp2 ?_)
  refine fw_if_eq C dX3_obstacle_11 (tgt := 16) rfl (fun c3 => ?_) (fun c3 => ?_)
  · have h := ite_t c3 h
    refine fw_aload_n C dX3_obstacle_16 rfl 0 rfl ?_
    refine fw_get C (ci := 1) (Cn := RX3) (Tc := TX3) (N := 5) (j := 1) ly_X3_obstacle_3 rfl (hG _ (List.mem_of_getElem? (i := 0) rfl)) (of1_0 _) (ce1 T ad _ _) (by decide) (cx_ts C _ fl_X3_obstacle_12) (fun _ h => h) (v := .ref (ad 2 g0 0)) rfl dX3_obstacle_17 ?_
    refine fw_getN C (ci := 6) (Cn := RX8) (Tc := TX8) (N := 15) (j := 7) ly_X3_obstacle_8 rfl (hG _ (List.mem_of_getElem? (i := 1) rfl)) (of2_0 _) (ce2 T ad _ _) (by decide) (Nst_use (cx_nst C) (w := .fieldLinkNest RX3 47 "RecipeScheduler$State" "done" "I" "RecipeScheduler") 455 (by decide +kernel) rfl) (fun _ h => h) (v := .int (Y 2 g0 0 7)) rfl dX3_obstacle_20 ?_
    refine fw_iload_n C dX3_obstacle_23 rfl 1 rfl ?_
    obtain ⟨r4, q5, h⟩ := bd1_some h
    refine fw_callSNi C (As := [.int (Y 2 g0 0 7), .int a1]) (c_X11_contains ga0 q5) ⟨(va_cnB 2 (cx_ts C) gX3_obstacle_X11_contains_n100 rfl rfl rfl (cx_nw C (w := .methodLinkNest RX3 100 yX11_contains "RecipeScheduler") 623 (by decide +kernel) rfl) (cx_ts C _ in_X3_obstacle_11) (by decide +kernel) ⟨Nat.le_of_ble_eq_true rfl, Nat.le_of_ble_eq_true rfl⟩), cx_ts C _ sw_X3_obstacle_X11_contains, trivial⟩ rfl (st := []) rfl (Nat.le_of_ble_eq_true rfl) ⟨Nat.le_refl 0, Nat.le_refl 0⟩ dX3_obstacle_24 (pp2 ?_)
    refine fw_if_eq C dX3_obstacle_27 (tgt := 32) rfl (fun c6 => ?_) (fun c6 => ?_)
    · have h := ite_t c6 h
      refine fw_aload_n C dX3_obstacle_32 rfl 0 rfl ?_
      refine fw_get C (ci := 1) (Cn := RX3) (Tc := TX3) (N := 5) (j := 0) ly_X3_obstacle_3 rfl (hG _ (List.mem_of_getElem? (i := 0) rfl)) (of1_0 _) (ce1 T ad _ _) (by decide) (cx_ts C _ fl_X3_obstacle_28) (fun _ h => h) (v := .ref (ad 3 ((Y 1 g0 0 0).toNatClampNeg) 0)) rfl dX3_obstacle_33 ?_
      obtain ⟨b7, h⟩ := gd_some h
      have b7 := of_decide_eq_true b7
      refine fw_getN C (ci := 3) (Cn := RX5) (Tc := TX5) (N := 17) (j := 13) ly_X3_obstacle_5 rfl ((fun q hq => hG q (List.mem_append_right _ hq)) _ (allG_3 b7)) (of3_0 _) (ce3 T ad _ _) (by decide) (Nst_use (cx_nst C) (w := .fieldLinkNest RX3 138 "RecipeScheduler$Recipe" "predecessorSet" "[I" "RecipeScheduler") 169 (by decide +kernel) rfl) (fun _ h => h) (v := .ref (ad 3 (((Y 1 g0 0 0).toNatClampNeg)) 8)) rfl dX3_obstacle_36 ?_
      refine fw_iload_n C dX3_obstacle_39 rfl 1 rfl ?_
      obtain ⟨b8, h⟩ := gd_some h
      refine fw_iald2 C ((fun q hq => hG q (List.mem_append_right _ hq)) _ (allG_3 b7)) (of3_8 _) (ca3_8 T ad _ _) b8 (Nat.le_of_ble_eq_true rfl) dX3_obstacle_40 ?_
      refine fw_aload_n C dX3_obstacle_41 rfl 0 rfl ?_
      refine fw_get C (ci := 1) (Cn := RX3) (Tc := TX3) (N := 5) (j := 1) ly_X3_obstacle_3 rfl (hG _ (List.mem_of_getElem? (i := 0) rfl)) (of1_0 _) (ce1 T ad _ _) (by decide) (cx_ts C _ fl_X3_obstacle_12) (fun _ h => h) (v := .ref (ad 2 g0 0)) rfl dX3_obstacle_42 ?_
      refine fw_getN C (ci := 6) (Cn := RX8) (Tc := TX8) (N := 15) (j := 7) ly_X3_obstacle_8 rfl (hG _ (List.mem_of_getElem? (i := 1) rfl)) (of2_0 _) (ce2 T ad _ _) (by decide) (Nst_use (cx_nst C) (w := .fieldLinkNest RX3 47 "RecipeScheduler$State" "done" "I" "RecipeScheduler") 455 (by decide +kernel) rfl) (fun _ h => h) (v := .int (Y 2 g0 0 7)) rfl dX3_obstacle_45 ?_
      refine fw_iconst C dX3_obstacle_48 (v := (-1)) rfl ?_
      refine fw_ixor C dX3_obstacle_49 ?_
      refine fw_iand C dX3_obstacle_50 ?_
      refine fw_if_eq C dX3_obstacle_51 (tgt := 56) rfl (fun c9 => ?_) (fun c9 => ?_)
      · have h := ite_t c9 h
        refine fw_aload_n C dX3_obstacle_56 rfl 0 rfl ?_
        refine fw_iload_n C dX3_obstacle_57 rfl 1 rfl ?_
        obtain ⟨r10, q11, h⟩ := bd1_some h
        refine fw_callVi C (ci := 1) (Cn := RX3) (Tc := TX3) (N := 5) (As := [.int a1]) (c_X3_hasFreePan (gac (hG _ (List.mem_of_getElem? (i := 0) rfl)) (gac (hG _ (List.mem_of_getElem? (i := 1) rfl)) (fun q hq => hG q (List.mem_append_right _ hq)))) q11) (cwV 1 (cx_ts C) gX3_obstacle_X3_hasFreePan rfl rfl rfl (by decide +kernel) ⟨Nat.le_of_ble_eq_true rfl, Nat.le_of_ble_eq_true rfl⟩) rfl (hG _ (List.mem_of_getElem? (i := 0) rfl)) (of1_0 _) (ce1 T ad _ _) rfl (st := []) rfl (Nat.le_of_ble_eq_true rfl) ⟨Nat.le_refl 0, Nat.le_refl 0⟩ dX3_obstacle_58 (pp2 ?_)
        refine fw_if_ne C dX3_obstacle_61 (tgt := 66) rfl (fun c12 => ?_) (fun c12 => ?_)
        · have h := ite_f c12 h
          refine fw_aload_n C dX3_obstacle_66 rfl 0 rfl ?_
          refine fw_iload_n C dX3_obstacle_67 rfl 1 rfl ?_
          obtain ⟨r13, q14, h⟩ := bd1_some h
          refine fw_callVi C (ci := 1) (Cn := RX3) (Tc := TX3) (N := 5) (As := [.int a1]) (c_X3_hasFreeCook (gac (hG _ (List.mem_of_getElem? (i := 0) rfl)) (gac (hG _ (List.mem_of_getElem? (i := 1) rfl)) (fun q hq => hG q (List.mem_append_right _ hq)))) q14) (cwV 1 (cx_ts C) gX3_obstacle_X3_hasFreeCook rfl rfl rfl (by decide +kernel) ⟨Nat.le_of_ble_eq_true rfl, Nat.le_of_ble_eq_true rfl⟩) rfl (hG _ (List.mem_of_getElem? (i := 0) rfl)) (of1_0 _) (ce1 T ad _ _) rfl (st := []) rfl (Nat.le_of_ble_eq_true rfl) ⟨Nat.le_refl 0, Nat.le_refl 0⟩ dX3_obstacle_68 (pp2 ?_)
          refine fw_if_eq C dX3_obstacle_71 (tgt := 78) rfl (fun c15 => ?_) (fun c15 => ?_)
          · have h := ite_t c15 h
            refine fw_iconst C dX3_obstacle_78 (v := 4) rfl ?_
            exact fw_iret C hrt Y ⟨Option.some.inj h, rfl⟩ (fun t ht => ht) dX3_obstacle_79
          · have h := ite_f c15 h
            refine fw_iconst C dX3_obstacle_74 (v := 5) rfl ?_
            refine fw_goto C dX3_obstacle_75 (tgt := 79) rfl ?_
            exact fw_iret C hrt Y ⟨Option.some.inj h, rfl⟩ (fun t ht => ht) dX3_obstacle_79
        · have h := ite_t c12 h
          refine fw_iconst C dX3_obstacle_64 (v := 3) rfl ?_
          exact fw_iret C hrt Y ⟨Option.some.inj h, rfl⟩ (fun t ht => ht) dX3_obstacle_65
      · have h := ite_f c9 h
        refine fw_iconst C dX3_obstacle_54 (v := 2) rfl ?_
        exact fw_iret C hrt Y ⟨Option.some.inj h, rfl⟩ (fun t ht => ht) dX3_obstacle_55
    · have h := ite_f c6 h
      refine fw_iconst C dX3_obstacle_30 (v := 1) rfl ?_
      exact fw_iret C hrt Y ⟨Option.some.inj h, rfl⟩ (fun t ht => ht) dX3_obstacle_31
  · have h := ite_f c3 h
    refine fw_iconst C dX3_obstacle_14 (v := 0) rfl ?_
    exact fw_iret C hrt Y ⟨Option.some.inj h, rfl⟩ (fun t ht => ht) dX3_obstacle_15
end
set_option maxRecDepth 100000 in
set_option maxHeartbeats 4000000 in
theorem c_X3_obstacle {l : Launch} {N0 : Nat} {T : Nat → ClassId} {D : va_G} {gr : List (Nat × Nat)} {ad : Nat → Nat → Nat → Nat} {Y : Mem} {g0 : Nat} {a1 : Int32} {res : Int32} (hG : ∀ q ∈ ([(1, g0), (2, g0)] ++ allG), q ∈ gr) (h : X3_obstacle Y g0 a1 = some res) : CI l yX3_obstacle wsX3_obstacle (Rm 2) N0 T D gr ad Y [.ref (ad 1 g0 0), .int a1] (fun r Y1 => r = res ∧ Y1 = Y) :=
  fw_body (by decide +kernel) rfl (Nat.le_of_ble_eq_true rfl) (fun p e s m below meth c C hrt => w_X3_obstacle C hrt hG  h)
theorem ly_X3_missingBefore_3 : ∀ w ∈ u_ws RX3 TX3 5, w ∈ wsX3_missingBefore := by decide +kernel
theorem fl_X3_missingBefore_28 : Cond.fieldLink RX3 28 "RecipeScheduler$Kitchen" "recipe" "LRecipeScheduler$Recipe;" ∈ wsX3_missingBefore := by decide +kernel
theorem ly_X3_missingBefore_5 : ∀ w ∈ u_ws RX5 TX5 17, w ∈ wsX3_missingBefore := by decide +kernel
theorem fl_X3_missingBefore_12 : Cond.fieldLink RX3 12 "RecipeScheduler$Kitchen" "state" "LRecipeScheduler$State;" ∈ wsX3_missingBefore := by decide +kernel
theorem ly_X3_missingBefore_8 : ∀ w ∈ u_ws RX8 TX8 15, w ∈ wsX3_missingBefore := by decide +kernel
theorem in_X3_missingBefore_11 : Cond.initialized RX11 ∈ wsX3_missingBefore := by decide +kernel
theorem sw_X3_missingBefore_X11_contains : Cond.static yX11_contains ∈ wsX3_missingBefore := by decide +kernel
section
variable {p : Program} {l : Launch} {e : Env} {s : State} {m : MethodId} {below : List Frame} {meth : Method} {c : Code} {N0 : Nat} {T : Nat → ClassId} {D : va_G} {gr : List (Nat × Nat)} {ad : Nat → Nat → Nat → Nat}
set_option maxRecDepth 100000 in
set_option maxHeartbeats 4000000 in
theorem w_X3_missingBefore_b2 {Y : Mem} {g0 : Nat} {a1 : Int32} (C : Cx p s m [.ref (ad 1 g0 0), .int a1].toArray meth c cX3_missingBefore 4 wsX3_missingBefore RX3 N0 T D gr ad) (hrt : meth.sig.returnType = (some .int)) (hG : ∀ q ∈ ([(1, g0), (2, g0)] ++ allG), q ∈ gr) {res : Int32} : ∀ (n : Nat) (l2 : Int32), X3_missingBefore_b2 Y g0 a1  n l2 = some res → FW p l e (Rm 1) s m [.ref (ad 1 g0 0), .int a1].toArray below meth c 4 N0 T D gr ad 0 0 (MQ below (va_Qi (fun r Y1 => r = res ∧ Y1 = Y) (WB T D gr ad) (fun q => N0 ≤ q)) [.ref (ad 1 g0 0), .int a1].toArray s 0 0 (fun q => N0 ≤ q)) Y 2 [(2, .int l2), (0, .ref (ad 1 g0 0)), (1, .int a1)] [] := by
  intro n
  induction n with
  | zero =>
    intro l2 h
    unfold X3_missingBefore_b2 at h
    cases h
  | succ n ih =>
    intro l2 h
    unfold X3_missingBefore_b2 at h
    refine fw_iload_n C dX3_missingBefore_2 rfl 0 rfl ?_
    refine fw_aload_n C dX3_missingBefore_3 rfl 1 rfl ?_
    refine fw_get C (ci := 1) (Cn := RX3) (Tc := TX3) (N := 5) (j := 0) ly_X3_missingBefore_3 rfl (hG _ (List.mem_of_getElem? (i := 0) rfl)) (of1_0 _) (ce1 T ad _ _) (by decide) (cx_ts C _ fl_X3_missingBefore_28) (fun _ h => h) (v := .ref (ad 3 ((Y 1 g0 0 0).toNatClampNeg) 0)) rfl dX3_missingBefore_4 ?_
    obtain ⟨b1, h⟩ := gd_some h
    have b1 := of_decide_eq_true b1
    refine fw_getN C (ci := 3) (Cn := RX5) (Tc := TX5) (N := 17) (j := 12) ly_X3_missingBefore_5 rfl ((fun q hq => hG q (List.mem_append_right _ hq)) _ (allG_3 b1)) (of3_0 _) (ce3 T ad _ _) (by decide) (Nst_use (cx_nst C) (w := .fieldLinkNest RX3 184 "RecipeScheduler$Recipe" "predecessorCount" "[I" "RecipeScheduler") 165 (by decide +kernel) rfl) (fun _ h => h) (v := .ref (ad 3 (((Y 1 g0 0 0).toNatClampNeg)) 7)) rfl dX3_missingBefore_7 ?_
    refine fw_iload_n C dX3_missingBefore_10 rfl 2 rfl ?_
    obtain ⟨b2, h⟩ := gd_some h
    refine fw_iald2 C ((fun q hq => hG q (List.mem_append_right _ hq)) _ (allG_3 b1)) (of3_7 _) (ca3_7 T ad _ _) b2 (Nat.le_of_ble_eq_true rfl) dX3_missingBefore_11 ?_
    refine fw_icmp_ge C dX3_missingBefore_12 (tgt := 49) rfl (fun c3 => ?_) (fun c3 => ?_)
    · have h := ite_t c3 h
      refine fw_iconst C dX3_missingBefore_49 (v := (-1)) rfl ?_
      exact fw_iret C hrt Y ⟨Option.some.inj h, rfl⟩ (fun t ht => ht) dX3_missingBefore_50
    · have h := ite_f c3 h
      refine fw_aload_n C dX3_missingBefore_15 rfl 1 rfl ?_
      refine fw_get C (ci := 1) (Cn := RX3) (Tc := TX3) (N := 5) (j := 0) ly_X3_missingBefore_3 rfl (hG _ (List.mem_of_getElem? (i := 0) rfl)) (of1_0 _) (ce1 T ad _ _) (by decide) (cx_ts C _ fl_X3_missingBefore_28) (fun _ h => h) (v := .ref (ad 3 ((Y 1 g0 0 0).toNatClampNeg) 0)) rfl dX3_missingBefore_16 ?_
      refine fw_getN C (ci := 3) (Cn := RX5) (Tc := TX5) (N := 17) (j := 11) ly_X3_missingBefore_5 rfl ((fun q hq => hG q (List.mem_append_right _ hq)) _ (allG_3 b1)) (of3_0 _) (ce3 T ad _ _) (by decide) (Nst_use (cx_nst C) (w := .fieldLinkNest RX3 187 "RecipeScheduler$Recipe" "predecessors" "[[I" "RecipeScheduler") 161 (by decide +kernel) rfl) (fun _ h => h) (v := .ref (ad 3 (((Y 1 g0 0 0).toNatClampNeg)) 6)) rfl dX3_missingBefore_19 ?_
      refine fw_iload_n C dX3_missingBefore_22 rfl 2 rfl ?_
      refine fw_aald2 C 5 ((fun q hq => hG q (List.mem_append_right _ hq)) _ (allG_3 b1)) (of3_6 _) (ca3_6 T ad _ _) rfl rfl b2 (Nat.le_of_ble_eq_true rfl) (v := .ref (ad 3 (((Y 1 g0 0 0).toNatClampNeg)) (20+ix a1))) rfl dX3_missingBefore_23 ?_
      refine fw_iload_n C dX3_missingBefore_24 rfl 0 rfl ?_
      obtain ⟨b4, h⟩ := gd_some h
      refine fw_iald2 C ((fun q hq => hG q (List.mem_append_right _ hq)) _ (allG_3 b1)) (of3_r _ (inb_lt b2)) (ca3_r T ad _ _ _) b4 (Nat.le_of_ble_eq_true rfl) dX3_missingBefore_25 ?_
      obtain ⟨v5, e6, h⟩ := lt_some h
      refine fw_top (v' := .int v5) (by rw [e6]) ?_
      refine fw_istore_n C dX3_missingBefore_26 rfl (by decide) (L' := [(3, .int v5), (2, .int l2), (0, .ref (ad 1 g0 0)), (1, .int a1)]) rfl ?_
      refine fw_aload_n C dX3_missingBefore_27 rfl 2 rfl ?_
      refine fw_get C (ci := 1) (Cn := RX3) (Tc := TX3) (N := 5) (j := 1) ly_X3_missingBefore_3 rfl (hG _ (List.mem_of_getElem? (i := 0) rfl)) (of1_0 _) (ce1 T ad _ _) (by decide) (cx_ts C _ fl_X3_missingBefore_12) (fun _ h => h) (v := .ref (ad 2 g0 0)) rfl dX3_missingBefore_28 ?_
      refine fw_getN C (ci := 6) (Cn := RX8) (Tc := TX8) (N := 15) (j := 7) ly_X3_missingBefore_8 rfl (hG _ (List.mem_of_getElem? (i := 1) rfl)) (of2_0 _) (ce2 T ad _ _) (by decide) (Nst_use (cx_nst C) (w := .fieldLinkNest RX3 47 "RecipeScheduler$State" "done" "I" "RecipeScheduler") 455 (by decide +kernel) rfl) (fun _ h => h) (v := .int (Y 2 g0 0 7)) rfl dX3_missingBefore_31 ?_
      refine fw_iload_n C dX3_missingBefore_34 rfl 0 rfl ?_
      obtain ⟨r7, q8, h⟩ := bd1_some h
      refine fw_callSNi C (As := [.int (Y 2 g0 0 7), .int v5]) (c_X11_contains ga0 q8) ⟨(va_cnB 2 (cx_ts C) gX3_missingBefore_X11_contains_n100 rfl rfl rfl (cx_nw C (w := .methodLinkNest RX3 100 yX11_contains "RecipeScheduler") 623 (by decide +kernel) rfl) (cx_ts C _ in_X3_missingBefore_11) (by decide +kernel) ⟨Nat.le_of_ble_eq_true rfl, Nat.le_of_ble_eq_true rfl⟩), cx_ts C _ sw_X3_missingBefore_X11_contains, trivial⟩ rfl (st := []) rfl (Nat.le_of_ble_eq_true rfl) ⟨Nat.le_refl 0, Nat.le_refl 0⟩ dX3_missingBefore_35 (pp2 ?_)
      refine fw_if_ne C dX3_missingBefore_38 (tgt := 43) rfl (fun c9 => ?_) (fun c9 => ?_)
      · have h := ite_f c9 h
        refine fw_iinc C dX3_missingBefore_43 (kk := 1) (v := l2 + 1) rfl rfl (by decide) (L' := [(2, .int (l2 + 1)), (3, .int v5), (0, .ref (ad 1 g0 0)), (1, .int a1)]) rfl ?_
        refine fw_goto C dX3_missingBefore_46 (tgt := 2) rfl ?_
        refine fw_sub [0, 2, 3] (L' := [(2, .int (l2 + 1)), (0, .ref (ad 1 g0 0)), (1, .int a1)]) rfl ?_
        exact ih _ h
      · have h := ite_t c9 h
        refine fw_iload_n C dX3_missingBefore_41 rfl 0 rfl ?_
        exact fw_iret C hrt Y ⟨Option.some.inj h, rfl⟩ (fun t ht => ht) dX3_missingBefore_42
set_option maxRecDepth 100000 in
set_option maxHeartbeats 4000000 in
theorem w_X3_missingBefore {Y : Mem} {g0 : Nat} {a1 : Int32} (C : Cx p s m [.ref (ad 1 g0 0), .int a1].toArray meth c cX3_missingBefore 4 wsX3_missingBefore RX3 N0 T D gr ad) (hrt : meth.sig.returnType = (some .int)) (hG : ∀ q ∈ ([(1, g0), (2, g0)] ++ allG), q ∈ gr) {res : Int32} (h : X3_missingBefore Y g0 a1 = some res) : FW p l e (Rm 1) s m [.ref (ad 1 g0 0), .int a1].toArray below meth c 4 N0 T D gr ad 0 0 (MQ below (va_Qi (fun r Y1 => r = res ∧ Y1 = Y) (WB T D gr ad) (fun q => N0 ≤ q)) [.ref (ad 1 g0 0), .int a1].toArray s 0 0 (fun q => N0 ≤ q)) Y 0 [(0, .ref (ad 1 g0 0)), (1, .int a1)] [] := by
  unfold X3_missingBefore at h
  refine fw_iconst C dX3_missingBefore_0 (v := 0) rfl ?_
  refine fw_istore_n C dX3_missingBefore_1 rfl (by decide) (L' := [(2, .int 0), (0, .ref (ad 1 g0 0)), (1, .int a1)]) rfl ?_
  exact w_X3_missingBefore_b2 C hrt hG   _ _ h
end
set_option maxRecDepth 100000 in
set_option maxHeartbeats 4000000 in
theorem c_X3_missingBefore {l : Launch} {N0 : Nat} {T : Nat → ClassId} {D : va_G} {gr : List (Nat × Nat)} {ad : Nat → Nat → Nat → Nat} {Y : Mem} {g0 : Nat} {a1 : Int32} {res : Int32} (hG : ∀ q ∈ ([(1, g0), (2, g0)] ++ allG), q ∈ gr) (h : X3_missingBefore Y g0 a1 = some res) : CI l yX3_missingBefore wsX3_missingBefore (Rm 1) N0 T D gr ad Y [.ref (ad 1 g0 0), .int a1] (fun r Y1 => r = res ∧ Y1 = Y) :=
  fw_body (by decide +kernel) rfl (Nat.le_of_ble_eq_true rfl) (fun p e s m below meth c C hrt => w_X3_missingBefore C hrt hG  h)
section
variable {p : Program} {l : Launch} {e : Env} {s : State} {m : MethodId} {below : List Frame} {meth : Method} {c : Code} {N0 : Nat} {T : Nat → ClassId} {D : va_G} {gr : List (Nat × Nat)} {ad : Nat → Nat → Nat → Nat}
set_option maxRecDepth 100000 in
set_option maxHeartbeats 4000000 in
theorem w_X11_lowestOf_b2 {Y : Mem} {a0 : Int32} (C : Cx p s m [.int a0].toArray meth c cX11_lowestOf 2 wsX11_lowestOf RX11 N0 T D gr ad) (hrt : meth.sig.returnType = (some .int)) (hG : ∀ q ∈ [], q ∈ gr) {res : Int32} : ∀ (n : Nat) (l1 : Int32), X11_lowestOf_b2 Y a0  n l1 = some res → FW p l e (Rm 1) s m [.int a0].toArray below meth c 2 N0 T D gr ad 0 0 (MQ below (va_Qi (fun r Y1 => r = res ∧ Y1 = Y) (WB T D gr ad) (fun q => N0 ≤ q)) [.int a0].toArray s 0 0 (fun q => N0 ≤ q)) Y 2 [(1, .int l1), (0, .int a0)] [] := by
  intro n
  induction n with
  | zero =>
    intro l1 h
    unfold X11_lowestOf_b2 at h
    cases h
  | succ n ih =>
    intro l1 h
    unfold X11_lowestOf_b2 at h
    refine fw_iload_n C dX11_lowestOf_2 rfl 0 rfl ?_
    refine fw_bipush C dX11_lowestOf_3 (v := 14) rfl ?_
    refine fw_icmp_ge C dX11_lowestOf_5 (tgt := 24) rfl (fun c1 => ?_) (fun c1 => ?_)
    · have h := ite_t c1 h
      refine fw_iconst C dX11_lowestOf_24 (v := (-1)) rfl ?_
      exact fw_iret C hrt Y ⟨Option.some.inj h, rfl⟩ (fun t ht => ht) dX11_lowestOf_25
    · have h := ite_f c1 h
      refine fw_iload_n C dX11_lowestOf_8 rfl 1 rfl ?_
      refine fw_iload_n C dX11_lowestOf_9 rfl 0 rfl ?_
      obtain ⟨r2, q3, h⟩ := bd1_some h
      refine fw_callSi C (As := [.int a0, .int l1]) (c_X11_contains ga0 q3) (va_cwS 2 (cx_ts C) gX11_lowestOf_X11_contains rfl rfl rfl (by decide +kernel) ⟨Nat.le_of_ble_eq_true rfl, Nat.le_of_ble_eq_true rfl⟩) rfl (st := []) rfl (Nat.le_of_ble_eq_true rfl) ⟨Nat.le_refl 0, Nat.le_refl 0⟩ dX11_lowestOf_10 (pp2 ?_)
      refine fw_if_eq C dX11_lowestOf_13 (tgt := 18) rfl (fun c4 => ?_) (fun c4 => ?_)
      · have h := ite_t c4 h
        refine fw_iinc C dX11_lowestOf_18 (kk := 0) (v := l1 + 1) rfl rfl (by decide) (L' := [(1, .int (l1 + 1)), (0, .int a0)]) rfl ?_
        refine fw_goto C dX11_lowestOf_21 (tgt := 2) rfl ?_
        exact ih _ h
      · have h := ite_f c4 h
        refine fw_iload_n C dX11_lowestOf_16 rfl 0 rfl ?_
        exact fw_iret C hrt Y ⟨Option.some.inj h, rfl⟩ (fun t ht => ht) dX11_lowestOf_17
set_option maxRecDepth 100000 in
set_option maxHeartbeats 4000000 in
theorem w_X11_lowestOf {Y : Mem} {a0 : Int32} (C : Cx p s m [.int a0].toArray meth c cX11_lowestOf 2 wsX11_lowestOf RX11 N0 T D gr ad) (hrt : meth.sig.returnType = (some .int)) (hG : ∀ q ∈ [], q ∈ gr) {res : Int32} (h : X11_lowestOf Y a0 = some res) : FW p l e (Rm 1) s m [.int a0].toArray below meth c 2 N0 T D gr ad 0 0 (MQ below (va_Qi (fun r Y1 => r = res ∧ Y1 = Y) (WB T D gr ad) (fun q => N0 ≤ q)) [.int a0].toArray s 0 0 (fun q => N0 ≤ q)) Y 0 [(0, .int a0)] [] := by
  unfold X11_lowestOf at h
  refine fw_iconst C dX11_lowestOf_0 (v := 0) rfl ?_
  refine fw_istore_n C dX11_lowestOf_1 rfl (by decide) (L' := [(1, .int 0), (0, .int a0)]) rfl ?_
  exact w_X11_lowestOf_b2 C hrt hG   _ _ h
end
set_option maxRecDepth 100000 in
set_option maxHeartbeats 4000000 in
theorem c_X11_lowestOf {l : Launch} {N0 : Nat} {T : Nat → ClassId} {D : va_G} {gr : List (Nat × Nat)} {ad : Nat → Nat → Nat → Nat} {Y : Mem} {a0 : Int32} {res : Int32} (hG : ∀ q ∈ [], q ∈ gr) (h : X11_lowestOf Y a0 = some res) : CI l yX11_lowestOf wsX11_lowestOf (Rm 1) N0 T D gr ad Y [.int a0] (fun r Y1 => r = res ∧ Y1 = Y) :=
  fw_body (by decide +kernel) rfl (Nat.le_of_ble_eq_true rfl) (fun p e s m below meth c C hrt => w_X11_lowestOf C hrt hG  h)
theorem ly_X3_blocker_3 : ∀ w ∈ u_ws RX3 TX3 5, w ∈ wsX3_blocker := by decide +kernel
theorem fl_X3_blocker_28 : Cond.fieldLink RX3 28 "RecipeScheduler$Kitchen" "recipe" "LRecipeScheduler$Recipe;" ∈ wsX3_blocker := by decide +kernel
theorem ly_X3_blocker_5 : ∀ w ∈ u_ws RX5 TX5 17, w ∈ wsX3_blocker := by decide +kernel
theorem in_X3_blocker_11 : Cond.initialized RX11 ∈ wsX3_blocker := by decide +kernel
theorem sw_X3_blocker_X11_lowestOf : Cond.static yX11_lowestOf ∈ wsX3_blocker := by decide +kernel
theorem fl_X3_blocker_12 : Cond.fieldLink RX3 12 "RecipeScheduler$Kitchen" "state" "LRecipeScheduler$State;" ∈ wsX3_blocker := by decide +kernel
theorem ly_X3_blocker_8 : ∀ w ∈ u_ws RX8 TX8 15, w ∈ wsX3_blocker := by decide +kernel
section
variable {p : Program} {l : Launch} {e : Env} {s : State} {m : MethodId} {below : List Frame} {meth : Method} {c : Code} {N0 : Nat} {T : Nat → ClassId} {D : va_G} {gr : List (Nat × Nat)} {ad : Nat → Nat → Nat → Nat}
set_option maxRecDepth 100000 in
set_option maxHeartbeats 4000000 in
theorem w_X3_blocker {Y : Mem} {g0 : Nat} {a1 : Int32} (C : Cx p s m [.ref (ad 1 g0 0), .int a1].toArray meth c cX3_blocker 2 wsX3_blocker RX3 N0 T D gr ad) (hrt : meth.sig.returnType = (some .int)) (hG : ∀ q ∈ ([(2, g0), (1, g0)] ++ allG), q ∈ gr) {res : Int32} (h : X3_blocker Y g0 a1 = some res) : FW p l e (Rm 3) s m [.ref (ad 1 g0 0), .int a1].toArray below meth c 2 N0 T D gr ad 0 0 (MQ below (va_Qi (fun r Y1 => r = res ∧ Y1 = Y) (WB T D gr ad) (fun q => N0 ≤ q)) [.ref (ad 1 g0 0), .int a1].toArray s 0 0 (fun q => N0 ≤ q)) Y 0 [(0, .ref (ad 1 g0 0)), (1, .int a1)] [] := by
  unfold X3_blocker at h
  refine fw_aload_n C dX3_blocker_0 rfl 0 rfl ?_
  refine fw_iload_n C dX3_blocker_1 rfl 1 rfl ?_
  obtain ⟨r1, q2, h⟩ := bd1_some h
  refine fw_callVi C (ci := 1) (Cn := RX3) (Tc := TX3) (N := 5) (As := [.int a1]) (c_X3_obstacle (gac (hG _ (List.mem_of_getElem? (i := 1) rfl)) (gac (hG _ (List.mem_of_getElem? (i := 0) rfl)) (fun q hq => hG q (List.mem_append_right _ hq)))) q2) (cwV 1 (cx_ts C) gX3_blocker_X3_obstacle rfl rfl rfl (by decide +kernel) ⟨Nat.le_of_ble_eq_true rfl, Nat.le_of_ble_eq_true rfl⟩) rfl (hG _ (List.mem_of_getElem? (i := 1) rfl)) (of1_0 _) (ce1 T ad _ _) rfl (st := []) rfl (Nat.le_of_ble_eq_true rfl) ⟨Nat.le_refl 0, Nat.le_refl 0⟩ dX3_blocker_2 (pp2 ?_)
  by_cases c3 : r1 = 2
  · have h := ite_t c3 h
    refine fw_tableIn C dX3_blocker_5 (by rw [c3]; decide) (by rw [c3]; decide) (off := 27) (by rw [c3]; rfl) (tgt := 32) rfl ?_
    refine fw_aload_n C dX3_blocker_32 rfl 0 rfl ?_
    refine fw_iload_n C dX3_blocker_33 rfl 1 rfl ?_
    obtain ⟨r4, q5, h⟩ := bd1_some h
    refine fw_callVi C (ci := 1) (Cn := RX3) (Tc := TX3) (N := 5) (As := [.int a1]) (c_X3_missingBefore (gac (hG _ (List.mem_of_getElem? (i := 1) rfl)) (gac (hG _ (List.mem_of_getElem? (i := 0) rfl)) (fun q hq => hG q (List.mem_append_right _ hq)))) q5) (cwV 1 (cx_ts C) gX3_blocker_X3_missingBefore rfl rfl rfl (by decide +kernel) ⟨Nat.le_of_ble_eq_true rfl, Nat.le_of_ble_eq_true rfl⟩) rfl (hG _ (List.mem_of_getElem? (i := 1) rfl)) (of1_0 _) (ce1 T ad _ _) rfl (st := []) rfl (Nat.le_of_ble_eq_true rfl) ⟨Nat.le_refl 0, Nat.le_refl 0⟩ dX3_blocker_34 (pp2 ?_)
    exact fw_iret C hrt Y ⟨Option.some.inj h, rfl⟩ (fun t ht => ht) dX3_blocker_37
  · have h := ite_f c3 h
    by_cases c6 : r1 = 3
    · have h := ite_t c6 h
      refine fw_tableIn C dX3_blocker_5 (by rw [c6]; decide) (by rw [c6]; decide) (off := 33) (by rw [c6]; rfl) (tgt := 38) rfl ?_
      refine fw_aload_n C dX3_blocker_38 rfl 0 rfl ?_
      refine fw_aload_n C dX3_blocker_39 rfl 0 rfl ?_
      refine fw_get C (ci := 1) (Cn := RX3) (Tc := TX3) (N := 5) (j := 0) ly_X3_blocker_3 rfl (hG _ (List.mem_of_getElem? (i := 1) rfl)) (of1_0 _) (ce1 T ad _ _) (by decide) (cx_ts C _ fl_X3_blocker_28) (fun _ h => h) (v := .ref (ad 3 ((Y 1 g0 0 0).toNatClampNeg) 0)) rfl dX3_blocker_40 ?_
      obtain ⟨b7, h⟩ := gd_some h
      have b7 := of_decide_eq_true b7
      refine fw_getN C (ci := 3) (Cn := RX5) (Tc := TX5) (N := 17) (j := 10) ly_X3_blocker_5 rfl ((fun q hq => hG q (List.mem_append_right _ hq)) _ (allG_3 b7)) (of3_0 _) (ce3 T ad _ _) (by decide) (Nst_use (cx_nst C) (w := .fieldLinkNest RX3 147 "RecipeScheduler$Recipe" "pan" "[I" "RecipeScheduler") 158 (by decide +kernel) rfl) (fun _ h => h) (v := .ref (ad 3 (((Y 1 g0 0 0).toNatClampNeg)) 5)) rfl dX3_blocker_43 ?_
      refine fw_iload_n C dX3_blocker_46 rfl 1 rfl ?_
      obtain ⟨b8, h⟩ := gd_some h
      refine fw_iald2 C ((fun q hq => hG q (List.mem_append_right _ hq)) _ (allG_3 b7)) (of3_5 _) (ca3_5 T ad _ _) b8 (Nat.le_of_ble_eq_true rfl) dX3_blocker_47 ?_
      obtain ⟨r9, q10, h⟩ := bd1_some h
      refine fw_callVi C (ci := 1) (Cn := RX3) (Tc := TX3) (N := 5) (As := [.int (Y 3 (((Y 1 g0 0 0).toNatClampNeg)) 5 (ix a1))]) (c_X3_occupants (gac (hG _ (List.mem_of_getElem? (i := 1) rfl)) (gac (hG _ (List.mem_of_getElem? (i := 0) rfl)) (fun q hq => hG q (List.mem_append_right _ hq)))) q10) (cwV 1 (cx_ts C) gX3_blocker_X3_occupants rfl rfl rfl (by decide +kernel) ⟨Nat.le_of_ble_eq_true rfl, Nat.le_of_ble_eq_true rfl⟩) rfl (hG _ (List.mem_of_getElem? (i := 1) rfl)) (of1_0 _) (ce1 T ad _ _) rfl (st := []) rfl (Nat.le_of_ble_eq_true rfl) ⟨Nat.le_refl 0, Nat.le_refl 0⟩ dX3_blocker_48 (pp2 ?_)
      obtain ⟨r11, q12, h⟩ := bd1_some h
      refine fw_callSNi C (As := [.int r9]) (c_X11_lowestOf ga0 q12) ⟨(va_cnB 1 (cx_ts C) gX3_blocker_X11_lowestOf_n181 rfl rfl rfl (cx_nw C (w := .methodLinkNest RX3 181 yX11_lowestOf "RecipeScheduler") 1139 (by decide +kernel) rfl) (cx_ts C _ in_X3_blocker_11) (by decide +kernel) ⟨Nat.le_of_ble_eq_true rfl, Nat.le_of_ble_eq_true rfl⟩), cx_ts C _ sw_X3_blocker_X11_lowestOf, trivial⟩ rfl (st := []) rfl (Nat.le_of_ble_eq_true rfl) ⟨Nat.le_refl 0, Nat.le_refl 0⟩ dX3_blocker_51 (pp2 ?_)
      exact fw_iret C hrt Y ⟨Option.some.inj h, rfl⟩ (fun t ht => ht) dX3_blocker_54
    · have h := ite_f c6 h
      by_cases c13 : r1 = 4
      · have h := ite_t c13 h
        refine fw_tableIn C dX3_blocker_5 (by rw [c13]; decide) (by rw [c13]; decide) (off := 50) (by rw [c13]; rfl) (tgt := 55) rfl ?_
        refine fw_aload_n C dX3_blocker_55 rfl 0 rfl ?_
        refine fw_get C (ci := 1) (Cn := RX3) (Tc := TX3) (N := 5) (j := 1) ly_X3_blocker_3 rfl (hG _ (List.mem_of_getElem? (i := 1) rfl)) (of1_0 _) (ce1 T ad _ _) (by decide) (cx_ts C _ fl_X3_blocker_12) (fun _ h => h) (v := .ref (ad 2 g0 0)) rfl dX3_blocker_56 ?_
        refine fw_getN C (ci := 6) (Cn := RX8) (Tc := TX8) (N := 15) (j := 6) ly_X3_blocker_8 rfl (hG _ (List.mem_of_getElem? (i := 0) rfl)) (of2_0 _) (ce2 T ad _ _) (by decide) (Nst_use (cx_nst C) (w := .fieldLinkNest RX3 82 "RecipeScheduler$State" "running" "I" "RecipeScheduler") 452 (by decide +kernel) rfl) (fun _ h => h) (v := .int (Y 2 g0 0 6)) rfl dX3_blocker_59 ?_
        refine fw_aload_n C dX3_blocker_62 rfl 0 rfl ?_
        refine fw_get C (ci := 1) (Cn := RX3) (Tc := TX3) (N := 5) (j := 0) ly_X3_blocker_3 rfl (hG _ (List.mem_of_getElem? (i := 1) rfl)) (of1_0 _) (ce1 T ad _ _) (by decide) (cx_ts C _ fl_X3_blocker_28) (fun _ h => h) (v := .ref (ad 3 ((Y 1 g0 0 0).toNatClampNeg) 0)) rfl dX3_blocker_63 ?_
        obtain ⟨b14, h⟩ := gd_some h
        have b14 := of_decide_eq_true b14
        refine fw_getN C (ci := 3) (Cn := RX5) (Tc := TX5) (N := 17) (j := 16) ly_X3_blocker_5 rfl ((fun q hq => hG q (List.mem_append_right _ hq)) _ (allG_3 b14)) (of3_0 _) (ce3 T ad _ _) (by decide) (Nst_use (cx_nst C) (w := .fieldLinkNest RX3 88 "RecipeScheduler$Recipe" "alone" "I" "RecipeScheduler") 179 (by decide +kernel) rfl) (fun _ h => h) (v := .int (Y 3 ((Y 1 g0 0 0).toNatClampNeg) 0 16)) rfl dX3_blocker_66 ?_
        refine fw_iconst C dX3_blocker_69 (v := (-1)) rfl ?_
        refine fw_ixor C dX3_blocker_70 ?_
        refine fw_iand C dX3_blocker_71 ?_
        obtain ⟨r15, q16, h⟩ := bd1_some h
        refine fw_callSNi C (As := [.int ((Y 2 g0 0 6) &&& ((Y 3 ((Y 1 g0 0 0).toNatClampNeg) 0 16) ^^^ ((-1))))]) (c_X11_lowestOf ga0 q16) ⟨(va_cnB 1 (cx_ts C) gX3_blocker_X11_lowestOf_n181 rfl rfl rfl (cx_nw C (w := .methodLinkNest RX3 181 yX11_lowestOf "RecipeScheduler") 1139 (by decide +kernel) rfl) (cx_ts C _ in_X3_blocker_11) (by decide +kernel) ⟨Nat.le_of_ble_eq_true rfl, Nat.le_of_ble_eq_true rfl⟩), cx_ts C _ sw_X3_blocker_X11_lowestOf, trivial⟩ rfl (st := []) rfl (Nat.le_of_ble_eq_true rfl) ⟨Nat.le_refl 0, Nat.le_refl 0⟩ dX3_blocker_72 (pp2 ?_)
        exact fw_iret C hrt Y ⟨Option.some.inj h, rfl⟩ (fun t ht => ht) dX3_blocker_75
      · have h := ite_f c13 h
        have c3 : ¬ (r1).toInt = 2 := fun q => c3 (Int32.toInt_inj.mp (by rw [q]; rfl))
        have c6 : ¬ (r1).toInt = 3 := fun q => c6 (Int32.toInt_inj.mp (by rw [q]; rfl))
        have c13 : ¬ (r1).toInt = 4 := fun q => c13 (Int32.toInt_inj.mp (by rw [q]; rfl))
        refine fw_tableOut C dX3_blocker_5 (by omega) (tgt := 76) rfl ?_
        refine fw_iconst C dX3_blocker_76 (v := (-1)) rfl ?_
        exact fw_iret C hrt Y ⟨Option.some.inj h, rfl⟩ (fun t ht => ht) dX3_blocker_77
end
set_option maxRecDepth 100000 in
set_option maxHeartbeats 4000000 in
theorem c_X3_blocker {l : Launch} {N0 : Nat} {T : Nat → ClassId} {D : va_G} {gr : List (Nat × Nat)} {ad : Nat → Nat → Nat → Nat} {Y : Mem} {g0 : Nat} {a1 : Int32} {res : Int32} (hG : ∀ q ∈ ([(2, g0), (1, g0)] ++ allG), q ∈ gr) (h : X3_blocker Y g0 a1 = some res) : CI l yX3_blocker wsX3_blocker (Rm 3) N0 T D gr ad Y [.ref (ad 1 g0 0), .int a1] (fun r Y1 => r = res ∧ Y1 = Y) :=
  fw_body (by decide +kernel) rfl (Nat.le_of_ble_eq_true rfl) (fun p e s m below meth c C hrt => w_X3_blocker C hrt hG  h)
theorem ly_X11_blockingStep_11 : ∀ w ∈ u_ws RX11 TX11 11, w ∈ wsX11_blockingStep := by decide +kernel
theorem fl_X11_blockingStep_67 : Cond.fieldLink RX11 67 "RecipeScheduler" "now" "LRecipeScheduler$Kitchen;" ∈ wsX11_blockingStep := by decide +kernel
section
variable {p : Program} {l : Launch} {e : Env} {s : State} {m : MethodId} {below : List Frame} {meth : Method} {c : Code} {N0 : Nat} {T : Nat → ClassId} {D : va_G} {gr : List (Nat × Nat)} {ad : Nat → Nat → Nat → Nat}
set_option maxRecDepth 100000 in
set_option maxHeartbeats 4000000 in
theorem w_X11_blockingStep {Y : Mem} {a1 : Int32} (C : Cx p s m [.ref (ad 0 0 0), .int a1].toArray meth c cX11_blockingStep 2 wsX11_blockingStep RX11 N0 T D gr ad) (hrt : meth.sig.returnType = (some .int)) (hG : ∀ q ∈ ([(1, 0), (0, 0), (2, 0)] ++ allG), q ∈ gr) (hl : l.stackTraces = false) (hX : ∀ x ∈ c.exceptionTable.toList, False) {res : (Nat × Mem) ⊕ (Int32 × Mem)} (h : X11_blockingStep Y a1 = some res) : FW p l e (Rx 7 1) s m [.ref (ad 0 0 0), .int a1].toArray below meth c 2 N0 T D gr ad 0 0 (vx_MQ below (va_Qi (fun r Y1 => Sum.inr (r, Y1) = res) (WB T D gr ad) (fun q => N0 ≤ q)) (vx_X (fun u => Sum.inl u = res) (XB T D gr ad) (fun q => N0 ≤ q)) [.ref (ad 0 0 0), .int a1].toArray s 1 6 (fun q => N0 ≤ q)) Y 0 [(0, .ref (ad 0 0 0)), (1, .int a1)] [] := by
  unfold X11_blockingStep at h
  refine fw_aload_n C dX11_blockingStep_0 rfl 0 rfl ?_
  refine fw_iload_n C dX11_blockingStep_1 rfl 1 rfl ?_
  rcases bdxv_some h with ⟨x5, q2, e6⟩ | ⟨Y4, q2, h⟩
  · exact fw_callXVv_l C (ci := 9) (Cn := RX11) (Tc := TX11) (N := 11) (As := [.int a1]) (c_X11_requireStep hl (gac (hG _ (List.mem_of_getElem? (i := 1) rfl)) (gac (hG _ (List.mem_of_getElem? (i := 0) rfl)) (fun q hq => hG q (List.mem_append_right _ hq)))) q2) (cwV 1 (cx_ts C) gX11_blockingStep_X11_requireStep rfl rfl rfl (by decide +kernel) ⟨Nat.le_of_ble_eq_true rfl, Nat.le_of_ble_eq_true rfl⟩) rfl (hG _ (List.mem_of_getElem? (i := 1) rfl)) (of0_0 _) (ce0 T ad _ _) rfl (st := []) rfl (Nat.le_of_ble_eq_true rfl) ⟨Nat.le_of_ble_eq_true rfl, Nat.le_of_ble_eq_true rfl⟩ dX11_blockingStep_2 hX e6 (Nat.le_of_ble_eq_true rfl) (Nat.le_of_ble_eq_true rfl)
  refine fw_callXVv_r C (ci := 9) (Cn := RX11) (Tc := TX11) (N := 11) (As := [.int a1]) (c_X11_requireStep hl (gac (hG _ (List.mem_of_getElem? (i := 1) rfl)) (gac (hG _ (List.mem_of_getElem? (i := 0) rfl)) (fun q hq => hG q (List.mem_append_right _ hq)))) q2) (cwV 1 (cx_ts C) gX11_blockingStep_X11_requireStep rfl rfl rfl (by decide +kernel) ⟨Nat.le_of_ble_eq_true rfl, Nat.le_of_ble_eq_true rfl⟩) rfl (hG _ (List.mem_of_getElem? (i := 1) rfl)) (of0_0 _) (ce0 T ad _ _) rfl (st := []) rfl (Nat.le_of_ble_eq_true rfl) ⟨Nat.le_of_ble_eq_true rfl, Nat.le_of_ble_eq_true rfl⟩ dX11_blockingStep_2 ?_
  refine fw_aload_n C dX11_blockingStep_5 rfl 0 rfl ?_
  refine fw_get C (ci := 9) (Cn := RX11) (Tc := TX11) (N := 11) (j := 5) ly_X11_blockingStep_11 rfl (hG _ (List.mem_of_getElem? (i := 1) rfl)) (of0_0 _) (ce0 T ad _ _) (by decide) (cx_ts C _ fl_X11_blockingStep_67) (fun _ h => h) (v := .ref (ad 1 0 0)) rfl dX11_blockingStep_6 ?_
  refine fw_iload_n C dX11_blockingStep_9 rfl 1 rfl ?_
  obtain ⟨r7, q8, h⟩ := bd1_some h
  refine fw_callVi C (ci := 1) (Cn := RX3) (Tc := TX3) (N := 5) (As := [.int a1]) (c_X3_blocker (gac (hG _ (List.mem_of_getElem? (i := 2) rfl)) (gac (hG _ (List.mem_of_getElem? (i := 0) rfl)) (fun q hq => hG q (List.mem_append_right _ hq)))) q8) (cwV 1 (cx_ts C) gX11_blockingStep_X3_blocker rfl rfl rfl (by decide +kernel) ⟨Nat.le_of_ble_eq_true rfl, Nat.le_of_ble_eq_true rfl⟩) rfl (hG _ (List.mem_of_getElem? (i := 0) rfl)) (of1_0 _) (ce1 T ad _ _) rfl (st := []) rfl (Nat.le_of_ble_eq_true rfl) ⟨Nat.le_refl 0, Nat.le_refl 0⟩ dX11_blockingStep_10 (pp2 ?_)
  refine fw_xr (Nat.le_of_ble_eq_true rfl) (Nat.le_of_ble_eq_true rfl) ?_
  exact fw_iret C hrt Y4 (Option.some.inj h) (fun t ht => ht) dX11_blockingStep_13
end
set_option maxRecDepth 100000 in
set_option maxHeartbeats 4000000 in
theorem c_X11_blockingStep {l : Launch} {N0 : Nat} {T : Nat → ClassId} {D : va_G} {gr : List (Nat × Nat)} {ad : Nat → Nat → Nat → Nat} {Y : Mem} {a1 : Int32} {res : (Nat × Mem) ⊕ (Int32 × Mem)} (hl : l.stackTraces = false) (hG : ∀ q ∈ ([(1, 0), (0, 0), (2, 0)] ++ allG), q ∈ gr) (h : X11_blockingStep Y a1 = some res) : CXi l yX11_blockingStep wsX11_blockingStep (Rx 7 1) N0 T D gr ad Y [.ref (ad 0 0 0), .int a1] 1 res :=
  fw_xbody (by decide +kernel) rfl (Nat.le_of_ble_eq_true rfl) (fun p e s m below meth c C hrt hX => w_X11_blockingStep C hrt hG hl hX h)
theorem ly_X3_copyFrom_3 : ∀ w ∈ u_ws RX3 TX3 5, w ∈ wsX3_copyFrom := by decide +kernel
theorem fl_X3_copyFrom_28 : Cond.fieldLink RX3 28 "RecipeScheduler$Kitchen" "recipe" "LRecipeScheduler$Recipe;" ∈ wsX3_copyFrom := by decide +kernel
theorem fl_X3_copyFrom_12 : Cond.fieldLink RX3 12 "RecipeScheduler$Kitchen" "state" "LRecipeScheduler$State;" ∈ wsX3_copyFrom := by decide +kernel
section
variable {p : Program} {l : Launch} {e : Env} {s : State} {m : MethodId} {below : List Frame} {meth : Method} {c : Code} {N0 : Nat} {T : Nat → ClassId} {D : va_G} {gr : List (Nat × Nat)} {ad : Nat → Nat → Nat → Nat}
set_option maxRecDepth 100000 in
set_option maxHeartbeats 4000000 in
theorem w_X3_copyFrom {Y : Mem} {g0 : Nat} {g1 : Nat} (C : Cx p s m [.ref (ad 1 g0 0), .ref (ad 1 g1 0)].toArray meth c cX3_copyFrom 2 wsX3_copyFrom RX3 N0 T D gr ad) (hrt : meth.sig.returnType = none) (hG : ∀ q ∈ ([(1, g1), (1, g0), (2, g0), (2, g1)] ++ allG), q ∈ gr) {res : Mem} (h : X3_copyFrom Y g0 g1 = some res) : FW p l e (Rm 2) s m [.ref (ad 1 g0 0), .ref (ad 1 g1 0)].toArray below meth c 2 N0 T D gr ad 0 0 (MQ below (va_Qv (fun Y1 => Y1 = res) (WB T D gr ad) (fun q => N0 ≤ q)) [.ref (ad 1 g0 0), .ref (ad 1 g1 0)].toArray s 0 0 (fun q => N0 ≤ q)) Y 0 [(0, .ref (ad 1 g0 0)), (1, .ref (ad 1 g1 0))] [] := by
  unfold X3_copyFrom at h
  refine fw_aload_n C dX3_copyFrom_0 rfl 0 rfl ?_
  refine fw_aload_n C dX3_copyFrom_1 rfl 1 rfl ?_
  refine fw_get C (ci := 1) (Cn := RX3) (Tc := TX3) (N := 5) (j := 0) ly_X3_copyFrom_3 rfl (hG _ (List.mem_of_getElem? (i := 0) rfl)) (of1_0 _) (ce1 T ad _ _) (by decide) (cx_ts C _ fl_X3_copyFrom_28) (fun _ h => h) (v := .ref (ad 3 ((Y 1 g1 0 0).toNatClampNeg) 0)) rfl dX3_copyFrom_2 ?_
  obtain ⟨b3, h⟩ := gd_some h
  have b3 := of_decide_eq_true b3
  obtain ⟨Y1, e2, h⟩ := lt_some h
  refine fw_put C (ci := 1) (Cn := RX3) (Tc := TX3) (N := 5) (j := 0) (ty := (.object RX5)) (upd (Y 1 g0 0) 0 (Int32.ofNat ((Y 1 g1 0 0).toNatClampNeg))) ly_X3_copyFrom_3 rfl tyX3_ok nmX3 (hG _ (List.mem_of_getElem? (i := 1) rfl)) (of1_0 _) (ce1 T ad _ _) (by decide) (cx_ts C _ fl_X3_copyFrom_28) (fun _ h => h) rfl (by decide +kernel) rfl rfl (Nat.le_of_ble_eq_true rfl) (ce1_put0 T ad _ _ _ b3) dX3_copyFrom_5 ?_
  refine fw_mem ((up_eq _ _ _ _ _ _).symm.trans e2) ?_
  refine fw_aload_n C dX3_copyFrom_8 rfl 0 rfl ?_
  refine fw_get C (ci := 1) (Cn := RX3) (Tc := TX3) (N := 5) (j := 1) ly_X3_copyFrom_3 rfl (hG _ (List.mem_of_getElem? (i := 1) rfl)) (of1_0 _) (ce1 T ad _ _) (by decide) (cx_ts C _ fl_X3_copyFrom_12) (fun _ h => h) (v := .ref (ad 2 g0 0)) rfl dX3_copyFrom_9 ?_
  refine fw_aload_n C dX3_copyFrom_12 rfl 1 rfl ?_
  refine fw_get C (ci := 1) (Cn := RX3) (Tc := TX3) (N := 5) (j := 1) ly_X3_copyFrom_3 rfl (hG _ (List.mem_of_getElem? (i := 0) rfl)) (of1_0 _) (ce1 T ad _ _) (by decide) (cx_ts C _ fl_X3_copyFrom_12) (fun _ h => h) (v := .ref (ad 2 g1 0)) rfl dX3_copyFrom_13 ?_
  obtain ⟨Y6, q5, h⟩ := bd1_some h
  refine fw_callVv C (ci := 6) (Cn := RX8) (Tc := TX8) (N := 15) (As := [.ref (ad 2 g1 0)]) (c_X8_copyFrom (gac (hG _ (List.mem_of_getElem? (i := 3) rfl)) (gac (hG _ (List.mem_of_getElem? (i := 2) rfl)) ga0)) q5) (cwV 1 (cx_ts C) gX3_copyFrom_X8_copyFrom rfl rfl rfl (by decide +kernel) ⟨Nat.le_of_ble_eq_true rfl, Nat.le_of_ble_eq_true rfl⟩) rfl (hG _ (List.mem_of_getElem? (i := 2) rfl)) (of2_0 _) (ce2 T ad _ _) rfl (st := []) rfl (Nat.le_of_ble_eq_true rfl) ⟨Nat.le_refl 0, Nat.le_refl 0⟩ dX3_copyFrom_16 (ppv ?_)
  exact fw_vret C hrt Y6 (Option.some.inj h) (fun t ht => ht) dX3_copyFrom_19
end
set_option maxRecDepth 100000 in
set_option maxHeartbeats 4000000 in
theorem c_X3_copyFrom {l : Launch} {N0 : Nat} {T : Nat → ClassId} {D : va_G} {gr : List (Nat × Nat)} {ad : Nat → Nat → Nat → Nat} {Y : Mem} {g0 : Nat} {g1 : Nat} {res : Mem} (hG : ∀ q ∈ ([(1, g1), (1, g0), (2, g0), (2, g1)] ++ allG), q ∈ gr) (h : X3_copyFrom Y g0 g1 = some res) : CV l yX3_copyFrom wsX3_copyFrom (Rm 2) N0 T D gr ad Y [.ref (ad 1 g0 0), .ref (ad 1 g1 0)] (fun Y1 => Y1 = res) :=
  fw_body (by decide +kernel) rfl (Nat.le_of_ble_eq_true rfl) (fun p e s m below meth c C hrt => w_X3_copyFrom C hrt hG  h)
theorem ly_X3_longestOf_3 : ∀ w ∈ u_ws RX3 TX3 5, w ∈ wsX3_longestOf := by decide +kernel
theorem fl_X3_longestOf_28 : Cond.fieldLink RX3 28 "RecipeScheduler$Kitchen" "recipe" "LRecipeScheduler$Recipe;" ∈ wsX3_longestOf := by decide +kernel
theorem ly_X3_longestOf_5 : ∀ w ∈ u_ws RX5 TX5 17, w ∈ wsX3_longestOf := by decide +kernel
theorem ly_X3_longestOf_4 : ∀ w ∈ u_ws RX4 TX4 3, w ∈ wsX3_longestOf := by decide +kernel
theorem in_X3_longestOf_11 : Cond.initialized RX11 ∈ wsX3_longestOf := by decide +kernel
theorem sw_X3_longestOf_X11_contains : Cond.static yX11_contains ∈ wsX3_longestOf := by decide +kernel
theorem fl_X3_longestOf_18 : Cond.fieldLink RX3 18 "RecipeScheduler$Kitchen" "path" "[I" ∈ wsX3_longestOf := by decide +kernel
section
variable {p : Program} {l : Launch} {e : Env} {s : State} {m : MethodId} {below : List Frame} {meth : Method} {c : Code} {N0 : Nat} {T : Nat → ClassId} {D : va_G} {gr : List (Nat × Nat)} {ad : Nat → Nat → Nat → Nat}
set_option maxRecDepth 100000 in
set_option maxHeartbeats 4000000 in
theorem w_X3_longestOf_b48 {Y : Mem} {g0 : Nat} {a1 : Int32} (C : Cx p s m [.ref (ad 1 g0 0), .int a1].toArray meth c cX3_longestOf 4 wsX3_longestOf RX3 N0 T D gr ad) (hrt : meth.sig.returnType = (some .int)) (hG : ∀ q ∈ ([(1, g0)] ++ allG), q ∈ gr) {res : Int32} {k4 : Int32 → Int32 → Option (Int32)} (hk4 : ∀ (l3 : Int32) (l2 : Int32), k4 l3 l2 = some res → FW p l e (Rm 1) s m [.ref (ad 1 g0 0), .int a1].toArray below meth c 4 N0 T D gr ad 0 0 (MQ below (va_Qi (fun r Y1 => r = res ∧ Y1 = Y) (WB T D gr ad) (fun q => N0 ≤ q)) [.ref (ad 1 g0 0), .int a1].toArray s 0 0 (fun q => N0 ≤ q)) Y 4 [(3, .int l3), (2, .int l2), (0, .ref (ad 1 g0 0)), (1, .int a1)] []) (l3 : Int32) (l2 : Int32) (h : X3_longestOf_b48 Y g0 a1 k4 l3 l2 = some res) : FW p l e (Rm 1) s m [.ref (ad 1 g0 0), .int a1].toArray below meth c 4 N0 T D gr ad 0 0 (MQ below (va_Qi (fun r Y1 => r = res ∧ Y1 = Y) (WB T D gr ad) (fun q => N0 ≤ q)) [.ref (ad 1 g0 0), .int a1].toArray s 0 0 (fun q => N0 ≤ q)) Y 48 [(3, .int l3), (2, .int l2), (0, .ref (ad 1 g0 0)), (1, .int a1)] [] := by
  unfold X3_longestOf_b48 at h
  refine fw_iinc C dX3_longestOf_48 (kk := 0) (v := l3 + 1) rfl rfl (by decide) (L' := [(3, .int (l3 + 1)), (2, .int l2), (0, .ref (ad 1 g0 0)), (1, .int a1)]) rfl ?_
  refine fw_goto C dX3_longestOf_51 (tgt := 4) rfl ?_
  exact hk4 _ _ h
set_option maxRecDepth 100000 in
set_option maxHeartbeats 4000000 in
theorem w_X3_longestOf_b46 {Y : Mem} {g0 : Nat} {a1 : Int32} (C : Cx p s m [.ref (ad 1 g0 0), .int a1].toArray meth c cX3_longestOf 4 wsX3_longestOf RX3 N0 T D gr ad) (hrt : meth.sig.returnType = (some .int)) (hG : ∀ q ∈ ([(1, g0)] ++ allG), q ∈ gr) {res : Int32} {k4 : Int32 → Int32 → Option (Int32)} (hk4 : ∀ (l3 : Int32) (l2 : Int32), k4 l3 l2 = some res → FW p l e (Rm 1) s m [.ref (ad 1 g0 0), .int a1].toArray below meth c 4 N0 T D gr ad 0 0 (MQ below (va_Qi (fun r Y1 => r = res ∧ Y1 = Y) (WB T D gr ad) (fun q => N0 ≤ q)) [.ref (ad 1 g0 0), .int a1].toArray s 0 0 (fun q => N0 ≤ q)) Y 4 [(3, .int l3), (2, .int l2), (0, .ref (ad 1 g0 0)), (1, .int a1)] []) (l3 : Int32) (h : X3_longestOf_b46 Y g0 a1 k4 l3 = some res) : FW p l e (Rm 1) s m [.ref (ad 1 g0 0), .int a1].toArray below meth c 4 N0 T D gr ad 0 0 (MQ below (va_Qi (fun r Y1 => r = res ∧ Y1 = Y) (WB T D gr ad) (fun q => N0 ≤ q)) [.ref (ad 1 g0 0), .int a1].toArray s 0 0 (fun q => N0 ≤ q)) Y 46 [(3, .int l3), (0, .ref (ad 1 g0 0)), (1, .int a1)] [] := by
  unfold X3_longestOf_b46 at h
  refine fw_iload_n C dX3_longestOf_46 rfl 0 rfl ?_
  refine fw_istore_n C dX3_longestOf_47 rfl (by decide) (L' := [(2, .int l3), (3, .int l3), (0, .ref (ad 1 g0 0)), (1, .int a1)]) rfl ?_
  refine fw_sub [1, 0, 2, 3] (L' := [(3, .int l3), (2, .int l3), (0, .ref (ad 1 g0 0)), (1, .int a1)]) rfl ?_
  exact w_X3_longestOf_b48 C hrt hG  hk4 _ _ h
set_option maxRecDepth 100000 in
set_option maxHeartbeats 4000000 in
theorem w_X3_longestOf_b4 {Y : Mem} {g0 : Nat} {a1 : Int32} (C : Cx p s m [.ref (ad 1 g0 0), .int a1].toArray meth c cX3_longestOf 4 wsX3_longestOf RX3 N0 T D gr ad) (hrt : meth.sig.returnType = (some .int)) (hG : ∀ q ∈ ([(1, g0)] ++ allG), q ∈ gr) {res : Int32} : ∀ (n : Nat) (l3 : Int32) (l2 : Int32), X3_longestOf_b4 Y g0 a1  n l3 l2 = some res → FW p l e (Rm 1) s m [.ref (ad 1 g0 0), .int a1].toArray below meth c 4 N0 T D gr ad 0 0 (MQ below (va_Qi (fun r Y1 => r = res ∧ Y1 = Y) (WB T D gr ad) (fun q => N0 ≤ q)) [.ref (ad 1 g0 0), .int a1].toArray s 0 0 (fun q => N0 ≤ q)) Y 4 [(3, .int l3), (2, .int l2), (0, .ref (ad 1 g0 0)), (1, .int a1)] [] := by
  intro n
  induction n with
  | zero =>
    intro l3 l2 h
    unfold X3_longestOf_b4 at h
    cases h
  | succ n ih =>
    intro l3 l2 h
    unfold X3_longestOf_b4 at h
    refine fw_iload_n C dX3_longestOf_4 rfl 0 rfl ?_
    refine fw_aload_n C dX3_longestOf_5 rfl 2 rfl ?_
    refine fw_get C (ci := 1) (Cn := RX3) (Tc := TX3) (N := 5) (j := 0) ly_X3_longestOf_3 rfl (hG _ (List.mem_of_getElem? (i := 0) rfl)) (of1_0 _) (ce1 T ad _ _) (by decide) (cx_ts C _ fl_X3_longestOf_28) (fun _ h => h) (v := .ref (ad 3 ((Y 1 g0 0 0).toNatClampNeg) 0)) rfl dX3_longestOf_6 ?_
    obtain ⟨b1, h⟩ := gd_some h
    have b1 := of_decide_eq_true b1
    refine fw_getN C (ci := 3) (Cn := RX5) (Tc := TX5) (N := 17) (j := 7) ly_X3_longestOf_5 rfl ((fun q hq => hG q (List.mem_append_right _ hq)) _ (allG_3 b1)) (of3_0 _) (ce3 T ad _ _) (by decide) (Nst_use (cx_nst C) (w := .fieldLinkNest RX3 91 "RecipeScheduler$Recipe" "steps" "LRecipeScheduler$Names;" "RecipeScheduler") 148 (by decide +kernel) rfl) (fun _ h => h) (v := .ref (ad 4 (2*((Y 1 g0 0 0).toNatClampNeg)+1) 0)) rfl dX3_longestOf_9 ?_
    obtain ⟨b2, h⟩ := gd_some h
    have b2 := of_decide_eq_true b2
    refine fw_getN C (ci := 2) (Cn := RX4) (Tc := TX4) (N := 3) (j := 2) ly_X3_longestOf_4 rfl ((fun q hq => hG q (List.mem_append_right _ hq)) _ (allG_4b b2)) (of4_0 _) (ce4 T ad _ _) (by decide) (Nst_use (cx_nst C) (w := .fieldLinkNest RX3 95 "RecipeScheduler$Names" "count" "I" "RecipeScheduler") 114 (by decide +kernel) rfl) (fun _ h => h) (v := .int (Y 4 (2*((Y 1 g0 0 0).toNatClampNeg)+1) 0 2)) rfl dX3_longestOf_12 ?_
    refine fw_icmp_ge C dX3_longestOf_15 (tgt := 54) rfl (fun c3 => ?_) (fun c3 => ?_)
    · have h := ite_t c3 h
      refine fw_iload_n C dX3_longestOf_54 rfl 1 rfl ?_
      exact fw_iret C hrt Y ⟨Option.some.inj h, rfl⟩ (fun t ht => ht) dX3_longestOf_55
    · have h := ite_f c3 h
      refine fw_iload_n C dX3_longestOf_18 rfl 3 rfl ?_
      refine fw_iload_n C dX3_longestOf_19 rfl 0 rfl ?_
      obtain ⟨r4, q5, h⟩ := bd1_some h
      refine fw_callSNi C (As := [.int a1, .int l3]) (c_X11_contains ga0 q5) ⟨(va_cnB 2 (cx_ts C) gX3_longestOf_X11_contains_n100 rfl rfl rfl (cx_nw C (w := .methodLinkNest RX3 100 yX11_contains "RecipeScheduler") 623 (by decide +kernel) rfl) (cx_ts C _ in_X3_longestOf_11) (by decide +kernel) ⟨Nat.le_of_ble_eq_true rfl, Nat.le_of_ble_eq_true rfl⟩), cx_ts C _ sw_X3_longestOf_X11_contains, trivial⟩ rfl (st := []) rfl (Nat.le_of_ble_eq_true rfl) ⟨Nat.le_refl 0, Nat.le_refl 0⟩ dX3_longestOf_20 (pp2 ?_)
      refine fw_if_eq C dX3_longestOf_23 (tgt := 48) rfl (fun c6 => ?_) (fun c6 => ?_)
      · have h := ite_t c6 h
        exact w_X3_longestOf_b48 C hrt hG  ih _ _ h
      · have h := ite_f c6 h
        refine fw_iload_n C dX3_longestOf_26 rfl 1 rfl ?_
        refine fw_iconst C dX3_longestOf_27 (v := (-1)) rfl ?_
        refine fw_icmp_eq C dX3_longestOf_28 (tgt := 46) rfl (fun c7 => ?_) (fun c7 => ?_)
        · have h := ite_t c7 h
          refine fw_sub [0, 2, 3] (L' := [(3, .int l3), (0, .ref (ad 1 g0 0)), (1, .int a1)]) rfl ?_
          exact w_X3_longestOf_b46 C hrt hG  ih _ h
        · have h := ite_f c7 h
          refine fw_aload_n C dX3_longestOf_31 rfl 2 rfl ?_
          refine fw_get C (ci := 1) (Cn := RX3) (Tc := TX3) (N := 5) (j := 2) ly_X3_longestOf_3 rfl (hG _ (List.mem_of_getElem? (i := 0) rfl)) (of1_0 _) (ce1 T ad _ _) (by decide) (cx_ts C _ fl_X3_longestOf_18) (fun _ h => h) (v := .ref (ad 1 g0 1)) rfl dX3_longestOf_32 ?_
          refine fw_iload_n C dX3_longestOf_35 rfl 0 rfl ?_
          obtain ⟨b8, h⟩ := gd_some h
          refine fw_iald2 C (hG _ (List.mem_of_getElem? (i := 0) rfl)) (of1_1 _) (ca1_1 T ad _ _) b8 (Nat.le_of_ble_eq_true rfl) dX3_longestOf_36 ?_
          refine fw_aload_n C dX3_longestOf_37 rfl 2 rfl ?_
          refine fw_get C (ci := 1) (Cn := RX3) (Tc := TX3) (N := 5) (j := 2) ly_X3_longestOf_3 rfl (hG _ (List.mem_of_getElem? (i := 0) rfl)) (of1_0 _) (ce1 T ad _ _) (by decide) (cx_ts C _ fl_X3_longestOf_18) (fun _ h => h) (v := .ref (ad 1 g0 1)) rfl dX3_longestOf_38 ?_
          refine fw_iload_n C dX3_longestOf_41 rfl 1 rfl ?_
          obtain ⟨b9, h⟩ := gd_some h
          refine fw_iald2 C (hG _ (List.mem_of_getElem? (i := 0) rfl)) (of1_1 _) (ca1_1 T ad _ _) b9 (Nat.le_of_ble_eq_true rfl) dX3_longestOf_42 ?_
          refine fw_icmp_le C dX3_longestOf_43 (tgt := 48) rfl (fun c10 => ?_) (fun c10 => ?_)
          · have h := ite_t c10 h
            exact w_X3_longestOf_b48 C hrt hG  ih _ _ h
          · have h := ite_f c10 h
            refine fw_sub [0, 2, 3] (L' := [(3, .int l3), (0, .ref (ad 1 g0 0)), (1, .int a1)]) rfl ?_
            exact w_X3_longestOf_b46 C hrt hG  ih _ h
set_option maxRecDepth 100000 in
set_option maxHeartbeats 4000000 in
theorem w_X3_longestOf {Y : Mem} {g0 : Nat} {a1 : Int32} (C : Cx p s m [.ref (ad 1 g0 0), .int a1].toArray meth c cX3_longestOf 4 wsX3_longestOf RX3 N0 T D gr ad) (hrt : meth.sig.returnType = (some .int)) (hG : ∀ q ∈ ([(1, g0)] ++ allG), q ∈ gr) {res : Int32} (h : X3_longestOf Y g0 a1 = some res) : FW p l e (Rm 1) s m [.ref (ad 1 g0 0), .int a1].toArray below meth c 4 N0 T D gr ad 0 0 (MQ below (va_Qi (fun r Y1 => r = res ∧ Y1 = Y) (WB T D gr ad) (fun q => N0 ≤ q)) [.ref (ad 1 g0 0), .int a1].toArray s 0 0 (fun q => N0 ≤ q)) Y 0 [(0, .ref (ad 1 g0 0)), (1, .int a1)] [] := by
  unfold X3_longestOf at h
  refine fw_iconst C dX3_longestOf_0 (v := (-1)) rfl ?_
  refine fw_istore_n C dX3_longestOf_1 rfl (by decide) (L' := [(2, .int ((-1))), (0, .ref (ad 1 g0 0)), (1, .int a1)]) rfl ?_
  refine fw_iconst C dX3_longestOf_2 (v := 0) rfl ?_
  refine fw_istore_n C dX3_longestOf_3 rfl (by decide) (L' := [(3, .int 0), (2, .int ((-1))), (0, .ref (ad 1 g0 0)), (1, .int a1)]) rfl ?_
  exact w_X3_longestOf_b4 C hrt hG   _ _ _ h
end
set_option maxRecDepth 100000 in
set_option maxHeartbeats 4000000 in
theorem c_X3_longestOf {l : Launch} {N0 : Nat} {T : Nat → ClassId} {D : va_G} {gr : List (Nat × Nat)} {ad : Nat → Nat → Nat → Nat} {Y : Mem} {g0 : Nat} {a1 : Int32} {res : Int32} (hG : ∀ q ∈ ([(1, g0)] ++ allG), q ∈ gr) (h : X3_longestOf Y g0 a1 = some res) : CI l yX3_longestOf wsX3_longestOf (Rm 1) N0 T D gr ad Y [.ref (ad 1 g0 0), .int a1] (fun r Y1 => r = res ∧ Y1 = Y) :=
  fw_body (by decide +kernel) rfl (Nat.le_of_ble_eq_true rfl) (fun p e s m below meth c C hrt => w_X3_longestOf C hrt hG  h)
theorem ly_X3_rank_3 : ∀ w ∈ u_ws RX3 TX3 5, w ∈ wsX3_rank := by decide +kernel
theorem fl_X3_rank_28 : Cond.fieldLink RX3 28 "RecipeScheduler$Kitchen" "recipe" "LRecipeScheduler$Recipe;" ∈ wsX3_rank := by decide +kernel
theorem ly_X3_rank_5 : ∀ w ∈ u_ws RX5 TX5 17, w ∈ wsX3_rank := by decide +kernel
theorem ly_X3_rank_4 : ∀ w ∈ u_ws RX4 TX4 3, w ∈ wsX3_rank := by decide +kernel
theorem fl_X3_rank_22 : Cond.fieldLink RX3 22 "RecipeScheduler$Kitchen" "order" "[I" ∈ wsX3_rank := by decide +kernel
theorem fl_X3_rank_18 : Cond.fieldLink RX3 18 "RecipeScheduler$Kitchen" "path" "[I" ∈ wsX3_rank := by decide +kernel
theorem fl_X3_rank_12 : Cond.fieldLink RX3 12 "RecipeScheduler$Kitchen" "state" "LRecipeScheduler$State;" ∈ wsX3_rank := by decide +kernel
theorem ly_X3_rank_8 : ∀ w ∈ u_ws RX8 TX8 15, w ∈ wsX3_rank := by decide +kernel
section
variable {p : Program} {l : Launch} {e : Env} {s : State} {m : MethodId} {below : List Frame} {meth : Method} {c : Code} {N0 : Nat} {T : Nat → ClassId} {D : va_G} {gr : List (Nat × Nat)} {ad : Nat → Nat → Nat → Nat}
set_option maxRecDepth 100000 in
set_option maxHeartbeats 4000000 in
theorem w_X3_rank_b132 {g0 : Nat} (C : Cx p s m [.ref (ad 1 g0 0)].toArray meth c cX3_rank 3 wsX3_rank RX3 N0 T D gr ad) (hrt : meth.sig.returnType = none) (hG : ∀ q ∈ ([(1, g0), (2, g0)] ++ allG), q ∈ gr) {res : Mem} {k70 : Mem → Int32 → Option (Mem)} (hk70 : ∀ (Y : Mem) (l1 : Int32), k70 Y l1 = some res → FW p l e (Rm 2) s m [.ref (ad 1 g0 0)].toArray below meth c 3 N0 T D gr ad 0 0 (MQ below (va_Qv (fun Y1 => Y1 = res) (WB T D gr ad) (fun q => N0 ≤ q)) [.ref (ad 1 g0 0)].toArray s 0 0 (fun q => N0 ≤ q)) Y 70 [(1, .int l1), (0, .ref (ad 1 g0 0))] []) (Y : Mem) (l2 : Int32) (l1 : Int32) (h : X3_rank_b132 g0 k70 Y l2 l1 = some res) : FW p l e (Rm 2) s m [.ref (ad 1 g0 0)].toArray below meth c 3 N0 T D gr ad 0 0 (MQ below (va_Qv (fun Y1 => Y1 = res) (WB T D gr ad) (fun q => N0 ≤ q)) [.ref (ad 1 g0 0)].toArray s 0 0 (fun q => N0 ≤ q)) Y 132 [(2, .int l2), (1, .int l1), (0, .ref (ad 1 g0 0))] [] := by
  unfold X3_rank_b132 at h
  refine fw_aload_n C dX3_rank_132 rfl 2 rfl ?_
  refine fw_get C (ci := 1) (Cn := RX3) (Tc := TX3) (N := 5) (j := 3) ly_X3_rank_3 rfl (hG _ (List.mem_of_getElem? (i := 0) rfl)) (of1_0 _) (ce1 T ad _ _) (by decide) (cx_ts C _ fl_X3_rank_22) (fun _ h => h) (v := .ref (ad 1 g0 2)) rfl dX3_rank_133 ?_
  refine fw_iload_n C dX3_rank_136 rfl 0 rfl ?_
  refine fw_iload_n C dX3_rank_137 rfl 1 rfl ?_
  obtain ⟨b10, h⟩ := gd_some h
  obtain ⟨Y11, e12, h⟩ := lt_some h
  refine fw_iast2 C (hG _ (List.mem_of_getElem? (i := 0) rfl)) (of1_2 _) (ca1_2 T ad _) b10 (Nat.le_of_ble_eq_true rfl) dX3_rank_138 ?_
  refine fw_mem e12 ?_
  refine fw_iinc C dX3_rank_139 (kk := 1) (v := l1 + 1) rfl rfl (by decide) (L' := [(1, .int (l1 + 1)), (2, .int l2), (0, .ref (ad 1 g0 0))]) rfl ?_
  refine fw_goto C dX3_rank_142 (tgt := 70) rfl ?_
  refine fw_sub [0, 2] (L' := [(1, .int (l1 + 1)), (0, .ref (ad 1 g0 0))]) rfl ?_
  exact hk70 _ _ h
set_option maxRecDepth 100000 in
set_option maxHeartbeats 4000000 in
theorem w_X3_rank_b86 {g0 : Nat} (C : Cx p s m [.ref (ad 1 g0 0)].toArray meth c cX3_rank 3 wsX3_rank RX3 N0 T D gr ad) (hrt : meth.sig.returnType = none) (hG : ∀ q ∈ ([(1, g0), (2, g0)] ++ allG), q ∈ gr) {res : Mem} {k70 : Mem → Int32 → Option (Mem)} (hk70 : ∀ (Y : Mem) (l1 : Int32), k70 Y l1 = some res → FW p l e (Rm 2) s m [.ref (ad 1 g0 0)].toArray below meth c 3 N0 T D gr ad 0 0 (MQ below (va_Qv (fun Y1 => Y1 = res) (WB T D gr ad) (fun q => N0 ≤ q)) [.ref (ad 1 g0 0)].toArray s 0 0 (fun q => N0 ≤ q)) Y 70 [(1, .int l1), (0, .ref (ad 1 g0 0))] []) : ∀ (n : Nat) (Y : Mem) (l2 : Int32) (l1 : Int32), X3_rank_b86 g0 k70 n Y l2 l1 = some res → FW p l e (Rm 2) s m [.ref (ad 1 g0 0)].toArray below meth c 3 N0 T D gr ad 0 0 (MQ below (va_Qv (fun Y1 => Y1 = res) (WB T D gr ad) (fun q => N0 ≤ q)) [.ref (ad 1 g0 0)].toArray s 0 0 (fun q => N0 ≤ q)) Y 86 [(2, .int l2), (1, .int l1), (0, .ref (ad 1 g0 0))] [] := by
  intro n
  induction n with
  | zero =>
    intro Y l2 l1 h
    unfold X3_rank_b86 at h
    cases h
  | succ n ih =>
    intro Y l2 l1 h
    unfold X3_rank_b86 at h
    refine fw_iload_n C dX3_rank_86 rfl 0 rfl ?_
    refine fw_if_le C dX3_rank_87 (tgt := 132) rfl (fun c9 => ?_) (fun c9 => ?_)
    · have h := ite_t c9 h
      exact w_X3_rank_b132 C hrt hG  hk70 _ _ _ h
    · have h := ite_f c9 h
      refine fw_aload_n C dX3_rank_90 rfl 2 rfl ?_
      refine fw_get C (ci := 1) (Cn := RX3) (Tc := TX3) (N := 5) (j := 2) ly_X3_rank_3 rfl (hG _ (List.mem_of_getElem? (i := 0) rfl)) (of1_0 _) (ce1 T ad _ _) (by decide) (cx_ts C _ fl_X3_rank_18) (fun _ h => h) (v := .ref (ad 1 g0 1)) rfl dX3_rank_91 ?_
      refine fw_aload_n C dX3_rank_94 rfl 2 rfl ?_
      refine fw_get C (ci := 1) (Cn := RX3) (Tc := TX3) (N := 5) (j := 3) ly_X3_rank_3 rfl (hG _ (List.mem_of_getElem? (i := 0) rfl)) (of1_0 _) (ce1 T ad _ _) (by decide) (cx_ts C _ fl_X3_rank_22) (fun _ h => h) (v := .ref (ad 1 g0 2)) rfl dX3_rank_95 ?_
      refine fw_iload_n C dX3_rank_98 rfl 0 rfl ?_
      refine fw_iconst C dX3_rank_99 (v := 1) rfl ?_
      refine fw_isub C dX3_rank_100 ?_
      obtain ⟨b13, h⟩ := gd_some h
      refine fw_iald2 C (hG _ (List.mem_of_getElem? (i := 0) rfl)) (of1_2 _) (ca1_2 T ad _ _) b13 (Nat.le_of_ble_eq_true rfl) dX3_rank_101 ?_
      obtain ⟨b14, h⟩ := gd_some h
      refine fw_iald2 C (hG _ (List.mem_of_getElem? (i := 0) rfl)) (of1_1 _) (ca1_1 T ad _ _) b14 (Nat.le_of_ble_eq_true rfl) dX3_rank_102 ?_
      refine fw_aload_n C dX3_rank_103 rfl 2 rfl ?_
      refine fw_get C (ci := 1) (Cn := RX3) (Tc := TX3) (N := 5) (j := 2) ly_X3_rank_3 rfl (hG _ (List.mem_of_getElem? (i := 0) rfl)) (of1_0 _) (ce1 T ad _ _) (by decide) (cx_ts C _ fl_X3_rank_18) (fun _ h => h) (v := .ref (ad 1 g0 1)) rfl dX3_rank_104 ?_
      refine fw_iload_n C dX3_rank_107 rfl 1 rfl ?_
      obtain ⟨b15, h⟩ := gd_some h
      refine fw_iald2 C (hG _ (List.mem_of_getElem? (i := 0) rfl)) (of1_1 _) (ca1_1 T ad _ _) b15 (Nat.le_of_ble_eq_true rfl) dX3_rank_108 ?_
      refine fw_icmp_ge C dX3_rank_109 (tgt := 132) rfl (fun c16 => ?_) (fun c16 => ?_)
      · have h := ite_t c16 h
        exact w_X3_rank_b132 C hrt hG  hk70 _ _ _ h
      · have h := ite_f c16 h
        refine fw_aload_n C dX3_rank_112 rfl 2 rfl ?_
        refine fw_get C (ci := 1) (Cn := RX3) (Tc := TX3) (N := 5) (j := 3) ly_X3_rank_3 rfl (hG _ (List.mem_of_getElem? (i := 0) rfl)) (of1_0 _) (ce1 T ad _ _) (by decide) (cx_ts C _ fl_X3_rank_22) (fun _ h => h) (v := .ref (ad 1 g0 2)) rfl dX3_rank_113 ?_
        refine fw_iload_n C dX3_rank_116 rfl 0 rfl ?_
        refine fw_aload_n C dX3_rank_117 rfl 2 rfl ?_
        refine fw_get C (ci := 1) (Cn := RX3) (Tc := TX3) (N := 5) (j := 3) ly_X3_rank_3 rfl (hG _ (List.mem_of_getElem? (i := 0) rfl)) (of1_0 _) (ce1 T ad _ _) (by decide) (cx_ts C _ fl_X3_rank_22) (fun _ h => h) (v := .ref (ad 1 g0 2)) rfl dX3_rank_118 ?_
        refine fw_iload_n C dX3_rank_121 rfl 0 rfl ?_
        refine fw_iconst C dX3_rank_122 (v := 1) rfl ?_
        refine fw_isub C dX3_rank_123 ?_
        refine fw_iald2 C (hG _ (List.mem_of_getElem? (i := 0) rfl)) (of1_2 _) (ca1_2 T ad _ _) b13 (Nat.le_of_ble_eq_true rfl) dX3_rank_124 ?_
        obtain ⟨b17, h⟩ := gd_some h
        obtain ⟨Y18, e19, h⟩ := lt_some h
        refine fw_iast2 C (hG _ (List.mem_of_getElem? (i := 0) rfl)) (of1_2 _) (ca1_2 T ad _) b17 (Nat.le_of_ble_eq_true rfl) dX3_rank_125 ?_
        refine fw_mem e19 ?_
        refine fw_iinc C dX3_rank_126 (kk := 0) (v := l2 + (-1)) rfl rfl (by decide) (L' := [(2, .int (l2 + (-1))), (1, .int l1), (0, .ref (ad 1 g0 0))]) rfl ?_
        refine fw_goto C dX3_rank_129 (tgt := 86) rfl ?_
        exact ih _ _ _ h
set_option maxRecDepth 100000 in
set_option maxHeartbeats 4000000 in
theorem w_X3_rank_b70 {g0 : Nat} (C : Cx p s m [.ref (ad 1 g0 0)].toArray meth c cX3_rank 3 wsX3_rank RX3 N0 T D gr ad) (hrt : meth.sig.returnType = none) (hG : ∀ q ∈ ([(1, g0), (2, g0)] ++ allG), q ∈ gr) {res : Mem} : ∀ (n : Nat) (Y : Mem) (l1 : Int32), X3_rank_b70 g0  n Y l1 = some res → FW p l e (Rm 2) s m [.ref (ad 1 g0 0)].toArray below meth c 3 N0 T D gr ad 0 0 (MQ below (va_Qv (fun Y1 => Y1 = res) (WB T D gr ad) (fun q => N0 ≤ q)) [.ref (ad 1 g0 0)].toArray s 0 0 (fun q => N0 ≤ q)) Y 70 [(1, .int l1), (0, .ref (ad 1 g0 0))] [] := by
  intro n
  induction n with
  | zero =>
    intro Y l1 h
    unfold X3_rank_b70 at h
    cases h
  | succ n ih =>
    intro Y l1 h
    unfold X3_rank_b70 at h
    refine fw_iload_n C dX3_rank_70 rfl 0 rfl ?_
    refine fw_aload_n C dX3_rank_71 rfl 1 rfl ?_
    refine fw_get C (ci := 1) (Cn := RX3) (Tc := TX3) (N := 5) (j := 0) ly_X3_rank_3 rfl (hG _ (List.mem_of_getElem? (i := 0) rfl)) (of1_0 _) (ce1 T ad _ _) (by decide) (cx_ts C _ fl_X3_rank_28) (fun _ h => h) (v := .ref (ad 3 ((Y 1 g0 0 0).toNatClampNeg) 0)) rfl dX3_rank_72 ?_
    obtain ⟨b6, h⟩ := gd_some h
    have b6 := of_decide_eq_true b6
    refine fw_getN C (ci := 3) (Cn := RX5) (Tc := TX5) (N := 17) (j := 7) ly_X3_rank_5 rfl ((fun q hq => hG q (List.mem_append_right _ hq)) _ (allG_3 b6)) (of3_0 _) (ce3 T ad _ _) (by decide) (Nst_use (cx_nst C) (w := .fieldLinkNest RX3 91 "RecipeScheduler$Recipe" "steps" "LRecipeScheduler$Names;" "RecipeScheduler") 148 (by decide +kernel) rfl) (fun _ h => h) (v := .ref (ad 4 (2*((Y 1 g0 0 0).toNatClampNeg)+1) 0)) rfl dX3_rank_75 ?_
    obtain ⟨b7, h⟩ := gd_some h
    have b7 := of_decide_eq_true b7
    refine fw_getN C (ci := 2) (Cn := RX4) (Tc := TX4) (N := 3) (j := 2) ly_X3_rank_4 rfl ((fun q hq => hG q (List.mem_append_right _ hq)) _ (allG_4b b7)) (of4_0 _) (ce4 T ad _ _) (by decide) (Nst_use (cx_nst C) (w := .fieldLinkNest RX3 95 "RecipeScheduler$Names" "count" "I" "RecipeScheduler") 114 (by decide +kernel) rfl) (fun _ h => h) (v := .int (Y 4 (2*((Y 1 g0 0 0).toNatClampNeg)+1) 0 2)) rfl dX3_rank_78 ?_
    refine fw_icmp_ge C dX3_rank_81 (tgt := 145) rfl (fun c8 => ?_) (fun c8 => ?_)
    · have h := ite_t c8 h
      exact fw_vret C hrt Y (Option.some.inj h) (fun t ht => ht) dX3_rank_145
    · have h := ite_f c8 h
      refine fw_iload_n C dX3_rank_84 rfl 0 rfl ?_
      refine fw_istore_n C dX3_rank_85 rfl (by decide) (L' := [(2, .int l1), (1, .int l1), (0, .ref (ad 1 g0 0))]) rfl ?_
      exact w_X3_rank_b86 C hrt hG  ih _ _ _ _ h
set_option maxRecDepth 100000 in
set_option maxHeartbeats 4000000 in
theorem w_X3_rank_b60 {g0 : Nat} (C : Cx p s m [.ref (ad 1 g0 0)].toArray meth c cX3_rank 3 wsX3_rank RX3 N0 T D gr ad) (hrt : meth.sig.returnType = none) (hG : ∀ q ∈ ([(1, g0), (2, g0)] ++ allG), q ∈ gr) {res : Mem} {k13 : Mem → Int32 → Option (Mem)} (hk13 : ∀ (Y : Mem) (l1 : Int32), k13 Y l1 = some res → FW p l e (Rm 2) s m [.ref (ad 1 g0 0)].toArray below meth c 3 N0 T D gr ad 0 0 (MQ below (va_Qv (fun Y1 => Y1 = res) (WB T D gr ad) (fun q => N0 ≤ q)) [.ref (ad 1 g0 0)].toArray s 0 0 (fun q => N0 ≤ q)) Y 13 [(1, .int l1), (0, .ref (ad 1 g0 0))] []) (Y : Mem) (l1 : Int32) (s0 : Int32) (s1 : Int32) (s2 : Int32) (h : X3_rank_b60 g0 k13 Y l1 s0 s1 s2 = some res) : FW p l e (Rm 2) s m [.ref (ad 1 g0 0)].toArray below meth c 3 N0 T D gr ad 0 0 (MQ below (va_Qv (fun Y1 => Y1 = res) (WB T D gr ad) (fun q => N0 ≤ q)) [.ref (ad 1 g0 0)].toArray s 0 0 (fun q => N0 ≤ q)) Y 60 [(1, .int l1), (0, .ref (ad 1 g0 0))] [.int s0, .int s1, .int s2, .ref (ad 1 g0 1)] := by
  unfold X3_rank_b60 at h
  refine fw_iadd C dX3_rank_60 ?_
  obtain ⟨b26, h⟩ := gd_some h
  obtain ⟨Y27, e28, h⟩ := lt_some h
  refine fw_iast2 C (hG _ (List.mem_of_getElem? (i := 0) rfl)) (of1_1 _) (ca1_1 T ad _) b26 (Nat.le_of_ble_eq_true rfl) dX3_rank_61 ?_
  refine fw_mem e28 ?_
  refine fw_iinc C dX3_rank_62 (kk := 0) (v := l1 + (-1)) rfl rfl (by decide) (L' := [(1, .int (l1 + (-1))), (0, .ref (ad 1 g0 0))]) rfl ?_
  refine fw_goto C dX3_rank_65 (tgt := 13) rfl ?_
  exact hk13 _ _ h
set_option maxRecDepth 100000 in
set_option maxHeartbeats 4000000 in
theorem w_X3_rank_b13 {g0 : Nat} (C : Cx p s m [.ref (ad 1 g0 0)].toArray meth c cX3_rank 3 wsX3_rank RX3 N0 T D gr ad) (hrt : meth.sig.returnType = none) (hG : ∀ q ∈ ([(1, g0), (2, g0)] ++ allG), q ∈ gr) {res : Mem} : ∀ (n : Nat) (Y : Mem) (l1 : Int32), X3_rank_b13 g0  n Y l1 = some res → FW p l e (Rm 2) s m [.ref (ad 1 g0 0)].toArray below meth c 3 N0 T D gr ad 0 0 (MQ below (va_Qv (fun Y1 => Y1 = res) (WB T D gr ad) (fun q => N0 ≤ q)) [.ref (ad 1 g0 0)].toArray s 0 0 (fun q => N0 ≤ q)) Y 13 [(1, .int l1), (0, .ref (ad 1 g0 0))] [] := by
  intro n
  induction n with
  | zero =>
    intro Y l1 h
    unfold X3_rank_b13 at h
    cases h
  | succ n ih =>
    intro Y l1 h
    unfold X3_rank_b13 at h
    refine fw_iload_n C dX3_rank_13 rfl 0 rfl ?_
    refine fw_if_lt C dX3_rank_14 (tgt := 68) rfl (fun c5 => ?_) (fun c5 => ?_)
    · have h := ite_t c5 h
      refine fw_iconst C dX3_rank_68 (v := 0) rfl ?_
      refine fw_istore_n C dX3_rank_69 rfl (by decide) (L' := [(1, .int 0), (0, .ref (ad 1 g0 0))]) rfl ?_
      exact w_X3_rank_b70 C hrt hG   _ _ _ h
    · have h := ite_f c5 h
      refine fw_aload_n C dX3_rank_17 rfl 1 rfl ?_
      refine fw_aload_n C dX3_rank_18 rfl 1 rfl ?_
      refine fw_get C (ci := 1) (Cn := RX3) (Tc := TX3) (N := 5) (j := 0) ly_X3_rank_3 rfl (hG _ (List.mem_of_getElem? (i := 0) rfl)) (of1_0 _) (ce1 T ad _ _) (by decide) (cx_ts C _ fl_X3_rank_28) (fun _ h => h) (v := .ref (ad 3 ((Y 1 g0 0 0).toNatClampNeg) 0)) rfl dX3_rank_19 ?_
      obtain ⟨b20, h⟩ := gd_some h
      have b20 := of_decide_eq_true b20
      refine fw_getN C (ci := 3) (Cn := RX5) (Tc := TX5) (N := 17) (j := 14) ly_X3_rank_5 rfl ((fun q hq => hG q (List.mem_append_right _ hq)) _ (allG_3 b20)) (of3_0 _) (ce3 T ad _ _) (by decide) (Nst_use (cx_nst C) (w := .fieldLinkNest RX3 141 "RecipeScheduler$Recipe" "successorSet" "[I" "RecipeScheduler") 171 (by decide +kernel) rfl) (fun _ h => h) (v := .ref (ad 3 (((Y 1 g0 0 0).toNatClampNeg)) 9)) rfl dX3_rank_22 ?_
      refine fw_iload_n C dX3_rank_25 rfl 0 rfl ?_
      obtain ⟨b21, h⟩ := gd_some h
      refine fw_iald2 C ((fun q hq => hG q (List.mem_append_right _ hq)) _ (allG_3 b20)) (of3_9 _) (ca3_9 T ad _ _) b21 (Nat.le_of_ble_eq_true rfl) dX3_rank_26 ?_
      obtain ⟨r22, q23, h⟩ := bd1_some h
      refine fw_callVi C (ci := 1) (Cn := RX3) (Tc := TX3) (N := 5) (As := [.int (Y 3 (((Y 1 g0 0 0).toNatClampNeg)) 9 (ix l1))]) (c_X3_longestOf (gac (hG _ (List.mem_of_getElem? (i := 0) rfl)) (fun q hq => hG q (List.mem_append_right _ hq))) q23) (cwV 1 (cx_ts C) gX3_rank_X3_longestOf rfl rfl rfl (by decide +kernel) ⟨Nat.le_of_ble_eq_true rfl, Nat.le_of_ble_eq_true rfl⟩) rfl (hG _ (List.mem_of_getElem? (i := 0) rfl)) (of1_0 _) (ce1 T ad _ _) rfl (st := []) rfl (Nat.le_of_ble_eq_true rfl) ⟨Nat.le_refl 0, Nat.le_refl 0⟩ dX3_rank_27 (pp2 ?_)
      refine fw_istore_n C dX3_rank_30 rfl (by decide) (L' := [(2, .int r22), (1, .int l1), (0, .ref (ad 1 g0 0))]) rfl ?_
      refine fw_aload_n C dX3_rank_31 rfl 2 rfl ?_
      refine fw_get C (ci := 1) (Cn := RX3) (Tc := TX3) (N := 5) (j := 2) ly_X3_rank_3 rfl (hG _ (List.mem_of_getElem? (i := 0) rfl)) (of1_0 _) (ce1 T ad _ _) (by decide) (cx_ts C _ fl_X3_rank_18) (fun _ h => h) (v := .ref (ad 1 g0 1)) rfl dX3_rank_32 ?_
      refine fw_iload_n C dX3_rank_35 rfl 1 rfl ?_
      refine fw_aload_n C dX3_rank_36 rfl 2 rfl ?_
      refine fw_get C (ci := 1) (Cn := RX3) (Tc := TX3) (N := 5) (j := 1) ly_X3_rank_3 rfl (hG _ (List.mem_of_getElem? (i := 0) rfl)) (of1_0 _) (ce1 T ad _ _) (by decide) (cx_ts C _ fl_X3_rank_12) (fun _ h => h) (v := .ref (ad 2 g0 0)) rfl dX3_rank_37 ?_
      refine fw_getN C (ci := 6) (Cn := RX8) (Tc := TX8) (N := 15) (j := 9) ly_X3_rank_8 rfl (hG _ (List.mem_of_getElem? (i := 1) rfl)) (of2_0 _) (ce2 T ad _ _) (by decide) (Nst_use (cx_nst C) (w := .fieldLinkNest RX3 162 "RecipeScheduler$State" "duration" "[I" "RecipeScheduler") 460 (by decide +kernel) rfl) (fun _ h => h) (v := .ref (ad 2 g0 1)) rfl dX3_rank_40 ?_
      refine fw_iload_n C dX3_rank_43 rfl 1 rfl ?_
      refine fw_iald2 C (hG _ (List.mem_of_getElem? (i := 1) rfl)) (of2_1 _) (ca2_1 T ad _ _) b21 (Nat.le_of_ble_eq_true rfl) dX3_rank_44 ?_
      refine fw_iload_n C dX3_rank_45 rfl 0 rfl ?_
      refine fw_iconst C dX3_rank_46 (v := (-1)) rfl ?_
      refine fw_icmp_ne C dX3_rank_47 (tgt := 54) rfl (fun c24 => ?_) (fun c24 => ?_)
      · have h := ite_f c24 h
        refine fw_aload_n C dX3_rank_54 rfl 2 rfl ?_
        refine fw_get C (ci := 1) (Cn := RX3) (Tc := TX3) (N := 5) (j := 2) ly_X3_rank_3 rfl (hG _ (List.mem_of_getElem? (i := 0) rfl)) (of1_0 _) (ce1 T ad _ _) (by decide) (cx_ts C _ fl_X3_rank_18) (fun _ h => h) (v := .ref (ad 1 g0 1)) rfl dX3_rank_55 ?_
        refine fw_iload_n C dX3_rank_58 rfl 0 rfl ?_
        obtain ⟨b25, h⟩ := gd_some h
        refine fw_iald2 C (hG _ (List.mem_of_getElem? (i := 0) rfl)) (of1_1 _) (ca1_1 T ad _ _) b25 (Nat.le_of_ble_eq_true rfl) dX3_rank_59 ?_
        refine fw_sub [1, 2] (L' := [(1, .int l1), (0, .ref (ad 1 g0 0))]) rfl ?_
        exact w_X3_rank_b60 C hrt hG  ih _ _ _ _ _ h
      · have h := ite_t c24 h
        refine fw_iconst C dX3_rank_50 (v := 0) rfl ?_
        refine fw_goto C dX3_rank_51 (tgt := 60) rfl ?_
        refine fw_sub [1, 2] (L' := [(1, .int l1), (0, .ref (ad 1 g0 0))]) rfl ?_
        exact w_X3_rank_b60 C hrt hG  ih _ _ _ _ _ h
set_option maxRecDepth 100000 in
set_option maxHeartbeats 4000000 in
theorem w_X3_rank {Y : Mem} {g0 : Nat} (C : Cx p s m [.ref (ad 1 g0 0)].toArray meth c cX3_rank 3 wsX3_rank RX3 N0 T D gr ad) (hrt : meth.sig.returnType = none) (hG : ∀ q ∈ ([(1, g0), (2, g0)] ++ allG), q ∈ gr) {res : Mem} (h : X3_rank Y g0 = some res) : FW p l e (Rm 2) s m [.ref (ad 1 g0 0)].toArray below meth c 3 N0 T D gr ad 0 0 (MQ below (va_Qv (fun Y1 => Y1 = res) (WB T D gr ad) (fun q => N0 ≤ q)) [.ref (ad 1 g0 0)].toArray s 0 0 (fun q => N0 ≤ q)) Y 0 [(0, .ref (ad 1 g0 0))] [] := by
  unfold X3_rank at h
  refine fw_aload_n C dX3_rank_0 rfl 0 rfl ?_
  refine fw_get C (ci := 1) (Cn := RX3) (Tc := TX3) (N := 5) (j := 0) ly_X3_rank_3 rfl (hG _ (List.mem_of_getElem? (i := 0) rfl)) (of1_0 _) (ce1 T ad _ _) (by decide) (cx_ts C _ fl_X3_rank_28) (fun _ h => h) (v := .ref (ad 3 ((Y 1 g0 0 0).toNatClampNeg) 0)) rfl dX3_rank_1 ?_
  obtain ⟨b1, h⟩ := gd_some h
  have b1 := of_decide_eq_true b1
  refine fw_getN C (ci := 3) (Cn := RX5) (Tc := TX5) (N := 17) (j := 7) ly_X3_rank_5 rfl ((fun q hq => hG q (List.mem_append_right _ hq)) _ (allG_3 b1)) (of3_0 _) (ce3 T ad _ _) (by decide) (Nst_use (cx_nst C) (w := .fieldLinkNest RX3 91 "RecipeScheduler$Recipe" "steps" "LRecipeScheduler$Names;" "RecipeScheduler") 148 (by decide +kernel) rfl) (fun _ h => h) (v := .ref (ad 4 (2*((Y 1 g0 0 0).toNatClampNeg)+1) 0)) rfl dX3_rank_4 ?_
  obtain ⟨b2, h⟩ := gd_some h
  have b2 := of_decide_eq_true b2
  refine fw_getN C (ci := 2) (Cn := RX4) (Tc := TX4) (N := 3) (j := 2) ly_X3_rank_4 rfl ((fun q hq => hG q (List.mem_append_right _ hq)) _ (allG_4b b2)) (of4_0 _) (ce4 T ad _ _) (by decide) (Nst_use (cx_nst C) (w := .fieldLinkNest RX3 95 "RecipeScheduler$Names" "count" "I" "RecipeScheduler") 114 (by decide +kernel) rfl) (fun _ h => h) (v := .int (Y 4 (2*((Y 1 g0 0 0).toNatClampNeg)+1) 0 2)) rfl dX3_rank_7 ?_
  refine fw_iconst C dX3_rank_10 (v := 1) rfl ?_
  refine fw_isub C dX3_rank_11 ?_
  obtain ⟨v3, e4, h⟩ := lt_some h
  refine fw_top (v' := .int v3) (by rw [e4]) ?_
  refine fw_istore_n C dX3_rank_12 rfl (by decide) (L' := [(1, .int v3), (0, .ref (ad 1 g0 0))]) rfl ?_
  exact w_X3_rank_b13 C hrt hG   _ _ _ h
end
set_option maxRecDepth 100000 in
set_option maxHeartbeats 4000000 in
theorem c_X3_rank {l : Launch} {N0 : Nat} {T : Nat → ClassId} {D : va_G} {gr : List (Nat × Nat)} {ad : Nat → Nat → Nat → Nat} {Y : Mem} {g0 : Nat} {res : Mem} (hG : ∀ q ∈ ([(1, g0), (2, g0)] ++ allG), q ∈ gr) (h : X3_rank Y g0 = some res) : CV l yX3_rank wsX3_rank (Rm 2) N0 T D gr ad Y [.ref (ad 1 g0 0)] (fun Y1 => Y1 = res) :=
  fw_body (by decide +kernel) rfl (Nat.le_of_ble_eq_true rfl) (fun p e s m below meth c C hrt => w_X3_rank C hrt hG  h)
theorem ly_X5_allSteps_5 : ∀ w ∈ u_ws RX5 TX5 17, w ∈ wsX5_allSteps := by decide +kernel
theorem fl_X5_allSteps_27 : Cond.fieldLink RX5 27 "RecipeScheduler$Recipe" "steps" "LRecipeScheduler$Names;" ∈ wsX5_allSteps := by decide +kernel
theorem ly_X5_allSteps_4 : ∀ w ∈ u_ws RX4 TX4 3, w ∈ wsX5_allSteps := by decide +kernel
section
variable {p : Program} {l : Launch} {e : Env} {s : State} {m : MethodId} {below : List Frame} {meth : Method} {c : Code} {N0 : Nat} {T : Nat → ClassId} {D : va_G} {gr : List (Nat × Nat)} {ad : Nat → Nat → Nat → Nat}
set_option maxRecDepth 100000 in
set_option maxHeartbeats 4000000 in
theorem w_X5_allSteps {Y : Mem} {g0 : Nat} (C : Cx p s m [.ref (ad 3 g0 0)].toArray meth c cX5_allSteps 1 wsX5_allSteps RX5 N0 T D gr ad) (hrt : meth.sig.returnType = (some .int)) (hG : ∀ q ∈ [(3, g0), (4, 2*g0+1)], q ∈ gr) {res : Int32} (h : X5_allSteps Y g0 = some res) : FW p l e (Rm 0) s m [.ref (ad 3 g0 0)].toArray below meth c 1 N0 T D gr ad 0 0 (MQ below (va_Qi (fun r Y1 => r = res ∧ Y1 = Y) (WB T D gr ad) (fun q => N0 ≤ q)) [.ref (ad 3 g0 0)].toArray s 0 0 (fun q => N0 ≤ q)) Y 0 [(0, .ref (ad 3 g0 0))] [] := by
  unfold X5_allSteps at h
  refine fw_iconst C dX5_allSteps_0 (v := 1) rfl ?_
  refine fw_aload_n C dX5_allSteps_1 rfl 0 rfl ?_
  refine fw_get C (ci := 3) (Cn := RX5) (Tc := TX5) (N := 17) (j := 7) ly_X5_allSteps_5 rfl (hG _ (List.mem_of_getElem? (i := 0) rfl)) (of3_0 _) (ce3 T ad _ _) (by decide) (cx_ts C _ fl_X5_allSteps_27) (fun _ h => h) (v := .ref (ad 4 (2*g0+1) 0)) rfl dX5_allSteps_2 ?_
  refine fw_getN C (ci := 2) (Cn := RX4) (Tc := TX4) (N := 3) (j := 2) ly_X5_allSteps_4 rfl (hG _ (List.mem_of_getElem? (i := 1) rfl)) (of4_0 _) (ce4 T ad _ _) (by decide) (Nst_use (cx_nst C) (w := .fieldLinkNest RX5 53 "RecipeScheduler$Names" "count" "I" "RecipeScheduler") 111 (by decide +kernel) rfl) (fun _ h => h) (v := .int (Y 4 (2*g0+1) 0 2)) rfl dX5_allSteps_5 ?_
  refine fw_ishl C dX5_allSteps_8 ?_
  refine fw_iconst C dX5_allSteps_9 (v := 1) rfl ?_
  refine fw_isub C dX5_allSteps_10 ?_
  exact fw_iret C hrt Y ⟨Option.some.inj h, rfl⟩ (fun t ht => ht) dX5_allSteps_11
end
set_option maxRecDepth 100000 in
set_option maxHeartbeats 4000000 in
theorem c_X5_allSteps {l : Launch} {N0 : Nat} {T : Nat → ClassId} {D : va_G} {gr : List (Nat × Nat)} {ad : Nat → Nat → Nat → Nat} {Y : Mem} {g0 : Nat} {res : Int32} (hG : ∀ q ∈ [(3, g0), (4, 2*g0+1)], q ∈ gr) (h : X5_allSteps Y g0 = some res) : CI l yX5_allSteps wsX5_allSteps (Rm 0) N0 T D gr ad Y [.ref (ad 3 g0 0)] (fun r Y1 => r = res ∧ Y1 = Y) :=
  fw_body (by decide +kernel) rfl (Nat.le_of_ble_eq_true rfl) (fun p e s m below meth c C hrt => w_X5_allSteps C hrt hG  h)
