theorem ly_X7_readPan_5 : ∀ w ∈ u_ws RX5 TX5 17, w ∈ wsX7_readPan := by decide +kernel
theorem ly_X7_readPan_4 : ∀ w ∈ u_ws RX4 TX4 3, w ∈ wsX7_readPan := by decide +kernel
theorem ly_X7_readPan_7 : ∀ w ∈ u_ws RX7 TX7 1, w ∈ wsX7_readPan := by decide +kernel
theorem fl_X7_readPan_9 : Cond.fieldLink RX7 9 "RecipeScheduler$SetupReader" "tokens" "LRecipeScheduler$Tokens;" ∈ wsX7_readPan := by decide +kernel
section
variable {p : Program} {l : Launch} {e : Env} {s : State} {m : MethodId} {below : List Frame} {meth : Method} {c : Code} {N0 : Nat} {T : Nat → ClassId} {D : va_G} {gr : List (Nat × Nat)} {ad : Nat → Nat → Nat → Nat}
set_option maxRecDepth 100000 in
set_option maxHeartbeats 4000000 in
theorem w_X7_readPan {Y : Mem} {g1 : Nat} (C : Cx p s m [.ref (ad 7 0 0), .ref (ad 3 g1 0)].toArray meth c cX7_readPan 3 wsX7_readPan RX7 N0 T D gr ad) (hrt : meth.sig.returnType = none) (hG : ∀ q ∈ [(3, g1), (4, 2*g1), (7, 0), (5, 0), (6, 0)], q ∈ gr) {res : Mem} (h : X7_readPan Y g1 = some res) : FW p l e (Rm 3) s m [.ref (ad 7 0 0), .ref (ad 3 g1 0)].toArray below meth c 3 N0 T D gr ad 0 0 (MQ below (va_Qv (fun Y1 => Y1 = res) (WB T D gr ad) (fun q => N0 ≤ q)) [.ref (ad 7 0 0), .ref (ad 3 g1 0)].toArray s 0 0 (fun q => N0 ≤ q)) Y 0 [(0, .ref (ad 7 0 0)), (1, .ref (ad 3 g1 0))] [] := by
  unfold X7_readPan at h
  refine fw_aload_n C dX7_readPan_0 rfl 1 rfl ?_
  refine fw_getN C (ci := 5) (Cn := RX5) (Tc := TX5) (N := 17) (j := 4) ly_X7_readPan_5 rfl (hG _ (List.mem_of_getElem? (i := 0) rfl)) (of3_0 _) (ce3 T ad _ _) (by decide) (Nst_use (cx_nst C) (w := .fieldLinkNest RX7 74 "RecipeScheduler$Recipe" "pans" "LRecipeScheduler$Names;" "RecipeScheduler") 134 (by decide +kernel) rfl) (fun _ h => h) (v := .ref (ad 4 (2*g1) 0)) rfl dX7_readPan_1 ?_
  refine fw_getN C (ci := 4) (Cn := RX4) (Tc := TX4) (N := 3) (j := 2) ly_X7_readPan_4 rfl (hG _ (List.mem_of_getElem? (i := 1) rfl)) (of4_0 _) (ce4 T ad _ _) (by decide) (Nst_use (cx_nst C) (w := .fieldLinkNest RX7 78 "RecipeScheduler$Names" "count" "I" "RecipeScheduler") 112 (by decide +kernel) rfl) (fun _ h => h) (v := .int (Y 4 (2*g1) 0 2)) rfl dX7_readPan_4 ?_
  obtain ⟨v1, e2, h⟩ := lt_some h
  refine fw_top (v' := .int v1) (by rw [e2]) ?_
  refine fw_istore_n C dX7_readPan_7 rfl (by decide) (L' := [(2, .int v1), (0, .ref (ad 7 0 0)), (1, .ref (ad 3 g1 0))]) rfl ?_
  refine fw_aload_n C dX7_readPan_8 rfl 2 rfl ?_
  refine fw_getN C (ci := 5) (Cn := RX5) (Tc := TX5) (N := 17) (j := 4) ly_X7_readPan_5 rfl (hG _ (List.mem_of_getElem? (i := 0) rfl)) (of3_0 _) (ce3 T ad _ _) (by decide) (Nst_use (cx_nst C) (w := .fieldLinkNest RX7 74 "RecipeScheduler$Recipe" "pans" "LRecipeScheduler$Names;" "RecipeScheduler") 134 (by decide +kernel) rfl) (fun _ h => h) (v := .ref (ad 4 (2*g1) 0)) rfl dX7_readPan_9 ?_
  obtain ⟨r3, q4, h⟩ := bd1_some h
  refine fw_callVi C (ci := 4) (Cn := RX4) (Tc := TX4) (N := 3) (As := []) (c_X4_isFull (gac (hG _ (List.mem_of_getElem? (i := 1) rfl)) ga0) q4) (cwV 0 (cx_ts C) gX7_readPan_X4_isFull rfl rfl rfl (by decide +kernel) ⟨Nat.le_of_ble_eq_true rfl, Nat.le_of_ble_eq_true rfl⟩) rfl (hG _ (List.mem_of_getElem? (i := 1) rfl)) (of4_0 _) (ce4 T ad _ _) rfl (st := []) rfl (Nat.le_of_ble_eq_true rfl) ⟨Nat.le_refl 0, Nat.le_refl 0⟩ dX7_readPan_12 (pp2 ?_)
  refine fw_if_eq C dX7_readPan_15 (tgt := 27) rfl (fun c5 => ?_) (fun c5 => ?_)
  · have h := ite_t c5 h
    refine fw_aload_n C dX7_readPan_27 rfl 1 rfl ?_
    refine fw_get C (ci := 7) (Cn := RX7) (Tc := TX7) (N := 1) (j := 0) ly_X7_readPan_7 rfl (hG _ (List.mem_of_getElem? (i := 2) rfl)) (of7_0 _) (ce7 T ad _ _) (by decide) (cx_ts C _ fl_X7_readPan_9) (fun _ h => h) (v := .ref (ad 6 0 0)) rfl dX7_readPan_28 ?_
    obtain ⟨Y8, q7, h⟩ := bd1_some h
    refine fw_callVv C (ci := 10) (Cn := RX10) (Tc := TX10) (N := 6) (As := []) (c_X10_advance (gac (hG _ (List.mem_of_getElem? (i := 4) rfl)) (gac (hG _ (List.mem_of_getElem? (i := 3) rfl)) ga0)) q7) (cwV 0 (cx_ts C) gX7_readPan_X10_advance rfl rfl rfl (by decide +kernel) ⟨Nat.le_of_ble_eq_true rfl, Nat.le_of_ble_eq_true rfl⟩) rfl (hG _ (List.mem_of_getElem? (i := 4) rfl)) (of6_0 _) (ce6 T ad _ _) rfl (st := []) rfl (Nat.le_of_ble_eq_true rfl) ⟨Nat.le_refl 0, Nat.le_refl 0⟩ dX7_readPan_31 (ppv ?_)
    refine fw_aload_n C dX7_readPan_34 rfl 1 rfl ?_
    refine fw_get C (ci := 7) (Cn := RX7) (Tc := TX7) (N := 1) (j := 0) ly_X7_readPan_7 rfl (hG _ (List.mem_of_getElem? (i := 2) rfl)) (of7_0 _) (ce7 T ad _ _) (by decide) (cx_ts C _ fl_X7_readPan_9) (fun _ h => h) (v := .ref (ad 6 0 0)) rfl dX7_readPan_35 ?_
    refine fw_aload_n C dX7_readPan_38 rfl 2 rfl ?_
    refine fw_getN C (ci := 5) (Cn := RX5) (Tc := TX5) (N := 17) (j := 4) ly_X7_readPan_5 rfl (hG _ (List.mem_of_getElem? (i := 0) rfl)) (of3_0 _) (ce3 T ad _ _) (by decide) (Nst_use (cx_nst C) (w := .fieldLinkNest RX7 74 "RecipeScheduler$Recipe" "pans" "LRecipeScheduler$Names;" "RecipeScheduler") 134 (by decide +kernel) rfl) (fun _ h => h) (v := .ref (ad 4 (2*g1) 0)) rfl dX7_readPan_39 ?_
    obtain ⟨Y11, q10, h⟩ := bd1_some h
    refine fw_callVv C (ci := 10) (Cn := RX10) (Tc := TX10) (N := 6) (As := [.ref (ad 4 (2*g1) 0)]) (c_X10_expectNewName (gac (hG _ (List.mem_of_getElem? (i := 4) rfl)) (gac (hG _ (List.mem_of_getElem? (i := 3) rfl)) (gac (hG _ (List.mem_of_getElem? (i := 1) rfl)) ga0))) q10) (cwV 1 (cx_ts C) gX7_readPan_X10_expectNewName rfl rfl rfl (by decide +kernel) ⟨Nat.le_of_ble_eq_true rfl, Nat.le_of_ble_eq_true rfl⟩) rfl (hG _ (List.mem_of_getElem? (i := 4) rfl)) (of6_0 _) (ce6 T ad _ _) rfl (st := []) rfl (Nat.le_of_ble_eq_true rfl) ⟨Nat.le_refl 0, Nat.le_refl 0⟩ dX7_readPan_42 (ppv ?_)
    refine fw_aload_n C dX7_readPan_45 rfl 2 rfl ?_
    refine fw_getN C (ci := 5) (Cn := RX5) (Tc := TX5) (N := 17) (j := 5) ly_X7_readPan_5 rfl (hG _ (List.mem_of_getElem? (i := 0) rfl)) (of3_0 _) (ce3 T ad _ _) (by decide) (Nst_use (cx_nst C) (w := .fieldLinkNest RX7 93 "RecipeScheduler$Recipe" "capacity" "[I" "RecipeScheduler") 137 (by decide +kernel) rfl) (fun _ h => h) (v := .ref (ad 3 g1 1)) rfl dX7_readPan_46 ?_
    refine fw_iload_n C dX7_readPan_49 rfl 0 rfl ?_
    refine fw_aload_n C dX7_readPan_50 rfl 1 rfl ?_
    refine fw_get C (ci := 7) (Cn := RX7) (Tc := TX7) (N := 1) (j := 0) ly_X7_readPan_7 rfl (hG _ (List.mem_of_getElem? (i := 2) rfl)) (of7_0 _) (ce7 T ad _ _) (by decide) (cx_ts C _ fl_X7_readPan_9) (fun _ h => h) (v := .ref (ad 6 0 0)) rfl dX7_readPan_51 ?_
    refine fw_iconst C dX7_readPan_54 (v := 1) rfl ?_
    refine fw_iconst C dX7_readPan_55 (v := 5) rfl ?_
    obtain ⟨r12, Y14, q13, h⟩ := bd2_some h
    refine fw_callVi C (ci := 10) (Cn := RX10) (Tc := TX10) (N := 6) (As := [.int 1, .int 5]) (c_X10_expectNumber (gac (hG _ (List.mem_of_getElem? (i := 4) rfl)) (gac (hG _ (List.mem_of_getElem? (i := 3) rfl)) ga0)) q13) (cwV 2 (cx_ts C) gX7_readPan_X10_expectNumber rfl rfl rfl (by decide +kernel) ⟨Nat.le_of_ble_eq_true rfl, Nat.le_of_ble_eq_true rfl⟩) rfl (hG _ (List.mem_of_getElem? (i := 4) rfl)) (of6_0 _) (ce6 T ad _ _) rfl (st := [.int v1, .ref (ad 3 g1 1)]) rfl (Nat.le_of_ble_eq_true rfl) ⟨Nat.le_refl 0, Nat.le_refl 0⟩ dX7_readPan_56 (ppw ?_)
    obtain ⟨b15, h⟩ := gd_some h
    obtain ⟨Y16, e17, h⟩ := lt_some h
    refine fw_iast2 C (hG _ (List.mem_of_getElem? (i := 0) rfl)) (of3_1 _) (ca3_1 T ad _) b15 (Nat.le_of_ble_eq_true rfl) dX7_readPan_59 ?_
    refine fw_mem e17 ?_
    refine fw_aload_n C dX7_readPan_60 rfl 1 rfl ?_
    refine fw_get C (ci := 7) (Cn := RX7) (Tc := TX7) (N := 1) (j := 0) ly_X7_readPan_7 rfl (hG _ (List.mem_of_getElem? (i := 2) rfl)) (of7_0 _) (ce7 T ad _ _) (by decide) (cx_ts C _ fl_X7_readPan_9) (fun _ h => h) (v := .ref (ad 6 0 0)) rfl dX7_readPan_61 ?_
    obtain ⟨Y20, q19, h⟩ := bd1_some h
    refine fw_callVv C (ci := 10) (Cn := RX10) (Tc := TX10) (N := 6) (As := []) (c_X10_expectSemicolon (gac (hG _ (List.mem_of_getElem? (i := 4) rfl)) (gac (hG _ (List.mem_of_getElem? (i := 3) rfl)) ga0)) q19) (cwV 0 (cx_ts C) gX7_readPan_X10_expectSemicolon rfl rfl rfl (by decide +kernel) ⟨Nat.le_of_ble_eq_true rfl, Nat.le_of_ble_eq_true rfl⟩) rfl (hG _ (List.mem_of_getElem? (i := 4) rfl)) (of6_0 _) (ce6 T ad _ _) rfl (st := []) rfl (Nat.le_of_ble_eq_true rfl) ⟨Nat.le_refl 0, Nat.le_refl 0⟩ dX7_readPan_64 (ppv ?_)
    refine fw_aload_n C dX7_readPan_67 rfl 2 rfl ?_
    refine fw_getN C (ci := 5) (Cn := RX5) (Tc := TX5) (N := 17) (j := 4) ly_X7_readPan_5 rfl (hG _ (List.mem_of_getElem? (i := 0) rfl)) (of3_0 _) (ce3 T ad _ _) (by decide) (Nst_use (cx_nst C) (w := .fieldLinkNest RX7 74 "RecipeScheduler$Recipe" "pans" "LRecipeScheduler$Names;" "RecipeScheduler") 134 (by decide +kernel) rfl) (fun _ h => h) (v := .ref (ad 4 (2*g1) 0)) rfl dX7_readPan_68 ?_
    refine fw_dup C dX7_readPan_71 rfl ?_
    refine fw_getN C (ci := 4) (Cn := RX4) (Tc := TX4) (N := 3) (j := 2) ly_X7_readPan_4 rfl (hG _ (List.mem_of_getElem? (i := 1) rfl)) (of4_0 _) (ce4 T ad _ _) (by decide) (Nst_use (cx_nst C) (w := .fieldLinkNest RX7 78 "RecipeScheduler$Names" "count" "I" "RecipeScheduler") 112 (by decide +kernel) rfl) (fun _ h => h) (v := .int (Y20 4 (2*g1) 0 2)) rfl dX7_readPan_72 ?_
    refine fw_iconst C dX7_readPan_75 (v := 1) rfl ?_
    refine fw_iadd C dX7_readPan_76 ?_
    obtain ⟨Y21, e22, h⟩ := lt_some h
    refine fw_putN C (ci := 4) (Cn := RX4) (Tc := TX4) (N := 3) (j := 2) (ty := .int) (upd (Y20 4 (2*g1) 0) 2 ((Y20 4 (2*g1) 0 2) + 1)) ly_X7_readPan_4 rfl tyX4_ok nmX4 (hG _ (List.mem_of_getElem? (i := 1) rfl)) (of4_0 _) (ce4 T ad _ _) (by decide) (Nst_use (cx_nst C) (w := .fieldLinkNest RX7 78 "RecipeScheduler$Names" "count" "I" "RecipeScheduler") 112 (by decide +kernel) rfl) (fun _ h => h) rfl (by decide +kernel) rfl rfl (Nat.le_of_ble_eq_true rfl) (ce4_put2 T ad _ _ _) dX7_readPan_77 ?_
    refine fw_mem ((up_eq _ _ _ _ _ _).symm.trans e22) ?_
    exact fw_vret C hrt Y21 (Option.some.inj h) (fun t ht => ht) dX7_readPan_80
  · have h := ite_f c5 h
    refine fw_aload_n C dX7_readPan_18 rfl 1 rfl ?_
    refine fw_get C (ci := 7) (Cn := RX7) (Tc := TX7) (N := 1) (j := 0) ly_X7_readPan_7 rfl (hG _ (List.mem_of_getElem? (i := 2) rfl)) (of7_0 _) (ce7 T ad _ _) (by decide) (cx_ts C _ fl_X7_readPan_9) (fun _ h => h) (v := .ref (ad 6 0 0)) rfl dX7_readPan_19 ?_
    refine fw_iconst C dX7_readPan_22 (v := 5) rfl ?_
    obtain ⟨Y25, q24, h⟩ := bd1_some h
    refine fw_callVv C (ci := 10) (Cn := RX10) (Tc := TX10) (N := 6) (As := [.int 5]) (c_X10_fail (gac (hG _ (List.mem_of_getElem? (i := 4) rfl)) ga0) q24) (cwV 1 (cx_ts C) gX7_readPan_X10_fail rfl rfl rfl (by decide +kernel) ⟨Nat.le_of_ble_eq_true rfl, Nat.le_of_ble_eq_true rfl⟩) rfl (hG _ (List.mem_of_getElem? (i := 4) rfl)) (of6_0 _) (ce6 T ad _ _) rfl (st := []) rfl (Nat.le_of_ble_eq_true rfl) ⟨Nat.le_refl 0, Nat.le_refl 0⟩ dX7_readPan_23 (ppv ?_)
    exact fw_vret C hrt Y25 (Option.some.inj h) (fun t ht => ht) dX7_readPan_26
end
set_option maxRecDepth 100000 in
set_option maxHeartbeats 4000000 in
theorem c_X7_readPan {l : Launch} {N0 : Nat} {T : Nat → ClassId} {D : va_G} {gr : List (Nat × Nat)} {ad : Nat → Nat → Nat → Nat} {Y : Mem} {g1 : Nat} {res : Mem} (hG : ∀ q ∈ [(3, g1), (4, 2*g1), (7, 0), (5, 0), (6, 0)], q ∈ gr) (h : X7_readPan Y g1 = some res) : CV l yX7_readPan wsX7_readPan (Rm 3) N0 T D gr ad Y [.ref (ad 7 0 0), .ref (ad 3 g1 0)] (fun Y1 => Y1 = res) :=
  fw_body (by decide +kernel) rfl (Nat.le_of_ble_eq_true rfl) (fun p e s m below meth c C hrt => w_X7_readPan C hrt hG  h)
theorem ly_X7_readPanOf_5 : ∀ w ∈ u_ws RX5 TX5 17, w ∈ wsX7_readPanOf := by decide +kernel
theorem ly_X7_readPanOf_7 : ∀ w ∈ u_ws RX7 TX7 1, w ∈ wsX7_readPanOf := by decide +kernel
theorem fl_X7_readPanOf_9 : Cond.fieldLink RX7 9 "RecipeScheduler$SetupReader" "tokens" "LRecipeScheduler$Tokens;" ∈ wsX7_readPanOf := by decide +kernel
section
variable {p : Program} {l : Launch} {e : Env} {s : State} {m : MethodId} {below : List Frame} {meth : Method} {c : Code} {N0 : Nat} {T : Nat → ClassId} {D : va_G} {gr : List (Nat × Nat)} {ad : Nat → Nat → Nat → Nat}
set_option maxRecDepth 100000 in
set_option maxHeartbeats 4000000 in
theorem w_X7_readPanOf {Y : Mem} {g1 : Nat} {a2 : Int32} (C : Cx p s m [.ref (ad 7 0 0), .ref (ad 3 g1 0), .int a2].toArray meth c cX7_readPanOf 4 wsX7_readPanOf RX7 N0 T D gr ad) (hrt : meth.sig.returnType = none) (hG : ∀ q ∈ [(3, g1), (7, 0), (6, 0), (5, 0), (4, 2*g1)], q ∈ gr) {res : Mem} (h : X7_readPanOf Y g1 a2 = some res) : FW p l e (Rm 6) s m [.ref (ad 7 0 0), .ref (ad 3 g1 0), .int a2].toArray below meth c 4 N0 T D gr ad 0 0 (MQ below (va_Qv (fun Y1 => Y1 = res) (WB T D gr ad) (fun q => N0 ≤ q)) [.ref (ad 7 0 0), .ref (ad 3 g1 0), .int a2].toArray s 0 0 (fun q => N0 ≤ q)) Y 0 [(0, .ref (ad 7 0 0)), (1, .ref (ad 3 g1 0)), (2, .int a2)] [] := by
  unfold X7_readPanOf at h
  refine fw_aload_n C dX7_readPanOf_0 rfl 1 rfl ?_
  refine fw_getN C (ci := 5) (Cn := RX5) (Tc := TX5) (N := 17) (j := 10) ly_X7_readPanOf_5 rfl (hG _ (List.mem_of_getElem? (i := 0) rfl)) (of3_0 _) (ce3 T ad _ _) (by decide) (Nst_use (cx_nst C) (w := .fieldLinkNest RX7 125 "RecipeScheduler$Recipe" "pan" "[I" "RecipeScheduler") 155 (by decide +kernel) rfl) (fun _ h => h) (v := .ref (ad 3 g1 5)) rfl dX7_readPanOf_1 ?_
  refine fw_iload_n C dX7_readPanOf_4 rfl 2 rfl ?_
  refine fw_iconst C dX7_readPanOf_5 (v := (-1)) rfl ?_
  obtain ⟨b1, h⟩ := gd_some h
  obtain ⟨Y2, e3, h⟩ := lt_some h
  refine fw_iast2 C (hG _ (List.mem_of_getElem? (i := 0) rfl)) (of3_5 _) (ca3_5 T ad _) b1 (Nat.le_of_ble_eq_true rfl) dX7_readPanOf_6 ?_
  refine fw_mem e3 ?_
  refine fw_aload_n C dX7_readPanOf_7 rfl 0 rfl ?_
  refine fw_get C (ci := 7) (Cn := RX7) (Tc := TX7) (N := 1) (j := 0) ly_X7_readPanOf_7 rfl (hG _ (List.mem_of_getElem? (i := 1) rfl)) (of7_0 _) (ce7 T ad _ _) (by decide) (cx_ts C _ fl_X7_readPanOf_9) (fun _ h => h) (v := .ref (ad 6 0 0)) rfl dX7_readPanOf_8 ?_
  refine fw_ldcS C (sr_4 (cx_st C)) dX7_readPanOf_11 ?_
  obtain ⟨r4, Y6, q5, h⟩ := bd2_some h
  refine fw_callVi C (ci := 10) (Cn := RX10) (Tc := TX10) (N := 6) (As := [.ref (ad 21 4 0)]) (c_X10_accept (gac (hG _ (List.mem_of_getElem? (i := 3) rfl)) (gac (hG _ (List.mem_of_getElem? (i := 2) rfl)) ga0)) q5) (cwV 1 (cx_ts C) gX7_readPanOf_X10_accept rfl rfl rfl (by decide +kernel) ⟨Nat.le_of_ble_eq_true rfl, Nat.le_of_ble_eq_true rfl⟩) rfl (hG _ (List.mem_of_getElem? (i := 2) rfl)) (of6_0 _) (ce6 T ad _ _) rfl (st := []) rfl (Nat.le_of_ble_eq_true rfl) ⟨Nat.le_refl 0, Nat.le_refl 0⟩ dX7_readPanOf_13 (ppw ?_)
  refine fw_if_eq C dX7_readPanOf_16 (tgt := 62) rfl (fun c7 => ?_) (fun c7 => ?_)
  · have h := ite_t c7 h
    exact fw_vret C hrt Y6 (Option.some.inj h) (fun t ht => ht) dX7_readPanOf_62
  · have h := ite_f c7 h
    refine fw_aload_n C dX7_readPanOf_19 rfl 0 rfl ?_
    refine fw_get C (ci := 7) (Cn := RX7) (Tc := TX7) (N := 1) (j := 0) ly_X7_readPanOf_7 rfl (hG _ (List.mem_of_getElem? (i := 1) rfl)) (of7_0 _) (ce7 T ad _ _) (by decide) (cx_ts C _ fl_X7_readPanOf_9) (fun _ h => h) (v := .ref (ad 6 0 0)) rfl dX7_readPanOf_20 ?_
    refine fw_aload_n C dX7_readPanOf_23 rfl 1 rfl ?_
    refine fw_getN C (ci := 5) (Cn := RX5) (Tc := TX5) (N := 17) (j := 4) ly_X7_readPanOf_5 rfl (hG _ (List.mem_of_getElem? (i := 0) rfl)) (of3_0 _) (ce3 T ad _ _) (by decide) (Nst_use (cx_nst C) (w := .fieldLinkNest RX7 74 "RecipeScheduler$Recipe" "pans" "LRecipeScheduler$Names;" "RecipeScheduler") 134 (by decide +kernel) rfl) (fun _ h => h) (v := .ref (ad 4 (2*g1) 0)) rfl dX7_readPanOf_24 ?_
    obtain ⟨r8, Y10, q9, h⟩ := bd2_some h
    refine fw_callVi C (ci := 10) (Cn := RX10) (Tc := TX10) (N := 6) (As := [.ref (ad 4 (2*g1) 0)]) (c_X10_findName (gac (hG _ (List.mem_of_getElem? (i := 2) rfl)) (gac (hG _ (List.mem_of_getElem? (i := 3) rfl)) (gac (hG _ (List.mem_of_getElem? (i := 4) rfl)) ga0))) q9) (cwV 1 (cx_ts C) gX7_readPanOf_X10_findName rfl rfl rfl (by decide +kernel) ⟨Nat.le_of_ble_eq_true rfl, Nat.le_of_ble_eq_true rfl⟩) rfl (hG _ (List.mem_of_getElem? (i := 2) rfl)) (of6_0 _) (ce6 T ad _ _) rfl (st := []) rfl (Nat.le_of_ble_eq_true rfl) ⟨Nat.le_refl 0, Nat.le_refl 0⟩ dX7_readPanOf_27 (ppw ?_)
    refine fw_istore_n C dX7_readPanOf_30 rfl (by decide) (L' := [(3, .int r8), (0, .ref (ad 7 0 0)), (1, .ref (ad 3 g1 0)), (2, .int a2)]) rfl ?_
    refine fw_iload_n C dX7_readPanOf_31 rfl 0 rfl ?_
    refine fw_iconst C dX7_readPanOf_32 (v := (-1)) rfl ?_
    refine fw_icmp_eq C dX7_readPanOf_33 (tgt := 62) rfl (fun c11 => ?_) (fun c11 => ?_)
    · have h := ite_t c11 h
      exact fw_vret C hrt Y10 (Option.some.inj h) (fun t ht => ht) dX7_readPanOf_62
    · have h := ite_f c11 h
      refine fw_aload_n C dX7_readPanOf_36 rfl 2 rfl ?_
      refine fw_getN C (ci := 5) (Cn := RX5) (Tc := TX5) (N := 17) (j := 10) ly_X7_readPanOf_5 rfl (hG _ (List.mem_of_getElem? (i := 0) rfl)) (of3_0 _) (ce3 T ad _ _) (by decide) (Nst_use (cx_nst C) (w := .fieldLinkNest RX7 125 "RecipeScheduler$Recipe" "pan" "[I" "RecipeScheduler") 155 (by decide +kernel) rfl) (fun _ h => h) (v := .ref (ad 3 g1 5)) rfl dX7_readPanOf_37 ?_
      refine fw_iload_n C dX7_readPanOf_40 rfl 3 rfl ?_
      refine fw_iload_n C dX7_readPanOf_41 rfl 0 rfl ?_
      obtain ⟨Y12, e13, h⟩ := lt_some h
      refine fw_iast2 C (hG _ (List.mem_of_getElem? (i := 0) rfl)) (of3_5 _) (ca3_5 T ad _) b1 (Nat.le_of_ble_eq_true rfl) dX7_readPanOf_42 ?_
      refine fw_mem e13 ?_
      refine fw_aload_n C dX7_readPanOf_43 rfl 2 rfl ?_
      refine fw_getN C (ci := 5) (Cn := RX5) (Tc := TX5) (N := 17) (j := 6) ly_X7_readPanOf_5 rfl (hG _ (List.mem_of_getElem? (i := 0) rfl)) (of3_0 _) (ce3 T ad _ _) (by decide) (Nst_use (cx_nst C) (w := .fieldLinkNest RX7 133 "RecipeScheduler$Recipe" "panUsers" "[I" "RecipeScheduler") 141 (by decide +kernel) rfl) (fun _ h => h) (v := .ref (ad 3 g1 2)) rfl dX7_readPanOf_44 ?_
      refine fw_iload_n C dX7_readPanOf_47 rfl 0 rfl ?_
      refine fw_dup2 C dX7_readPanOf_48 rfl rfl ?_
      obtain ⟨b14, h⟩ := gd_some h
      refine fw_iald2 C (hG _ (List.mem_of_getElem? (i := 0) rfl)) (of3_2 _) (ca3_2 T ad _ _) b14 (Nat.le_of_ble_eq_true rfl) dX7_readPanOf_49 ?_
      refine fw_iconst C dX7_readPanOf_50 (v := 1) rfl ?_
      refine fw_iload_n C dX7_readPanOf_51 rfl 3 rfl ?_
      refine fw_ishl C dX7_readPanOf_52 ?_
      refine fw_ior C dX7_readPanOf_53 ?_
      obtain ⟨Y15, e16, h⟩ := lt_some h
      refine fw_iast2 C (hG _ (List.mem_of_getElem? (i := 0) rfl)) (of3_2 _) (ca3_2 T ad _) b14 (Nat.le_of_ble_eq_true rfl) dX7_readPanOf_54 ?_
      refine fw_mem e16 ?_
      refine fw_aload_n C dX7_readPanOf_55 rfl 1 rfl ?_
      refine fw_get C (ci := 7) (Cn := RX7) (Tc := TX7) (N := 1) (j := 0) ly_X7_readPanOf_7 rfl (hG _ (List.mem_of_getElem? (i := 1) rfl)) (of7_0 _) (ce7 T ad _ _) (by decide) (cx_ts C _ fl_X7_readPanOf_9) (fun _ h => h) (v := .ref (ad 6 0 0)) rfl dX7_readPanOf_56 ?_
      obtain ⟨Y19, q18, h⟩ := bd1_some h
      refine fw_callVv C (ci := 10) (Cn := RX10) (Tc := TX10) (N := 6) (As := []) (c_X10_advance (gac (hG _ (List.mem_of_getElem? (i := 2) rfl)) (gac (hG _ (List.mem_of_getElem? (i := 3) rfl)) ga0)) q18) (cwV 0 (cx_ts C) gX7_readPanOf_X10_advance rfl rfl rfl (by decide +kernel) ⟨Nat.le_of_ble_eq_true rfl, Nat.le_of_ble_eq_true rfl⟩) rfl (hG _ (List.mem_of_getElem? (i := 2) rfl)) (of6_0 _) (ce6 T ad _ _) rfl (st := []) rfl (Nat.le_of_ble_eq_true rfl) ⟨Nat.le_refl 0, Nat.le_refl 0⟩ dX7_readPanOf_59 (ppv ?_)
      exact fw_vret C hrt Y19 (Option.some.inj h) (fun t ht => ht) dX7_readPanOf_62
end
set_option maxRecDepth 100000 in
set_option maxHeartbeats 4000000 in
theorem c_X7_readPanOf {l : Launch} {N0 : Nat} {T : Nat → ClassId} {D : va_G} {gr : List (Nat × Nat)} {ad : Nat → Nat → Nat → Nat} {Y : Mem} {g1 : Nat} {a2 : Int32} {res : Mem} (hG : ∀ q ∈ [(3, g1), (7, 0), (6, 0), (5, 0), (4, 2*g1)], q ∈ gr) (h : X7_readPanOf Y g1 a2 = some res) : CV l yX7_readPanOf wsX7_readPanOf (Rm 6) N0 T D gr ad Y [.ref (ad 7 0 0), .ref (ad 3 g1 0), .int a2] (fun Y1 => Y1 = res) :=
  fw_body (by decide +kernel) rfl (Nat.le_of_ble_eq_true rfl) (fun p e s m below meth c C hrt => w_X7_readPanOf C hrt hG  h)
theorem ly_X5_addPredecessor_5 : ∀ w ∈ u_ws RX5 TX5 17, w ∈ wsX5_addPredecessor := by decide +kernel
theorem fl_X5_addPredecessor_41 : Cond.fieldLink RX5 41 "RecipeScheduler$Recipe" "predecessors" "[[I" ∈ wsX5_addPredecessor := by decide +kernel
theorem fl_X5_addPredecessor_44 : Cond.fieldLink RX5 44 "RecipeScheduler$Recipe" "predecessorCount" "[I" ∈ wsX5_addPredecessor := by decide +kernel
theorem fl_X5_addPredecessor_47 : Cond.fieldLink RX5 47 "RecipeScheduler$Recipe" "predecessorSet" "[I" ∈ wsX5_addPredecessor := by decide +kernel
theorem fl_X5_addPredecessor_50 : Cond.fieldLink RX5 50 "RecipeScheduler$Recipe" "successorSet" "[I" ∈ wsX5_addPredecessor := by decide +kernel
section
variable {p : Program} {l : Launch} {e : Env} {s : State} {m : MethodId} {below : List Frame} {meth : Method} {c : Code} {N0 : Nat} {T : Nat → ClassId} {D : va_G} {gr : List (Nat × Nat)} {ad : Nat → Nat → Nat → Nat}
set_option maxRecDepth 100000 in
set_option maxHeartbeats 4000000 in
theorem w_X5_addPredecessor {Y : Mem} {g0 : Nat} {a1 : Int32} {a2 : Int32} (C : Cx p s m [.ref (ad 3 g0 0), .int a1, .int a2].toArray meth c cX5_addPredecessor 3 wsX5_addPredecessor RX5 N0 T D gr ad) (hrt : meth.sig.returnType = none) (hG : ∀ q ∈ [(3, g0)], q ∈ gr) {res : Mem} (h : X5_addPredecessor Y g0 a1 a2 = some res) : FW p l e (Rm 0) s m [.ref (ad 3 g0 0), .int a1, .int a2].toArray below meth c 3 N0 T D gr ad 0 0 (MQ below (va_Qv (fun Y1 => Y1 = res) (WB T D gr ad) (fun q => N0 ≤ q)) [.ref (ad 3 g0 0), .int a1, .int a2].toArray s 0 0 (fun q => N0 ≤ q)) Y 0 [(0, .ref (ad 3 g0 0)), (1, .int a1), (2, .int a2)] [] := by
  unfold X5_addPredecessor at h
  refine fw_aload_n C dX5_addPredecessor_0 rfl 0 rfl ?_
  refine fw_get C (ci := 5) (Cn := RX5) (Tc := TX5) (N := 17) (j := 11) ly_X5_addPredecessor_5 rfl (hG _ (List.mem_of_getElem? (i := 0) rfl)) (of3_0 _) (ce3 T ad _ _) (by decide) (cx_ts C _ fl_X5_addPredecessor_41) (fun _ h => h) (v := .ref (ad 3 g0 6)) rfl dX5_addPredecessor_1 ?_
  refine fw_iload_n C dX5_addPredecessor_4 rfl 1 rfl ?_
  obtain ⟨b1, h⟩ := gd_some h
  refine fw_aald2 C 5 (hG _ (List.mem_of_getElem? (i := 0) rfl)) (of3_6 _) (ca3_6 T ad _ _) rfl rfl b1 (Nat.le_of_ble_eq_true rfl) (v := .ref (ad 3 g0 (20+ix a1))) rfl dX5_addPredecessor_5 ?_
  refine fw_aload_n C dX5_addPredecessor_6 rfl 0 rfl ?_
  refine fw_get C (ci := 5) (Cn := RX5) (Tc := TX5) (N := 17) (j := 12) ly_X5_addPredecessor_5 rfl (hG _ (List.mem_of_getElem? (i := 0) rfl)) (of3_0 _) (ce3 T ad _ _) (by decide) (cx_ts C _ fl_X5_addPredecessor_44) (fun _ h => h) (v := .ref (ad 3 g0 7)) rfl dX5_addPredecessor_7 ?_
  refine fw_iload_n C dX5_addPredecessor_10 rfl 1 rfl ?_
  refine fw_iald2 C (hG _ (List.mem_of_getElem? (i := 0) rfl)) (of3_7 _) (ca3_7 T ad _ _) b1 (Nat.le_of_ble_eq_true rfl) dX5_addPredecessor_11 ?_
  refine fw_iload_n C dX5_addPredecessor_12 rfl 2 rfl ?_
  obtain ⟨b2, h⟩ := gd_some h
  obtain ⟨Y3, e4, h⟩ := lt_some h
  refine fw_iast2 C (hG _ (List.mem_of_getElem? (i := 0) rfl)) (of3_r _ (inb_lt b1)) (ca3_r T ad _ _) b2 (Nat.le_of_ble_eq_true rfl) dX5_addPredecessor_13 ?_
  refine fw_mem e4 ?_
  refine fw_aload_n C dX5_addPredecessor_14 rfl 0 rfl ?_
  refine fw_get C (ci := 5) (Cn := RX5) (Tc := TX5) (N := 17) (j := 12) ly_X5_addPredecessor_5 rfl (hG _ (List.mem_of_getElem? (i := 0) rfl)) (of3_0 _) (ce3 T ad _ _) (by decide) (cx_ts C _ fl_X5_addPredecessor_44) (fun _ h => h) (v := .ref (ad 3 g0 7)) rfl dX5_addPredecessor_15 ?_
  refine fw_iload_n C dX5_addPredecessor_18 rfl 1 rfl ?_
  refine fw_dup2 C dX5_addPredecessor_19 rfl rfl ?_
  refine fw_iald2 C (hG _ (List.mem_of_getElem? (i := 0) rfl)) (of3_7 _) (ca3_7 T ad _ _) b1 (Nat.le_of_ble_eq_true rfl) dX5_addPredecessor_20 ?_
  refine fw_iconst C dX5_addPredecessor_21 (v := 1) rfl ?_
  refine fw_iadd C dX5_addPredecessor_22 ?_
  obtain ⟨Y5, e6, h⟩ := lt_some h
  refine fw_iast2 C (hG _ (List.mem_of_getElem? (i := 0) rfl)) (of3_7 _) (ca3_7 T ad _) b1 (Nat.le_of_ble_eq_true rfl) dX5_addPredecessor_23 ?_
  refine fw_mem e6 ?_
  refine fw_aload_n C dX5_addPredecessor_24 rfl 0 rfl ?_
  refine fw_get C (ci := 5) (Cn := RX5) (Tc := TX5) (N := 17) (j := 13) ly_X5_addPredecessor_5 rfl (hG _ (List.mem_of_getElem? (i := 0) rfl)) (of3_0 _) (ce3 T ad _ _) (by decide) (cx_ts C _ fl_X5_addPredecessor_47) (fun _ h => h) (v := .ref (ad 3 g0 8)) rfl dX5_addPredecessor_25 ?_
  refine fw_iload_n C dX5_addPredecessor_28 rfl 1 rfl ?_
  refine fw_dup2 C dX5_addPredecessor_29 rfl rfl ?_
  refine fw_iald2 C (hG _ (List.mem_of_getElem? (i := 0) rfl)) (of3_8 _) (ca3_8 T ad _ _) b1 (Nat.le_of_ble_eq_true rfl) dX5_addPredecessor_30 ?_
  refine fw_iconst C dX5_addPredecessor_31 (v := 1) rfl ?_
  refine fw_iload_n C dX5_addPredecessor_32 rfl 2 rfl ?_
  refine fw_ishl C dX5_addPredecessor_33 ?_
  refine fw_ior C dX5_addPredecessor_34 ?_
  obtain ⟨Y7, e8, h⟩ := lt_some h
  refine fw_iast2 C (hG _ (List.mem_of_getElem? (i := 0) rfl)) (of3_8 _) (ca3_8 T ad _) b1 (Nat.le_of_ble_eq_true rfl) dX5_addPredecessor_35 ?_
  refine fw_mem e8 ?_
  refine fw_aload_n C dX5_addPredecessor_36 rfl 0 rfl ?_
  refine fw_get C (ci := 5) (Cn := RX5) (Tc := TX5) (N := 17) (j := 14) ly_X5_addPredecessor_5 rfl (hG _ (List.mem_of_getElem? (i := 0) rfl)) (of3_0 _) (ce3 T ad _ _) (by decide) (cx_ts C _ fl_X5_addPredecessor_50) (fun _ h => h) (v := .ref (ad 3 g0 9)) rfl dX5_addPredecessor_37 ?_
  refine fw_iload_n C dX5_addPredecessor_40 rfl 2 rfl ?_
  refine fw_dup2 C dX5_addPredecessor_41 rfl rfl ?_
  obtain ⟨b9, h⟩ := gd_some h
  refine fw_iald2 C (hG _ (List.mem_of_getElem? (i := 0) rfl)) (of3_9 _) (ca3_9 T ad _ _) b9 (Nat.le_of_ble_eq_true rfl) dX5_addPredecessor_42 ?_
  refine fw_iconst C dX5_addPredecessor_43 (v := 1) rfl ?_
  refine fw_iload_n C dX5_addPredecessor_44 rfl 1 rfl ?_
  refine fw_ishl C dX5_addPredecessor_45 ?_
  refine fw_ior C dX5_addPredecessor_46 ?_
  obtain ⟨Y10, e11, h⟩ := lt_some h
  refine fw_iast2 C (hG _ (List.mem_of_getElem? (i := 0) rfl)) (of3_9 _) (ca3_9 T ad _) b9 (Nat.le_of_ble_eq_true rfl) dX5_addPredecessor_47 ?_
  refine fw_mem e11 ?_
  exact fw_vret C hrt Y10 (Option.some.inj h) (fun t ht => ht) dX5_addPredecessor_48
end
set_option maxRecDepth 100000 in
set_option maxHeartbeats 4000000 in
theorem c_X5_addPredecessor {l : Launch} {N0 : Nat} {T : Nat → ClassId} {D : va_G} {gr : List (Nat × Nat)} {ad : Nat → Nat → Nat → Nat} {Y : Mem} {g0 : Nat} {a1 : Int32} {a2 : Int32} {res : Mem} (hG : ∀ q ∈ [(3, g0)], q ∈ gr) (h : X5_addPredecessor Y g0 a1 a2 = some res) : CV l yX5_addPredecessor wsX5_addPredecessor (Rm 0) N0 T D gr ad Y [.ref (ad 3 g0 0), .int a1, .int a2] (fun Y1 => Y1 = res) :=
  fw_body (by decide +kernel) rfl (Nat.le_of_ble_eq_true rfl) (fun p e s m below meth c C hrt => w_X5_addPredecessor C hrt hG  h)
theorem ly_X7_readPredecessors_7 : ∀ w ∈ u_ws RX7 TX7 1, w ∈ wsX7_readPredecessors := by decide +kernel
theorem fl_X7_readPredecessors_9 : Cond.fieldLink RX7 9 "RecipeScheduler$SetupReader" "tokens" "LRecipeScheduler$Tokens;" ∈ wsX7_readPredecessors := by decide +kernel
theorem ly_X7_readPredecessors_5 : ∀ w ∈ u_ws RX5 TX5 17, w ∈ wsX7_readPredecessors := by decide +kernel
theorem in_X7_readPredecessors_11 : Cond.initialized RX11 ∈ wsX7_readPredecessors := by decide +kernel
theorem sw_X7_readPredecessors_X11_contains : Cond.static yX11_contains ∈ wsX7_readPredecessors := by decide +kernel
section
variable {p : Program} {l : Launch} {e : Env} {s : State} {m : MethodId} {below : List Frame} {meth : Method} {c : Code} {N0 : Nat} {T : Nat → ClassId} {D : va_G} {gr : List (Nat × Nat)} {ad : Nat → Nat → Nat → Nat}
set_option maxRecDepth 100000 in
set_option maxHeartbeats 4000000 in
theorem w_X7_readPredecessors_b101 {g1 : Nat} {a2 : Int32} (C : Cx p s m [.ref (ad 7 0 0), .ref (ad 3 g1 0), .int a2].toArray meth c cX7_readPredecessors 5 wsX7_readPredecessors RX7 N0 T D gr ad) (hrt : meth.sig.returnType = none) (hG : ∀ q ∈ [(7, 0), (3, g1), (4, 2*g1+1), (5, 0), (6, 0)], q ∈ gr) {res : Mem} {k2 : Mem → Int32 → Option (Mem)} (hk2 : ∀ (Y : Mem) (l3 : Int32), k2 Y l3 = some res → FW p l e (Rm 3) s m [.ref (ad 7 0 0), .ref (ad 3 g1 0), .int a2].toArray below meth c 5 N0 T D gr ad 0 0 (MQ below (va_Qv (fun Y1 => Y1 = res) (WB T D gr ad) (fun q => N0 ≤ q)) [.ref (ad 7 0 0), .ref (ad 3 g1 0), .int a2].toArray s 0 0 (fun q => N0 ≤ q)) Y 2 [(3, .int l3), (0, .ref (ad 7 0 0)), (1, .ref (ad 3 g1 0)), (2, .int a2)] []) (Y : Mem) (l3 : Int32) (h : X7_readPredecessors_b101 g1 a2 k2 Y l3 = some res) : FW p l e (Rm 3) s m [.ref (ad 7 0 0), .ref (ad 3 g1 0), .int a2].toArray below meth c 5 N0 T D gr ad 0 0 (MQ below (va_Qv (fun Y1 => Y1 = res) (WB T D gr ad) (fun q => N0 ≤ q)) [.ref (ad 7 0 0), .ref (ad 3 g1 0), .int a2].toArray s 0 0 (fun q => N0 ≤ q)) Y 101 [(3, .int l3), (0, .ref (ad 7 0 0)), (1, .ref (ad 3 g1 0)), (2, .int a2)] [] := by
  unfold X7_readPredecessors_b101 at h
  refine fw_iinc C dX7_readPredecessors_101 (kk := 0) (v := l3 + 1) rfl rfl (by decide) (L' := [(3, .int (l3 + 1)), (0, .ref (ad 7 0 0)), (1, .ref (ad 3 g1 0)), (2, .int a2)]) rfl ?_
  refine fw_goto C dX7_readPredecessors_104 (tgt := 2) rfl ?_
  exact hk2 _ _ h
set_option maxRecDepth 100000 in
set_option maxHeartbeats 4000000 in
theorem w_X7_readPredecessors_b21 {g1 : Nat} {a2 : Int32} (C : Cx p s m [.ref (ad 7 0 0), .ref (ad 3 g1 0), .int a2].toArray meth c cX7_readPredecessors 5 wsX7_readPredecessors RX7 N0 T D gr ad) (hrt : meth.sig.returnType = none) (hG : ∀ q ∈ [(7, 0), (3, g1), (4, 2*g1+1), (5, 0), (6, 0)], q ∈ gr) {res : Mem} {k2 : Mem → Int32 → Option (Mem)} (hk2 : ∀ (Y : Mem) (l3 : Int32), k2 Y l3 = some res → FW p l e (Rm 3) s m [.ref (ad 7 0 0), .ref (ad 3 g1 0), .int a2].toArray below meth c 5 N0 T D gr ad 0 0 (MQ below (va_Qv (fun Y1 => Y1 = res) (WB T D gr ad) (fun q => N0 ≤ q)) [.ref (ad 7 0 0), .ref (ad 3 g1 0), .int a2].toArray s 0 0 (fun q => N0 ≤ q)) Y 2 [(3, .int l3), (0, .ref (ad 7 0 0)), (1, .ref (ad 3 g1 0)), (2, .int a2)] []) (Y : Mem) (l3 : Int32) (h : X7_readPredecessors_b21 g1 a2 k2 Y l3 = some res) : FW p l e (Rm 3) s m [.ref (ad 7 0 0), .ref (ad 3 g1 0), .int a2].toArray below meth c 5 N0 T D gr ad 0 0 (MQ below (va_Qv (fun Y1 => Y1 = res) (WB T D gr ad) (fun q => N0 ≤ q)) [.ref (ad 7 0 0), .ref (ad 3 g1 0), .int a2].toArray s 0 0 (fun q => N0 ≤ q)) Y 21 [(3, .int l3), (0, .ref (ad 7 0 0)), (1, .ref (ad 3 g1 0)), (2, .int a2)] [] := by
  unfold X7_readPredecessors_b21 at h
  refine fw_aload_n C dX7_readPredecessors_21 rfl 1 rfl ?_
  refine fw_get C (ci := 7) (Cn := RX7) (Tc := TX7) (N := 1) (j := 0) ly_X7_readPredecessors_7 rfl (hG _ (List.mem_of_getElem? (i := 0) rfl)) (of7_0 _) (ce7 T ad _ _) (by decide) (cx_ts C _ fl_X7_readPredecessors_9) (fun _ h => h) (v := .ref (ad 6 0 0)) rfl dX7_readPredecessors_22 ?_
  refine fw_aload_n C dX7_readPredecessors_25 rfl 2 rfl ?_
  refine fw_getN C (ci := 5) (Cn := RX5) (Tc := TX5) (N := 17) (j := 7) ly_X7_readPredecessors_5 rfl (hG _ (List.mem_of_getElem? (i := 1) rfl)) (of3_0 _) (ce3 T ad _ _) (by decide) (Nst_use (cx_nst C) (w := .fieldLinkNest RX7 97 "RecipeScheduler$Recipe" "steps" "LRecipeScheduler$Names;" "RecipeScheduler") 145 (by decide +kernel) rfl) (fun _ h => h) (v := .ref (ad 4 (2*g1+1) 0)) rfl dX7_readPredecessors_26 ?_
  obtain ⟨r3, Y5, q4, h⟩ := bd2_some h
  refine fw_callVi C (ci := 10) (Cn := RX10) (Tc := TX10) (N := 6) (As := [.ref (ad 4 (2*g1+1) 0)]) (c_X10_findName (gac (hG _ (List.mem_of_getElem? (i := 4) rfl)) (gac (hG _ (List.mem_of_getElem? (i := 3) rfl)) (gac (hG _ (List.mem_of_getElem? (i := 2) rfl)) ga0))) q4) (cwV 1 (cx_ts C) gX7_readPredecessors_X10_findName rfl rfl rfl (by decide +kernel) ⟨Nat.le_of_ble_eq_true rfl, Nat.le_of_ble_eq_true rfl⟩) rfl (hG _ (List.mem_of_getElem? (i := 4) rfl)) (of6_0 _) (ce6 T ad _ _) rfl (st := []) rfl (Nat.le_of_ble_eq_true rfl) ⟨Nat.le_refl 0, Nat.le_refl 0⟩ dX7_readPredecessors_29 (ppw ?_)
  refine fw_istore C dX7_readPredecessors_32 (by decide) (L' := [(4, .int r3), (3, .int l3), (0, .ref (ad 7 0 0)), (1, .ref (ad 3 g1 0)), (2, .int a2)]) rfl ?_
  refine fw_iload C dX7_readPredecessors_34 0 rfl ?_
  refine fw_iconst C dX7_readPredecessors_36 (v := (-1)) rfl ?_
  refine fw_icmp_ne C dX7_readPredecessors_37 (tgt := 41) rfl (fun c6 => ?_) (fun c6 => ?_)
  · have h := ite_f c6 h
    refine fw_aload_n C dX7_readPredecessors_41 rfl 3 rfl ?_
    refine fw_getN C (ci := 5) (Cn := RX5) (Tc := TX5) (N := 17) (j := 13) ly_X7_readPredecessors_5 rfl (hG _ (List.mem_of_getElem? (i := 1) rfl)) (of3_0 _) (ce3 T ad _ _) (by decide) (Nst_use (cx_nst C) (w := .fieldLinkNest RX7 139 "RecipeScheduler$Recipe" "predecessorSet" "[I" "RecipeScheduler") 164 (by decide +kernel) rfl) (fun _ h => h) (v := .ref (ad 3 g1 8)) rfl dX7_readPredecessors_42 ?_
    refine fw_iload_n C dX7_readPredecessors_45 rfl 4 rfl ?_
    obtain ⟨b7, h⟩ := gd_some h
    refine fw_iald2 C (hG _ (List.mem_of_getElem? (i := 1) rfl)) (of3_8 _) (ca3_8 T ad _ _) b7 (Nat.le_of_ble_eq_true rfl) dX7_readPredecessors_46 ?_
    refine fw_iload C dX7_readPredecessors_47 0 rfl ?_
    obtain ⟨r8, q9, h⟩ := bd1_some h
    refine fw_callSNi C (As := [.int (Y5 3 g1 8 (ix a2)), .int r3]) (c_X11_contains ga0 q9) ⟨(va_cnB 2 (cx_ts C) gX7_readPredecessors_X11_contains_n142 rfl rfl rfl (cx_nw C (w := .methodLinkNest RX7 142 yX11_contains "RecipeScheduler") 378 (by decide +kernel) rfl) (cx_ts C _ in_X7_readPredecessors_11) (by decide +kernel) ⟨Nat.le_of_ble_eq_true rfl, Nat.le_of_ble_eq_true rfl⟩), cx_ts C _ sw_X7_readPredecessors_X11_contains, trivial⟩ rfl (st := []) rfl (Nat.le_of_ble_eq_true rfl) ⟨Nat.le_refl 0, Nat.le_refl 0⟩ dX7_readPredecessors_49 (pp2 ?_)
    refine fw_if_eq C dX7_readPredecessors_52 (tgt := 66) rfl (fun c10 => ?_) (fun c10 => ?_)
    · have h := ite_t c10 h
      refine fw_aload_n C dX7_readPredecessors_66 rfl 3 rfl ?_
      refine fw_getN C (ci := 5) (Cn := RX5) (Tc := TX5) (N := 17) (j := 12) ly_X7_readPredecessors_5 rfl (hG _ (List.mem_of_getElem? (i := 1) rfl)) (of3_0 _) (ce3 T ad _ _) (by decide) (Nst_use (cx_nst C) (w := .fieldLinkNest RX7 146 "RecipeScheduler$Recipe" "predecessorCount" "[I" "RecipeScheduler") 161 (by decide +kernel) rfl) (fun _ h => h) (v := .ref (ad 3 g1 7)) rfl dX7_readPredecessors_67 ?_
      refine fw_iload_n C dX7_readPredecessors_70 rfl 4 rfl ?_
      refine fw_iald2 C (hG _ (List.mem_of_getElem? (i := 1) rfl)) (of3_7 _) (ca3_7 T ad _ _) b7 (Nat.le_of_ble_eq_true rfl) dX7_readPredecessors_71 ?_
      refine fw_iconst C dX7_readPredecessors_72 (v := 4) rfl ?_
      refine fw_icmp_lt C dX7_readPredecessors_73 (tgt := 87) rfl (fun c11 => ?_) (fun c11 => ?_)
      · have h := ite_t c11 h
        refine fw_aload_n C dX7_readPredecessors_87 rfl 3 rfl ?_
        refine fw_iload_n C dX7_readPredecessors_88 rfl 4 rfl ?_
        refine fw_iload C dX7_readPredecessors_89 0 rfl ?_
        obtain ⟨Y14, q13, h⟩ := bd1_some h
        refine fw_callVv C (ci := 5) (Cn := RX5) (Tc := TX5) (N := 17) (As := [.int a2, .int r3]) (c_X5_addPredecessor (gac (hG _ (List.mem_of_getElem? (i := 1) rfl)) ga0) q13) (cwV 2 (cx_ts C) gX7_readPredecessors_X5_addPredecessor rfl rfl rfl (by decide +kernel) ⟨Nat.le_of_ble_eq_true rfl, Nat.le_of_ble_eq_true rfl⟩) rfl (hG _ (List.mem_of_getElem? (i := 1) rfl)) (of3_0 _) (ce3 T ad _ _) rfl (st := []) rfl (Nat.le_of_ble_eq_true rfl) ⟨Nat.le_refl 0, Nat.le_refl 0⟩ dX7_readPredecessors_91 (ppv ?_)
        refine fw_aload_n C dX7_readPredecessors_94 rfl 2 rfl ?_
        refine fw_get C (ci := 7) (Cn := RX7) (Tc := TX7) (N := 1) (j := 0) ly_X7_readPredecessors_7 rfl (hG _ (List.mem_of_getElem? (i := 0) rfl)) (of7_0 _) (ce7 T ad _ _) (by decide) (cx_ts C _ fl_X7_readPredecessors_9) (fun _ h => h) (v := .ref (ad 6 0 0)) rfl dX7_readPredecessors_95 ?_
        obtain ⟨Y17, q16, h⟩ := bd1_some h
        refine fw_callVv C (ci := 10) (Cn := RX10) (Tc := TX10) (N := 6) (As := []) (c_X10_advance (gac (hG _ (List.mem_of_getElem? (i := 4) rfl)) (gac (hG _ (List.mem_of_getElem? (i := 3) rfl)) ga0)) q16) (cwV 0 (cx_ts C) gX7_readPredecessors_X10_advance rfl rfl rfl (by decide +kernel) ⟨Nat.le_of_ble_eq_true rfl, Nat.le_of_ble_eq_true rfl⟩) rfl (hG _ (List.mem_of_getElem? (i := 4) rfl)) (of6_0 _) (ce6 T ad _ _) rfl (st := []) rfl (Nat.le_of_ble_eq_true rfl) ⟨Nat.le_refl 0, Nat.le_refl 0⟩ dX7_readPredecessors_98 (ppv ?_)
        refine fw_sub [1, 2, 3, 4] (L' := [(3, .int l3), (0, .ref (ad 7 0 0)), (1, .ref (ad 3 g1 0)), (2, .int a2)]) rfl ?_
        exact w_X7_readPredecessors_b101 C hrt hG  hk2 _ _ h
      · have h := ite_f c11 h
        refine fw_aload_n C dX7_readPredecessors_76 rfl 2 rfl ?_
        refine fw_get C (ci := 7) (Cn := RX7) (Tc := TX7) (N := 1) (j := 0) ly_X7_readPredecessors_7 rfl (hG _ (List.mem_of_getElem? (i := 0) rfl)) (of7_0 _) (ce7 T ad _ _) (by decide) (cx_ts C _ fl_X7_readPredecessors_9) (fun _ h => h) (v := .ref (ad 6 0 0)) rfl dX7_readPredecessors_77 ?_
        refine fw_iconst C dX7_readPredecessors_80 (v := 5) rfl ?_
        obtain ⟨Y20, q19, h⟩ := bd1_some h
        refine fw_callVv C (ci := 10) (Cn := RX10) (Tc := TX10) (N := 6) (As := [.int 5]) (c_X10_fail (gac (hG _ (List.mem_of_getElem? (i := 4) rfl)) ga0) q19) (cwV 1 (cx_ts C) gX7_readPredecessors_X10_fail rfl rfl rfl (by decide +kernel) ⟨Nat.le_of_ble_eq_true rfl, Nat.le_of_ble_eq_true rfl⟩) rfl (hG _ (List.mem_of_getElem? (i := 4) rfl)) (of6_0 _) (ce6 T ad _ _) rfl (st := []) rfl (Nat.le_of_ble_eq_true rfl) ⟨Nat.le_refl 0, Nat.le_refl 0⟩ dX7_readPredecessors_81 (ppv ?_)
        refine fw_goto C dX7_readPredecessors_84 (tgt := 101) rfl ?_
        refine fw_sub [1, 2, 3, 4] (L' := [(3, .int l3), (0, .ref (ad 7 0 0)), (1, .ref (ad 3 g1 0)), (2, .int a2)]) rfl ?_
        exact w_X7_readPredecessors_b101 C hrt hG  hk2 _ _ h
    · have h := ite_f c10 h
      refine fw_aload_n C dX7_readPredecessors_55 rfl 2 rfl ?_
      refine fw_get C (ci := 7) (Cn := RX7) (Tc := TX7) (N := 1) (j := 0) ly_X7_readPredecessors_7 rfl (hG _ (List.mem_of_getElem? (i := 0) rfl)) (of7_0 _) (ce7 T ad _ _) (by decide) (cx_ts C _ fl_X7_readPredecessors_9) (fun _ h => h) (v := .ref (ad 6 0 0)) rfl dX7_readPredecessors_56 ?_
      refine fw_iconst C dX7_readPredecessors_59 (v := 4) rfl ?_
      obtain ⟨Y23, q22, h⟩ := bd1_some h
      refine fw_callVv C (ci := 10) (Cn := RX10) (Tc := TX10) (N := 6) (As := [.int 4]) (c_X10_fail (gac (hG _ (List.mem_of_getElem? (i := 4) rfl)) ga0) q22) (cwV 1 (cx_ts C) gX7_readPredecessors_X10_fail rfl rfl rfl (by decide +kernel) ⟨Nat.le_of_ble_eq_true rfl, Nat.le_of_ble_eq_true rfl⟩) rfl (hG _ (List.mem_of_getElem? (i := 4) rfl)) (of6_0 _) (ce6 T ad _ _) rfl (st := []) rfl (Nat.le_of_ble_eq_true rfl) ⟨Nat.le_refl 0, Nat.le_refl 0⟩ dX7_readPredecessors_60 (ppv ?_)
      refine fw_goto C dX7_readPredecessors_63 (tgt := 101) rfl ?_
      refine fw_sub [1, 2, 3, 4] (L' := [(3, .int l3), (0, .ref (ad 7 0 0)), (1, .ref (ad 3 g1 0)), (2, .int a2)]) rfl ?_
      exact w_X7_readPredecessors_b101 C hrt hG  hk2 _ _ h
  · have h := ite_t c6 h
    exact fw_vret C hrt Y5 (Option.some.inj h) (fun t ht => ht) dX7_readPredecessors_40
set_option maxRecDepth 100000 in
set_option maxHeartbeats 4000000 in
theorem w_X7_readPredecessors_b2 {g1 : Nat} {a2 : Int32} (C : Cx p s m [.ref (ad 7 0 0), .ref (ad 3 g1 0), .int a2].toArray meth c cX7_readPredecessors 5 wsX7_readPredecessors RX7 N0 T D gr ad) (hrt : meth.sig.returnType = none) (hG : ∀ q ∈ [(7, 0), (3, g1), (4, 2*g1+1), (5, 0), (6, 0)], q ∈ gr) {res : Mem} : ∀ (n : Nat) (Y : Mem) (l3 : Int32), X7_readPredecessors_b2 g1 a2  n Y l3 = some res → FW p l e (Rm 3) s m [.ref (ad 7 0 0), .ref (ad 3 g1 0), .int a2].toArray below meth c 5 N0 T D gr ad 0 0 (MQ below (va_Qv (fun Y1 => Y1 = res) (WB T D gr ad) (fun q => N0 ≤ q)) [.ref (ad 7 0 0), .ref (ad 3 g1 0), .int a2].toArray s 0 0 (fun q => N0 ≤ q)) Y 2 [(3, .int l3), (0, .ref (ad 7 0 0)), (1, .ref (ad 3 g1 0)), (2, .int a2)] [] := by
  intro n
  induction n with
  | zero =>
    intro Y l3 h
    unfold X7_readPredecessors_b2 at h
    cases h
  | succ n ih =>
    intro Y l3 h
    unfold X7_readPredecessors_b2 at h
    refine fw_iload_n C dX7_readPredecessors_2 rfl 0 rfl ?_
    refine fw_iconst C dX7_readPredecessors_3 (v := 4) rfl ?_
    refine fw_icmp_gt C dX7_readPredecessors_4 (tgt := 107) rfl (fun c1 => ?_) (fun c1 => ?_)
    · have h := ite_t c1 h
      exact fw_vret C hrt Y (Option.some.inj h) (fun t ht => ht) dX7_readPredecessors_107
    · have h := ite_f c1 h
      refine fw_iload_n C dX7_readPredecessors_7 rfl 0 rfl ?_
      refine fw_if_eq C dX7_readPredecessors_8 (tgt := 21) rfl (fun c2 => ?_) (fun c2 => ?_)
      · have h := ite_t c2 h
        exact w_X7_readPredecessors_b21 C hrt hG  ih _ _ h
      · have h := ite_f c2 h
        refine fw_aload_n C dX7_readPredecessors_11 rfl 1 rfl ?_
        refine fw_get C (ci := 7) (Cn := RX7) (Tc := TX7) (N := 1) (j := 0) ly_X7_readPredecessors_7 rfl (hG _ (List.mem_of_getElem? (i := 0) rfl)) (of7_0 _) (ce7 T ad _ _) (by decide) (cx_ts C _ fl_X7_readPredecessors_9) (fun _ h => h) (v := .ref (ad 6 0 0)) rfl dX7_readPredecessors_12 ?_
        obtain ⟨r24, q25, h⟩ := bd1_some h
        refine fw_callVi C (ci := 10) (Cn := RX10) (Tc := TX10) (N := 6) (As := []) (c_X10_isAnyWord (gac (hG _ (List.mem_of_getElem? (i := 4) rfl)) ga0) q25) (cwV 0 (cx_ts C) gX7_readPredecessors_X10_isAnyWord rfl rfl rfl (by decide +kernel) ⟨Nat.le_of_ble_eq_true rfl, Nat.le_of_ble_eq_true rfl⟩) rfl (hG _ (List.mem_of_getElem? (i := 4) rfl)) (of6_0 _) (ce6 T ad _ _) rfl (st := []) rfl (Nat.le_of_ble_eq_true rfl) ⟨Nat.le_refl 0, Nat.le_refl 0⟩ dX7_readPredecessors_15 (pp2 ?_)
        refine fw_if_eq C dX7_readPredecessors_18 (tgt := 107) rfl (fun c26 => ?_) (fun c26 => ?_)
        · have h := ite_t c26 h
          exact fw_vret C hrt Y (Option.some.inj h) (fun t ht => ht) dX7_readPredecessors_107
        · have h := ite_f c26 h
          exact w_X7_readPredecessors_b21 C hrt hG  ih _ _ h
set_option maxRecDepth 100000 in
set_option maxHeartbeats 4000000 in
theorem w_X7_readPredecessors {Y : Mem} {g1 : Nat} {a2 : Int32} (C : Cx p s m [.ref (ad 7 0 0), .ref (ad 3 g1 0), .int a2].toArray meth c cX7_readPredecessors 5 wsX7_readPredecessors RX7 N0 T D gr ad) (hrt : meth.sig.returnType = none) (hG : ∀ q ∈ [(7, 0), (3, g1), (4, 2*g1+1), (5, 0), (6, 0)], q ∈ gr) {res : Mem} (h : X7_readPredecessors Y g1 a2 = some res) : FW p l e (Rm 3) s m [.ref (ad 7 0 0), .ref (ad 3 g1 0), .int a2].toArray below meth c 5 N0 T D gr ad 0 0 (MQ below (va_Qv (fun Y1 => Y1 = res) (WB T D gr ad) (fun q => N0 ≤ q)) [.ref (ad 7 0 0), .ref (ad 3 g1 0), .int a2].toArray s 0 0 (fun q => N0 ≤ q)) Y 0 [(0, .ref (ad 7 0 0)), (1, .ref (ad 3 g1 0)), (2, .int a2)] [] := by
  unfold X7_readPredecessors at h
  refine fw_iconst C dX7_readPredecessors_0 (v := 0) rfl ?_
  refine fw_istore_n C dX7_readPredecessors_1 rfl (by decide) (L' := [(3, .int 0), (0, .ref (ad 7 0 0)), (1, .ref (ad 3 g1 0)), (2, .int a2)]) rfl ?_
  exact w_X7_readPredecessors_b2 C hrt hG   _ _ _ h
end
set_option maxRecDepth 100000 in
set_option maxHeartbeats 4000000 in
theorem c_X7_readPredecessors {l : Launch} {N0 : Nat} {T : Nat → ClassId} {D : va_G} {gr : List (Nat × Nat)} {ad : Nat → Nat → Nat → Nat} {Y : Mem} {g1 : Nat} {a2 : Int32} {res : Mem} (hG : ∀ q ∈ [(7, 0), (3, g1), (4, 2*g1+1), (5, 0), (6, 0)], q ∈ gr) (h : X7_readPredecessors Y g1 a2 = some res) : CV l yX7_readPredecessors wsX7_readPredecessors (Rm 3) N0 T D gr ad Y [.ref (ad 7 0 0), .ref (ad 3 g1 0), .int a2] (fun Y1 => Y1 = res) :=
  fw_body (by decide +kernel) rfl (Nat.le_of_ble_eq_true rfl) (fun p e s m below meth c C hrt => w_X7_readPredecessors C hrt hG  h)
