theorem ly_X7_readStep_5 : ∀ w ∈ u_ws RX5 TX5 17, w ∈ wsX7_readStep := by decide +kernel
theorem ly_X7_readStep_4 : ∀ w ∈ u_ws RX4 TX4 3, w ∈ wsX7_readStep := by decide +kernel
theorem ly_X7_readStep_7 : ∀ w ∈ u_ws RX7 TX7 1, w ∈ wsX7_readStep := by decide +kernel
theorem fl_X7_readStep_9 : Cond.fieldLink RX7 9 "RecipeScheduler$SetupReader" "tokens" "LRecipeScheduler$Tokens;" ∈ wsX7_readStep := by decide +kernel
section
variable {p : Program} {l : Launch} {e : Env} {s : State} {m : MethodId} {below : List Frame} {meth : Method} {c : Code} {N0 : Nat} {T : Nat → ClassId} {D : va_G} {gr : List (Nat × Nat)} {ad : Nat → Nat → Nat → Nat}
set_option maxRecDepth 100000 in
set_option maxHeartbeats 4000000 in
theorem w_X7_readStep_b170 {g1 : Nat} (C : Cx p s m [.ref (ad 7 0 0), .ref (ad 3 g1 0)].toArray meth c cX7_readStep 3 wsX7_readStep RX7 N0 T D gr ad) (hrt : meth.sig.returnType = none) (hG : ∀ q ∈ [(3, g1), (4, 2*g1+1), (7, 0), (5, 0), (6, 0), (4, 2*g1)], q ∈ gr) {res : Mem} (Y : Mem) (h : X7_readStep_b170 g1  Y = some res) : FW p l e (Rm 7) s m [.ref (ad 7 0 0), .ref (ad 3 g1 0)].toArray below meth c 3 N0 T D gr ad 0 0 (MQ below (va_Qv (fun Y1 => Y1 = res) (WB T D gr ad) (fun q => N0 ≤ q)) [.ref (ad 7 0 0), .ref (ad 3 g1 0)].toArray s 0 0 (fun q => N0 ≤ q)) Y 170 [(0, .ref (ad 7 0 0)), (1, .ref (ad 3 g1 0))] [] := by
  unfold X7_readStep_b170 at h
  refine fw_aload_n C dX7_readStep_170 rfl 0 rfl ?_
  refine fw_get C (ci := 7) (Cn := RX7) (Tc := TX7) (N := 1) (j := 0) ly_X7_readStep_7 rfl (hG _ (List.mem_of_getElem? (i := 2) rfl)) (of7_0 _) (ce7 T ad _ _) (by decide) (cx_ts C _ fl_X7_readStep_9) (fun _ h => h) (v := .ref (ad 6 0 0)) rfl dX7_readStep_171 ?_
  obtain ⟨Y43, q42, h⟩ := bd1_some h
  refine fw_callVv C (ci := 10) (Cn := RX10) (Tc := TX10) (N := 6) (As := []) (c_X10_expectSemicolon (gac (hG _ (List.mem_of_getElem? (i := 4) rfl)) (gac (hG _ (List.mem_of_getElem? (i := 3) rfl)) ga0)) q42) (cwV 0 (cx_ts C) gX7_readStep_X10_expectSemicolon rfl rfl rfl (by decide +kernel) ⟨Nat.le_of_ble_eq_true rfl, Nat.le_of_ble_eq_true rfl⟩) rfl (hG _ (List.mem_of_getElem? (i := 4) rfl)) (of6_0 _) (ce6 T ad _ _) rfl (st := []) rfl (Nat.le_of_ble_eq_true rfl) ⟨Nat.le_refl 0, Nat.le_refl 0⟩ dX7_readStep_174 (ppv ?_)
  refine fw_aload_n C dX7_readStep_177 rfl 1 rfl ?_
  refine fw_getN C (ci := 5) (Cn := RX5) (Tc := TX5) (N := 17) (j := 7) ly_X7_readStep_5 rfl (hG _ (List.mem_of_getElem? (i := 0) rfl)) (of3_0 _) (ce3 T ad _ _) (by decide) (Nst_use (cx_nst C) (w := .fieldLinkNest RX7 97 "RecipeScheduler$Recipe" "steps" "LRecipeScheduler$Names;" "RecipeScheduler") 145 (by decide +kernel) rfl) (fun _ h => h) (v := .ref (ad 4 (2*g1+1) 0)) rfl dX7_readStep_178 ?_
  refine fw_dup C dX7_readStep_181 rfl ?_
  refine fw_getN C (ci := 4) (Cn := RX4) (Tc := TX4) (N := 3) (j := 2) ly_X7_readStep_4 rfl (hG _ (List.mem_of_getElem? (i := 1) rfl)) (of4_0 _) (ce4 T ad _ _) (by decide) (Nst_use (cx_nst C) (w := .fieldLinkNest RX7 78 "RecipeScheduler$Names" "count" "I" "RecipeScheduler") 112 (by decide +kernel) rfl) (fun _ h => h) (v := .int (Y43 4 (2*g1+1) 0 2)) rfl dX7_readStep_182 ?_
  refine fw_iconst C dX7_readStep_185 (v := 1) rfl ?_
  refine fw_iadd C dX7_readStep_186 ?_
  obtain ⟨Y44, e45, h⟩ := lt_some h
  refine fw_putN C (ci := 4) (Cn := RX4) (Tc := TX4) (N := 3) (j := 2) (ty := .int) (upd (Y43 4 (2*g1+1) 0) 2 ((Y43 4 (2*g1+1) 0 2) + 1)) ly_X7_readStep_4 rfl tyX4_ok nmX4 (hG _ (List.mem_of_getElem? (i := 1) rfl)) (of4_0 _) (ce4 T ad _ _) (by decide) (Nst_use (cx_nst C) (w := .fieldLinkNest RX7 78 "RecipeScheduler$Names" "count" "I" "RecipeScheduler") 112 (by decide +kernel) rfl) (fun _ h => h) rfl (by decide +kernel) rfl rfl (Nat.le_of_ble_eq_true rfl) (ce4_put2 T ad _ _ _) dX7_readStep_187 ?_
  refine fw_mem ((up_eq _ _ _ _ _ _).symm.trans e45) ?_
  exact fw_vret C hrt Y44 (Option.some.inj h) (fun t ht => ht) dX7_readStep_190
set_option maxRecDepth 100000 in
set_option maxHeartbeats 4000000 in
theorem w_X7_readStep_b152 {g1 : Nat} (C : Cx p s m [.ref (ad 7 0 0), .ref (ad 3 g1 0)].toArray meth c cX7_readStep 3 wsX7_readStep RX7 N0 T D gr ad) (hrt : meth.sig.returnType = none) (hG : ∀ q ∈ [(3, g1), (4, 2*g1+1), (7, 0), (5, 0), (6, 0), (4, 2*g1)], q ∈ gr) {res : Mem} (Y : Mem) (l2 : Int32) (h : X7_readStep_b152 g1  Y l2 = some res) : FW p l e (Rm 7) s m [.ref (ad 7 0 0), .ref (ad 3 g1 0)].toArray below meth c 3 N0 T D gr ad 0 0 (MQ below (va_Qv (fun Y1 => Y1 = res) (WB T D gr ad) (fun q => N0 ≤ q)) [.ref (ad 7 0 0), .ref (ad 3 g1 0)].toArray s 0 0 (fun q => N0 ≤ q)) Y 152 [(2, .int l2), (0, .ref (ad 7 0 0)), (1, .ref (ad 3 g1 0))] [] := by
  unfold X7_readStep_b152 at h
  refine fw_aload_n C dX7_readStep_152 rfl 1 rfl ?_
  refine fw_get C (ci := 7) (Cn := RX7) (Tc := TX7) (N := 1) (j := 0) ly_X7_readStep_7 rfl (hG _ (List.mem_of_getElem? (i := 2) rfl)) (of7_0 _) (ce7 T ad _ _) (by decide) (cx_ts C _ fl_X7_readStep_9) (fun _ h => h) (v := .ref (ad 6 0 0)) rfl dX7_readStep_153 ?_
  refine fw_ldcS C (sr_7 (cx_st C)) dX7_readStep_156 ?_
  obtain ⟨r37, Y39, q38, h⟩ := bd2_some h
  refine fw_callVi C (ci := 10) (Cn := RX10) (Tc := TX10) (N := 6) (As := [.ref (ad 21 7 0)]) (c_X10_accept (gac (hG _ (List.mem_of_getElem? (i := 3) rfl)) (gac (hG _ (List.mem_of_getElem? (i := 4) rfl)) ga0)) q38) (cwV 1 (cx_ts C) gX7_readStep_X10_accept rfl rfl rfl (by decide +kernel) ⟨Nat.le_of_ble_eq_true rfl, Nat.le_of_ble_eq_true rfl⟩) rfl (hG _ (List.mem_of_getElem? (i := 4) rfl)) (of6_0 _) (ce6 T ad _ _) rfl (st := []) rfl (Nat.le_of_ble_eq_true rfl) ⟨Nat.le_refl 0, Nat.le_refl 0⟩ dX7_readStep_158 (ppw ?_)
  refine fw_if_eq C dX7_readStep_161 (tgt := 170) rfl (fun c40 => ?_) (fun c40 => ?_)
  · have h := ite_t c40 h
    refine fw_sub [1, 2] (L' := [(0, .ref (ad 7 0 0)), (1, .ref (ad 3 g1 0))]) rfl ?_
    exact w_X7_readStep_b170 C hrt hG   _ h
  · have h := ite_f c40 h
    refine fw_aload_n C dX7_readStep_164 rfl 1 rfl ?_
    refine fw_aload_n C dX7_readStep_165 rfl 2 rfl ?_
    refine fw_iload_n C dX7_readStep_166 rfl 0 rfl ?_
    obtain ⟨Y48, q47, h⟩ := bd1_some h
    refine fw_callVv C (ci := 7) (Cn := RX7) (Tc := TX7) (N := 1) (As := [.ref (ad 3 g1 0), .int l2]) (c_X7_readPredecessors (gac (hG _ (List.mem_of_getElem? (i := 2) rfl)) (gac (hG _ (List.mem_of_getElem? (i := 0) rfl)) (gac (hG _ (List.mem_of_getElem? (i := 1) rfl)) (gac (hG _ (List.mem_of_getElem? (i := 3) rfl)) (gac (hG _ (List.mem_of_getElem? (i := 4) rfl)) ga0))))) q47) (cwV 2 (cx_ts C) gX7_readStep_X7_readPredecessors rfl rfl rfl (by decide +kernel) ⟨Nat.le_of_ble_eq_true rfl, Nat.le_of_ble_eq_true rfl⟩) rfl (hG _ (List.mem_of_getElem? (i := 2) rfl)) (of7_0 _) (ce7 T ad _ _) rfl (st := []) rfl (Nat.le_of_ble_eq_true rfl) ⟨Nat.le_refl 0, Nat.le_refl 0⟩ dX7_readStep_167 (ppv ?_)
    refine fw_sub [1, 2] (L' := [(0, .ref (ad 7 0 0)), (1, .ref (ad 3 g1 0))]) rfl ?_
    exact w_X7_readStep_b170 C hrt hG   _ h
set_option maxRecDepth 100000 in
set_option maxHeartbeats 4000000 in
theorem w_X7_readStep_b128 {g1 : Nat} (C : Cx p s m [.ref (ad 7 0 0), .ref (ad 3 g1 0)].toArray meth c cX7_readStep 3 wsX7_readStep RX7 N0 T D gr ad) (hrt : meth.sig.returnType = none) (hG : ∀ q ∈ [(3, g1), (4, 2*g1+1), (7, 0), (5, 0), (6, 0), (4, 2*g1)], q ∈ gr) {res : Mem} (Y : Mem) (l2 : Int32) (h : X7_readStep_b128 g1  Y l2 = some res) : FW p l e (Rm 7) s m [.ref (ad 7 0 0), .ref (ad 3 g1 0)].toArray below meth c 3 N0 T D gr ad 0 0 (MQ below (va_Qv (fun Y1 => Y1 = res) (WB T D gr ad) (fun q => N0 ≤ q)) [.ref (ad 7 0 0), .ref (ad 3 g1 0)].toArray s 0 0 (fun q => N0 ≤ q)) Y 128 [(2, .int l2), (0, .ref (ad 7 0 0)), (1, .ref (ad 3 g1 0))] [] := by
  unfold X7_readStep_b128 at h
  refine fw_aload_n C dX7_readStep_128 rfl 1 rfl ?_
  refine fw_get C (ci := 7) (Cn := RX7) (Tc := TX7) (N := 1) (j := 0) ly_X7_readStep_7 rfl (hG _ (List.mem_of_getElem? (i := 2) rfl)) (of7_0 _) (ce7 T ad _ _) (by decide) (cx_ts C _ fl_X7_readStep_9) (fun _ h => h) (v := .ref (ad 6 0 0)) rfl dX7_readStep_129 ?_
  refine fw_ldcS C (sr_6 (cx_st C)) dX7_readStep_132 ?_
  obtain ⟨r33, Y35, q34, h⟩ := bd2_some h
  refine fw_callVi C (ci := 10) (Cn := RX10) (Tc := TX10) (N := 6) (As := [.ref (ad 21 6 0)]) (c_X10_accept (gac (hG _ (List.mem_of_getElem? (i := 3) rfl)) (gac (hG _ (List.mem_of_getElem? (i := 4) rfl)) ga0)) q34) (cwV 1 (cx_ts C) gX7_readStep_X10_accept rfl rfl rfl (by decide +kernel) ⟨Nat.le_of_ble_eq_true rfl, Nat.le_of_ble_eq_true rfl⟩) rfl (hG _ (List.mem_of_getElem? (i := 4) rfl)) (of6_0 _) (ce6 T ad _ _) rfl (st := []) rfl (Nat.le_of_ble_eq_true rfl) ⟨Nat.le_refl 0, Nat.le_refl 0⟩ dX7_readStep_134 (ppw ?_)
  refine fw_if_eq C dX7_readStep_137 (tgt := 152) rfl (fun c36 => ?_) (fun c36 => ?_)
  · have h := ite_t c36 h
    exact w_X7_readStep_b152 C hrt hG   _ _ h
  · have h := ite_f c36 h
    refine fw_aload_n C dX7_readStep_140 rfl 2 rfl ?_
    refine fw_dup C dX7_readStep_141 rfl ?_
    refine fw_getN C (ci := 5) (Cn := RX5) (Tc := TX5) (N := 17) (j := 16) ly_X7_readStep_5 rfl (hG _ (List.mem_of_getElem? (i := 0) rfl)) (of3_0 _) (ce3 T ad _ _) (by decide) (Nst_use (cx_nst C) (w := .fieldLinkNest RX7 118 "RecipeScheduler$Recipe" "alone" "I" "RecipeScheduler") 173 (by decide +kernel) rfl) (fun _ h => h) (v := .int (Y35 3 g1 0 16)) rfl dX7_readStep_142 ?_
    refine fw_iconst C dX7_readStep_145 (v := 1) rfl ?_
    refine fw_iload_n C dX7_readStep_146 rfl 0 rfl ?_
    refine fw_ishl C dX7_readStep_147 ?_
    refine fw_ior C dX7_readStep_148 ?_
    obtain ⟨Y49, e50, h⟩ := lt_some h
    refine fw_putN C (ci := 5) (Cn := RX5) (Tc := TX5) (N := 17) (j := 16) (ty := .int) (upd (Y35 3 g1 0) 16 ((Y35 3 g1 0 16) ||| (1 <<< (l2 &&& 31)))) ly_X7_readStep_5 rfl tyX5_ok nmX5 (hG _ (List.mem_of_getElem? (i := 0) rfl)) (of3_0 _) (ce3 T ad _ _) (by decide) (Nst_use (cx_nst C) (w := .fieldLinkNest RX7 118 "RecipeScheduler$Recipe" "alone" "I" "RecipeScheduler") 173 (by decide +kernel) rfl) (fun _ h => h) rfl (by decide +kernel) rfl rfl (Nat.le_of_ble_eq_true rfl) (ce3_put16 T ad _ _ _) dX7_readStep_149 ?_
    refine fw_mem ((up_eq _ _ _ _ _ _).symm.trans e50) ?_
    exact w_X7_readStep_b152 C hrt hG   _ _ h
set_option maxRecDepth 100000 in
set_option maxHeartbeats 4000000 in
theorem w_X7_readStep {Y : Mem} {g1 : Nat} (C : Cx p s m [.ref (ad 7 0 0), .ref (ad 3 g1 0)].toArray meth c cX7_readStep 3 wsX7_readStep RX7 N0 T D gr ad) (hrt : meth.sig.returnType = none) (hG : ∀ q ∈ [(3, g1), (4, 2*g1+1), (7, 0), (5, 0), (6, 0), (4, 2*g1)], q ∈ gr) {res : Mem} (h : X7_readStep Y g1 = some res) : FW p l e (Rm 7) s m [.ref (ad 7 0 0), .ref (ad 3 g1 0)].toArray below meth c 3 N0 T D gr ad 0 0 (MQ below (va_Qv (fun Y1 => Y1 = res) (WB T D gr ad) (fun q => N0 ≤ q)) [.ref (ad 7 0 0), .ref (ad 3 g1 0)].toArray s 0 0 (fun q => N0 ≤ q)) Y 0 [(0, .ref (ad 7 0 0)), (1, .ref (ad 3 g1 0))] [] := by
  unfold X7_readStep at h
  refine fw_aload_n C dX7_readStep_0 rfl 1 rfl ?_
  refine fw_getN C (ci := 5) (Cn := RX5) (Tc := TX5) (N := 17) (j := 7) ly_X7_readStep_5 rfl (hG _ (List.mem_of_getElem? (i := 0) rfl)) (of3_0 _) (ce3 T ad _ _) (by decide) (Nst_use (cx_nst C) (w := .fieldLinkNest RX7 97 "RecipeScheduler$Recipe" "steps" "LRecipeScheduler$Names;" "RecipeScheduler") 145 (by decide +kernel) rfl) (fun _ h => h) (v := .ref (ad 4 (2*g1+1) 0)) rfl dX7_readStep_1 ?_
  refine fw_getN C (ci := 4) (Cn := RX4) (Tc := TX4) (N := 3) (j := 2) ly_X7_readStep_4 rfl (hG _ (List.mem_of_getElem? (i := 1) rfl)) (of4_0 _) (ce4 T ad _ _) (by decide) (Nst_use (cx_nst C) (w := .fieldLinkNest RX7 78 "RecipeScheduler$Names" "count" "I" "RecipeScheduler") 112 (by decide +kernel) rfl) (fun _ h => h) (v := .int (Y 4 (2*g1+1) 0 2)) rfl dX7_readStep_4 ?_
  obtain ⟨v1, e2, h⟩ := lt_some h
  refine fw_top (v' := .int v1) (by rw [e2]) ?_
  refine fw_istore_n C dX7_readStep_7 rfl (by decide) (L' := [(2, .int v1), (0, .ref (ad 7 0 0)), (1, .ref (ad 3 g1 0))]) rfl ?_
  refine fw_aload_n C dX7_readStep_8 rfl 1 rfl ?_
  refine fw_get C (ci := 7) (Cn := RX7) (Tc := TX7) (N := 1) (j := 0) ly_X7_readStep_7 rfl (hG _ (List.mem_of_getElem? (i := 2) rfl)) (of7_0 _) (ce7 T ad _ _) (by decide) (cx_ts C _ fl_X7_readStep_9) (fun _ h => h) (v := .ref (ad 6 0 0)) rfl dX7_readStep_9 ?_
  refine fw_ldcS C (sr_3 (cx_st C)) dX7_readStep_12 ?_
  obtain ⟨r3, q4, h⟩ := bd1_some h
  refine fw_callVi C (ci := 10) (Cn := RX10) (Tc := TX10) (N := 6) (As := [.ref (ad 21 3 0)]) (c_X10_isWord (gac (hG _ (List.mem_of_getElem? (i := 4) rfl)) (gac (hG _ (List.mem_of_getElem? (i := 3) rfl)) ga0)) q4) (cwV 1 (cx_ts C) gX7_readStep_X10_isWord rfl rfl rfl (by decide +kernel) ⟨Nat.le_of_ble_eq_true rfl, Nat.le_of_ble_eq_true rfl⟩) rfl (hG _ (List.mem_of_getElem? (i := 4) rfl)) (of6_0 _) (ce6 T ad _ _) rfl (st := []) rfl (Nat.le_of_ble_eq_true rfl) ⟨Nat.le_refl 0, Nat.le_refl 0⟩ dX7_readStep_14 (pp2 ?_)
  refine fw_if_ne C dX7_readStep_17 (tgt := 29) rfl (fun c5 => ?_) (fun c5 => ?_)
  · have h := ite_f c5 h
    refine fw_aload_n C dX7_readStep_29 rfl 2 rfl ?_
    refine fw_getN C (ci := 5) (Cn := RX5) (Tc := TX5) (N := 17) (j := 7) ly_X7_readStep_5 rfl (hG _ (List.mem_of_getElem? (i := 0) rfl)) (of3_0 _) (ce3 T ad _ _) (by decide) (Nst_use (cx_nst C) (w := .fieldLinkNest RX7 97 "RecipeScheduler$Recipe" "steps" "LRecipeScheduler$Names;" "RecipeScheduler") 145 (by decide +kernel) rfl) (fun _ h => h) (v := .ref (ad 4 (2*g1+1) 0)) rfl dX7_readStep_30 ?_
    obtain ⟨r6, q7, h⟩ := bd1_some h
    refine fw_callVi C (ci := 4) (Cn := RX4) (Tc := TX4) (N := 3) (As := []) (c_X4_isFull (gac (hG _ (List.mem_of_getElem? (i := 1) rfl)) ga0) q7) (cwV 0 (cx_ts C) gX7_readStep_X4_isFull rfl rfl rfl (by decide +kernel) ⟨Nat.le_of_ble_eq_true rfl, Nat.le_of_ble_eq_true rfl⟩) rfl (hG _ (List.mem_of_getElem? (i := 1) rfl)) (of4_0 _) (ce4 T ad _ _) rfl (st := []) rfl (Nat.le_of_ble_eq_true rfl) ⟨Nat.le_refl 0, Nat.le_refl 0⟩ dX7_readStep_33 (pp2 ?_)
    refine fw_if_eq C dX7_readStep_36 (tgt := 48) rfl (fun c8 => ?_) (fun c8 => ?_)
    · have h := ite_t c8 h
      refine fw_aload_n C dX7_readStep_48 rfl 1 rfl ?_
      refine fw_get C (ci := 7) (Cn := RX7) (Tc := TX7) (N := 1) (j := 0) ly_X7_readStep_7 rfl (hG _ (List.mem_of_getElem? (i := 2) rfl)) (of7_0 _) (ce7 T ad _ _) (by decide) (cx_ts C _ fl_X7_readStep_9) (fun _ h => h) (v := .ref (ad 6 0 0)) rfl dX7_readStep_49 ?_
      obtain ⟨Y11, q10, h⟩ := bd1_some h
      refine fw_callVv C (ci := 10) (Cn := RX10) (Tc := TX10) (N := 6) (As := []) (c_X10_advance (gac (hG _ (List.mem_of_getElem? (i := 4) rfl)) (gac (hG _ (List.mem_of_getElem? (i := 3) rfl)) ga0)) q10) (cwV 0 (cx_ts C) gX7_readStep_X10_advance rfl rfl rfl (by decide +kernel) ⟨Nat.le_of_ble_eq_true rfl, Nat.le_of_ble_eq_true rfl⟩) rfl (hG _ (List.mem_of_getElem? (i := 4) rfl)) (of6_0 _) (ce6 T ad _ _) rfl (st := []) rfl (Nat.le_of_ble_eq_true rfl) ⟨Nat.le_refl 0, Nat.le_refl 0⟩ dX7_readStep_52 (ppv ?_)
      refine fw_aload_n C dX7_readStep_55 rfl 1 rfl ?_
      refine fw_get C (ci := 7) (Cn := RX7) (Tc := TX7) (N := 1) (j := 0) ly_X7_readStep_7 rfl (hG _ (List.mem_of_getElem? (i := 2) rfl)) (of7_0 _) (ce7 T ad _ _) (by decide) (cx_ts C _ fl_X7_readStep_9) (fun _ h => h) (v := .ref (ad 6 0 0)) rfl dX7_readStep_56 ?_
      refine fw_aload_n C dX7_readStep_59 rfl 2 rfl ?_
      refine fw_getN C (ci := 5) (Cn := RX5) (Tc := TX5) (N := 17) (j := 7) ly_X7_readStep_5 rfl (hG _ (List.mem_of_getElem? (i := 0) rfl)) (of3_0 _) (ce3 T ad _ _) (by decide) (Nst_use (cx_nst C) (w := .fieldLinkNest RX7 97 "RecipeScheduler$Recipe" "steps" "LRecipeScheduler$Names;" "RecipeScheduler") 145 (by decide +kernel) rfl) (fun _ h => h) (v := .ref (ad 4 (2*g1+1) 0)) rfl dX7_readStep_60 ?_
      obtain ⟨Y14, q13, h⟩ := bd1_some h
      refine fw_callVv C (ci := 10) (Cn := RX10) (Tc := TX10) (N := 6) (As := [.ref (ad 4 (2*g1+1) 0)]) (c_X10_expectNewName (gac (hG _ (List.mem_of_getElem? (i := 4) rfl)) (gac (hG _ (List.mem_of_getElem? (i := 3) rfl)) (gac (hG _ (List.mem_of_getElem? (i := 1) rfl)) ga0))) q13) (cwV 1 (cx_ts C) gX7_readStep_X10_expectNewName rfl rfl rfl (by decide +kernel) ⟨Nat.le_of_ble_eq_true rfl, Nat.le_of_ble_eq_true rfl⟩) rfl (hG _ (List.mem_of_getElem? (i := 4) rfl)) (of6_0 _) (ce6 T ad _ _) rfl (st := []) rfl (Nat.le_of_ble_eq_true rfl) ⟨Nat.le_refl 0, Nat.le_refl 0⟩ dX7_readStep_63 (ppv ?_)
      refine fw_aload_n C dX7_readStep_66 rfl 2 rfl ?_
      refine fw_getN C (ci := 5) (Cn := RX5) (Tc := TX5) (N := 17) (j := 8) ly_X7_readStep_5 rfl (hG _ (List.mem_of_getElem? (i := 0) rfl)) (of3_0 _) (ce3 T ad _ _) (by decide) (Nst_use (cx_nst C) (w := .fieldLinkNest RX7 102 "RecipeScheduler$Recipe" "duration" "[I" "RecipeScheduler") 149 (by decide +kernel) rfl) (fun _ h => h) (v := .ref (ad 3 g1 3)) rfl dX7_readStep_67 ?_
      refine fw_iload_n C dX7_readStep_70 rfl 0 rfl ?_
      refine fw_aload_n C dX7_readStep_71 rfl 1 rfl ?_
      refine fw_get C (ci := 7) (Cn := RX7) (Tc := TX7) (N := 1) (j := 0) ly_X7_readStep_7 rfl (hG _ (List.mem_of_getElem? (i := 2) rfl)) (of7_0 _) (ce7 T ad _ _) (by decide) (cx_ts C _ fl_X7_readStep_9) (fun _ h => h) (v := .ref (ad 6 0 0)) rfl dX7_readStep_72 ?_
      refine fw_iconst C dX7_readStep_75 (v := 1) rfl ?_
      refine fw_bipush C dX7_readStep_76 (v := 60) rfl ?_
      obtain ⟨r15, Y17, q16, h⟩ := bd2_some h
      refine fw_callVi C (ci := 10) (Cn := RX10) (Tc := TX10) (N := 6) (As := [.int 1, .int 60]) (c_X10_expectNumber (gac (hG _ (List.mem_of_getElem? (i := 4) rfl)) (gac (hG _ (List.mem_of_getElem? (i := 3) rfl)) ga0)) q16) (cwV 2 (cx_ts C) gX7_readStep_X10_expectNumber rfl rfl rfl (by decide +kernel) ⟨Nat.le_of_ble_eq_true rfl, Nat.le_of_ble_eq_true rfl⟩) rfl (hG _ (List.mem_of_getElem? (i := 4) rfl)) (of6_0 _) (ce6 T ad _ _) rfl (st := [.int v1, .ref (ad 3 g1 3)]) rfl (Nat.le_of_ble_eq_true rfl) ⟨Nat.le_refl 0, Nat.le_refl 0⟩ dX7_readStep_78 (ppw ?_)
      obtain ⟨b18, h⟩ := gd_some h
      obtain ⟨Y19, e20, h⟩ := lt_some h
      refine fw_iast2 C (hG _ (List.mem_of_getElem? (i := 0) rfl)) (of3_3 _) (ca3_3 T ad _) b18 (Nat.le_of_ble_eq_true rfl) dX7_readStep_81 ?_
      refine fw_mem e20 ?_
      refine fw_aload_n C dX7_readStep_82 rfl 2 rfl ?_
      refine fw_getN C (ci := 5) (Cn := RX5) (Tc := TX5) (N := 17) (j := 9) ly_X7_readStep_5 rfl (hG _ (List.mem_of_getElem? (i := 0) rfl)) (of3_0 _) (ce3 T ad _ _) (by decide) (Nst_use (cx_nst C) (w := .fieldLinkNest RX7 105 "RecipeScheduler$Recipe" "taste" "[I" "RecipeScheduler") 151 (by decide +kernel) rfl) (fun _ h => h) (v := .ref (ad 3 g1 4)) rfl dX7_readStep_83 ?_
      refine fw_iload_n C dX7_readStep_86 rfl 0 rfl ?_
      refine fw_aload_n C dX7_readStep_87 rfl 1 rfl ?_
      refine fw_get C (ci := 7) (Cn := RX7) (Tc := TX7) (N := 1) (j := 0) ly_X7_readStep_7 rfl (hG _ (List.mem_of_getElem? (i := 2) rfl)) (of7_0 _) (ce7 T ad _ _) (by decide) (cx_ts C _ fl_X7_readStep_9) (fun _ h => h) (v := .ref (ad 6 0 0)) rfl dX7_readStep_88 ?_
      refine fw_iconst C dX7_readStep_91 (v := 0) rfl ?_
      refine fw_bipush C dX7_readStep_92 (v := 9) rfl ?_
      obtain ⟨r21, Y23, q22, h⟩ := bd2_some h
      refine fw_callVi C (ci := 10) (Cn := RX10) (Tc := TX10) (N := 6) (As := [.int 0, .int 9]) (c_X10_expectNumber (gac (hG _ (List.mem_of_getElem? (i := 4) rfl)) (gac (hG _ (List.mem_of_getElem? (i := 3) rfl)) ga0)) q22) (cwV 2 (cx_ts C) gX7_readStep_X10_expectNumber rfl rfl rfl (by decide +kernel) ⟨Nat.le_of_ble_eq_true rfl, Nat.le_of_ble_eq_true rfl⟩) rfl (hG _ (List.mem_of_getElem? (i := 4) rfl)) (of6_0 _) (ce6 T ad _ _) rfl (st := [.int v1, .ref (ad 3 g1 4)]) rfl (Nat.le_of_ble_eq_true rfl) ⟨Nat.le_refl 0, Nat.le_refl 0⟩ dX7_readStep_94 (ppw ?_)
      obtain ⟨Y24, e25, h⟩ := lt_some h
      refine fw_iast2 C (hG _ (List.mem_of_getElem? (i := 0) rfl)) (of3_4 _) (ca3_4 T ad _) b18 (Nat.le_of_ble_eq_true rfl) dX7_readStep_97 ?_
      refine fw_mem e25 ?_
      refine fw_aload_n C dX7_readStep_98 rfl 1 rfl ?_
      refine fw_aload_n C dX7_readStep_99 rfl 2 rfl ?_
      refine fw_iload_n C dX7_readStep_100 rfl 0 rfl ?_
      obtain ⟨Y28, q27, h⟩ := bd1_some h
      refine fw_callVv C (ci := 7) (Cn := RX7) (Tc := TX7) (N := 1) (As := [.ref (ad 3 g1 0), .int v1]) (c_X7_readPanOf (gac (hG _ (List.mem_of_getElem? (i := 0) rfl)) (gac (hG _ (List.mem_of_getElem? (i := 2) rfl)) (gac (hG _ (List.mem_of_getElem? (i := 4) rfl)) (gac (hG _ (List.mem_of_getElem? (i := 3) rfl)) (gac (hG _ (List.mem_of_getElem? (i := 5) rfl)) ga0))))) q27) (cwV 2 (cx_ts C) gX7_readStep_X7_readPanOf rfl rfl rfl (by decide +kernel) ⟨Nat.le_of_ble_eq_true rfl, Nat.le_of_ble_eq_true rfl⟩) rfl (hG _ (List.mem_of_getElem? (i := 2) rfl)) (of7_0 _) (ce7 T ad _ _) rfl (st := []) rfl (Nat.le_of_ble_eq_true rfl) ⟨Nat.le_refl 0, Nat.le_refl 0⟩ dX7_readStep_101 (ppv ?_)
      refine fw_aload_n C dX7_readStep_104 rfl 1 rfl ?_
      refine fw_get C (ci := 7) (Cn := RX7) (Tc := TX7) (N := 1) (j := 0) ly_X7_readStep_7 rfl (hG _ (List.mem_of_getElem? (i := 2) rfl)) (of7_0 _) (ce7 T ad _ _) (by decide) (cx_ts C _ fl_X7_readStep_9) (fun _ h => h) (v := .ref (ad 6 0 0)) rfl dX7_readStep_105 ?_
      refine fw_ldcS C (sr_5 (cx_st C)) dX7_readStep_108 ?_
      obtain ⟨r29, Y31, q30, h⟩ := bd2_some h
      refine fw_callVi C (ci := 10) (Cn := RX10) (Tc := TX10) (N := 6) (As := [.ref (ad 21 5 0)]) (c_X10_accept (gac (hG _ (List.mem_of_getElem? (i := 3) rfl)) (gac (hG _ (List.mem_of_getElem? (i := 4) rfl)) ga0)) q30) (cwV 1 (cx_ts C) gX7_readStep_X10_accept rfl rfl rfl (by decide +kernel) ⟨Nat.le_of_ble_eq_true rfl, Nat.le_of_ble_eq_true rfl⟩) rfl (hG _ (List.mem_of_getElem? (i := 4) rfl)) (of6_0 _) (ce6 T ad _ _) rfl (st := []) rfl (Nat.le_of_ble_eq_true rfl) ⟨Nat.le_refl 0, Nat.le_refl 0⟩ dX7_readStep_110 (ppw ?_)
      refine fw_if_eq C dX7_readStep_113 (tgt := 128) rfl (fun c32 => ?_) (fun c32 => ?_)
      · have h := ite_t c32 h
        exact w_X7_readStep_b128 C hrt hG   _ _ h
      · have h := ite_f c32 h
        refine fw_aload_n C dX7_readStep_116 rfl 2 rfl ?_
        refine fw_dup C dX7_readStep_117 rfl ?_
        refine fw_getN C (ci := 5) (Cn := RX5) (Tc := TX5) (N := 17) (j := 15) ly_X7_readStep_5 rfl (hG _ (List.mem_of_getElem? (i := 0) rfl)) (of3_0 _) (ce3 T ad _ _) (by decide) (Nst_use (cx_nst C) (w := .fieldLinkNest RX7 114 "RecipeScheduler$Recipe" "hot" "I" "RecipeScheduler") 169 (by decide +kernel) rfl) (fun _ h => h) (v := .int (Y31 3 g1 0 15)) rfl dX7_readStep_118 ?_
        refine fw_iconst C dX7_readStep_121 (v := 1) rfl ?_
        refine fw_iload_n C dX7_readStep_122 rfl 0 rfl ?_
        refine fw_ishl C dX7_readStep_123 ?_
        refine fw_ior C dX7_readStep_124 ?_
        obtain ⟨Y51, e52, h⟩ := lt_some h
        refine fw_putN C (ci := 5) (Cn := RX5) (Tc := TX5) (N := 17) (j := 15) (ty := .int) (upd (Y31 3 g1 0) 15 ((Y31 3 g1 0 15) ||| (1 <<< (v1 &&& 31)))) ly_X7_readStep_5 rfl tyX5_ok nmX5 (hG _ (List.mem_of_getElem? (i := 0) rfl)) (of3_0 _) (ce3 T ad _ _) (by decide) (Nst_use (cx_nst C) (w := .fieldLinkNest RX7 114 "RecipeScheduler$Recipe" "hot" "I" "RecipeScheduler") 169 (by decide +kernel) rfl) (fun _ h => h) rfl (by decide +kernel) rfl rfl (Nat.le_of_ble_eq_true rfl) (ce3_put15 T ad _ _ _) dX7_readStep_125 ?_
        refine fw_mem ((up_eq _ _ _ _ _ _).symm.trans e52) ?_
        exact w_X7_readStep_b128 C hrt hG   _ _ h
    · have h := ite_f c8 h
      refine fw_aload_n C dX7_readStep_39 rfl 1 rfl ?_
      refine fw_get C (ci := 7) (Cn := RX7) (Tc := TX7) (N := 1) (j := 0) ly_X7_readStep_7 rfl (hG _ (List.mem_of_getElem? (i := 2) rfl)) (of7_0 _) (ce7 T ad _ _) (by decide) (cx_ts C _ fl_X7_readStep_9) (fun _ h => h) (v := .ref (ad 6 0 0)) rfl dX7_readStep_40 ?_
      refine fw_iconst C dX7_readStep_43 (v := 5) rfl ?_
      obtain ⟨Y55, q54, h⟩ := bd1_some h
      refine fw_callVv C (ci := 10) (Cn := RX10) (Tc := TX10) (N := 6) (As := [.int 5]) (c_X10_fail (gac (hG _ (List.mem_of_getElem? (i := 4) rfl)) ga0) q54) (cwV 1 (cx_ts C) gX7_readStep_X10_fail rfl rfl rfl (by decide +kernel) ⟨Nat.le_of_ble_eq_true rfl, Nat.le_of_ble_eq_true rfl⟩) rfl (hG _ (List.mem_of_getElem? (i := 4) rfl)) (of6_0 _) (ce6 T ad _ _) rfl (st := []) rfl (Nat.le_of_ble_eq_true rfl) ⟨Nat.le_refl 0, Nat.le_refl 0⟩ dX7_readStep_44 (ppv ?_)
      exact fw_vret C hrt Y55 (Option.some.inj h) (fun t ht => ht) dX7_readStep_47
  · have h := ite_t c5 h
    refine fw_aload_n C dX7_readStep_20 rfl 1 rfl ?_
    refine fw_get C (ci := 7) (Cn := RX7) (Tc := TX7) (N := 1) (j := 0) ly_X7_readStep_7 rfl (hG _ (List.mem_of_getElem? (i := 2) rfl)) (of7_0 _) (ce7 T ad _ _) (by decide) (cx_ts C _ fl_X7_readStep_9) (fun _ h => h) (v := .ref (ad 6 0 0)) rfl dX7_readStep_21 ?_
    refine fw_iconst C dX7_readStep_24 (v := 1) rfl ?_
    obtain ⟨Y58, q57, h⟩ := bd1_some h
    refine fw_callVv C (ci := 10) (Cn := RX10) (Tc := TX10) (N := 6) (As := [.int 1]) (c_X10_fail (gac (hG _ (List.mem_of_getElem? (i := 4) rfl)) ga0) q57) (cwV 1 (cx_ts C) gX7_readStep_X10_fail rfl rfl rfl (by decide +kernel) ⟨Nat.le_of_ble_eq_true rfl, Nat.le_of_ble_eq_true rfl⟩) rfl (hG _ (List.mem_of_getElem? (i := 4) rfl)) (of6_0 _) (ce6 T ad _ _) rfl (st := []) rfl (Nat.le_of_ble_eq_true rfl) ⟨Nat.le_refl 0, Nat.le_refl 0⟩ dX7_readStep_25 (ppv ?_)
    exact fw_vret C hrt Y58 (Option.some.inj h) (fun t ht => ht) dX7_readStep_28
end
set_option maxRecDepth 100000 in
set_option maxHeartbeats 4000000 in
theorem c_X7_readStep {l : Launch} {N0 : Nat} {T : Nat → ClassId} {D : va_G} {gr : List (Nat × Nat)} {ad : Nat → Nat → Nat → Nat} {Y : Mem} {g1 : Nat} {res : Mem} (hG : ∀ q ∈ [(3, g1), (4, 2*g1+1), (7, 0), (5, 0), (6, 0), (4, 2*g1)], q ∈ gr) (h : X7_readStep Y g1 = some res) : CV l yX7_readStep wsX7_readStep (Rm 7) N0 T D gr ad Y [.ref (ad 7 0 0), .ref (ad 3 g1 0)] (fun Y1 => Y1 = res) :=
  fw_body (by decide +kernel) rfl (Nat.le_of_ble_eq_true rfl) (fun p e s m below meth c C hrt => w_X7_readStep C hrt hG  h)
theorem ly_X7_readInto_7 : ∀ w ∈ u_ws RX7 TX7 1, w ∈ wsX7_readInto := by decide +kernel
theorem fl_X7_readInto_9 : Cond.fieldLink RX7 9 "RecipeScheduler$SetupReader" "tokens" "LRecipeScheduler$Tokens;" ∈ wsX7_readInto := by decide +kernel
section
variable {p : Program} {l : Launch} {e : Env} {s : State} {m : MethodId} {below : List Frame} {meth : Method} {c : Code} {N0 : Nat} {T : Nat → ClassId} {D : va_G} {gr : List (Nat × Nat)} {ad : Nat → Nat → Nat → Nat}
set_option maxRecDepth 100000 in
set_option maxHeartbeats 4000000 in
theorem w_X7_readInto_b53 {g1 : Nat} (C : Cx p s m [.ref (ad 7 0 0), .ref (ad 3 g1 0)].toArray meth c cX7_readInto 3 wsX7_readInto RX7 N0 T D gr ad) (hrt : meth.sig.returnType = none) (hG : ∀ q ∈ [(4, 2*g1+1), (4, 2*g1), (3, g1), (7, 0), (5, 0), (6, 0)], q ∈ gr) {res : Mem} : ∀ (n : Nat) (Y : Mem) (l2 : Int32), X7_readInto_b53 g1  n Y l2 = some res → FW p l e (Rm 8) s m [.ref (ad 7 0 0), .ref (ad 3 g1 0)].toArray below meth c 3 N0 T D gr ad 0 0 (MQ below (va_Qv (fun Y1 => Y1 = res) (WB T D gr ad) (fun q => N0 ≤ q)) [.ref (ad 7 0 0), .ref (ad 3 g1 0)].toArray s 0 0 (fun q => N0 ≤ q)) Y 53 [(2, .int l2), (0, .ref (ad 7 0 0)), (1, .ref (ad 3 g1 0))] [] := by
  intro n
  induction n with
  | zero =>
    intro Y l2 h
    unfold X7_readInto_b53 at h
    cases h
  | succ n ih =>
    intro Y l2 h
    unfold X7_readInto_b53 at h
    refine fw_iload_n C dX7_readInto_53 rfl 0 rfl ?_
    refine fw_bipush C dX7_readInto_54 (v := 14) rfl ?_
    refine fw_icmp_gt C dX7_readInto_56 (tgt := 80) rfl (fun c14 => ?_) (fun c14 => ?_)
    · have h := ite_t c14 h
      exact fw_vret C hrt Y (Option.some.inj h) (fun t ht => ht) dX7_readInto_80
    · have h := ite_f c14 h
      refine fw_aload_n C dX7_readInto_59 rfl 1 rfl ?_
      refine fw_get C (ci := 7) (Cn := RX7) (Tc := TX7) (N := 1) (j := 0) ly_X7_readInto_7 rfl (hG _ (List.mem_of_getElem? (i := 3) rfl)) (of7_0 _) (ce7 T ad _ _) (by decide) (cx_ts C _ fl_X7_readInto_9) (fun _ h => h) (v := .ref (ad 6 0 0)) rfl dX7_readInto_60 ?_
      obtain ⟨r15, q16, h⟩ := bd1_some h
      refine fw_callVi C (ci := 10) (Cn := RX10) (Tc := TX10) (N := 6) (As := []) (c_X10_mayGoOn (gac (hG _ (List.mem_of_getElem? (i := 5) rfl)) ga0) q16) (cwV 0 (cx_ts C) gX7_readInto_X10_mayGoOn rfl rfl rfl (by decide +kernel) ⟨Nat.le_of_ble_eq_true rfl, Nat.le_of_ble_eq_true rfl⟩) rfl (hG _ (List.mem_of_getElem? (i := 5) rfl)) (of6_0 _) (ce6 T ad _ _) rfl (st := []) rfl (Nat.le_of_ble_eq_true rfl) ⟨Nat.le_refl 0, Nat.le_refl 0⟩ dX7_readInto_63 (pp2 ?_)
      refine fw_if_eq C dX7_readInto_66 (tgt := 80) rfl (fun c17 => ?_) (fun c17 => ?_)
      · have h := ite_t c17 h
        exact fw_vret C hrt Y (Option.some.inj h) (fun t ht => ht) dX7_readInto_80
      · have h := ite_f c17 h
        refine fw_aload_n C dX7_readInto_69 rfl 1 rfl ?_
        refine fw_aload_n C dX7_readInto_70 rfl 2 rfl ?_
        obtain ⟨Y20, q19, h⟩ := bd1_some h
        refine fw_callVv C (ci := 7) (Cn := RX7) (Tc := TX7) (N := 1) (As := [.ref (ad 3 g1 0)]) (c_X7_readStep (gac (hG _ (List.mem_of_getElem? (i := 2) rfl)) (gac (hG _ (List.mem_of_getElem? (i := 0) rfl)) (gac (hG _ (List.mem_of_getElem? (i := 3) rfl)) (gac (hG _ (List.mem_of_getElem? (i := 4) rfl)) (gac (hG _ (List.mem_of_getElem? (i := 5) rfl)) (gac (hG _ (List.mem_of_getElem? (i := 1) rfl)) ga0)))))) q19) (cwV 1 (cx_ts C) gX7_readInto_X7_readStep rfl rfl rfl (by decide +kernel) ⟨Nat.le_of_ble_eq_true rfl, Nat.le_of_ble_eq_true rfl⟩) rfl (hG _ (List.mem_of_getElem? (i := 3) rfl)) (of7_0 _) (ce7 T ad _ _) rfl (st := []) rfl (Nat.le_of_ble_eq_true rfl) ⟨Nat.le_refl 0, Nat.le_refl 0⟩ dX7_readInto_71 (ppv ?_)
        refine fw_iinc C dX7_readInto_74 (kk := 0) (v := l2 + 1) rfl rfl (by decide) (L' := [(2, .int (l2 + 1)), (0, .ref (ad 7 0 0)), (1, .ref (ad 3 g1 0))]) rfl ?_
        refine fw_goto C dX7_readInto_77 (tgt := 53) rfl ?_
        exact ih _ _ h
set_option maxRecDepth 100000 in
set_option maxHeartbeats 4000000 in
theorem w_X7_readInto_b46 {g1 : Nat} (C : Cx p s m [.ref (ad 7 0 0), .ref (ad 3 g1 0)].toArray meth c cX7_readInto 3 wsX7_readInto RX7 N0 T D gr ad) (hrt : meth.sig.returnType = none) (hG : ∀ q ∈ [(4, 2*g1+1), (4, 2*g1), (3, g1), (7, 0), (5, 0), (6, 0)], q ∈ gr) {res : Mem} (Y : Mem) (h : X7_readInto_b46 g1  Y = some res) : FW p l e (Rm 8) s m [.ref (ad 7 0 0), .ref (ad 3 g1 0)].toArray below meth c 3 N0 T D gr ad 0 0 (MQ below (va_Qv (fun Y1 => Y1 = res) (WB T D gr ad) (fun q => N0 ≤ q)) [.ref (ad 7 0 0), .ref (ad 3 g1 0)].toArray s 0 0 (fun q => N0 ≤ q)) Y 46 [(0, .ref (ad 7 0 0)), (1, .ref (ad 3 g1 0))] [] := by
  unfold X7_readInto_b46 at h
  refine fw_aload_n C dX7_readInto_46 rfl 0 rfl ?_
  refine fw_aload_n C dX7_readInto_47 rfl 1 rfl ?_
  obtain ⟨Y13, q12, h⟩ := bd1_some h
  refine fw_callVv C (ci := 7) (Cn := RX7) (Tc := TX7) (N := 1) (As := [.ref (ad 3 g1 0)]) (c_X7_readStep (gac (hG _ (List.mem_of_getElem? (i := 2) rfl)) (gac (hG _ (List.mem_of_getElem? (i := 0) rfl)) (gac (hG _ (List.mem_of_getElem? (i := 3) rfl)) (gac (hG _ (List.mem_of_getElem? (i := 4) rfl)) (gac (hG _ (List.mem_of_getElem? (i := 5) rfl)) (gac (hG _ (List.mem_of_getElem? (i := 1) rfl)) ga0)))))) q12) (cwV 1 (cx_ts C) gX7_readInto_X7_readStep rfl rfl rfl (by decide +kernel) ⟨Nat.le_of_ble_eq_true rfl, Nat.le_of_ble_eq_true rfl⟩) rfl (hG _ (List.mem_of_getElem? (i := 3) rfl)) (of7_0 _) (ce7 T ad _ _) rfl (st := []) rfl (Nat.le_of_ble_eq_true rfl) ⟨Nat.le_refl 0, Nat.le_refl 0⟩ dX7_readInto_48 (ppv ?_)
  refine fw_iconst C dX7_readInto_51 (v := 1) rfl ?_
  refine fw_istore_n C dX7_readInto_52 rfl (by decide) (L' := [(2, .int 1), (0, .ref (ad 7 0 0)), (1, .ref (ad 3 g1 0))]) rfl ?_
  exact w_X7_readInto_b53 C hrt hG   _ _ _ h
set_option maxRecDepth 100000 in
set_option maxHeartbeats 4000000 in
theorem w_X7_readInto_b18 {g1 : Nat} (C : Cx p s m [.ref (ad 7 0 0), .ref (ad 3 g1 0)].toArray meth c cX7_readInto 3 wsX7_readInto RX7 N0 T D gr ad) (hrt : meth.sig.returnType = none) (hG : ∀ q ∈ [(4, 2*g1+1), (4, 2*g1), (3, g1), (7, 0), (5, 0), (6, 0)], q ∈ gr) {res : Mem} : ∀ (n : Nat) (Y : Mem) (l2 : Int32), X7_readInto_b18 g1  n Y l2 = some res → FW p l e (Rm 8) s m [.ref (ad 7 0 0), .ref (ad 3 g1 0)].toArray below meth c 3 N0 T D gr ad 0 0 (MQ below (va_Qv (fun Y1 => Y1 = res) (WB T D gr ad) (fun q => N0 ≤ q)) [.ref (ad 7 0 0), .ref (ad 3 g1 0)].toArray s 0 0 (fun q => N0 ≤ q)) Y 18 [(2, .int l2), (0, .ref (ad 7 0 0)), (1, .ref (ad 3 g1 0))] [] := by
  intro n
  induction n with
  | zero =>
    intro Y l2 h
    unfold X7_readInto_b18 at h
    cases h
  | succ n ih =>
    intro Y l2 h
    unfold X7_readInto_b18 at h
    refine fw_iload_n C dX7_readInto_18 rfl 0 rfl ?_
    refine fw_iconst C dX7_readInto_19 (v := 4) rfl ?_
    refine fw_icmp_gt C dX7_readInto_20 (tgt := 46) rfl (fun c10 => ?_) (fun c10 => ?_)
    · have h := ite_t c10 h
      refine fw_sub [1, 2] (L' := [(0, .ref (ad 7 0 0)), (1, .ref (ad 3 g1 0))]) rfl ?_
      exact w_X7_readInto_b46 C hrt hG   _ h
    · have h := ite_f c10 h
      refine fw_aload_n C dX7_readInto_23 rfl 1 rfl ?_
      refine fw_get C (ci := 7) (Cn := RX7) (Tc := TX7) (N := 1) (j := 0) ly_X7_readInto_7 rfl (hG _ (List.mem_of_getElem? (i := 3) rfl)) (of7_0 _) (ce7 T ad _ _) (by decide) (cx_ts C _ fl_X7_readInto_9) (fun _ h => h) (v := .ref (ad 6 0 0)) rfl dX7_readInto_24 ?_
      refine fw_ldcS C (sr_2 (cx_st C)) dX7_readInto_27 ?_
      obtain ⟨r21, q22, h⟩ := bd1_some h
      refine fw_callVi C (ci := 10) (Cn := RX10) (Tc := TX10) (N := 6) (As := [.ref (ad 21 2 0)]) (c_X10_isWord (gac (hG _ (List.mem_of_getElem? (i := 5) rfl)) (gac (hG _ (List.mem_of_getElem? (i := 4) rfl)) ga0)) q22) (cwV 1 (cx_ts C) gX7_readInto_X10_isWord rfl rfl rfl (by decide +kernel) ⟨Nat.le_of_ble_eq_true rfl, Nat.le_of_ble_eq_true rfl⟩) rfl (hG _ (List.mem_of_getElem? (i := 5) rfl)) (of6_0 _) (ce6 T ad _ _) rfl (st := []) rfl (Nat.le_of_ble_eq_true rfl) ⟨Nat.le_refl 0, Nat.le_refl 0⟩ dX7_readInto_29 (pp2 ?_)
      refine fw_if_eq C dX7_readInto_32 (tgt := 46) rfl (fun c23 => ?_) (fun c23 => ?_)
      · have h := ite_t c23 h
        refine fw_sub [1, 2] (L' := [(0, .ref (ad 7 0 0)), (1, .ref (ad 3 g1 0))]) rfl ?_
        exact w_X7_readInto_b46 C hrt hG   _ h
      · have h := ite_f c23 h
        refine fw_aload_n C dX7_readInto_35 rfl 1 rfl ?_
        refine fw_aload_n C dX7_readInto_36 rfl 2 rfl ?_
        obtain ⟨Y26, q25, h⟩ := bd1_some h
        refine fw_callVv C (ci := 7) (Cn := RX7) (Tc := TX7) (N := 1) (As := [.ref (ad 3 g1 0)]) (c_X7_readPan (gac (hG _ (List.mem_of_getElem? (i := 2) rfl)) (gac (hG _ (List.mem_of_getElem? (i := 1) rfl)) (gac (hG _ (List.mem_of_getElem? (i := 3) rfl)) (gac (hG _ (List.mem_of_getElem? (i := 4) rfl)) (gac (hG _ (List.mem_of_getElem? (i := 5) rfl)) ga0))))) q25) (cwV 1 (cx_ts C) gX7_readInto_X7_readPan rfl rfl rfl (by decide +kernel) ⟨Nat.le_of_ble_eq_true rfl, Nat.le_of_ble_eq_true rfl⟩) rfl (hG _ (List.mem_of_getElem? (i := 3) rfl)) (of7_0 _) (ce7 T ad _ _) rfl (st := []) rfl (Nat.le_of_ble_eq_true rfl) ⟨Nat.le_refl 0, Nat.le_refl 0⟩ dX7_readInto_37 (ppv ?_)
        refine fw_iinc C dX7_readInto_40 (kk := 0) (v := l2 + 1) rfl rfl (by decide) (L' := [(2, .int (l2 + 1)), (0, .ref (ad 7 0 0)), (1, .ref (ad 3 g1 0))]) rfl ?_
        refine fw_goto C dX7_readInto_43 (tgt := 18) rfl ?_
        exact ih _ _ h
set_option maxRecDepth 100000 in
set_option maxHeartbeats 4000000 in
theorem w_X7_readInto {Y : Mem} {g1 : Nat} (C : Cx p s m [.ref (ad 7 0 0), .ref (ad 3 g1 0)].toArray meth c cX7_readInto 3 wsX7_readInto RX7 N0 T D gr ad) (hrt : meth.sig.returnType = none) (hG : ∀ q ∈ [(4, 2*g1+1), (4, 2*g1), (3, g1), (7, 0), (5, 0), (6, 0)], q ∈ gr) {res : Mem} (h : X7_readInto Y g1 = some res) : FW p l e (Rm 8) s m [.ref (ad 7 0 0), .ref (ad 3 g1 0)].toArray below meth c 3 N0 T D gr ad 0 0 (MQ below (va_Qv (fun Y1 => Y1 = res) (WB T D gr ad) (fun q => N0 ≤ q)) [.ref (ad 7 0 0), .ref (ad 3 g1 0)].toArray s 0 0 (fun q => N0 ≤ q)) Y 0 [(0, .ref (ad 7 0 0)), (1, .ref (ad 3 g1 0))] [] := by
  unfold X7_readInto at h
  refine fw_aload_n C dX7_readInto_0 rfl 1 rfl ?_
  obtain ⟨Y3, q2, h⟩ := bd1_some h
  refine fw_callVv C (ci := 5) (Cn := RX5) (Tc := TX5) (N := 17) (As := []) (c_X5_clear (gac (hG _ (List.mem_of_getElem? (i := 2) rfl)) (gac (hG _ (List.mem_of_getElem? (i := 1) rfl)) (gac (hG _ (List.mem_of_getElem? (i := 0) rfl)) ga0))) q2) (cwV 0 (cx_ts C) gX7_readInto_X5_clear rfl rfl rfl (by decide +kernel) ⟨Nat.le_of_ble_eq_true rfl, Nat.le_of_ble_eq_true rfl⟩) rfl (hG _ (List.mem_of_getElem? (i := 2) rfl)) (of3_0 _) (ce3 T ad _ _) rfl (st := []) rfl (Nat.le_of_ble_eq_true rfl) ⟨Nat.le_refl 0, Nat.le_refl 0⟩ dX7_readInto_1 (ppv ?_)
  refine fw_aload_n C dX7_readInto_4 rfl 0 rfl ?_
  refine fw_get C (ci := 7) (Cn := RX7) (Tc := TX7) (N := 1) (j := 0) ly_X7_readInto_7 rfl (hG _ (List.mem_of_getElem? (i := 3) rfl)) (of7_0 _) (ce7 T ad _ _) (by decide) (cx_ts C _ fl_X7_readInto_9) (fun _ h => h) (v := .ref (ad 6 0 0)) rfl dX7_readInto_5 ?_
  obtain ⟨Y6, q5, h⟩ := bd1_some h
  refine fw_callVv C (ci := 10) (Cn := RX10) (Tc := TX10) (N := 6) (As := []) (c_X10_begin (gac (hG _ (List.mem_of_getElem? (i := 5) rfl)) (gac (hG _ (List.mem_of_getElem? (i := 4) rfl)) ga0)) q5) (cwV 0 (cx_ts C) gX7_readInto_X10_begin rfl rfl rfl (by decide +kernel) ⟨Nat.le_of_ble_eq_true rfl, Nat.le_of_ble_eq_true rfl⟩) rfl (hG _ (List.mem_of_getElem? (i := 5) rfl)) (of6_0 _) (ce6 T ad _ _) rfl (st := []) rfl (Nat.le_of_ble_eq_true rfl) ⟨Nat.le_refl 0, Nat.le_refl 0⟩ dX7_readInto_8 (ppv ?_)
  refine fw_aload_n C dX7_readInto_11 rfl 0 rfl ?_
  refine fw_aload_n C dX7_readInto_12 rfl 1 rfl ?_
  obtain ⟨Y9, q8, h⟩ := bd1_some h
  refine fw_callVv C (ci := 7) (Cn := RX7) (Tc := TX7) (N := 1) (As := [.ref (ad 3 g1 0)]) (c_X7_readHead (gac (hG _ (List.mem_of_getElem? (i := 3) rfl)) (gac (hG _ (List.mem_of_getElem? (i := 5) rfl)) (gac (hG _ (List.mem_of_getElem? (i := 4) rfl)) (gac (hG _ (List.mem_of_getElem? (i := 2) rfl)) ga0)))) q8) (cwV 1 (cx_ts C) gX7_readInto_X7_readHead rfl rfl rfl (by decide +kernel) ⟨Nat.le_of_ble_eq_true rfl, Nat.le_of_ble_eq_true rfl⟩) rfl (hG _ (List.mem_of_getElem? (i := 3) rfl)) (of7_0 _) (ce7 T ad _ _) rfl (st := []) rfl (Nat.le_of_ble_eq_true rfl) ⟨Nat.le_refl 0, Nat.le_refl 0⟩ dX7_readInto_13 (ppv ?_)
  refine fw_iconst C dX7_readInto_16 (v := 0) rfl ?_
  refine fw_istore_n C dX7_readInto_17 rfl (by decide) (L' := [(2, .int 0), (0, .ref (ad 7 0 0)), (1, .ref (ad 3 g1 0))]) rfl ?_
  exact w_X7_readInto_b18 C hrt hG   _ _ _ h
end
set_option maxRecDepth 100000 in
set_option maxHeartbeats 4000000 in
theorem c_X7_readInto {l : Launch} {N0 : Nat} {T : Nat → ClassId} {D : va_G} {gr : List (Nat × Nat)} {ad : Nat → Nat → Nat → Nat} {Y : Mem} {g1 : Nat} {res : Mem} (hG : ∀ q ∈ [(4, 2*g1+1), (4, 2*g1), (3, g1), (7, 0), (5, 0), (6, 0)], q ∈ gr) (h : X7_readInto Y g1 = some res) : CV l yX7_readInto wsX7_readInto (Rm 8) N0 T D gr ad Y [.ref (ad 7 0 0), .ref (ad 3 g1 0)] (fun Y1 => Y1 = res) :=
  fw_body (by decide +kernel) rfl (Nat.le_of_ble_eq_true rfl) (fun p e s m below meth c C hrt => w_X7_readInto C hrt hG  h)
theorem ly_X11_requireNoError_11 : ∀ w ∈ u_ws RX11 TX11 11, w ∈ wsX11_requireNoError := by decide +kernel
theorem fl_X11_requireNoError_48 : Cond.fieldLink RX11 48 "RecipeScheduler" "tokens" "LRecipeScheduler$Tokens;" ∈ wsX11_requireNoError := by decide +kernel
theorem ly_X11_requireNoError_10 : ∀ w ∈ u_ws RX10 TX10 6, w ∈ wsX11_requireNoError := by decide +kernel
section
variable {p : Program} {l : Launch} {e : Env} {s : State} {m : MethodId} {below : List Frame} {meth : Method} {c : Code} {N0 : Nat} {T : Nat → ClassId} {D : va_G} {gr : List (Nat × Nat)} {ad : Nat → Nat → Nat → Nat}
set_option maxRecDepth 100000 in
set_option maxHeartbeats 4000000 in
theorem w_X11_requireNoError {Y : Mem} (C : Cx p s m [.ref (ad 0 0 0)].toArray meth c cX11_requireNoError 1 wsX11_requireNoError RX11 N0 T D gr ad) (hrt : meth.sig.returnType = none) (hG : ∀ q ∈ [(0, 0), (6, 0)], q ∈ gr) {res : Unit} (h : X11_requireNoError Y = some res) : FW p l e (Rm 0) s m [.ref (ad 0 0 0)].toArray below meth c 1 N0 T D gr ad 0 0 (MQ below (va_Qv (fun Y1 => Y1 = Y) (WB T D gr ad) (fun q => N0 ≤ q)) [.ref (ad 0 0 0)].toArray s 0 0 (fun q => N0 ≤ q)) Y 0 [(0, .ref (ad 0 0 0))] [] := by
  unfold X11_requireNoError at h
  refine fw_aload_n C dX11_requireNoError_0 rfl 0 rfl ?_
  refine fw_get C (ci := 11) (Cn := RX11) (Tc := TX11) (N := 11) (j := 2) ly_X11_requireNoError_11 rfl (hG _ (List.mem_of_getElem? (i := 0) rfl)) (of0_0 _) (ce0 T ad _ _) (by decide) (cx_ts C _ fl_X11_requireNoError_48) (fun _ h => h) (v := .ref (ad 6 0 0)) rfl dX11_requireNoError_1 ?_
  refine fw_getN C (ci := 10) (Cn := RX10) (Tc := TX10) (N := 6) (j := 4) ly_X11_requireNoError_10 rfl (hG _ (List.mem_of_getElem? (i := 1) rfl)) (of6_0 _) (ce6 T ad _ _) (by decide) (Nst_use (cx_nst C) (w := .fieldLinkNest RX11 133 "RecipeScheduler$Tokens" "errorCode" "I" "RecipeScheduler") 69 (by decide +kernel) rfl) (fun _ h => h) (v := .int (Y 6 0 0 4)) rfl dX11_requireNoError_4 ?_
  refine fw_if_eq C dX11_requireNoError_7 (tgt := 21) rfl (fun c1 => ?_) (fun c1 => ?_)
  · have h := ite_t c1 h
    exact fw_vret C hrt Y rfl (fun t ht => ht) dX11_requireNoError_21
  · have h := ite_f c1 h
    cases h
end
set_option maxRecDepth 100000 in
set_option maxHeartbeats 4000000 in
theorem c_X11_requireNoError {l : Launch} {N0 : Nat} {T : Nat → ClassId} {D : va_G} {gr : List (Nat × Nat)} {ad : Nat → Nat → Nat → Nat} {Y : Mem} {res : Unit} (hG : ∀ q ∈ [(0, 0), (6, 0)], q ∈ gr) (h : X11_requireNoError Y = some res) : CV l yX11_requireNoError wsX11_requireNoError (Rm 0) N0 T D gr ad Y [.ref (ad 0 0 0)] (fun Y1 => Y1 = Y) :=
  fw_body (by decide +kernel) rfl (Nat.le_of_ble_eq_true rfl) (fun p e s m below meth c C hrt => w_X11_requireNoError C hrt hG  h)
