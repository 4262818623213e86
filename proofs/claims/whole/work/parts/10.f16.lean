theorem ly_X7_readStep_5 : ∀ w ∈ u_ws RX5 TX5 17, w ∈ wsX7_readStep := by decide +kernel
theorem ly_X7_readStep_4 : ∀ w ∈ u_ws RX4 TX4 3, w ∈ wsX7_readStep := by decide +kernel
theorem ly_X7_readStep_7 : ∀ w ∈ u_ws RX7 TX7 1, w ∈ wsX7_readStep := by decide +kernel
theorem fl_X7_readStep_9 : Cond.fieldLink RX7 9 "RecipeScheduler$SetupReader" "tokens" "LRecipeScheduler$Tokens;" ∈ wsX7_readStep := by decide +kernel
noncomputable def X7_readStep_b170 (g1 : Nat) (Y : Mem) : Option (Mem) :=
  bd1 (X10_expectSemicolon Y) <| fun Y43 => lt_ (up Y43 4 (2*g1+1) 0 2 ((Y43 4 (2*g1+1) 0 2) + 1)) <| fun Y44 => some Y44
noncomputable def X7_readStep_b152 (g1 : Nat) (Y : Mem) (l2 : Int32) : Option (Mem) :=
  bd2 (X10_accept Y 7) <| fun r37 Y39 => if r37 = 0 then (X7_readStep_b170 g1 Y39) else (bd1 (X7_readPredecessors Y39 g1 l2) <| fun Y48 => X7_readStep_b170 g1 Y48)
noncomputable def X7_readStep_b128 (g1 : Nat) (Y : Mem) (l2 : Int32) : Option (Mem) :=
  bd2 (X10_accept Y 6) <| fun r33 Y35 => if r33 = 0 then (X7_readStep_b152 g1 Y35 l2) else (lt_ (up Y35 3 g1 0 16 ((Y35 3 g1 0 16) ||| (1 <<< (l2 &&& 31)))) <| fun Y49 => X7_readStep_b152 g1 Y49 l2)
noncomputable def X7_readStep (Y : Mem) (g1 : Nat) : Option (Mem) :=
  lt_ (Y 4 (2*g1+1) 0 2) <| fun v1 => bd1 (X10_isWord Y 3) <| fun r3 => if r3 = 0 then (bd1 (X10_fail Y 1) <| fun Y58 => some Y58) else (bd1 (X4_isFull Y (2*g1+1)) <| fun r6 => if r6 = 0 then (bd1 (X10_advance Y) <| fun Y11 => bd1 (X10_expectNewName Y11 (2*g1+1)) <| fun Y14 => bd2 (X10_expectNumber Y14 1 60) <| fun r15 Y17 => gd (inb v1 14) <| lt_ (up Y17 3 g1 3 (ix v1) r15) <| fun Y19 => bd2 (X10_expectNumber Y19 0 9) <| fun r21 Y23 => lt_ (up Y23 3 g1 4 (ix v1) r21) <| fun Y24 => bd1 (X7_readPanOf Y24 g1 v1) <| fun Y28 => bd2 (X10_accept Y28 5) <| fun r29 Y31 => if r29 = 0 then (X7_readStep_b128 g1 Y31 v1) else (lt_ (up Y31 3 g1 0 15 ((Y31 3 g1 0 15) ||| (1 <<< (v1 &&& 31)))) <| fun Y51 => X7_readStep_b128 g1 Y51 v1)) else (bd1 (X10_fail Y 5) <| fun Y55 => some Y55))
section
variable {p : Program} {l : Launch} {e : Env} {s : State} {m : MethodId} {below : List Frame} {meth : Method} {c : Code} {N0 : Nat} {T : Nat → ClassId} {D : va_G} {gr : List (Nat × Nat)} {ad : Nat → Nat → Nat → Nat}
set_option maxRecDepth 100000 in
set_option maxHeartbeats 4000000 in
theorem w_X7_readStep_b170 {g1 : Nat} (C : Cx p s m [.ref (ad 7 0 0), .ref (ad 3 g1 0)].toArray meth c cX7_readStep 3 wsX7_readStep RX7 N0 T D gr ad) (hrt : meth.sig.returnType = none) (hG : ∀ q ∈ [(3, g1), (4, 2*g1+1), (7, 0), (5, 0), (6, 0), (4, 0), (4, 2*g1)], q ∈ gr) {res : Mem} (Y : Mem) (h : X7_readStep_b170 g1  Y = some res) : FW p l e (Rm 7) s m [.ref (ad 7 0 0), .ref (ad 3 g1 0)].toArray below meth c 3 N0 T D gr ad 0 0 (MQ below (va_Qv (fun Y1 => Y1 = res) (WB T D gr ad) (fun q => N0 ≤ q)) [.ref (ad 7 0 0), .ref (ad 3 g1 0)].toArray s 0 0 (fun q => N0 ≤ q)) Y 170 [(0, .ref (ad 7 0 0)), (1, .ref (ad 3 g1 0))] [] := by
  unfold X7_readStep_b170 at h
  refine fw_aload_n C dX7_readStep_170 rfl 0 rfl ?_
  refine fw_get C (ci := 5) (Cn := RX7) (Tc := TX7) (N := 1) (j := 0) ly_X7_readStep_7 rfl (hG _ (List.mem_of_getElem? (i := 2) rfl)) (of7_0 _) (ce7 T ad _ _) (by decide) (cx_ts C _ fl_X7_readStep_9) (fun _ h => h) (v := .ref (ad 6 0 0)) rfl dX7_readStep_171 ?_
  obtain ⟨Y43, q42, h⟩ := bd1_some h
  refine fw_callVv C (ci := 8) (Cn := RX10) (Tc := TX10) (N := 6) (As := []) (c_X10_expectSemicolon (gac (hG _ (List.mem_of_getElem? (i := 4) rfl)) (gac (hG _ (List.mem_of_getElem? (i := 3) rfl)) ga0)) q42) (cwV 0 (cx_ts C) gX7_readStep_X10_expectSemicolon rfl rfl rfl (by decide +kernel) ⟨Nat.le_of_ble_eq_true rfl, Nat.le_of_ble_eq_true rfl⟩) rfl (hG _ (List.mem_of_getElem? (i := 4) rfl)) (of6_0 _) (ce6 T ad _ _) rfl (st := []) rfl (Nat.le_of_ble_eq_true rfl) ⟨Nat.le_refl 0, Nat.le_refl 0⟩ dX7_readStep_174 ?_
  rintro _ rfl
  refine fw_aload_n C dX7_readStep_177 rfl 1 rfl ?_
  refine fw_getN C (ci := 3) (Cn := RX5) (Tc := TX5) (N := 17) (j := 7) ly_X7_readStep_5 rfl (hG _ (List.mem_of_getElem? (i := 0) rfl)) (of3_0 _) (ce3 T ad _ _) (by decide) (Nst_use (cx_nst C) (w := .fieldLinkNest RX7 97 "RecipeScheduler$Recipe" "steps" "LRecipeScheduler$Names;" "RecipeScheduler") 147 (by decide +kernel) rfl) (fun _ h => h) (v := .ref (ad 4 (2*g1+1) 0)) rfl dX7_readStep_178 ?_
  refine fw_dup C dX7_readStep_181 rfl ?_
  refine fw_getN C (ci := 2) (Cn := RX4) (Tc := TX4) (N := 3) (j := 2) ly_X7_readStep_4 rfl (hG _ (List.mem_of_getElem? (i := 1) rfl)) (of4_0 _) (ce4 T ad _ _) (by decide) (Nst_use (cx_nst C) (w := .fieldLinkNest RX7 78 "RecipeScheduler$Names" "count" "I" "RecipeScheduler") 112 (by decide +kernel) rfl) (fun _ h => h) (v := .int (Y43 4 (2*g1+1) 0 2)) rfl dX7_readStep_182 ?_
  refine fw_iconst C dX7_readStep_185 (v := 1) rfl ?_
  refine fw_iadd C dX7_readStep_186 ?_
  obtain ⟨Y44, e45, h⟩ := lt_some h
  refine fw_putN C (ci := 2) (Cn := RX4) (Tc := TX4) (N := 3) (j := 2) (ty := .int) (upd (Y43 4 (2*g1+1) 0) 2 ((Y43 4 (2*g1+1) 0 2) + 1)) ly_X7_readStep_4 rfl tyX4_ok nmX4 (hG _ (List.mem_of_getElem? (i := 1) rfl)) (of4_0 _) (ce4 T ad _ _) (by decide) (Nst_use (cx_nst C) (w := .fieldLinkNest RX7 78 "RecipeScheduler$Names" "count" "I" "RecipeScheduler") 112 (by decide +kernel) rfl) (fun _ h => h) rfl (by decide +kernel) rfl rfl (by decide) (ce4_put2 T ad _ _ _) dX7_readStep_187 ?_
  refine fw_mem ((up_eq _ _ _ _ _ _).symm.trans e45) ?_
  exact fw_vret C hrt Y44 (Option.some.inj h) (fun t ht => ht) dX7_readStep_190
set_option maxRecDepth 100000 in
set_option maxHeartbeats 4000000 in
theorem w_X7_readStep_b152 {g1 : Nat} (C : Cx p s m [.ref (ad 7 0 0), .ref (ad 3 g1 0)].toArray meth c cX7_readStep 3 wsX7_readStep RX7 N0 T D gr ad) (hrt : meth.sig.returnType = none) (hG : ∀ q ∈ [(3, g1), (4, 2*g1+1), (7, 0), (5, 0), (6, 0), (4, 0), (4, 2*g1)], q ∈ gr) {res : Mem} (Y : Mem) (l2 : Int32) (h : X7_readStep_b152 g1  Y l2 = some res) : FW p l e (Rm 7) s m [.ref (ad 7 0 0), .ref (ad 3 g1 0)].toArray below meth c 3 N0 T D gr ad 0 0 (MQ below (va_Qv (fun Y1 => Y1 = res) (WB T D gr ad) (fun q => N0 ≤ q)) [.ref (ad 7 0 0), .ref (ad 3 g1 0)].toArray s 0 0 (fun q => N0 ≤ q)) Y 152 [(2, .int l2), (0, .ref (ad 7 0 0)), (1, .ref (ad 3 g1 0))] [] := by
  unfold X7_readStep_b152 at h
  refine fw_aload_n C dX7_readStep_152 rfl 1 rfl ?_
  refine fw_get C (ci := 5) (Cn := RX7) (Tc := TX7) (N := 1) (j := 0) ly_X7_readStep_7 rfl (hG _ (List.mem_of_getElem? (i := 2) rfl)) (of7_0 _) (ce7 T ad _ _) (by decide) (cx_ts C _ fl_X7_readStep_9) (fun _ h => h) (v := .ref (ad 6 0 0)) rfl dX7_readStep_153 ?_
  refine fw_ldcS C ((cx_st C).2.1 _ (List.mem_of_getElem? (i := 7) rfl)) dX7_readStep_156 ?_
  obtain ⟨r37, Y39, q38, h⟩ := bd2_some h
  refine fw_callVi C (ci := 8) (Cn := RX10) (Tc := TX10) (N := 6) (As := [.ref (ad 21 7 0)]) (c_X10_accept (gac (hG _ (List.mem_of_getElem? (i := 3) rfl)) (gac (hG _ (List.mem_of_getElem? (i := 4) rfl)) ga0)) q38) (cwV 1 (cx_ts C) gX7_readStep_X10_accept rfl rfl rfl (by decide +kernel) ⟨Nat.le_of_ble_eq_true rfl, Nat.le_of_ble_eq_true rfl⟩) rfl (hG _ (List.mem_of_getElem? (i := 4) rfl)) (of6_0 _) (ce6 T ad _ _) rfl (st := []) rfl (Nat.le_of_ble_eq_true rfl) ⟨Nat.le_refl 0, Nat.le_refl 0⟩ dX7_readStep_158 ?_
  intro r_ Y_ e_
  obtain ⟨rfl, rfl⟩ := Prod.mk.inj e_
  refine fw_if_eq C dX7_readStep_161 (tgt := 170) rfl (fun c40 => ?_) (fun c40 => ?_)
  · have h := ite_t c40 h
    refine fw_sub [1, 2] (L' := [(0, .ref (ad 7 0 0)), (1, .ref (ad 3 g1 0))]) rfl ?_
    exact w_X7_readStep_b170 C hrt hG   _ h
  · have h := ite_f c40 h
    refine fw_aload_n C dX7_readStep_164 rfl 1 rfl ?_
    refine fw_aload_n C dX7_readStep_165 rfl 2 rfl ?_
    refine fw_iload_n C dX7_readStep_166 rfl 0 rfl ?_
    obtain ⟨Y48, q47, h⟩ := bd1_some h
    refine fw_callVv C (ci := 5) (Cn := RX7) (Tc := TX7) (N := 1) (As := [.ref (ad 3 g1 0), .int l2]) (c_X7_readPredecessors (gac (hG _ (List.mem_of_getElem? (i := 2) rfl)) (gac (hG _ (List.mem_of_getElem? (i := 0) rfl)) (gac (hG _ (List.mem_of_getElem? (i := 1) rfl)) (gac (hG _ (List.mem_of_getElem? (i := 5) rfl)) (gac (hG _ (List.mem_of_getElem? (i := 3) rfl)) (gac (hG _ (List.mem_of_getElem? (i := 4) rfl)) ga0)))))) q47) (cwV 2 (cx_ts C) gX7_readStep_X7_readPredecessors rfl rfl rfl (by decide +kernel) ⟨Nat.le_of_ble_eq_true rfl, Nat.le_of_ble_eq_true rfl⟩) rfl (hG _ (List.mem_of_getElem? (i := 2) rfl)) (of7_0 _) (ce7 T ad _ _) rfl (st := []) rfl (Nat.le_of_ble_eq_true rfl) ⟨Nat.le_refl 0, Nat.le_refl 0⟩ dX7_readStep_167 ?_
    rintro _ rfl
    refine fw_sub [1, 2] (L' := [(0, .ref (ad 7 0 0)), (1, .ref (ad 3 g1 0))]) rfl ?_
    exact w_X7_readStep_b170 C hrt hG   _ h
set_option maxRecDepth 100000 in
set_option maxHeartbeats 4000000 in
theorem w_X7_readStep_b128 {g1 : Nat} (C : Cx p s m [.ref (ad 7 0 0), .ref (ad 3 g1 0)].toArray meth c cX7_readStep 3 wsX7_readStep RX7 N0 T D gr ad) (hrt : meth.sig.returnType = none) (hG : ∀ q ∈ [(3, g1), (4, 2*g1+1), (7, 0), (5, 0), (6, 0), (4, 0), (4, 2*g1)], q ∈ gr) {res : Mem} (Y : Mem) (l2 : Int32) (h : X7_readStep_b128 g1  Y l2 = some res) : FW p l e (Rm 7) s m [.ref (ad 7 0 0), .ref (ad 3 g1 0)].toArray below meth c 3 N0 T D gr ad 0 0 (MQ below (va_Qv (fun Y1 => Y1 = res) (WB T D gr ad) (fun q => N0 ≤ q)) [.ref (ad 7 0 0), .ref (ad 3 g1 0)].toArray s 0 0 (fun q => N0 ≤ q)) Y 128 [(2, .int l2), (0, .ref (ad 7 0 0)), (1, .ref (ad 3 g1 0))] [] := by
  unfold X7_readStep_b128 at h
  refine fw_aload_n C dX7_readStep_128 rfl 1 rfl ?_
  refine fw_get C (ci := 5) (Cn := RX7) (Tc := TX7) (N := 1) (j := 0) ly_X7_readStep_7 rfl (hG _ (List.mem_of_getElem? (i := 2) rfl)) (of7_0 _) (ce7 T ad _ _) (by decide) (cx_ts C _ fl_X7_readStep_9) (fun _ h => h) (v := .ref (ad 6 0 0)) rfl dX7_readStep_129 ?_
  refine fw_ldcS C ((cx_st C).2.1 _ (List.mem_of_getElem? (i := 6) rfl)) dX7_readStep_132 ?_
  obtain ⟨r33, Y35, q34, h⟩ := bd2_some h
  refine fw_callVi C (ci := 8) (Cn := RX10) (Tc := TX10) (N := 6) (As := [.ref (ad 21 6 0)]) (c_X10_accept (gac (hG _ (List.mem_of_getElem? (i := 3) rfl)) (gac (hG _ (List.mem_of_getElem? (i := 4) rfl)) ga0)) q34) (cwV 1 (cx_ts C) gX7_readStep_X10_accept rfl rfl rfl (by decide +kernel) ⟨Nat.le_of_ble_eq_true rfl, Nat.le_of_ble_eq_true rfl⟩) rfl (hG _ (List.mem_of_getElem? (i := 4) rfl)) (of6_0 _) (ce6 T ad _ _) rfl (st := []) rfl (Nat.le_of_ble_eq_true rfl) ⟨Nat.le_refl 0, Nat.le_refl 0⟩ dX7_readStep_134 ?_
  intro r_ Y_ e_
  obtain ⟨rfl, rfl⟩ := Prod.mk.inj e_
  refine fw_if_eq C dX7_readStep_137 (tgt := 152) rfl (fun c36 => ?_) (fun c36 => ?_)
  · have h := ite_t c36 h
    exact w_X7_readStep_b152 C hrt hG   _ _ h
  · have h := ite_f c36 h
    refine fw_aload_n C dX7_readStep_140 rfl 2 rfl ?_
    refine fw_dup C dX7_readStep_141 rfl ?_
    refine fw_getN C (ci := 3) (Cn := RX5) (Tc := TX5) (N := 17) (j := 16) ly_X7_readStep_5 rfl (hG _ (List.mem_of_getElem? (i := 0) rfl)) (of3_0 _) (ce3 T ad _ _) (by decide) (Nst_use (cx_nst C) (w := .fieldLinkNest RX7 118 "RecipeScheduler$Recipe" "alone" "I" "RecipeScheduler") 178 (by decide +kernel) rfl) (fun _ h => h) (v := .int (Y35 3 g1 0 16)) rfl dX7_readStep_142 ?_
    refine fw_iconst C dX7_readStep_145 (v := 1) rfl ?_
    refine fw_iload_n C dX7_readStep_146 rfl 0 rfl ?_
    refine fw_ishl C dX7_readStep_147 ?_
    refine fw_ior C dX7_readStep_148 ?_
    obtain ⟨Y49, e50, h⟩ := lt_some h
    refine fw_putN C (ci := 3) (Cn := RX5) (Tc := TX5) (N := 17) (j := 16) (ty := .int) (upd (Y35 3 g1 0) 16 ((Y35 3 g1 0 16) ||| (1 <<< (l2 &&& 31)))) ly_X7_readStep_5 rfl tyX5_ok nmX5 (hG _ (List.mem_of_getElem? (i := 0) rfl)) (of3_0 _) (ce3 T ad _ _) (by decide) (Nst_use (cx_nst C) (w := .fieldLinkNest RX7 118 "RecipeScheduler$Recipe" "alone" "I" "RecipeScheduler") 178 (by decide +kernel) rfl) (fun _ h => h) rfl (by decide +kernel) rfl rfl (by decide) (ce3_put16 T ad _ _ _) dX7_readStep_149 ?_
    refine fw_mem ((up_eq _ _ _ _ _ _).symm.trans e50) ?_
    exact w_X7_readStep_b152 C hrt hG   _ _ h
set_option maxRecDepth 100000 in
set_option maxHeartbeats 4000000 in
theorem w_X7_readStep {Y : Mem} {g1 : Nat} (C : Cx p s m [.ref (ad 7 0 0), .ref (ad 3 g1 0)].toArray meth c cX7_readStep 3 wsX7_readStep RX7 N0 T D gr ad) (hrt : meth.sig.returnType = none) (hG : ∀ q ∈ [(3, g1), (4, 2*g1+1), (7, 0), (5, 0), (6, 0), (4, 0), (4, 2*g1)], q ∈ gr) {res : Mem} (h : X7_readStep Y g1 = some res) : FW p l e (Rm 7) s m [.ref (ad 7 0 0), .ref (ad 3 g1 0)].toArray below meth c 3 N0 T D gr ad 0 0 (MQ below (va_Qv (fun Y1 => Y1 = res) (WB T D gr ad) (fun q => N0 ≤ q)) [.ref (ad 7 0 0), .ref (ad 3 g1 0)].toArray s 0 0 (fun q => N0 ≤ q)) Y 0 [(0, .ref (ad 7 0 0)), (1, .ref (ad 3 g1 0))] [] := by
  unfold X7_readStep at h
  refine fw_aload_n C dX7_readStep_0 rfl 1 rfl ?_
  refine fw_getN C (ci := 3) (Cn := RX5) (Tc := TX5) (N := 17) (j := 7) ly_X7_readStep_5 rfl (hG _ (List.mem_of_getElem? (i := 0) rfl)) (of3_0 _) (ce3 T ad _ _) (by decide) (Nst_use (cx_nst C) (w := .fieldLinkNest RX7 97 "RecipeScheduler$Recipe" "steps" "LRecipeScheduler$Names;" "RecipeScheduler") 147 (by decide +kernel) rfl) (fun _ h => h) (v := .ref (ad 4 (2*g1+1) 0)) rfl dX7_readStep_1 ?_
  refine fw_getN C (ci := 2) (Cn := RX4) (Tc := TX4) (N := 3) (j := 2) ly_X7_readStep_4 rfl (hG _ (List.mem_of_getElem? (i := 1) rfl)) (of4_0 _) (ce4 T ad _ _) (by decide) (Nst_use (cx_nst C) (w := .fieldLinkNest RX7 78 "RecipeScheduler$Names" "count" "I" "RecipeScheduler") 112 (by decide +kernel) rfl) (fun _ h => h) (v := .int (Y 4 (2*g1+1) 0 2)) rfl dX7_readStep_4 ?_
  obtain ⟨v1, e2, h⟩ := lt_some h
  refine fw_top (v' := .int v1) (by rw [e2]) ?_
  refine fw_istore_n C dX7_readStep_7 rfl (by decide) (L' := [(2, .int v1), (0, .ref (ad 7 0 0)), (1, .ref (ad 3 g1 0))]) rfl ?_
  refine fw_aload_n C dX7_readStep_8 rfl 1 rfl ?_
  refine fw_get C (ci := 5) (Cn := RX7) (Tc := TX7) (N := 1) (j := 0) ly_X7_readStep_7 rfl (hG _ (List.mem_of_getElem? (i := 2) rfl)) (of7_0 _) (ce7 T ad _ _) (by decide) (cx_ts C _ fl_X7_readStep_9) (fun _ h => h) (v := .ref (ad 6 0 0)) rfl dX7_readStep_9 ?_
  refine fw_ldcS C ((cx_st C).2.1 _ (List.mem_of_getElem? (i := 3) rfl)) dX7_readStep_12 ?_
  obtain ⟨r3, q4, h⟩ := bd1_some h
  refine fw_callVi C (ci := 8) (Cn := RX10) (Tc := TX10) (N := 6) (As := [.ref (ad 21 3 0)]) (c_X10_isWord (gac (hG _ (List.mem_of_getElem? (i := 4) rfl)) (gac (hG _ (List.mem_of_getElem? (i := 3) rfl)) ga0)) q4) (cwV 1 (cx_ts C) gX7_readStep_X10_isWord rfl rfl rfl (by decide +kernel) ⟨Nat.le_of_ble_eq_true rfl, Nat.le_of_ble_eq_true rfl⟩) rfl (hG _ (List.mem_of_getElem? (i := 4) rfl)) (of6_0 _) (ce6 T ad _ _) rfl (st := []) rfl (Nat.le_of_ble_eq_true rfl) ⟨Nat.le_refl 0, Nat.le_refl 0⟩ dX7_readStep_14 ?_
  rintro _ _ ⟨rfl, rfl⟩
  refine fw_if_ne C dX7_readStep_17 (tgt := 29) rfl (fun c5 => ?_) (fun c5 => ?_)
  · have h := ite_f c5 h
    refine fw_aload_n C dX7_readStep_29 rfl 2 rfl ?_
    refine fw_getN C (ci := 3) (Cn := RX5) (Tc := TX5) (N := 17) (j := 7) ly_X7_readStep_5 rfl (hG _ (List.mem_of_getElem? (i := 0) rfl)) (of3_0 _) (ce3 T ad _ _) (by decide) (Nst_use (cx_nst C) (w := .fieldLinkNest RX7 97 "RecipeScheduler$Recipe" "steps" "LRecipeScheduler$Names;" "RecipeScheduler") 147 (by decide +kernel) rfl) (fun _ h => h) (v := .ref (ad 4 (2*g1+1) 0)) rfl dX7_readStep_30 ?_
    obtain ⟨r6, q7, h⟩ := bd1_some h
    refine fw_callVi C (ci := 2) (Cn := RX4) (Tc := TX4) (N := 3) (As := []) (c_X4_isFull (gac (hG _ (List.mem_of_getElem? (i := 1) rfl)) ga0) q7) (cwV 0 (cx_ts C) gX7_readStep_X4_isFull rfl rfl rfl (by decide +kernel) ⟨Nat.le_of_ble_eq_true rfl, Nat.le_of_ble_eq_true rfl⟩) rfl (hG _ (List.mem_of_getElem? (i := 1) rfl)) (of4_0 _) (ce4 T ad _ _) rfl (st := []) rfl (Nat.le_of_ble_eq_true rfl) ⟨Nat.le_refl 0, Nat.le_refl 0⟩ dX7_readStep_33 ?_
    rintro _ _ ⟨rfl, rfl⟩
    refine fw_if_eq C dX7_readStep_36 (tgt := 48) rfl (fun c8 => ?_) (fun c8 => ?_)
    · have h := ite_t c8 h
      refine fw_aload_n C dX7_readStep_48 rfl 1 rfl ?_
      refine fw_get C (ci := 5) (Cn := RX7) (Tc := TX7) (N := 1) (j := 0) ly_X7_readStep_7 rfl (hG _ (List.mem_of_getElem? (i := 2) rfl)) (of7_0 _) (ce7 T ad _ _) (by decide) (cx_ts C _ fl_X7_readStep_9) (fun _ h => h) (v := .ref (ad 6 0 0)) rfl dX7_readStep_49 ?_
      obtain ⟨Y11, q10, h⟩ := bd1_some h
      refine fw_callVv C (ci := 8) (Cn := RX10) (Tc := TX10) (N := 6) (As := []) (c_X10_advance (gac (hG _ (List.mem_of_getElem? (i := 4) rfl)) (gac (hG _ (List.mem_of_getElem? (i := 3) rfl)) ga0)) q10) (cwV 0 (cx_ts C) gX7_readStep_X10_advance rfl rfl rfl (by decide +kernel) ⟨Nat.le_of_ble_eq_true rfl, Nat.le_of_ble_eq_true rfl⟩) rfl (hG _ (List.mem_of_getElem? (i := 4) rfl)) (of6_0 _) (ce6 T ad _ _) rfl (st := []) rfl (Nat.le_of_ble_eq_true rfl) ⟨Nat.le_refl 0, Nat.le_refl 0⟩ dX7_readStep_52 ?_
      rintro _ rfl
      refine fw_aload_n C dX7_readStep_55 rfl 1 rfl ?_
      refine fw_get C (ci := 5) (Cn := RX7) (Tc := TX7) (N := 1) (j := 0) ly_X7_readStep_7 rfl (hG _ (List.mem_of_getElem? (i := 2) rfl)) (of7_0 _) (ce7 T ad _ _) (by decide) (cx_ts C _ fl_X7_readStep_9) (fun _ h => h) (v := .ref (ad 6 0 0)) rfl dX7_readStep_56 ?_
      refine fw_aload_n C dX7_readStep_59 rfl 2 rfl ?_
      refine fw_getN C (ci := 3) (Cn := RX5) (Tc := TX5) (N := 17) (j := 7) ly_X7_readStep_5 rfl (hG _ (List.mem_of_getElem? (i := 0) rfl)) (of3_0 _) (ce3 T ad _ _) (by decide) (Nst_use (cx_nst C) (w := .fieldLinkNest RX7 97 "RecipeScheduler$Recipe" "steps" "LRecipeScheduler$Names;" "RecipeScheduler") 147 (by decide +kernel) rfl) (fun _ h => h) (v := .ref (ad 4 (2*g1+1) 0)) rfl dX7_readStep_60 ?_
      obtain ⟨Y14, q13, h⟩ := bd1_some h
      refine fw_callVv C (ci := 8) (Cn := RX10) (Tc := TX10) (N := 6) (As := [.ref (ad 4 (2*g1+1) 0)]) (c_X10_expectNewName (gac (hG _ (List.mem_of_getElem? (i := 4) rfl)) (gac (hG _ (List.mem_of_getElem? (i := 3) rfl)) (gac (hG _ (List.mem_of_getElem? (i := 5) rfl)) (gac (hG _ (List.mem_of_getElem? (i := 1) rfl)) ga0)))) q13) (cwV 1 (cx_ts C) gX7_readStep_X10_expectNewName rfl rfl rfl (by decide +kernel) ⟨Nat.le_of_ble_eq_true rfl, Nat.le_of_ble_eq_true rfl⟩) rfl (hG _ (List.mem_of_getElem? (i := 4) rfl)) (of6_0 _) (ce6 T ad _ _) rfl (st := []) rfl (Nat.le_of_ble_eq_true rfl) ⟨Nat.le_refl 0, Nat.le_refl 0⟩ dX7_readStep_63 ?_
      rintro _ rfl
      refine fw_aload_n C dX7_readStep_66 rfl 2 rfl ?_
      refine fw_getN C (ci := 3) (Cn := RX5) (Tc := TX5) (N := 17) (j := 8) ly_X7_readStep_5 rfl (hG _ (List.mem_of_getElem? (i := 0) rfl)) (of3_0 _) (ce3 T ad _ _) (by decide) (Nst_use (cx_nst C) (w := .fieldLinkNest RX7 102 "RecipeScheduler$Recipe" "duration" "[I" "RecipeScheduler") 151 (by decide +kernel) rfl) (fun _ h => h) (v := .ref (ad 3 g1 3)) rfl dX7_readStep_67 ?_
      refine fw_iload_n C dX7_readStep_70 rfl 0 rfl ?_
      refine fw_aload_n C dX7_readStep_71 rfl 1 rfl ?_
      refine fw_get C (ci := 5) (Cn := RX7) (Tc := TX7) (N := 1) (j := 0) ly_X7_readStep_7 rfl (hG _ (List.mem_of_getElem? (i := 2) rfl)) (of7_0 _) (ce7 T ad _ _) (by decide) (cx_ts C _ fl_X7_readStep_9) (fun _ h => h) (v := .ref (ad 6 0 0)) rfl dX7_readStep_72 ?_
      refine fw_iconst C dX7_readStep_75 (v := 1) rfl ?_
      refine fw_bipush C dX7_readStep_76 (v := 60) rfl ?_
      obtain ⟨r15, Y17, q16, h⟩ := bd2_some h
      refine fw_callVi C (ci := 8) (Cn := RX10) (Tc := TX10) (N := 6) (As := [.int 1, .int 60]) (c_X10_expectNumber (gac (hG _ (List.mem_of_getElem? (i := 4) rfl)) (gac (hG _ (List.mem_of_getElem? (i := 3) rfl)) ga0)) q16) (cwV 2 (cx_ts C) gX7_readStep_X10_expectNumber rfl rfl rfl (by decide +kernel) ⟨Nat.le_of_ble_eq_true rfl, Nat.le_of_ble_eq_true rfl⟩) rfl (hG _ (List.mem_of_getElem? (i := 4) rfl)) (of6_0 _) (ce6 T ad _ _) rfl (st := [.int v1, .ref (ad 3 g1 3)]) rfl (Nat.le_of_ble_eq_true rfl) ⟨Nat.le_refl 0, Nat.le_refl 0⟩ dX7_readStep_78 ?_
      intro r_ Y_ e_
      obtain ⟨rfl, rfl⟩ := Prod.mk.inj e_
      obtain ⟨b18, h⟩ := gd_some h
      obtain ⟨Y19, e20, h⟩ := lt_some h
      refine fw_iast2 C (hG _ (List.mem_of_getElem? (i := 0) rfl)) (of3_3 _) (ca3_3 T ad _) b18 (Nat.le_of_ble_eq_true rfl) dX7_readStep_81 ?_
      refine fw_mem e20 ?_
      refine fw_aload_n C dX7_readStep_82 rfl 2 rfl ?_
      refine fw_getN C (ci := 3) (Cn := RX5) (Tc := TX5) (N := 17) (j := 9) ly_X7_readStep_5 rfl (hG _ (List.mem_of_getElem? (i := 0) rfl)) (of3_0 _) (ce3 T ad _ _) (by decide) (Nst_use (cx_nst C) (w := .fieldLinkNest RX7 105 "RecipeScheduler$Recipe" "taste" "[I" "RecipeScheduler") 153 (by decide +kernel) rfl) (fun _ h => h) (v := .ref (ad 3 g1 4)) rfl dX7_readStep_83 ?_
      refine fw_iload_n C dX7_readStep_86 rfl 0 rfl ?_
      refine fw_aload_n C dX7_readStep_87 rfl 1 rfl ?_
      refine fw_get C (ci := 5) (Cn := RX7) (Tc := TX7) (N := 1) (j := 0) ly_X7_readStep_7 rfl (hG _ (List.mem_of_getElem? (i := 2) rfl)) (of7_0 _) (ce7 T ad _ _) (by decide) (cx_ts C _ fl_X7_readStep_9) (fun _ h => h) (v := .ref (ad 6 0 0)) rfl dX7_readStep_88 ?_
      refine fw_iconst C dX7_readStep_91 (v := 0) rfl ?_
      refine fw_bipush C dX7_readStep_92 (v := 9) rfl ?_
      obtain ⟨r21, Y23, q22, h⟩ := bd2_some h
      refine fw_callVi C (ci := 8) (Cn := RX10) (Tc := TX10) (N := 6) (As := [.int 0, .int 9]) (c_X10_expectNumber (gac (hG _ (List.mem_of_getElem? (i := 4) rfl)) (gac (hG _ (List.mem_of_getElem? (i := 3) rfl)) ga0)) q22) (cwV 2 (cx_ts C) gX7_readStep_X10_expectNumber rfl rfl rfl (by decide +kernel) ⟨Nat.le_of_ble_eq_true rfl, Nat.le_of_ble_eq_true rfl⟩) rfl (hG _ (List.mem_of_getElem? (i := 4) rfl)) (of6_0 _) (ce6 T ad _ _) rfl (st := [.int v1, .ref (ad 3 g1 4)]) rfl (Nat.le_of_ble_eq_true rfl) ⟨Nat.le_refl 0, Nat.le_refl 0⟩ dX7_readStep_94 ?_
      intro r_ Y_ e_
      obtain ⟨rfl, rfl⟩ := Prod.mk.inj e_
      obtain ⟨Y24, e25, h⟩ := lt_some h
      refine fw_iast2 C (hG _ (List.mem_of_getElem? (i := 0) rfl)) (of3_4 _) (ca3_4 T ad _) b18 (Nat.le_of_ble_eq_true rfl) dX7_readStep_97 ?_
      refine fw_mem e25 ?_
      refine fw_aload_n C dX7_readStep_98 rfl 1 rfl ?_
      refine fw_aload_n C dX7_readStep_99 rfl 2 rfl ?_
      refine fw_iload_n C dX7_readStep_100 rfl 0 rfl ?_
      obtain ⟨Y28, q27, h⟩ := bd1_some h
      refine fw_callVv C (ci := 5) (Cn := RX7) (Tc := TX7) (N := 1) (As := [.ref (ad 3 g1 0), .int v1]) (c_X7_readPanOf (gac (hG _ (List.mem_of_getElem? (i := 0) rfl)) (gac (hG _ (List.mem_of_getElem? (i := 2) rfl)) (gac (hG _ (List.mem_of_getElem? (i := 4) rfl)) (gac (hG _ (List.mem_of_getElem? (i := 3) rfl)) (gac (hG _ (List.mem_of_getElem? (i := 6) rfl)) (gac (hG _ (List.mem_of_getElem? (i := 5) rfl)) ga0)))))) q27) (cwV 2 (cx_ts C) gX7_readStep_X7_readPanOf rfl rfl rfl (by decide +kernel) ⟨Nat.le_of_ble_eq_true rfl, Nat.le_of_ble_eq_true rfl⟩) rfl (hG _ (List.mem_of_getElem? (i := 2) rfl)) (of7_0 _) (ce7 T ad _ _) rfl (st := []) rfl (Nat.le_of_ble_eq_true rfl) ⟨Nat.le_refl 0, Nat.le_refl 0⟩ dX7_readStep_101 ?_
      rintro _ rfl
      refine fw_aload_n C dX7_readStep_104 rfl 1 rfl ?_
      refine fw_get C (ci := 5) (Cn := RX7) (Tc := TX7) (N := 1) (j := 0) ly_X7_readStep_7 rfl (hG _ (List.mem_of_getElem? (i := 2) rfl)) (of7_0 _) (ce7 T ad _ _) (by decide) (cx_ts C _ fl_X7_readStep_9) (fun _ h => h) (v := .ref (ad 6 0 0)) rfl dX7_readStep_105 ?_
      refine fw_ldcS C ((cx_st C).2.1 _ (List.mem_of_getElem? (i := 5) rfl)) dX7_readStep_108 ?_
      obtain ⟨r29, Y31, q30, h⟩ := bd2_some h
      refine fw_callVi C (ci := 8) (Cn := RX10) (Tc := TX10) (N := 6) (As := [.ref (ad 21 5 0)]) (c_X10_accept (gac (hG _ (List.mem_of_getElem? (i := 3) rfl)) (gac (hG _ (List.mem_of_getElem? (i := 4) rfl)) ga0)) q30) (cwV 1 (cx_ts C) gX7_readStep_X10_accept rfl rfl rfl (by decide +kernel) ⟨Nat.le_of_ble_eq_true rfl, Nat.le_of_ble_eq_true rfl⟩) rfl (hG _ (List.mem_of_getElem? (i := 4) rfl)) (of6_0 _) (ce6 T ad _ _) rfl (st := []) rfl (Nat.le_of_ble_eq_true rfl) ⟨Nat.le_refl 0, Nat.le_refl 0⟩ dX7_readStep_110 ?_
      intro r_ Y_ e_
      obtain ⟨rfl, rfl⟩ := Prod.mk.inj e_
      refine fw_if_eq C dX7_readStep_113 (tgt := 128) rfl (fun c32 => ?_) (fun c32 => ?_)
      · have h := ite_t c32 h
        exact w_X7_readStep_b128 C hrt hG   _ _ h
      · have h := ite_f c32 h
        refine fw_aload_n C dX7_readStep_116 rfl 2 rfl ?_
        refine fw_dup C dX7_readStep_117 rfl ?_
        refine fw_getN C (ci := 3) (Cn := RX5) (Tc := TX5) (N := 17) (j := 15) ly_X7_readStep_5 rfl (hG _ (List.mem_of_getElem? (i := 0) rfl)) (of3_0 _) (ce3 T ad _ _) (by decide) (Nst_use (cx_nst C) (w := .fieldLinkNest RX7 114 "RecipeScheduler$Recipe" "hot" "I" "RecipeScheduler") 174 (by decide +kernel) rfl) (fun _ h => h) (v := .int (Y31 3 g1 0 15)) rfl dX7_readStep_118 ?_
        refine fw_iconst C dX7_readStep_121 (v := 1) rfl ?_
        refine fw_iload_n C dX7_readStep_122 rfl 0 rfl ?_
        refine fw_ishl C dX7_readStep_123 ?_
        refine fw_ior C dX7_readStep_124 ?_
        obtain ⟨Y51, e52, h⟩ := lt_some h
        refine fw_putN C (ci := 3) (Cn := RX5) (Tc := TX5) (N := 17) (j := 15) (ty := .int) (upd (Y31 3 g1 0) 15 ((Y31 3 g1 0 15) ||| (1 <<< (v1 &&& 31)))) ly_X7_readStep_5 rfl tyX5_ok nmX5 (hG _ (List.mem_of_getElem? (i := 0) rfl)) (of3_0 _) (ce3 T ad _ _) (by decide) (Nst_use (cx_nst C) (w := .fieldLinkNest RX7 114 "RecipeScheduler$Recipe" "hot" "I" "RecipeScheduler") 174 (by decide +kernel) rfl) (fun _ h => h) rfl (by decide +kernel) rfl rfl (by decide) (ce3_put15 T ad _ _ _) dX7_readStep_125 ?_
        refine fw_mem ((up_eq _ _ _ _ _ _).symm.trans e52) ?_
        exact w_X7_readStep_b128 C hrt hG   _ _ h
    · have h := ite_f c8 h
      refine fw_aload_n C dX7_readStep_39 rfl 1 rfl ?_
      refine fw_get C (ci := 5) (Cn := RX7) (Tc := TX7) (N := 1) (j := 0) ly_X7_readStep_7 rfl (hG _ (List.mem_of_getElem? (i := 2) rfl)) (of7_0 _) (ce7 T ad _ _) (by decide) (cx_ts C _ fl_X7_readStep_9) (fun _ h => h) (v := .ref (ad 6 0 0)) rfl dX7_readStep_40 ?_
      refine fw_iconst C dX7_readStep_43 (v := 5) rfl ?_
      obtain ⟨Y55, q54, h⟩ := bd1_some h
      refine fw_callVv C (ci := 8) (Cn := RX10) (Tc := TX10) (N := 6) (As := [.int 5]) (c_X10_fail (gac (hG _ (List.mem_of_getElem? (i := 4) rfl)) ga0) q54) (cwV 1 (cx_ts C) gX7_readStep_X10_fail rfl rfl rfl (by decide +kernel) ⟨Nat.le_of_ble_eq_true rfl, Nat.le_of_ble_eq_true rfl⟩) rfl (hG _ (List.mem_of_getElem? (i := 4) rfl)) (of6_0 _) (ce6 T ad _ _) rfl (st := []) rfl (Nat.le_of_ble_eq_true rfl) ⟨Nat.le_refl 0, Nat.le_refl 0⟩ dX7_readStep_44 ?_
      rintro _ rfl
      exact fw_vret C hrt Y55 (Option.some.inj h) (fun t ht => ht) dX7_readStep_47
  · have h := ite_t c5 h
    refine fw_aload_n C dX7_readStep_20 rfl 1 rfl ?_
    refine fw_get C (ci := 5) (Cn := RX7) (Tc := TX7) (N := 1) (j := 0) ly_X7_readStep_7 rfl (hG _ (List.mem_of_getElem? (i := 2) rfl)) (of7_0 _) (ce7 T ad _ _) (by decide) (cx_ts C _ fl_X7_readStep_9) (fun _ h => h) (v := .ref (ad 6 0 0)) rfl dX7_readStep_21 ?_
    refine fw_iconst C dX7_readStep_24 (v := 1) rfl ?_
    obtain ⟨Y58, q57, h⟩ := bd1_some h
    refine fw_callVv C (ci := 8) (Cn := RX10) (Tc := TX10) (N := 6) (As := [.int 1]) (c_X10_fail (gac (hG _ (List.mem_of_getElem? (i := 4) rfl)) ga0) q57) (cwV 1 (cx_ts C) gX7_readStep_X10_fail rfl rfl rfl (by decide +kernel) ⟨Nat.le_of_ble_eq_true rfl, Nat.le_of_ble_eq_true rfl⟩) rfl (hG _ (List.mem_of_getElem? (i := 4) rfl)) (of6_0 _) (ce6 T ad _ _) rfl (st := []) rfl (Nat.le_of_ble_eq_true rfl) ⟨Nat.le_refl 0, Nat.le_refl 0⟩ dX7_readStep_25 ?_
    rintro _ rfl
    exact fw_vret C hrt Y58 (Option.some.inj h) (fun t ht => ht) dX7_readStep_28
end
set_option maxRecDepth 100000 in
set_option maxHeartbeats 4000000 in
theorem c_X7_readStep {l : Launch} {N0 : Nat} {T : Nat → ClassId} {D : va_G} {gr : List (Nat × Nat)} {ad : Nat → Nat → Nat → Nat} {Y : Mem} {g1 : Nat} {res : Mem} (hG : ∀ q ∈ [(3, g1), (4, 2*g1+1), (7, 0), (5, 0), (6, 0), (4, 0), (4, 2*g1)], q ∈ gr) (h : X7_readStep Y g1 = some res) : CV l yX7_readStep wsX7_readStep (Rm 7) N0 T D gr ad Y [.ref (ad 7 0 0), .ref (ad 3 g1 0)] (fun Y1 => Y1 = res) :=
  fw_body (by decide +kernel) rfl (Nat.le_of_ble_eq_true rfl) (fun p e s m below meth c C hrt => w_X7_readStep C hrt hG  h)
theorem ly_X7_readInto_7 : ∀ w ∈ u_ws RX7 TX7 1, w ∈ wsX7_readInto := by decide +kernel
theorem fl_X7_readInto_9 : Cond.fieldLink RX7 9 "RecipeScheduler$SetupReader" "tokens" "LRecipeScheduler$Tokens;" ∈ wsX7_readInto := by decide +kernel
noncomputable def X7_readInto_b53 (g1 : Nat) : Nat → Mem → Int32 → Option (Mem)
  | 0, _, _ => none
  | n+1, Y, l2 =>
  if 14 < l2 then (some Y) else (bd1 (X10_mayGoOn Y) <| fun r15 => if r15 = 0 then (some Y) else (bd1 (X7_readStep Y g1) <| fun Y20 => X7_readInto_b53 g1 n Y20 (l2 + 1)))
noncomputable def X7_readInto_b46 (g1 : Nat) (Y : Mem) : Option (Mem) :=
  bd1 (X7_readStep Y g1) <| fun Y13 => X7_readInto_b53 g1 FU Y13 1
noncomputable def X7_readInto_b18 (g1 : Nat) : Nat → Mem → Int32 → Option (Mem)
  | 0, _, _ => none
  | n+1, Y, l2 =>
  if 4 < l2 then (X7_readInto_b46 g1 Y) else (bd1 (X10_isWord Y 2) <| fun r21 => if r21 = 0 then (X7_readInto_b46 g1 Y) else (bd1 (X7_readPan Y g1) <| fun Y26 => X7_readInto_b18 g1 n Y26 (l2 + 1)))
noncomputable def X7_readInto (Y : Mem) (g1 : Nat) : Option (Mem) :=
  bd1 (X5_clear Y g1) <| fun Y3 => bd1 (X10_begin Y3) <| fun Y6 => bd1 (X7_readHead Y6 g1) <| fun Y9 => X7_readInto_b18 g1 FU Y9 0
section
variable {p : Program} {l : Launch} {e : Env} {s : State} {m : MethodId} {below : List Frame} {meth : Method} {c : Code} {N0 : Nat} {T : Nat → ClassId} {D : va_G} {gr : List (Nat × Nat)} {ad : Nat → Nat → Nat → Nat}
set_option maxRecDepth 100000 in
set_option maxHeartbeats 4000000 in
theorem w_X7_readInto_b53 {g1 : Nat} (C : Cx p s m [.ref (ad 7 0 0), .ref (ad 3 g1 0)].toArray meth c cX7_readInto 3 wsX7_readInto RX7 N0 T D gr ad) (hrt : meth.sig.returnType = none) (hG : ∀ q ∈ [(4, 2*g1+1), (4, 2*g1), (3, g1), (7, 0), (5, 0), (6, 0), (4, 0)], q ∈ gr) {res : Mem} : ∀ (n : Nat) (Y : Mem) (l2 : Int32), X7_readInto_b53 g1  n Y l2 = some res → FW p l e (Rm 8) s m [.ref (ad 7 0 0), .ref (ad 3 g1 0)].toArray below meth c 3 N0 T D gr ad 0 0 (MQ below (va_Qv (fun Y1 => Y1 = res) (WB T D gr ad) (fun q => N0 ≤ q)) [.ref (ad 7 0 0), .ref (ad 3 g1 0)].toArray s 0 0 (fun q => N0 ≤ q)) Y 53 [(2, .int l2), (0, .ref (ad 7 0 0)), (1, .ref (ad 3 g1 0))] [] := by
  intro n
  induction n with
  | zero =>
    intro Y l2 h
    unfold X7_readInto_b53 at h
    cases h
  | succ n ih =>
    intro Y l2 h
    unfold X7_readInto_b53 at h
    refine fw_iload_n C dX7_readInto_53 rfl 0 rfl ?_
    refine fw_bipush C dX7_readInto_54 (v := 14) rfl ?_
    refine fw_icmp_gt C dX7_readInto_56 (tgt := 80) rfl (fun c14 => ?_) (fun c14 => ?_)
    · have h := ite_t c14 h
      exact fw_vret C hrt Y (Option.some.inj h) (fun t ht => ht) dX7_readInto_80
    · have h := ite_f c14 h
      refine fw_aload_n C dX7_readInto_59 rfl 1 rfl ?_
      refine fw_get C (ci := 5) (Cn := RX7) (Tc := TX7) (N := 1) (j := 0) ly_X7_readInto_7 rfl (hG _ (List.mem_of_getElem? (i := 3) rfl)) (of7_0 _) (ce7 T ad _ _) (by decide) (cx_ts C _ fl_X7_readInto_9) (fun _ h => h) (v := .ref (ad 6 0 0)) rfl dX7_readInto_60 ?_
      obtain ⟨r15, q16, h⟩ := bd1_some h
      refine fw_callVi C (ci := 8) (Cn := RX10) (Tc := TX10) (N := 6) (As := []) (c_X10_mayGoOn (gac (hG _ (List.mem_of_getElem? (i := 5) rfl)) ga0) q16) (cwV 0 (cx_ts C) gX7_readInto_X10_mayGoOn rfl rfl rfl (by decide +kernel) ⟨Nat.le_of_ble_eq_true rfl, Nat.le_of_ble_eq_true rfl⟩) rfl (hG _ (List.mem_of_getElem? (i := 5) rfl)) (of6_0 _) (ce6 T ad _ _) rfl (st := []) rfl (Nat.le_of_ble_eq_true rfl) ⟨Nat.le_refl 0, Nat.le_refl 0⟩ dX7_readInto_63 ?_
      rintro _ _ ⟨rfl, rfl⟩
      refine fw_if_eq C dX7_readInto_66 (tgt := 80) rfl (fun c17 => ?_) (fun c17 => ?_)
      · have h := ite_t c17 h
        exact fw_vret C hrt Y (Option.some.inj h) (fun t ht => ht) dX7_readInto_80
      · have h := ite_f c17 h
        refine fw_aload_n C dX7_readInto_69 rfl 1 rfl ?_
        refine fw_aload_n C dX7_readInto_70 rfl 2 rfl ?_
        obtain ⟨Y20, q19, h⟩ := bd1_some h
        refine fw_callVv C (ci := 5) (Cn := RX7) (Tc := TX7) (N := 1) (As := [.ref (ad 3 g1 0)]) (c_X7_readStep (gac (hG _ (List.mem_of_getElem? (i := 2) rfl)) (gac (hG _ (List.mem_of_getElem? (i := 0) rfl)) (gac (hG _ (List.mem_of_getElem? (i := 3) rfl)) (gac (hG _ (List.mem_of_getElem? (i := 4) rfl)) (gac (hG _ (List.mem_of_getElem? (i := 5) rfl)) (gac (hG _ (List.mem_of_getElem? (i := 6) rfl)) (gac (hG _ (List.mem_of_getElem? (i := 1) rfl)) ga0))))))) q19) (cwV 1 (cx_ts C) gX7_readInto_X7_readStep rfl rfl rfl (by decide +kernel) ⟨Nat.le_of_ble_eq_true rfl, Nat.le_of_ble_eq_true rfl⟩) rfl (hG _ (List.mem_of_getElem? (i := 3) rfl)) (of7_0 _) (ce7 T ad _ _) rfl (st := []) rfl (Nat.le_of_ble_eq_true rfl) ⟨Nat.le_refl 0, Nat.le_refl 0⟩ dX7_readInto_71 ?_
        rintro _ rfl
        refine fw_iinc C dX7_readInto_74 (kk := 0) (v := l2 + 1) rfl rfl (by decide) (L' := [(2, .int (l2 + 1)), (0, .ref (ad 7 0 0)), (1, .ref (ad 3 g1 0))]) rfl ?_
        refine fw_goto C dX7_readInto_77 (tgt := 53) rfl ?_
        exact ih _ _ h
set_option maxRecDepth 100000 in
set_option maxHeartbeats 4000000 in
theorem w_X7_readInto_b46 {g1 : Nat} (C : Cx p s m [.ref (ad 7 0 0), .ref (ad 3 g1 0)].toArray meth c cX7_readInto 3 wsX7_readInto RX7 N0 T D gr ad) (hrt : meth.sig.returnType = none) (hG : ∀ q ∈ [(4, 2*g1+1), (4, 2*g1), (3, g1), (7, 0), (5, 0), (6, 0), (4, 0)], q ∈ gr) {res : Mem} (Y : Mem) (h : X7_readInto_b46 g1  Y = some res) : FW p l e (Rm 8) s m [.ref (ad 7 0 0), .ref (ad 3 g1 0)].toArray below meth c 3 N0 T D gr ad 0 0 (MQ below (va_Qv (fun Y1 => Y1 = res) (WB T D gr ad) (fun q => N0 ≤ q)) [.ref (ad 7 0 0), .ref (ad 3 g1 0)].toArray s 0 0 (fun q => N0 ≤ q)) Y 46 [(0, .ref (ad 7 0 0)), (1, .ref (ad 3 g1 0))] [] := by
  unfold X7_readInto_b46 at h
  refine fw_aload_n C dX7_readInto_46 rfl 0 rfl ?_
  refine fw_aload_n C dX7_readInto_47 rfl 1 rfl ?_
  obtain ⟨Y13, q12, h⟩ := bd1_some h
  refine fw_callVv C (ci := 5) (Cn := RX7) (Tc := TX7) (N := 1) (As := [.ref (ad 3 g1 0)]) (c_X7_readStep (gac (hG _ (List.mem_of_getElem? (i := 2) rfl)) (gac (hG _ (List.mem_of_getElem? (i := 0) rfl)) (gac (hG _ (List.mem_of_getElem? (i := 3) rfl)) (gac (hG _ (List.mem_of_getElem? (i := 4) rfl)) (gac (hG _ (List.mem_of_getElem? (i := 5) rfl)) (gac (hG _ (List.mem_of_getElem? (i := 6) rfl)) (gac (hG _ (List.mem_of_getElem? (i := 1) rfl)) ga0))))))) q12) (cwV 1 (cx_ts C) gX7_readInto_X7_readStep rfl rfl rfl (by decide +kernel) ⟨Nat.le_of_ble_eq_true rfl, Nat.le_of_ble_eq_true rfl⟩) rfl (hG _ (List.mem_of_getElem? (i := 3) rfl)) (of7_0 _) (ce7 T ad _ _) rfl (st := []) rfl (Nat.le_of_ble_eq_true rfl) ⟨Nat.le_refl 0, Nat.le_refl 0⟩ dX7_readInto_48 ?_
  rintro _ rfl
  refine fw_iconst C dX7_readInto_51 (v := 1) rfl ?_
  refine fw_istore_n C dX7_readInto_52 rfl (by decide) (L' := [(2, .int 1), (0, .ref (ad 7 0 0)), (1, .ref (ad 3 g1 0))]) rfl ?_
  exact w_X7_readInto_b53 C hrt hG   _ _ _ h
set_option maxRecDepth 100000 in
set_option maxHeartbeats 4000000 in
theorem w_X7_readInto_b18 {g1 : Nat} (C : Cx p s m [.ref (ad 7 0 0), .ref (ad 3 g1 0)].toArray meth c cX7_readInto 3 wsX7_readInto RX7 N0 T D gr ad) (hrt : meth.sig.returnType = none) (hG : ∀ q ∈ [(4, 2*g1+1), (4, 2*g1), (3, g1), (7, 0), (5, 0), (6, 0), (4, 0)], q ∈ gr) {res : Mem} : ∀ (n : Nat) (Y : Mem) (l2 : Int32), X7_readInto_b18 g1  n Y l2 = some res → FW p l e (Rm 8) s m [.ref (ad 7 0 0), .ref (ad 3 g1 0)].toArray below meth c 3 N0 T D gr ad 0 0 (MQ below (va_Qv (fun Y1 => Y1 = res) (WB T D gr ad) (fun q => N0 ≤ q)) [.ref (ad 7 0 0), .ref (ad 3 g1 0)].toArray s 0 0 (fun q => N0 ≤ q)) Y 18 [(2, .int l2), (0, .ref (ad 7 0 0)), (1, .ref (ad 3 g1 0))] [] := by
  intro n
  induction n with
  | zero =>
    intro Y l2 h
    unfold X7_readInto_b18 at h
    cases h
  | succ n ih =>
    intro Y l2 h
    unfold X7_readInto_b18 at h
    refine fw_iload_n C dX7_readInto_18 rfl 0 rfl ?_
    refine fw_iconst C dX7_readInto_19 (v := 4) rfl ?_
    refine fw_icmp_gt C dX7_readInto_20 (tgt := 46) rfl (fun c10 => ?_) (fun c10 => ?_)
    · have h := ite_t c10 h
      refine fw_sub [1, 2] (L' := [(0, .ref (ad 7 0 0)), (1, .ref (ad 3 g1 0))]) rfl ?_
      exact w_X7_readInto_b46 C hrt hG   _ h
    · have h := ite_f c10 h
      refine fw_aload_n C dX7_readInto_23 rfl 1 rfl ?_
      refine fw_get C (ci := 5) (Cn := RX7) (Tc := TX7) (N := 1) (j := 0) ly_X7_readInto_7 rfl (hG _ (List.mem_of_getElem? (i := 3) rfl)) (of7_0 _) (ce7 T ad _ _) (by decide) (cx_ts C _ fl_X7_readInto_9) (fun _ h => h) (v := .ref (ad 6 0 0)) rfl dX7_readInto_24 ?_
      refine fw_ldcS C ((cx_st C).2.1 _ (List.mem_of_getElem? (i := 2) rfl)) dX7_readInto_27 ?_
      obtain ⟨r21, q22, h⟩ := bd1_some h
      refine fw_callVi C (ci := 8) (Cn := RX10) (Tc := TX10) (N := 6) (As := [.ref (ad 21 2 0)]) (c_X10_isWord (gac (hG _ (List.mem_of_getElem? (i := 5) rfl)) (gac (hG _ (List.mem_of_getElem? (i := 4) rfl)) ga0)) q22) (cwV 1 (cx_ts C) gX7_readInto_X10_isWord rfl rfl rfl (by decide +kernel) ⟨Nat.le_of_ble_eq_true rfl, Nat.le_of_ble_eq_true rfl⟩) rfl (hG _ (List.mem_of_getElem? (i := 5) rfl)) (of6_0 _) (ce6 T ad _ _) rfl (st := []) rfl (Nat.le_of_ble_eq_true rfl) ⟨Nat.le_refl 0, Nat.le_refl 0⟩ dX7_readInto_29 ?_
      rintro _ _ ⟨rfl, rfl⟩
      refine fw_if_eq C dX7_readInto_32 (tgt := 46) rfl (fun c23 => ?_) (fun c23 => ?_)
      · have h := ite_t c23 h
        refine fw_sub [1, 2] (L' := [(0, .ref (ad 7 0 0)), (1, .ref (ad 3 g1 0))]) rfl ?_
        exact w_X7_readInto_b46 C hrt hG   _ h
      · have h := ite_f c23 h
        refine fw_aload_n C dX7_readInto_35 rfl 1 rfl ?_
        refine fw_aload_n C dX7_readInto_36 rfl 2 rfl ?_
        obtain ⟨Y26, q25, h⟩ := bd1_some h
        refine fw_callVv C (ci := 5) (Cn := RX7) (Tc := TX7) (N := 1) (As := [.ref (ad 3 g1 0)]) (c_X7_readPan (gac (hG _ (List.mem_of_getElem? (i := 2) rfl)) (gac (hG _ (List.mem_of_getElem? (i := 1) rfl)) (gac (hG _ (List.mem_of_getElem? (i := 3) rfl)) (gac (hG _ (List.mem_of_getElem? (i := 4) rfl)) (gac (hG _ (List.mem_of_getElem? (i := 5) rfl)) (gac (hG _ (List.mem_of_getElem? (i := 6) rfl)) ga0)))))) q25) (cwV 1 (cx_ts C) gX7_readInto_X7_readPan rfl rfl rfl (by decide +kernel) ⟨Nat.le_of_ble_eq_true rfl, Nat.le_of_ble_eq_true rfl⟩) rfl (hG _ (List.mem_of_getElem? (i := 3) rfl)) (of7_0 _) (ce7 T ad _ _) rfl (st := []) rfl (Nat.le_of_ble_eq_true rfl) ⟨Nat.le_refl 0, Nat.le_refl 0⟩ dX7_readInto_37 ?_
        rintro _ rfl
        refine fw_iinc C dX7_readInto_40 (kk := 0) (v := l2 + 1) rfl rfl (by decide) (L' := [(2, .int (l2 + 1)), (0, .ref (ad 7 0 0)), (1, .ref (ad 3 g1 0))]) rfl ?_
        refine fw_goto C dX7_readInto_43 (tgt := 18) rfl ?_
        exact ih _ _ h
set_option maxRecDepth 100000 in
set_option maxHeartbeats 4000000 in
theorem w_X7_readInto {Y : Mem} {g1 : Nat} (C : Cx p s m [.ref (ad 7 0 0), .ref (ad 3 g1 0)].toArray meth c cX7_readInto 3 wsX7_readInto RX7 N0 T D gr ad) (hrt : meth.sig.returnType = none) (hG : ∀ q ∈ [(4, 2*g1+1), (4, 2*g1), (3, g1), (7, 0), (5, 0), (6, 0), (4, 0)], q ∈ gr) {res : Mem} (h : X7_readInto Y g1 = some res) : FW p l e (Rm 8) s m [.ref (ad 7 0 0), .ref (ad 3 g1 0)].toArray below meth c 3 N0 T D gr ad 0 0 (MQ below (va_Qv (fun Y1 => Y1 = res) (WB T D gr ad) (fun q => N0 ≤ q)) [.ref (ad 7 0 0), .ref (ad 3 g1 0)].toArray s 0 0 (fun q => N0 ≤ q)) Y 0 [(0, .ref (ad 7 0 0)), (1, .ref (ad 3 g1 0))] [] := by
  unfold X7_readInto at h
  refine fw_aload_n C dX7_readInto_0 rfl 1 rfl ?_
  obtain ⟨Y3, q2, h⟩ := bd1_some h
  refine fw_callVv C (ci := 3) (Cn := RX5) (Tc := TX5) (N := 17) (As := []) (c_X5_clear (gac (hG _ (List.mem_of_getElem? (i := 2) rfl)) (gac (hG _ (List.mem_of_getElem? (i := 1) rfl)) (gac (hG _ (List.mem_of_getElem? (i := 0) rfl)) ga0))) q2) (cwV 0 (cx_ts C) gX7_readInto_X5_clear rfl rfl rfl (by decide +kernel) ⟨Nat.le_of_ble_eq_true rfl, Nat.le_of_ble_eq_true rfl⟩) rfl (hG _ (List.mem_of_getElem? (i := 2) rfl)) (of3_0 _) (ce3 T ad _ _) rfl (st := []) rfl (Nat.le_of_ble_eq_true rfl) ⟨Nat.le_refl 0, Nat.le_refl 0⟩ dX7_readInto_1 ?_
  rintro _ rfl
  refine fw_aload_n C dX7_readInto_4 rfl 0 rfl ?_
  refine fw_get C (ci := 5) (Cn := RX7) (Tc := TX7) (N := 1) (j := 0) ly_X7_readInto_7 rfl (hG _ (List.mem_of_getElem? (i := 3) rfl)) (of7_0 _) (ce7 T ad _ _) (by decide) (cx_ts C _ fl_X7_readInto_9) (fun _ h => h) (v := .ref (ad 6 0 0)) rfl dX7_readInto_5 ?_
  obtain ⟨Y6, q5, h⟩ := bd1_some h
  refine fw_callVv C (ci := 8) (Cn := RX10) (Tc := TX10) (N := 6) (As := []) (c_X10_begin (gac (hG _ (List.mem_of_getElem? (i := 5) rfl)) (gac (hG _ (List.mem_of_getElem? (i := 4) rfl)) ga0)) q5) (cwV 0 (cx_ts C) gX7_readInto_X10_begin rfl rfl rfl (by decide +kernel) ⟨Nat.le_of_ble_eq_true rfl, Nat.le_of_ble_eq_true rfl⟩) rfl (hG _ (List.mem_of_getElem? (i := 5) rfl)) (of6_0 _) (ce6 T ad _ _) rfl (st := []) rfl (Nat.le_of_ble_eq_true rfl) ⟨Nat.le_refl 0, Nat.le_refl 0⟩ dX7_readInto_8 ?_
  rintro _ rfl
  refine fw_aload_n C dX7_readInto_11 rfl 0 rfl ?_
  refine fw_aload_n C dX7_readInto_12 rfl 1 rfl ?_
  obtain ⟨Y9, q8, h⟩ := bd1_some h
  refine fw_callVv C (ci := 5) (Cn := RX7) (Tc := TX7) (N := 1) (As := [.ref (ad 3 g1 0)]) (c_X7_readHead (gac (hG _ (List.mem_of_getElem? (i := 3) rfl)) (gac (hG _ (List.mem_of_getElem? (i := 5) rfl)) (gac (hG _ (List.mem_of_getElem? (i := 4) rfl)) (gac (hG _ (List.mem_of_getElem? (i := 2) rfl)) ga0)))) q8) (cwV 1 (cx_ts C) gX7_readInto_X7_readHead rfl rfl rfl (by decide +kernel) ⟨Nat.le_of_ble_eq_true rfl, Nat.le_of_ble_eq_true rfl⟩) rfl (hG _ (List.mem_of_getElem? (i := 3) rfl)) (of7_0 _) (ce7 T ad _ _) rfl (st := []) rfl (Nat.le_of_ble_eq_true rfl) ⟨Nat.le_refl 0, Nat.le_refl 0⟩ dX7_readInto_13 ?_
  rintro _ rfl
  refine fw_iconst C dX7_readInto_16 (v := 0) rfl ?_
  refine fw_istore_n C dX7_readInto_17 rfl (by decide) (L' := [(2, .int 0), (0, .ref (ad 7 0 0)), (1, .ref (ad 3 g1 0))]) rfl ?_
  exact w_X7_readInto_b18 C hrt hG   _ _ _ h
end
set_option maxRecDepth 100000 in
set_option maxHeartbeats 4000000 in
theorem c_X7_readInto {l : Launch} {N0 : Nat} {T : Nat → ClassId} {D : va_G} {gr : List (Nat × Nat)} {ad : Nat → Nat → Nat → Nat} {Y : Mem} {g1 : Nat} {res : Mem} (hG : ∀ q ∈ [(4, 2*g1+1), (4, 2*g1), (3, g1), (7, 0), (5, 0), (6, 0), (4, 0)], q ∈ gr) (h : X7_readInto Y g1 = some res) : CV l yX7_readInto wsX7_readInto (Rm 8) N0 T D gr ad Y [.ref (ad 7 0 0), .ref (ad 3 g1 0)] (fun Y1 => Y1 = res) :=
  fw_body (by decide +kernel) rfl (Nat.le_of_ble_eq_true rfl) (fun p e s m below meth c C hrt => w_X7_readInto C hrt hG  h)
theorem ly_X11_requireNoError_11 : ∀ w ∈ u_ws RX11 TX11 11, w ∈ wsX11_requireNoError := by decide +kernel
theorem fl_X11_requireNoError_48 : Cond.fieldLink RX11 48 "RecipeScheduler" "tokens" "LRecipeScheduler$Tokens;" ∈ wsX11_requireNoError := by decide +kernel
theorem ly_X11_requireNoError_10 : ∀ w ∈ u_ws RX10 TX10 6, w ∈ wsX11_requireNoError := by decide +kernel
theorem th_X11_requireNoError_10 : Cond.classLink RX11 109 "java/lang/IllegalArgumentException" ∈ wsX11_requireNoError ∧ Cond.initialized "java/lang/IllegalArgumentException" ∈ wsX11_requireNoError ∧ ∀ w ∈ vx_atS RX11 113 "java/lang/IllegalArgumentException" ["java/lang/RuntimeException", "java/lang/Exception"], w ∈ wsX11_requireNoError := by decide +kernel
noncomputable def X11_requireNoError (Y : Mem) : Option ((Nat × Mem) ⊕ Mem) :=
  if (Y 6 0 0 4) = 0 then (some (.inr Y)) else (some (.inl (2, Y)))
section
variable {p : Program} {l : Launch} {e : Env} {s : State} {m : MethodId} {below : List Frame} {meth : Method} {c : Code} {N0 : Nat} {T : Nat → ClassId} {D : va_G} {gr : List (Nat × Nat)} {ad : Nat → Nat → Nat → Nat}
set_option maxRecDepth 100000 in
set_option maxHeartbeats 4000000 in
theorem w_X11_requireNoError {Y : Mem} (C : Cx p s m [.ref (ad 0 0 0)].toArray meth c cX11_requireNoError 1 wsX11_requireNoError RX11 N0 T D gr ad) (hrt : meth.sig.returnType = none) (hG : ∀ q ∈ [(0, 0), (6, 0)], q ∈ gr) (hl : l.stackTraces = false) (hX : ∀ x ∈ c.exceptionTable.toList, False) {res : (Nat × Mem) ⊕ Mem} (h : X11_requireNoError Y = some res) : FW p l e (Rx 6 1) s m [.ref (ad 0 0 0)].toArray below meth c 1 N0 T D gr ad 0 0 (vx_MQ below (va_Qv (fun Y1 => Sum.inr Y1 = res) (WB T D gr ad) (fun q => N0 ≤ q)) (vx_X (fun u => Sum.inl u = res) (XB T D gr ad) (fun q => N0 ≤ q)) [.ref (ad 0 0 0)].toArray s 1 6 (fun q => N0 ≤ q)) Y 0 [(0, .ref (ad 0 0 0))] [] := by
  unfold X11_requireNoError at h
  refine fw_aload_n C dX11_requireNoError_0 rfl 0 rfl ?_
  refine fw_get C (ci := 9) (Cn := RX11) (Tc := TX11) (N := 11) (j := 2) ly_X11_requireNoError_11 rfl (hG _ (List.mem_of_getElem? (i := 0) rfl)) (of0_0 _) (ce0 T ad _ _) (by decide) (cx_ts C _ fl_X11_requireNoError_48) (fun _ h => h) (v := .ref (ad 6 0 0)) rfl dX11_requireNoError_1 ?_
  refine fw_getN C (ci := 8) (Cn := RX10) (Tc := TX10) (N := 6) (j := 4) ly_X11_requireNoError_10 rfl (hG _ (List.mem_of_getElem? (i := 1) rfl)) (of6_0 _) (ce6 T ad _ _) (by decide) (Nst_use (cx_nst C) (w := .fieldLinkNest RX11 133 "RecipeScheduler$Tokens" "errorCode" "I" "RecipeScheduler") 66 (by decide +kernel) rfl) (fun _ h => h) (v := .int (Y 6 0 0 4)) rfl dX11_requireNoError_4 ?_
  refine fw_if_eq C dX11_requireNoError_7 (tgt := 21) rfl (fun c1 => ?_) (fun c1 => ?_)
  · have h := ite_t c1 h
    refine fw_xr (Nat.le_of_ble_eq_true rfl) (Nat.le_of_ble_eq_true rfl) ?_
    exact fw_vret C hrt Y (Option.some.inj h) (fun t ht => ht) dX11_requireNoError_21
  · have h := ite_f c1 h
    exact fw_throwSW C hl hX (cls := "java/lang/IllegalArgumentException") (names := ["java/lang/RuntimeException", "java/lang/Exception"]) 2 rfl (by decide +kernel) (by decide +kernel) (cx_ts C _ th_X11_requireNoError_10.1) (cx_ts C _ th_X11_requireNoError_10.2.1) ((cx_st C).2.1 _ (List.mem_of_getElem? (i := 10) rfl)) (fun w hw => cx_ts C _ (th_X11_requireNoError_10.2.2 w hw)) tg_2_113_109 dX11_requireNoError_10 dX11_requireNoError_13 dX11_requireNoError_14 dX11_requireNoError_17 dX11_requireNoError_20 (Nat.le_of_ble_eq_true rfl) (Nat.le_of_ble_eq_true rfl) (Nat.le_of_ble_eq_true rfl) (Nat.le_of_ble_eq_true rfl) (Nat.le_of_ble_eq_true rfl) (Nat.le_of_ble_eq_true rfl) (Option.some.inj h)
end
set_option maxRecDepth 100000 in
set_option maxHeartbeats 4000000 in
theorem c_X11_requireNoError {l : Launch} {N0 : Nat} {T : Nat → ClassId} {D : va_G} {gr : List (Nat × Nat)} {ad : Nat → Nat → Nat → Nat} {Y : Mem} {res : (Nat × Mem) ⊕ Mem} (hl : l.stackTraces = false) (hG : ∀ q ∈ [(0, 0), (6, 0)], q ∈ gr) (h : X11_requireNoError Y = some res) : CXv l yX11_requireNoError wsX11_requireNoError (Rx 6 1) N0 T D gr ad Y [.ref (ad 0 0 0)] 1 res :=
  fw_xbody (by decide +kernel) rfl (Nat.le_of_ble_eq_true rfl) (fun p e s m below meth c C hrt hX => w_X11_requireNoError C hrt hG hl hX h)
theorem ly_X8_begin_5 : ∀ w ∈ u_ws RX5 TX5 17, w ∈ wsX8_begin := by decide +kernel
theorem ly_X8_begin_8 : ∀ w ∈ u_ws RX8 TX8 15, w ∈ wsX8_begin := by decide +kernel
theorem fl_X8_begin_36 : Cond.fieldLink RX8 36 "RecipeScheduler$State" "cooks" "I" ∈ wsX8_begin := by decide +kernel
theorem fl_X8_begin_37 : Cond.fieldLink RX8 37 "RecipeScheduler$State" "minute" "I" ∈ wsX8_begin := by decide +kernel
theorem fl_X8_begin_40 : Cond.fieldLink RX8 40 "RecipeScheduler$State" "salt" "I" ∈ wsX8_begin := by decide +kernel
theorem fl_X8_begin_43 : Cond.fieldLink RX8 43 "RecipeScheduler$State" "cookMinutes" "I" ∈ wsX8_begin := by decide +kernel
theorem fl_X8_begin_46 : Cond.fieldLink RX8 46 "RecipeScheduler$State" "stops" "I" ∈ wsX8_begin := by decide +kernel
theorem fl_X8_begin_49 : Cond.fieldLink RX8 49 "RecipeScheduler$State" "served" "Z" ∈ wsX8_begin := by decide +kernel
theorem fl_X8_begin_53 : Cond.fieldLink RX8 53 "RecipeScheduler$State" "running" "I" ∈ wsX8_begin := by decide +kernel
theorem fl_X8_begin_56 : Cond.fieldLink RX8 56 "RecipeScheduler$State" "done" "I" ∈ wsX8_begin := by decide +kernel
theorem fl_X8_begin_59 : Cond.fieldLink RX8 59 "RecipeScheduler$State" "burnt" "I" ∈ wsX8_begin := by decide +kernel
theorem fl_X8_begin_9 : Cond.fieldLink RX8 9 "RecipeScheduler$State" "duration" "[I" ∈ wsX8_begin := by decide +kernel
theorem cw_X8_begin_copy : Cond.methodLink RX8 63 arraycopyName ∈ wsX8_begin ∧ Cond.native arraycopyName ∈ wsX8_begin ∧ Cond.static arraycopyName ∈ wsX8_begin ∧ Cond.initialized "java/lang/System" ∈ wsX8_begin := by decide +kernel
theorem fl_X8_begin_15 : Cond.fieldLink RX8 15 "RecipeScheduler$State" "remaining" "[I" ∈ wsX8_begin := by decide +kernel
theorem fl_X8_begin_18 : Cond.fieldLink RX8 18 "RecipeScheduler$State" "age" "[I" ∈ wsX8_begin := by decide +kernel
theorem fl_X8_begin_21 : Cond.fieldLink RX8 21 "RecipeScheduler$State" "starts" "[I" ∈ wsX8_begin := by decide +kernel
theorem fl_X8_begin_24 : Cond.fieldLink RX8 24 "RecipeScheduler$State" "completions" "[I" ∈ wsX8_begin := by decide +kernel
theorem fl_X8_begin_27 : Cond.fieldLink RX8 27 "RecipeScheduler$State" "burns" "[I" ∈ wsX8_begin := by decide +kernel
noncomputable def X8_begin (Y : Mem) (g0 : Nat) (g1 : Nat) : Option (Mem) :=
  lt_ (up Y 2 g0 0 0 (Y 3 g1 0 0)) <| fun Y1 => lt_ (up Y1 2 g0 0 1 0) <| fun Y3 => lt_ (up Y3 2 g0 0 2 0) <| fun Y5 => lt_ (up Y5 2 g0 0 3 0) <| fun Y7 => lt_ (up Y7 2 g0 0 4 0) <| fun Y9 => lt_ (up Y9 2 g0 0 5 0) <| fun Y11 => lt_ (up Y11 2 g0 0 6 0) <| fun Y13 => lt_ (up Y13 2 g0 0 7 0) <| fun Y15 => lt_ (up Y15 2 g0 0 8 0) <| fun Y17 => lt_ (upR Y17 2 g0 1 (va_cpy (Y17 3 g1 3) (Y17 2 g0 1) 0 0 14)) <| fun Y19 => bd1 (J7_fill_53178 Y19 2 g0 2 14 0) <| fun Y23 => bd1 (J7_fill_53178 Y23 2 g0 3 14 0) <| fun Y26 => bd1 (J7_fill_53178 Y26 2 g0 4 14 0) <| fun Y29 => bd1 (J7_fill_53178 Y29 2 g0 5 14 0) <| fun Y32 => bd1 (J7_fill_53178 Y32 2 g0 6 14 0) <| fun Y35 => some Y35
section
variable {p : Program} {l : Launch} {e : Env} {s : State} {m : MethodId} {below : List Frame} {meth : Method} {c : Code} {N0 : Nat} {T : Nat → ClassId} {D : va_G} {gr : List (Nat × Nat)} {ad : Nat → Nat → Nat → Nat}
set_option maxRecDepth 100000 in
set_option maxHeartbeats 4000000 in
theorem w_X8_begin {Y : Mem} {g0 : Nat} {g1 : Nat} (C : Cx p s m [.ref (ad 2 g0 0), .ref (ad 3 g1 0)].toArray meth c cX8_begin 2 wsX8_begin RX8 N0 T D gr ad) (hrt : meth.sig.returnType = none) (hG : ∀ q ∈ [(3, g1), (2, g0)], q ∈ gr) {res : Mem} (h : X8_begin Y g0 g1 = some res) : FW p l e (Rm 1) s m [.ref (ad 2 g0 0), .ref (ad 3 g1 0)].toArray below meth c 2 N0 T D gr ad 0 0 (MQ below (va_Qv (fun Y1 => Y1 = res) (WB T D gr ad) (fun q => N0 ≤ q)) [.ref (ad 2 g0 0), .ref (ad 3 g1 0)].toArray s 0 0 (fun q => N0 ≤ q)) Y 0 [(0, .ref (ad 2 g0 0)), (1, .ref (ad 3 g1 0))] [] := by
  unfold X8_begin at h
  refine fw_aload_n C dX8_begin_0 rfl 0 rfl ?_
  refine fw_aload_n C dX8_begin_1 rfl 1 rfl ?_
  refine fw_getN C (ci := 3) (Cn := RX5) (Tc := TX5) (N := 17) (j := 0) ly_X8_begin_5 rfl (hG _ (List.mem_of_getElem? (i := 0) rfl)) (of3_0 _) (ce3 T ad _ _) (by decide) (Nst_use (cx_nst C) (w := .fieldLinkNest RX8 30 "RecipeScheduler$Recipe" "cooks" "I" "RecipeScheduler") 125 (by decide +kernel) rfl) (fun _ h => h) (v := .int (Y 3 g1 0 0)) rfl dX8_begin_2 ?_
  obtain ⟨Y1, e2, h⟩ := lt_some h
  refine fw_put C (ci := 6) (Cn := RX8) (Tc := TX8) (N := 15) (j := 0) (ty := .int) (upd (Y 2 g0 0) 0 (Y 3 g1 0 0)) ly_X8_begin_8 rfl tyX8_ok nmX8 (hG _ (List.mem_of_getElem? (i := 1) rfl)) (of2_0 _) (ce2 T ad _ _) (by decide) (cx_ts C _ fl_X8_begin_36) (fun _ h => h) rfl (by decide +kernel) rfl rfl (by decide) (ce2_put0 T ad _ _ _) dX8_begin_5 ?_
  refine fw_mem ((up_eq _ _ _ _ _ _).symm.trans e2) ?_
  refine fw_aload_n C dX8_begin_8 rfl 0 rfl ?_
  refine fw_iconst C dX8_begin_9 (v := 0) rfl ?_
  obtain ⟨Y3, e4, h⟩ := lt_some h
  refine fw_put C (ci := 6) (Cn := RX8) (Tc := TX8) (N := 15) (j := 1) (ty := .int) (upd (Y1 2 g0 0) 1 0) ly_X8_begin_8 rfl tyX8_ok nmX8 (hG _ (List.mem_of_getElem? (i := 1) rfl)) (of2_0 _) (ce2 T ad _ _) (by decide) (cx_ts C _ fl_X8_begin_37) (fun _ h => h) rfl (by decide +kernel) rfl rfl (by decide) (ce2_put1 T ad _ _ _) dX8_begin_10 ?_
  refine fw_mem ((up_eq _ _ _ _ _ _).symm.trans e4) ?_
  refine fw_aload_n C dX8_begin_13 rfl 0 rfl ?_
  refine fw_iconst C dX8_begin_14 (v := 0) rfl ?_
  obtain ⟨Y5, e6, h⟩ := lt_some h
  refine fw_put C (ci := 6) (Cn := RX8) (Tc := TX8) (N := 15) (j := 2) (ty := .int) (upd (Y3 2 g0 0) 2 0) ly_X8_begin_8 rfl tyX8_ok nmX8 (hG _ (List.mem_of_getElem? (i := 1) rfl)) (of2_0 _) (ce2 T ad _ _) (by decide) (cx_ts C _ fl_X8_begin_40) (fun _ h => h) rfl (by decide +kernel) rfl rfl (by decide) (ce2_put2 T ad _ _ _) dX8_begin_15 ?_
  refine fw_mem ((up_eq _ _ _ _ _ _).symm.trans e6) ?_
  refine fw_aload_n C dX8_begin_18 rfl 0 rfl ?_
  refine fw_iconst C dX8_begin_19 (v := 0) rfl ?_
  obtain ⟨Y7, e8, h⟩ := lt_some h
  refine fw_put C (ci := 6) (Cn := RX8) (Tc := TX8) (N := 15) (j := 3) (ty := .int) (upd (Y5 2 g0 0) 3 0) ly_X8_begin_8 rfl tyX8_ok nmX8 (hG _ (List.mem_of_getElem? (i := 1) rfl)) (of2_0 _) (ce2 T ad _ _) (by decide) (cx_ts C _ fl_X8_begin_43) (fun _ h => h) rfl (by decide +kernel) rfl rfl (by decide) (ce2_put3 T ad _ _ _) dX8_begin_20 ?_
  refine fw_mem ((up_eq _ _ _ _ _ _).symm.trans e8) ?_
  refine fw_aload_n C dX8_begin_23 rfl 0 rfl ?_
  refine fw_iconst C dX8_begin_24 (v := 0) rfl ?_
  obtain ⟨Y9, e10, h⟩ := lt_some h
  refine fw_put C (ci := 6) (Cn := RX8) (Tc := TX8) (N := 15) (j := 4) (ty := .int) (upd (Y7 2 g0 0) 4 0) ly_X8_begin_8 rfl tyX8_ok nmX8 (hG _ (List.mem_of_getElem? (i := 1) rfl)) (of2_0 _) (ce2 T ad _ _) (by decide) (cx_ts C _ fl_X8_begin_46) (fun _ h => h) rfl (by decide +kernel) rfl rfl (by decide) (ce2_put4 T ad _ _ _) dX8_begin_25 ?_
  refine fw_mem ((up_eq _ _ _ _ _ _).symm.trans e10) ?_
  refine fw_aload_n C dX8_begin_28 rfl 0 rfl ?_
  refine fw_iconst C dX8_begin_29 (v := 0) rfl ?_
  obtain ⟨Y11, e12, h⟩ := lt_some h
  refine fw_put C (ci := 6) (Cn := RX8) (Tc := TX8) (N := 15) (j := 5) (ty := .boolean) (upd (Y9 2 g0 0) 5 0) ly_X8_begin_8 rfl tyX8_ok nmX8 (hG _ (List.mem_of_getElem? (i := 1) rfl)) (of2_0 _) (ce2 T ad _ _) (by decide) (cx_ts C _ fl_X8_begin_49) (fun _ h => h) rfl (by decide +kernel) rfl rfl (by decide) (ce2_put5 T ad _ _ _) dX8_begin_30 ?_
  refine fw_mem ((up_eq _ _ _ _ _ _).symm.trans e12) ?_
  refine fw_aload_n C dX8_begin_33 rfl 0 rfl ?_
  refine fw_iconst C dX8_begin_34 (v := 0) rfl ?_
  obtain ⟨Y13, e14, h⟩ := lt_some h
  refine fw_put C (ci := 6) (Cn := RX8) (Tc := TX8) (N := 15) (j := 6) (ty := .int) (upd (Y11 2 g0 0) 6 0) ly_X8_begin_8 rfl tyX8_ok nmX8 (hG _ (List.mem_of_getElem? (i := 1) rfl)) (of2_0 _) (ce2 T ad _ _) (by decide) (cx_ts C _ fl_X8_begin_53) (fun _ h => h) rfl (by decide +kernel) rfl rfl (by decide) (ce2_put6 T ad _ _ _) dX8_begin_35 ?_
  refine fw_mem ((up_eq _ _ _ _ _ _).symm.trans e14) ?_
  refine fw_aload_n C dX8_begin_38 rfl 0 rfl ?_
  refine fw_iconst C dX8_begin_39 (v := 0) rfl ?_
  obtain ⟨Y15, e16, h⟩ := lt_some h
  refine fw_put C (ci := 6) (Cn := RX8) (Tc := TX8) (N := 15) (j := 7) (ty := .int) (upd (Y13 2 g0 0) 7 0) ly_X8_begin_8 rfl tyX8_ok nmX8 (hG _ (List.mem_of_getElem? (i := 1) rfl)) (of2_0 _) (ce2 T ad _ _) (by decide) (cx_ts C _ fl_X8_begin_56) (fun _ h => h) rfl (by decide +kernel) rfl rfl (by decide) (ce2_put7 T ad _ _ _) dX8_begin_40 ?_
  refine fw_mem ((up_eq _ _ _ _ _ _).symm.trans e16) ?_
  refine fw_aload_n C dX8_begin_43 rfl 0 rfl ?_
  refine fw_iconst C dX8_begin_44 (v := 0) rfl ?_
  obtain ⟨Y17, e18, h⟩ := lt_some h
  refine fw_put C (ci := 6) (Cn := RX8) (Tc := TX8) (N := 15) (j := 8) (ty := .int) (upd (Y15 2 g0 0) 8 0) ly_X8_begin_8 rfl tyX8_ok nmX8 (hG _ (List.mem_of_getElem? (i := 1) rfl)) (of2_0 _) (ce2 T ad _ _) (by decide) (cx_ts C _ fl_X8_begin_59) (fun _ h => h) rfl (by decide +kernel) rfl rfl (by decide) (ce2_put8 T ad _ _ _) dX8_begin_45 ?_
  refine fw_mem ((up_eq _ _ _ _ _ _).symm.trans e18) ?_
  refine fw_aload_n C dX8_begin_48 rfl 1 rfl ?_
  refine fw_getN C (ci := 3) (Cn := RX5) (Tc := TX5) (N := 17) (j := 8) ly_X8_begin_5 rfl (hG _ (List.mem_of_getElem? (i := 0) rfl)) (of3_0 _) (ce3 T ad _ _) (by decide) (Nst_use (cx_nst C) (w := .fieldLinkNest RX8 62 "RecipeScheduler$Recipe" "duration" "[I" "RecipeScheduler") 150 (by decide +kernel) rfl) (fun _ h => h) (v := .ref (ad 3 g1 3)) rfl dX8_begin_49 ?_
  refine fw_iconst C dX8_begin_52 (v := 0) rfl ?_
  refine fw_aload_n C dX8_begin_53 rfl 0 rfl ?_
  refine fw_get C (ci := 6) (Cn := RX8) (Tc := TX8) (N := 15) (j := 9) ly_X8_begin_8 rfl (hG _ (List.mem_of_getElem? (i := 1) rfl)) (of2_0 _) (ce2 T ad _ _) (by decide) (cx_ts C _ fl_X8_begin_9) (fun _ h => h) (v := .ref (ad 2 g0 1)) rfl dX8_begin_54 ?_
  refine fw_iconst C dX8_begin_57 (v := 0) rfl ?_
  refine fw_bipush C dX8_begin_58 (v := 14) rfl ?_
  obtain ⟨Y19, e20, h⟩ := lt_some h
  refine fw_copyi C (st := []) (hG _ (List.mem_of_getElem? (i := 0) rfl)) (of3_3 _) (hG _ (List.mem_of_getElem? (i := 1) rfl)) (of2_1 _) (ca3_3 T ad _ _) (ca2_1 T ad _) (cx_ts C _ cw_X8_begin_copy.1) (cx_ts C _ cw_X8_begin_copy.2.1) (cx_ts C _ cw_X8_begin_copy.2.2.1) (cx_ts C _ cw_X8_begin_copy.2.2.2) (Nat.le_of_ble_eq_true rfl) (Nat.le_of_ble_eq_true rfl) dX8_begin_60 ?_
  refine fw_mem e20 ?_
  refine fw_aload_n C dX8_begin_63 rfl 0 rfl ?_
  refine fw_get C (ci := 6) (Cn := RX8) (Tc := TX8) (N := 15) (j := 10) ly_X8_begin_8 rfl (hG _ (List.mem_of_getElem? (i := 1) rfl)) (of2_0 _) (ce2 T ad _ _) (by decide) (cx_ts C _ fl_X8_begin_15) (fun _ h => h) (v := .ref (ad 2 g0 2)) rfl dX8_begin_64 ?_
  refine fw_iconst C dX8_begin_67 (v := 0) rfl ?_
  obtain ⟨Y23, q22, h⟩ := bd1_some h
  refine fw_callSv C (As := [.ref (ad 2 g0 2), .int 0]) (c_J7_fill_53178 (gac (hG _ (List.mem_of_getElem? (i := 1) rfl)) ga0) (ca2_2 T ad _) (of2_2 _) (Nat.le_of_ble_eq_true rfl) q22) (va_cwS 2 (cx_ts C) gX8_begin_J7_fill_53178 rfl rfl rfl (by decide +kernel) ⟨Nat.le_of_ble_eq_true rfl, Nat.le_of_ble_eq_true rfl⟩) rfl (st := []) rfl (Nat.le_of_ble_eq_true rfl) ⟨Nat.le_refl 0, Nat.le_refl 0⟩ dX8_begin_68 ?_
  rintro _ rfl
  refine fw_aload_n C dX8_begin_71 rfl 0 rfl ?_
  refine fw_get C (ci := 6) (Cn := RX8) (Tc := TX8) (N := 15) (j := 11) ly_X8_begin_8 rfl (hG _ (List.mem_of_getElem? (i := 1) rfl)) (of2_0 _) (ce2 T ad _ _) (by decide) (cx_ts C _ fl_X8_begin_18) (fun _ h => h) (v := .ref (ad 2 g0 3)) rfl dX8_begin_72 ?_
  refine fw_iconst C dX8_begin_75 (v := 0) rfl ?_
  obtain ⟨Y26, q25, h⟩ := bd1_some h
  refine fw_callSv C (As := [.ref (ad 2 g0 3), .int 0]) (c_J7_fill_53178 (gac (hG _ (List.mem_of_getElem? (i := 1) rfl)) ga0) (ca2_3 T ad _) (of2_3 _) (Nat.le_of_ble_eq_true rfl) q25) (va_cwS 2 (cx_ts C) gX8_begin_J7_fill_53178 rfl rfl rfl (by decide +kernel) ⟨Nat.le_of_ble_eq_true rfl, Nat.le_of_ble_eq_true rfl⟩) rfl (st := []) rfl (Nat.le_of_ble_eq_true rfl) ⟨Nat.le_refl 0, Nat.le_refl 0⟩ dX8_begin_76 ?_
  rintro _ rfl
  refine fw_aload_n C dX8_begin_79 rfl 0 rfl ?_
  refine fw_get C (ci := 6) (Cn := RX8) (Tc := TX8) (N := 15) (j := 12) ly_X8_begin_8 rfl (hG _ (List.mem_of_getElem? (i := 1) rfl)) (of2_0 _) (ce2 T ad _ _) (by decide) (cx_ts C _ fl_X8_begin_21) (fun _ h => h) (v := .ref (ad 2 g0 4)) rfl dX8_begin_80 ?_
  refine fw_iconst C dX8_begin_83 (v := 0) rfl ?_
  obtain ⟨Y29, q28, h⟩ := bd1_some h
  refine fw_callSv C (As := [.ref (ad 2 g0 4), .int 0]) (c_J7_fill_53178 (gac (hG _ (List.mem_of_getElem? (i := 1) rfl)) ga0) (ca2_4 T ad _) (of2_4 _) (Nat.le_of_ble_eq_true rfl) q28) (va_cwS 2 (cx_ts C) gX8_begin_J7_fill_53178 rfl rfl rfl (by decide +kernel) ⟨Nat.le_of_ble_eq_true rfl, Nat.le_of_ble_eq_true rfl⟩) rfl (st := []) rfl (Nat.le_of_ble_eq_true rfl) ⟨Nat.le_refl 0, Nat.le_refl 0⟩ dX8_begin_84 ?_
  rintro _ rfl
  refine fw_aload_n C dX8_begin_87 rfl 0 rfl ?_
  refine fw_get C (ci := 6) (Cn := RX8) (Tc := TX8) (N := 15) (j := 13) ly_X8_begin_8 rfl (hG _ (List.mem_of_getElem? (i := 1) rfl)) (of2_0 _) (ce2 T ad _ _) (by decide) (cx_ts C _ fl_X8_begin_24) (fun _ h => h) (v := .ref (ad 2 g0 5)) rfl dX8_begin_88 ?_
  refine fw_iconst C dX8_begin_91 (v := 0) rfl ?_
  obtain ⟨Y32, q31, h⟩ := bd1_some h
  refine fw_callSv C (As := [.ref (ad 2 g0 5), .int 0]) (c_J7_fill_53178 (gac (hG _ (List.mem_of_getElem? (i := 1) rfl)) ga0) (ca2_5 T ad _) (of2_5 _) (Nat.le_of_ble_eq_true rfl) q31) (va_cwS 2 (cx_ts C) gX8_begin_J7_fill_53178 rfl rfl rfl (by decide +kernel) ⟨Nat.le_of_ble_eq_true rfl, Nat.le_of_ble_eq_true rfl⟩) rfl (st := []) rfl (Nat.le_of_ble_eq_true rfl) ⟨Nat.le_refl 0, Nat.le_refl 0⟩ dX8_begin_92 ?_
  rintro _ rfl
  refine fw_aload_n C dX8_begin_95 rfl 0 rfl ?_
  refine fw_get C (ci := 6) (Cn := RX8) (Tc := TX8) (N := 15) (j := 14) ly_X8_begin_8 rfl (hG _ (List.mem_of_getElem? (i := 1) rfl)) (of2_0 _) (ce2 T ad _ _) (by decide) (cx_ts C _ fl_X8_begin_27) (fun _ h => h) (v := .ref (ad 2 g0 6)) rfl dX8_begin_96 ?_
  refine fw_iconst C dX8_begin_99 (v := 0) rfl ?_
  obtain ⟨Y35, q34, h⟩ := bd1_some h
  refine fw_callSv C (As := [.ref (ad 2 g0 6), .int 0]) (c_J7_fill_53178 (gac (hG _ (List.mem_of_getElem? (i := 1) rfl)) ga0) (ca2_6 T ad _) (of2_6 _) (Nat.le_of_ble_eq_true rfl) q34) (va_cwS 2 (cx_ts C) gX8_begin_J7_fill_53178 rfl rfl rfl (by decide +kernel) ⟨Nat.le_of_ble_eq_true rfl, Nat.le_of_ble_eq_true rfl⟩) rfl (st := []) rfl (Nat.le_of_ble_eq_true rfl) ⟨Nat.le_refl 0, Nat.le_refl 0⟩ dX8_begin_100 ?_
  rintro _ rfl
  exact fw_vret C hrt Y35 (Option.some.inj h) (fun t ht => ht) dX8_begin_103
end
set_option maxRecDepth 100000 in
set_option maxHeartbeats 4000000 in
theorem c_X8_begin {l : Launch} {N0 : Nat} {T : Nat → ClassId} {D : va_G} {gr : List (Nat × Nat)} {ad : Nat → Nat → Nat → Nat} {Y : Mem} {g0 : Nat} {g1 : Nat} {res : Mem} (hG : ∀ q ∈ [(3, g1), (2, g0)], q ∈ gr) (h : X8_begin Y g0 g1 = some res) : CV l yX8_begin wsX8_begin (Rm 1) N0 T D gr ad Y [.ref (ad 2 g0 0), .ref (ad 3 g1 0)] (fun Y1 => Y1 = res) :=
  fw_body (by decide +kernel) rfl (Nat.le_of_ble_eq_true rfl) (fun p e s m below meth c C hrt => w_X8_begin C hrt hG  h)
theorem ly_X3_open_3 : ∀ w ∈ u_ws RX3 TX3 5, w ∈ wsX3_open := by decide +kernel
theorem fl_X3_open_28 : Cond.fieldLink RX3 28 "RecipeScheduler$Kitchen" "recipe" "LRecipeScheduler$Recipe;" ∈ wsX3_open := by decide +kernel
theorem fl_X3_open_12 : Cond.fieldLink RX3 12 "RecipeScheduler$Kitchen" "state" "LRecipeScheduler$State;" ∈ wsX3_open := by decide +kernel
noncomputable def X3_open (Y : Mem) (g0 : Nat) (g1 : Nat) : Option (Mem) :=
  gd (decide (g1 < 2)) <| lt_ (up Y 1 g0 0 0 (Int32.ofNat g1)) <| fun Y1 => bd1 (X8_begin Y1 g0 g1) <| fun Y6 => some Y6
section
variable {p : Program} {l : Launch} {e : Env} {s : State} {m : MethodId} {below : List Frame} {meth : Method} {c : Code} {N0 : Nat} {T : Nat → ClassId} {D : va_G} {gr : List (Nat × Nat)} {ad : Nat → Nat → Nat → Nat}
set_option maxRecDepth 100000 in
set_option maxHeartbeats 4000000 in
theorem w_X3_open {Y : Mem} {g0 : Nat} {g1 : Nat} (C : Cx p s m [.ref (ad 1 g0 0), .ref (ad 3 g1 0)].toArray meth c cX3_open 2 wsX3_open RX3 N0 T D gr ad) (hrt : meth.sig.returnType = none) (hG : ∀ q ∈ [(1, g0), (3, g1), (2, g0)], q ∈ gr) {res : Mem} (h : X3_open Y g0 g1 = some res) : FW p l e (Rm 2) s m [.ref (ad 1 g0 0), .ref (ad 3 g1 0)].toArray below meth c 2 N0 T D gr ad 0 0 (MQ below (va_Qv (fun Y1 => Y1 = res) (WB T D gr ad) (fun q => N0 ≤ q)) [.ref (ad 1 g0 0), .ref (ad 3 g1 0)].toArray s 0 0 (fun q => N0 ≤ q)) Y 0 [(0, .ref (ad 1 g0 0)), (1, .ref (ad 3 g1 0))] [] := by
  unfold X3_open at h
  refine fw_aload_n C dX3_open_0 rfl 0 rfl ?_
  refine fw_aload_n C dX3_open_1 rfl 1 rfl ?_
  obtain ⟨b3, h⟩ := gd_some h
  have b3 := of_decide_eq_true b3
  obtain ⟨Y1, e2, h⟩ := lt_some h
  refine fw_put C (ci := 1) (Cn := RX3) (Tc := TX3) (N := 5) (j := 0) (ty := (.object RX5)) (upd (Y 1 g0 0) 0 (Int32.ofNat g1)) ly_X3_open_3 rfl tyX3_ok nmX3 (hG _ (List.mem_of_getElem? (i := 0) rfl)) (of1_0 _) (ce1 T ad _ _) (by decide) (cx_ts C _ fl_X3_open_28) (fun _ h => h) rfl (by decide +kernel) rfl rfl (by decide) (ce1_put0 T ad _ _ _ b3) dX3_open_2 ?_
  refine fw_mem ((up_eq _ _ _ _ _ _).symm.trans e2) ?_
  refine fw_aload_n C dX3_open_5 rfl 0 rfl ?_
  refine fw_get C (ci := 1) (Cn := RX3) (Tc := TX3) (N := 5) (j := 1) ly_X3_open_3 rfl (hG _ (List.mem_of_getElem? (i := 0) rfl)) (of1_0 _) (ce1 T ad _ _) (by decide) (cx_ts C _ fl_X3_open_12) (fun _ h => h) (v := .ref (ad 2 g0 0)) rfl dX3_open_6 ?_
  refine fw_aload_n C dX3_open_9 rfl 1 rfl ?_
  obtain ⟨Y6, q5, h⟩ := bd1_some h
  refine fw_callVv C (ci := 6) (Cn := RX8) (Tc := TX8) (N := 15) (As := [.ref (ad 3 g1 0)]) (c_X8_begin (gac (hG _ (List.mem_of_getElem? (i := 1) rfl)) (gac (hG _ (List.mem_of_getElem? (i := 2) rfl)) ga0)) q5) (cwV 1 (cx_ts C) gX3_open_X8_begin rfl rfl rfl (by decide +kernel) ⟨Nat.le_of_ble_eq_true rfl, Nat.le_of_ble_eq_true rfl⟩) rfl (hG _ (List.mem_of_getElem? (i := 2) rfl)) (of2_0 _) (ce2 T ad _ _) rfl (st := []) rfl (Nat.le_of_ble_eq_true rfl) ⟨Nat.le_refl 0, Nat.le_refl 0⟩ dX3_open_10 ?_
  rintro _ rfl
  exact fw_vret C hrt Y6 (Option.some.inj h) (fun t ht => ht) dX3_open_13
end
set_option maxRecDepth 100000 in
set_option maxHeartbeats 4000000 in
theorem c_X3_open {l : Launch} {N0 : Nat} {T : Nat → ClassId} {D : va_G} {gr : List (Nat × Nat)} {ad : Nat → Nat → Nat → Nat} {Y : Mem} {g0 : Nat} {g1 : Nat} {res : Mem} (hG : ∀ q ∈ [(1, g0), (3, g1), (2, g0)], q ∈ gr) (h : X3_open Y g0 g1 = some res) : CV l yX3_open wsX3_open (Rm 2) N0 T D gr ad Y [.ref (ad 1 g0 0), .ref (ad 3 g1 0)] (fun Y1 => Y1 = res) :=
  fw_body (by decide +kernel) rfl (Nat.le_of_ble_eq_true rfl) (fun p e s m below meth c C hrt => w_X3_open C hrt hG  h)
theorem ly_X11_load_11 : ∀ w ∈ u_ws RX11 TX11 11, w ∈ wsX11_load := by decide +kernel
theorem fl_X11_load_52 : Cond.fieldLink RX11 52 "RecipeScheduler" "setupReader" "LRecipeScheduler$SetupReader;" ∈ wsX11_load := by decide +kernel
theorem fl_X11_load_92 : Cond.fieldLink RX11 92 "RecipeScheduler" "spare" "LRecipeScheduler$Recipe;" ∈ wsX11_load := by decide +kernel
theorem fl_X11_load_41 : Cond.fieldLink RX11 41 "RecipeScheduler" "input" "LRecipeScheduler$Text;" ∈ wsX11_load := by decide +kernel
theorem ly_X11_load_9 : ∀ w ∈ u_ws RX9 TX9 2, w ∈ wsX11_load := by decide +kernel
theorem fl_X11_load_67 : Cond.fieldLink RX11 67 "RecipeScheduler" "now" "LRecipeScheduler$Kitchen;" ∈ wsX11_load := by decide +kernel
theorem ly_X11_load_3 : ∀ w ∈ u_ws RX3 TX3 5, w ∈ wsX11_load := by decide +kernel
theorem fl_X11_load_77 : Cond.fieldLink RX11 77 "RecipeScheduler" "history" "LRecipeScheduler$History;" ∈ wsX11_load := by decide +kernel
theorem ly_X11_load_2 : ∀ w ∈ u_ws RX2 TX2 3, w ∈ wsX11_load := by decide +kernel
theorem ly_X11_load_5 : ∀ w ∈ u_ws RX5 TX5 17, w ∈ wsX11_load := by decide +kernel
theorem ly_X11_load_4 : ∀ w ∈ u_ws RX4 TX4 3, w ∈ wsX11_load := by decide +kernel
theorem fl_X11_load_88 : Cond.fieldLink RX11 88 "RecipeScheduler" "isSaved" "[Z" ∈ wsX11_load := by decide +kernel
noncomputable def X11_load_b49  : Nat → Mem → Int32 → Option ((Nat × Mem) ⊕ (Int32 × Mem))
  | 0, _, _ => none
  | n+1, Y, l2 =>
  if 2 ≤ l2 then (lt_ (up Y 9 0 0 2 0) <| fun Y22 => gd (decide ((Y22 1 0 0 0).toNatClampNeg < 2)) <| gd (decide (((Y22 1 0 0 0).toNatClampNeg) < 2)) <| some (.inr (Y22 4 (2*((Y22 1 0 0 0).toNatClampNeg)+1) 0 2, Y22))) else (gd (inb l2 2) <| lt_ (up Y 0 0 2 (ix l2) (vp_nar .boolean 0)) <| fun Y27 => X11_load_b49 n Y27 (l2 + 1))
noncomputable def X11_load (Y : Mem) : Option ((Nat × Mem) ⊕ (Int32 × Mem)) :=
  gd (decide ((Y 0 0 0 10).toNatClampNeg < 2)) <| gd (decide (((Y 0 0 0 10).toNatClampNeg) < 2)) <| bd1 (X7_readInto Y ((Y 0 0 0 10).toNatClampNeg)) <| fun Y5 => lt_ (up Y5 5 0 0 1 0) <| fun Y6 => bdxv (X11_requireNoError Y6) <| fun Y11 => gd (decide ((Y11 0 0 0 10).toNatClampNeg < 2)) <| bd1 (X3_open Y11 0 ((Y11 0 0 0 10).toNatClampNeg)) <| fun Y17 => gd (decide ((Y11 1 0 0 0).toNatClampNeg < 2)) <| lt_ (up Y17 0 0 0 10 (Int32.ofNat ((Y11 1 0 0 0).toNatClampNeg))) <| fun Y18 => X11_load_b49 FU Y18 0
section
variable {p : Program} {l : Launch} {e : Env} {s : State} {m : MethodId} {below : List Frame} {meth : Method} {c : Code} {N0 : Nat} {T : Nat → ClassId} {D : va_G} {gr : List (Nat × Nat)} {ad : Nat → Nat → Nat → Nat}
set_option maxRecDepth 100000 in
set_option maxHeartbeats 4000000 in
theorem w_X11_load_b49  (C : Cx p s m [.ref (ad 0 0 0)].toArray meth c cX11_load 3 wsX11_load RX11 N0 T D gr ad) (hrt : meth.sig.returnType = (some .int)) (hG : ∀ q ∈ ([(0, 0), (4, 0), (6, 0), (5, 0), (7, 0), (1, 0), (2, 0), (9, 0)] ++ allG), q ∈ gr) (hl : l.stackTraces = false) (hX : ∀ x ∈ c.exceptionTable.toList, False) {res : (Nat × Mem) ⊕ (Int32 × Mem)} : ∀ (n : Nat) (Y : Mem) (l2 : Int32), X11_load_b49   n Y l2 = some res → FW p l e (Rx 9 1) s m [.ref (ad 0 0 0)].toArray below meth c 3 N0 T D gr ad 1 6 (vx_MQ below (va_Qi (fun r Y1 => Sum.inr (r, Y1) = res) (WB T D gr ad) (fun q => N0 ≤ q)) (vx_X (fun u => Sum.inl u = res) (XB T D gr ad) (fun q => N0 ≤ q)) [.ref (ad 0 0 0)].toArray s 1 6 (fun q => N0 ≤ q)) Y 49 [(2, .int l2), (0, .ref (ad 0 0 0))] [] := by
  intro n
  induction n with
  | zero =>
    intro Y l2 h
    unfold X11_load_b49 at h
    cases h
  | succ n ih =>
    intro Y l2 h
    unfold X11_load_b49 at h
    refine fw_iload_n C dX11_load_49 rfl 0 rfl ?_
    refine fw_iconst C dX11_load_50 (v := 2) rfl ?_
    refine fw_icmp_ge C dX11_load_51 (tgt := 67) rfl (fun c21 => ?_) (fun c21 => ?_)
    · have h := ite_t c21 h
      refine fw_aload_n C dX11_load_67 rfl 1 rfl ?_
      refine fw_get C (ci := 9) (Cn := RX11) (Tc := TX11) (N := 11) (j := 7) ly_X11_load_11 rfl (hG _ (List.mem_of_getElem? (i := 0) rfl)) (of0_0 _) (ce0 T ad _ _) (by decide) (cx_ts C _ fl_X11_load_77) (fun _ h => h) (v := .ref (ad 9 0 0)) rfl dX11_load_68 ?_
      refine fw_iconst C dX11_load_71 (v := 0) rfl ?_
      obtain ⟨Y22, e23, h⟩ := lt_some h
      refine fw_putN C (ci := 0) (Cn := RX2) (Tc := TX2) (N := 3) (j := 2) (ty := .int) (upd (Y 9 0 0) 2 0) ly_X11_load_2 rfl tyX2_ok nmX2 (hG _ (List.mem_of_getElem? (i := 7) rfl)) (of9_0 _) (ce9 T ad _ _) (by decide) (Nst_use (cx_nst C) (w := .fieldLinkNest RX11 123 "RecipeScheduler$History" "count" "I" "RecipeScheduler") 546 (by decide +kernel) rfl) (fun _ h => h) rfl (by decide +kernel) rfl rfl (by decide) (ce9_put2 T ad _ _ _) dX11_load_72 ?_
      refine fw_mem ((up_eq _ _ _ _ _ _).symm.trans e23) ?_
      refine fw_aload_n C dX11_load_75 rfl 1 rfl ?_
      refine fw_get C (ci := 9) (Cn := RX11) (Tc := TX11) (N := 11) (j := 5) ly_X11_load_11 rfl (hG _ (List.mem_of_getElem? (i := 0) rfl)) (of0_0 _) (ce0 T ad _ _) (by decide) (cx_ts C _ fl_X11_load_67) (fun _ h => h) (v := .ref (ad 1 0 0)) rfl dX11_load_76 ?_
      refine fw_getN C (ci := 1) (Cn := RX3) (Tc := TX3) (N := 5) (j := 0) ly_X11_load_3 rfl (hG _ (List.mem_of_getElem? (i := 5) rfl)) (of1_0 _) (ce1 T ad _ _) (by decide) (Nst_use (cx_nst C) (w := .fieldLinkNest RX11 117 "RecipeScheduler$Kitchen" "recipe" "LRecipeScheduler$Recipe;" "RecipeScheduler") 516 (by decide +kernel) rfl) (fun _ h => h) (v := .ref (ad 3 ((Y22 1 0 0 0).toNatClampNeg) 0)) rfl dX11_load_79 ?_
      obtain ⟨b24, h⟩ := gd_some h
      have b24 := of_decide_eq_true b24
      refine fw_getN C (ci := 3) (Cn := RX5) (Tc := TX5) (N := 17) (j := 7) ly_X11_load_5 rfl ((fun q hq => hG q (List.mem_append_right _ hq)) _ (allG_3 b24)) (of3_0 _) (ce3 T ad _ _) (by decide) (Nst_use (cx_nst C) (w := .fieldLinkNest RX11 126 "RecipeScheduler$Recipe" "steps" "LRecipeScheduler$Names;" "RecipeScheduler") 146 (by decide +kernel) rfl) (fun _ h => h) (v := .ref (ad 4 (2*((Y22 1 0 0 0).toNatClampNeg)+1) 0)) rfl dX11_load_82 ?_
      obtain ⟨b25, h⟩ := gd_some h
      have b25 := of_decide_eq_true b25
      refine fw_getN C (ci := 2) (Cn := RX4) (Tc := TX4) (N := 3) (j := 2) ly_X11_load_4 rfl ((fun q hq => hG q (List.mem_append_right _ hq)) _ (allG_4b b25)) (of4_0 _) (ce4 T ad _ _) (by decide) (Nst_use (cx_nst C) (w := .fieldLinkNest RX11 130 "RecipeScheduler$Names" "count" "I" "RecipeScheduler") 113 (by decide +kernel) rfl) (fun _ h => h) (v := .int (Y22 4 (2*((Y22 1 0 0 0).toNatClampNeg)+1) 0 2)) rfl dX11_load_85 ?_
      refine fw_xr (Nat.le_of_ble_eq_true rfl) (Nat.le_of_ble_eq_true rfl) ?_
      exact fw_iret C hrt Y22 (Option.some.inj h) (fun t ht => ht) dX11_load_88
    · have h := ite_f c21 h
      refine fw_aload_n C dX11_load_54 rfl 1 rfl ?_
      refine fw_get C (ci := 9) (Cn := RX11) (Tc := TX11) (N := 11) (j := 9) ly_X11_load_11 rfl (hG _ (List.mem_of_getElem? (i := 0) rfl)) (of0_0 _) (ce0 T ad _ _) (by decide) (cx_ts C _ fl_X11_load_88) (fun _ h => h) (v := .ref (ad 0 0 2)) rfl dX11_load_55 ?_
      refine fw_iload_n C dX11_load_58 rfl 0 rfl ?_
      refine fw_iconst C dX11_load_59 (v := 0) rfl ?_
      obtain ⟨b26, h⟩ := gd_some h
      obtain ⟨Y27, e28, h⟩ := lt_some h
      refine fw_zast2 C (hG _ (List.mem_of_getElem? (i := 0) rfl)) (of0_2 _) (ca0_2 T ad _) b26 (Nat.le_of_ble_eq_true rfl) dX11_load_60 ?_
      refine fw_mem e28 ?_
      refine fw_iinc C dX11_load_61 (kk := 0) (v := l2 + 1) rfl rfl (by decide) (L' := [(2, .int (l2 + 1)), (0, .ref (ad 0 0 0))]) rfl ?_
      refine fw_goto C dX11_load_64 (tgt := 49) rfl ?_
      exact ih _ _ h
set_option maxRecDepth 100000 in
set_option maxHeartbeats 4000000 in
theorem w_X11_load {Y : Mem} (C : Cx p s m [.ref (ad 0 0 0)].toArray meth c cX11_load 3 wsX11_load RX11 N0 T D gr ad) (hrt : meth.sig.returnType = (some .int)) (hG : ∀ q ∈ ([(0, 0), (4, 0), (6, 0), (5, 0), (7, 0), (1, 0), (2, 0), (9, 0)] ++ allG), q ∈ gr) (hl : l.stackTraces = false) (hX : ∀ x ∈ c.exceptionTable.toList, False) {res : (Nat × Mem) ⊕ (Int32 × Mem)} (h : X11_load Y = some res) : FW p l e (Rx 9 1) s m [.ref (ad 0 0 0)].toArray below meth c 3 N0 T D gr ad 0 0 (vx_MQ below (va_Qi (fun r Y1 => Sum.inr (r, Y1) = res) (WB T D gr ad) (fun q => N0 ≤ q)) (vx_X (fun u => Sum.inl u = res) (XB T D gr ad) (fun q => N0 ≤ q)) [.ref (ad 0 0 0)].toArray s 1 6 (fun q => N0 ≤ q)) Y 0 [(0, .ref (ad 0 0 0))] [] := by
  unfold X11_load at h
  refine fw_aload_n C dX11_load_0 rfl 0 rfl ?_
  refine fw_get C (ci := 9) (Cn := RX11) (Tc := TX11) (N := 11) (j := 3) ly_X11_load_11 rfl (hG _ (List.mem_of_getElem? (i := 0) rfl)) (of0_0 _) (ce0 T ad _ _) (by decide) (cx_ts C _ fl_X11_load_52) (fun _ h => h) (v := .ref (ad 7 0 0)) rfl dX11_load_1 ?_
  refine fw_aload_n C dX11_load_4 rfl 0 rfl ?_
  refine fw_get C (ci := 9) (Cn := RX11) (Tc := TX11) (N := 11) (j := 10) ly_X11_load_11 rfl (hG _ (List.mem_of_getElem? (i := 0) rfl)) (of0_0 _) (ce0 T ad _ _) (by decide) (cx_ts C _ fl_X11_load_92) (fun _ h => h) (v := .ref (ad 3 ((Y 0 0 0 10).toNatClampNeg) 0)) rfl dX11_load_5 ?_
  obtain ⟨b1, h⟩ := gd_some h
  have b1 := of_decide_eq_true b1
  obtain ⟨b2, h⟩ := gd_some h
  have b2 := of_decide_eq_true b2
  obtain ⟨Y5, q4, h⟩ := bd1_some h
  refine fw_callVv C (ci := 5) (Cn := RX7) (Tc := TX7) (N := 1) (As := [.ref (ad 3 ((Y 0 0 0 10).toNatClampNeg) 0)]) (c_X7_readInto (gac ((fun q hq => hG q (List.mem_append_right _ hq)) _ (allG_4b b2)) (gac ((fun q hq => hG q (List.mem_append_right _ hq)) _ (allG_4a b2)) (gac ((fun q hq => hG q (List.mem_append_right _ hq)) _ (allG_3 b1)) (gac (hG _ (List.mem_of_getElem? (i := 4) rfl)) (gac (hG _ (List.mem_of_getElem? (i := 3) rfl)) (gac (hG _ (List.mem_of_getElem? (i := 2) rfl)) (gac (hG _ (List.mem_of_getElem? (i := 1) rfl)) ga0))))))) q4) (cwV 1 (cx_ts C) gX11_load_X7_readInto rfl rfl rfl (by decide +kernel) ⟨Nat.le_of_ble_eq_true rfl, Nat.le_of_ble_eq_true rfl⟩) rfl (hG _ (List.mem_of_getElem? (i := 4) rfl)) (of7_0 _) (ce7 T ad _ _) rfl (st := []) rfl (Nat.le_of_ble_eq_true rfl) ⟨Nat.le_refl 0, Nat.le_refl 0⟩ dX11_load_8 ?_
  rintro _ rfl
  refine fw_aload_n C dX11_load_11 rfl 0 rfl ?_
  refine fw_get C (ci := 9) (Cn := RX11) (Tc := TX11) (N := 11) (j := 0) ly_X11_load_11 rfl (hG _ (List.mem_of_getElem? (i := 0) rfl)) (of0_0 _) (ce0 T ad _ _) (by decide) (cx_ts C _ fl_X11_load_41) (fun _ h => h) (v := .ref (ad 5 0 0)) rfl dX11_load_12 ?_
  refine fw_iconst C dX11_load_15 (v := 0) rfl ?_
  obtain ⟨Y6, e7, h⟩ := lt_some h
  refine fw_putN C (ci := 7) (Cn := RX9) (Tc := TX9) (N := 2) (j := 1) (ty := .int) (upd (Y5 5 0 0) 1 0) ly_X11_load_9 rfl tyX9_ok nmX9 (hG _ (List.mem_of_getElem? (i := 3) rfl)) (of5_0 _) (ce5 T ad _ _) (by decide) (Nst_use (cx_nst C) (w := .fieldLinkNest RX11 37 "RecipeScheduler$Text" "length" "I" "RecipeScheduler") 46 (by decide +kernel) rfl) (fun _ h => h) rfl (by decide +kernel) rfl rfl (by decide) (ce5_put1 T ad _ _ _) dX11_load_16 ?_
  refine fw_mem ((up_eq _ _ _ _ _ _).symm.trans e7) ?_
  refine fw_aload_n C dX11_load_19 rfl 0 rfl ?_
  rcases bdxv_some h with ⟨x12, q9, e13⟩ | ⟨Y11, q9, h⟩
  · exact fw_callXVv_l C (ci := 9) (Cn := RX11) (Tc := TX11) (N := 11) (As := []) (c_X11_requireNoError hl (gac (hG _ (List.mem_of_getElem? (i := 0) rfl)) (gac (hG _ (List.mem_of_getElem? (i := 2) rfl)) ga0)) q9) (cwV 0 (cx_ts C) gX11_load_X11_requireNoError rfl rfl rfl (by decide +kernel) ⟨Nat.le_of_ble_eq_true rfl, Nat.le_of_ble_eq_true rfl⟩) rfl (hG _ (List.mem_of_getElem? (i := 0) rfl)) (of0_0 _) (ce0 T ad _ _) rfl (st := []) rfl (Nat.le_of_ble_eq_true rfl) ⟨Nat.le_of_ble_eq_true rfl, Nat.le_of_ble_eq_true rfl⟩ dX11_load_20 hX e13 (Nat.le_of_ble_eq_true rfl) (Nat.le_of_ble_eq_true rfl)
  refine fw_callXVv_r C (ci := 9) (Cn := RX11) (Tc := TX11) (N := 11) (As := []) (c_X11_requireNoError hl (gac (hG _ (List.mem_of_getElem? (i := 0) rfl)) (gac (hG _ (List.mem_of_getElem? (i := 2) rfl)) ga0)) q9) (cwV 0 (cx_ts C) gX11_load_X11_requireNoError rfl rfl rfl (by decide +kernel) ⟨Nat.le_of_ble_eq_true rfl, Nat.le_of_ble_eq_true rfl⟩) rfl (hG _ (List.mem_of_getElem? (i := 0) rfl)) (of0_0 _) (ce0 T ad _ _) rfl (st := []) rfl (Nat.le_of_ble_eq_true rfl) ⟨Nat.le_of_ble_eq_true rfl, Nat.le_of_ble_eq_true rfl⟩ dX11_load_20 ?_
  refine fw_aload_n C dX11_load_23 rfl 0 rfl ?_
  refine fw_get C (ci := 9) (Cn := RX11) (Tc := TX11) (N := 11) (j := 5) ly_X11_load_11 rfl (hG _ (List.mem_of_getElem? (i := 0) rfl)) (of0_0 _) (ce0 T ad _ _) (by decide) (cx_ts C _ fl_X11_load_67) (fun _ h => h) (v := .ref (ad 1 0 0)) rfl dX11_load_24 ?_
  refine fw_getN C (ci := 1) (Cn := RX3) (Tc := TX3) (N := 5) (j := 0) ly_X11_load_3 rfl (hG _ (List.mem_of_getElem? (i := 5) rfl)) (of1_0 _) (ce1 T ad _ _) (by decide) (Nst_use (cx_nst C) (w := .fieldLinkNest RX11 117 "RecipeScheduler$Kitchen" "recipe" "LRecipeScheduler$Recipe;" "RecipeScheduler") 516 (by decide +kernel) rfl) (fun _ h => h) (v := .ref (ad 3 ((Y11 1 0 0 0).toNatClampNeg) 0)) rfl dX11_load_27 ?_
  refine fw_astore_n C dX11_load_30 rfl (by decide) (L' := [(1, .ref (ad 3 ((Y11 1 0 0 0).toNatClampNeg) 0)), (0, .ref (ad 0 0 0))]) rfl ?_
  refine fw_aload_n C dX11_load_31 rfl 1 rfl ?_
  refine fw_get C (ci := 9) (Cn := RX11) (Tc := TX11) (N := 11) (j := 5) ly_X11_load_11 rfl (hG _ (List.mem_of_getElem? (i := 0) rfl)) (of0_0 _) (ce0 T ad _ _) (by decide) (cx_ts C _ fl_X11_load_67) (fun _ h => h) (v := .ref (ad 1 0 0)) rfl dX11_load_32 ?_
  refine fw_aload_n C dX11_load_35 rfl 1 rfl ?_
  refine fw_get C (ci := 9) (Cn := RX11) (Tc := TX11) (N := 11) (j := 10) ly_X11_load_11 rfl (hG _ (List.mem_of_getElem? (i := 0) rfl)) (of0_0 _) (ce0 T ad _ _) (by decide) (cx_ts C _ fl_X11_load_92) (fun _ h => h) (v := .ref (ad 3 ((Y11 0 0 0 10).toNatClampNeg) 0)) rfl dX11_load_36 ?_
  obtain ⟨b14, h⟩ := gd_some h
  have b14 := of_decide_eq_true b14
  obtain ⟨Y17, q16, h⟩ := bd1_some h
  refine fw_callVv C (ci := 1) (Cn := RX3) (Tc := TX3) (N := 5) (As := [.ref (ad 3 ((Y11 0 0 0 10).toNatClampNeg) 0)]) (c_X3_open (gac (hG _ (List.mem_of_getElem? (i := 5) rfl)) (gac ((fun q hq => hG q (List.mem_append_right _ hq)) _ (allG_3 b14)) (gac (hG _ (List.mem_of_getElem? (i := 6) rfl)) ga0))) q16) (cwV 1 (cx_ts C) gX11_load_X3_open rfl rfl rfl (by decide +kernel) ⟨Nat.le_of_ble_eq_true rfl, Nat.le_of_ble_eq_true rfl⟩) rfl (hG _ (List.mem_of_getElem? (i := 5) rfl)) (of1_0 _) (ce1 T ad _ _) rfl (st := []) rfl (Nat.le_of_ble_eq_true rfl) ⟨Nat.le_refl 0, Nat.le_refl 0⟩ dX11_load_39 ?_
  rintro _ rfl
  refine fw_aload_n C dX11_load_42 rfl 1 rfl ?_
  refine fw_aload_n C dX11_load_43 rfl 0 rfl ?_
  obtain ⟨b20, h⟩ := gd_some h
  have b20 := of_decide_eq_true b20
  obtain ⟨Y18, e19, h⟩ := lt_some h
  refine fw_put C (ci := 9) (Cn := RX11) (Tc := TX11) (N := 11) (j := 10) (ty := (.object RX5)) (upd (Y17 0 0 0) 10 (Int32.ofNat ((Y11 1 0 0 0).toNatClampNeg))) ly_X11_load_11 rfl tyX11_ok nmX11 (hG _ (List.mem_of_getElem? (i := 0) rfl)) (of0_0 _) (ce0 T ad _ _) (by decide) (cx_ts C _ fl_X11_load_92) (fun _ h => h) rfl (by decide +kernel) rfl rfl (by decide) (ce0_put10 T ad _ _ _ b20) dX11_load_44 ?_
  refine fw_mem ((up_eq _ _ _ _ _ _).symm.trans e19) ?_
  refine fw_iconst C dX11_load_47 (v := 0) rfl ?_
  refine fw_istore_n C dX11_load_48 rfl (by decide) (L' := [(2, .int 0), (1, .ref (ad 3 ((Y11 1 0 0 0).toNatClampNeg) 0)), (0, .ref (ad 0 0 0))]) rfl ?_
  refine fw_sub [0, 2] (L' := [(2, .int 0), (0, .ref (ad 0 0 0))]) rfl ?_
  exact w_X11_load_b49 C hrt hG  hl hX  _ _ _ h
end
set_option maxRecDepth 100000 in
set_option maxHeartbeats 4000000 in
theorem c_X11_load {l : Launch} {N0 : Nat} {T : Nat → ClassId} {D : va_G} {gr : List (Nat × Nat)} {ad : Nat → Nat → Nat → Nat} {Y : Mem} {res : (Nat × Mem) ⊕ (Int32 × Mem)} (hl : l.stackTraces = false) (hG : ∀ q ∈ ([(0, 0), (4, 0), (6, 0), (5, 0), (7, 0), (1, 0), (2, 0), (9, 0)] ++ allG), q ∈ gr) (h : X11_load Y = some res) : CXi l yX11_load wsX11_load (Rx 9 1) N0 T D gr ad Y [.ref (ad 0 0 0)] 1 res :=
  fw_xbody (by decide +kernel) rfl (Nat.le_of_ble_eq_true rfl) (fun p e s m below meth c C hrt hX => w_X11_load C hrt hG hl hX h)
theorem ly_X11_meanDuration_11 : ∀ w ∈ u_ws RX11 TX11 11, w ∈ wsX11_meanDuration := by decide +kernel
theorem fl_X11_meanDuration_67 : Cond.fieldLink RX11 67 "RecipeScheduler" "now" "LRecipeScheduler$Kitchen;" ∈ wsX11_meanDuration := by decide +kernel
theorem ly_X11_meanDuration_3 : ∀ w ∈ u_ws RX3 TX3 5, w ∈ wsX11_meanDuration := by decide +kernel
theorem ly_X11_meanDuration_5 : ∀ w ∈ u_ws RX5 TX5 17, w ∈ wsX11_meanDuration := by decide +kernel
theorem ly_X11_meanDuration_4 : ∀ w ∈ u_ws RX4 TX4 3, w ∈ wsX11_meanDuration := by decide +kernel
theorem ly_X11_meanDuration_8 : ∀ w ∈ u_ws RX8 TX8 15, w ∈ wsX11_meanDuration := by decide +kernel
noncomputable def X11_meanDuration (Y : Mem) : Option (UInt64) :=
  gd (decide ((Y 1 0 0 0).toNatClampNeg < 2)) <| gd (decide (((Y 1 0 0 0).toNatClampNeg) < 2)) <| lt_ (Y 4 (2*((Y 1 0 0 0).toNatClampNeg)+1) 0 2) <| fun v3 => bd1 (X11_sum Y 2 0 1 14 v3) <| fun r5 => gd (decide (FP.ddiv (FP.i2d r5) (FP.i2d v3) &&& 0x7fffffffffffffff ≤ 0x7ff0000000000000)) <| some (FP.ddiv (FP.i2d r5) (FP.i2d v3))
section
variable {p : Program} {l : Launch} {e : Env} {s : State} {m : MethodId} {below : List Frame} {meth : Method} {c : Code} {N0 : Nat} {T : Nat → ClassId} {D : va_G} {gr : List (Nat × Nat)} {ad : Nat → Nat → Nat → Nat}
set_option maxRecDepth 100000 in
set_option maxHeartbeats 4000000 in
theorem w_X11_meanDuration {Y : Mem} (C : Cx p s m [.ref (ad 0 0 0)].toArray meth c cX11_meanDuration 2 wsX11_meanDuration RX11 N0 T D gr ad) (hrt : meth.sig.returnType = (some .double)) (hG : ∀ q ∈ ([(0, 0), (1, 0), (2, 0)] ++ allG), q ∈ gr) {res : UInt64} (h : X11_meanDuration Y = some res) : FW p l e (Rm 1) s m [.ref (ad 0 0 0)].toArray below meth c 2 N0 T D gr ad 0 0 (MQ below (va_Qd (fun r Y1 => r = res ∧ Y1 = Y) (WB T D gr ad) (fun q => N0 ≤ q)) [.ref (ad 0 0 0)].toArray s 0 0 (fun q => N0 ≤ q)) Y 0 [(0, .ref (ad 0 0 0))] [] := by
  unfold X11_meanDuration at h
  refine fw_aload_n C dX11_meanDuration_0 rfl 0 rfl ?_
  refine fw_get C (ci := 9) (Cn := RX11) (Tc := TX11) (N := 11) (j := 5) ly_X11_meanDuration_11 rfl (hG _ (List.mem_of_getElem? (i := 0) rfl)) (of0_0 _) (ce0 T ad _ _) (by decide) (cx_ts C _ fl_X11_meanDuration_67) (fun _ h => h) (v := .ref (ad 1 0 0)) rfl dX11_meanDuration_1 ?_
  refine fw_getN C (ci := 1) (Cn := RX3) (Tc := TX3) (N := 5) (j := 0) ly_X11_meanDuration_3 rfl (hG _ (List.mem_of_getElem? (i := 1) rfl)) (of1_0 _) (ce1 T ad _ _) (by decide) (Nst_use (cx_nst C) (w := .fieldLinkNest RX11 117 "RecipeScheduler$Kitchen" "recipe" "LRecipeScheduler$Recipe;" "RecipeScheduler") 516 (by decide +kernel) rfl) (fun _ h => h) (v := .ref (ad 3 ((Y 1 0 0 0).toNatClampNeg) 0)) rfl dX11_meanDuration_4 ?_
  obtain ⟨b1, h⟩ := gd_some h
  have b1 := of_decide_eq_true b1
  refine fw_getN C (ci := 3) (Cn := RX5) (Tc := TX5) (N := 17) (j := 7) ly_X11_meanDuration_5 rfl ((fun q hq => hG q (List.mem_append_right _ hq)) _ (allG_3 b1)) (of3_0 _) (ce3 T ad _ _) (by decide) (Nst_use (cx_nst C) (w := .fieldLinkNest RX11 126 "RecipeScheduler$Recipe" "steps" "LRecipeScheduler$Names;" "RecipeScheduler") 146 (by decide +kernel) rfl) (fun _ h => h) (v := .ref (ad 4 (2*((Y 1 0 0 0).toNatClampNeg)+1) 0)) rfl dX11_meanDuration_7 ?_
  obtain ⟨b2, h⟩ := gd_some h
  have b2 := of_decide_eq_true b2
  refine fw_getN C (ci := 2) (Cn := RX4) (Tc := TX4) (N := 3) (j := 2) ly_X11_meanDuration_4 rfl ((fun q hq => hG q (List.mem_append_right _ hq)) _ (allG_4b b2)) (of4_0 _) (ce4 T ad _ _) (by decide) (Nst_use (cx_nst C) (w := .fieldLinkNest RX11 130 "RecipeScheduler$Names" "count" "I" "RecipeScheduler") 113 (by decide +kernel) rfl) (fun _ h => h) (v := .int (Y 4 (2*((Y 1 0 0 0).toNatClampNeg)+1) 0 2)) rfl dX11_meanDuration_10 ?_
  obtain ⟨v3, e4, h⟩ := lt_some h
  refine fw_top (v' := .int v3) (by rw [e4]) ?_
  refine fw_istore_n C dX11_meanDuration_13 rfl (by decide) (L' := [(1, .int v3), (0, .ref (ad 0 0 0))]) rfl ?_
  refine fw_aload_n C dX11_meanDuration_14 rfl 1 rfl ?_
  refine fw_get C (ci := 9) (Cn := RX11) (Tc := TX11) (N := 11) (j := 5) ly_X11_meanDuration_11 rfl (hG _ (List.mem_of_getElem? (i := 0) rfl)) (of0_0 _) (ce0 T ad _ _) (by decide) (cx_ts C _ fl_X11_meanDuration_67) (fun _ h => h) (v := .ref (ad 1 0 0)) rfl dX11_meanDuration_15 ?_
  refine fw_getN C (ci := 1) (Cn := RX3) (Tc := TX3) (N := 5) (j := 1) ly_X11_meanDuration_3 rfl (hG _ (List.mem_of_getElem? (i := 1) rfl)) (of1_0 _) (ce1 T ad _ _) (by decide) (Nst_use (cx_nst C) (w := .fieldLinkNest RX11 139 "RecipeScheduler$Kitchen" "state" "LRecipeScheduler$State;" "RecipeScheduler") 518 (by decide +kernel) rfl) (fun _ h => h) (v := .ref (ad 2 0 0)) rfl dX11_meanDuration_18 ?_
  refine fw_getN C (ci := 6) (Cn := RX8) (Tc := TX8) (N := 15) (j := 9) ly_X11_meanDuration_8 rfl (hG _ (List.mem_of_getElem? (i := 2) rfl)) (of2_0 _) (ce2 T ad _ _) (by decide) (Nst_use (cx_nst C) (w := .fieldLinkNest RX11 196 "RecipeScheduler$State" "duration" "[I" "RecipeScheduler") 461 (by decide +kernel) rfl) (fun _ h => h) (v := .ref (ad 2 0 1)) rfl dX11_meanDuration_21 ?_
  refine fw_iload_n C dX11_meanDuration_24 rfl 0 rfl ?_
  obtain ⟨r5, q6, h⟩ := bd1_some h
  refine fw_callSi C (As := [.ref (ad 2 0 1), .int v3]) (c_X11_sum (gac (hG _ (List.mem_of_getElem? (i := 2) rfl)) ga0) (ca2_1 T ad _) (of2_1 _) (Nat.le_of_ble_eq_true rfl) q6) (va_cwS 2 (cx_ts C) gX11_meanDuration_X11_sum rfl rfl rfl (by decide +kernel) ⟨Nat.le_of_ble_eq_true rfl, Nat.le_of_ble_eq_true rfl⟩) rfl (st := []) rfl (Nat.le_of_ble_eq_true rfl) ⟨Nat.le_refl 0, Nat.le_refl 0⟩ dX11_meanDuration_25 ?_
  rintro _ _ ⟨rfl, rfl⟩
  refine fw_i2d C dX11_meanDuration_28 ?_
  refine fw_iload_n C dX11_meanDuration_29 rfl 0 rfl ?_
  refine fw_i2d C dX11_meanDuration_30 ?_
  obtain ⟨b7, h⟩ := gd_some h
  refine fw_ddiv C (of_decide_eq_true b7) dX11_meanDuration_31 ?_
  exact fw_dret C hrt Y ⟨Option.some.inj h, rfl⟩ (fun t ht => ht) dX11_meanDuration_32
end
set_option maxRecDepth 100000 in
set_option maxHeartbeats 4000000 in
theorem c_X11_meanDuration {l : Launch} {N0 : Nat} {T : Nat → ClassId} {D : va_G} {gr : List (Nat × Nat)} {ad : Nat → Nat → Nat → Nat} {Y : Mem} {res : UInt64} (hG : ∀ q ∈ ([(0, 0), (1, 0), (2, 0)] ++ allG), q ∈ gr) (h : X11_meanDuration Y = some res) : CD l yX11_meanDuration wsX11_meanDuration (Rm 1) N0 T D gr ad Y [.ref (ad 0 0 0)] (fun r Y1 => r = res ∧ Y1 = Y) :=
  fw_body (by decide +kernel) rfl (Nat.le_of_ble_eq_true rfl) (fun p e s m below meth c C hrt => w_X11_meanDuration C hrt hG  h)
theorem ly_X11_minute_11 : ∀ w ∈ u_ws RX11 TX11 11, w ∈ wsX11_minute := by decide +kernel
theorem fl_X11_minute_67 : Cond.fieldLink RX11 67 "RecipeScheduler" "now" "LRecipeScheduler$Kitchen;" ∈ wsX11_minute := by decide +kernel
theorem ly_X11_minute_3 : ∀ w ∈ u_ws RX3 TX3 5, w ∈ wsX11_minute := by decide +kernel
theorem ly_X11_minute_8 : ∀ w ∈ u_ws RX8 TX8 15, w ∈ wsX11_minute := by decide +kernel
noncomputable def X11_minute (Y : Mem) : Option (Int32) :=
  some (Y 2 0 0 1)
section
variable {p : Program} {l : Launch} {e : Env} {s : State} {m : MethodId} {below : List Frame} {meth : Method} {c : Code} {N0 : Nat} {T : Nat → ClassId} {D : va_G} {gr : List (Nat × Nat)} {ad : Nat → Nat → Nat → Nat}
set_option maxRecDepth 100000 in
set_option maxHeartbeats 4000000 in
theorem w_X11_minute {Y : Mem} (C : Cx p s m [.ref (ad 0 0 0)].toArray meth c cX11_minute 1 wsX11_minute RX11 N0 T D gr ad) (hrt : meth.sig.returnType = (some .int)) (hG : ∀ q ∈ [(0, 0), (1, 0), (2, 0)], q ∈ gr) {res : Int32} (h : X11_minute Y = some res) : FW p l e (Rm 0) s m [.ref (ad 0 0 0)].toArray below meth c 1 N0 T D gr ad 0 0 (MQ below (va_Qi (fun r Y1 => r = res ∧ Y1 = Y) (WB T D gr ad) (fun q => N0 ≤ q)) [.ref (ad 0 0 0)].toArray s 0 0 (fun q => N0 ≤ q)) Y 0 [(0, .ref (ad 0 0 0))] [] := by
  unfold X11_minute at h
  refine fw_aload_n C dX11_minute_0 rfl 0 rfl ?_
  refine fw_get C (ci := 9) (Cn := RX11) (Tc := TX11) (N := 11) (j := 5) ly_X11_minute_11 rfl (hG _ (List.mem_of_getElem? (i := 0) rfl)) (of0_0 _) (ce0 T ad _ _) (by decide) (cx_ts C _ fl_X11_minute_67) (fun _ h => h) (v := .ref (ad 1 0 0)) rfl dX11_minute_1 ?_
  refine fw_getN C (ci := 1) (Cn := RX3) (Tc := TX3) (N := 5) (j := 1) ly_X11_minute_3 rfl (hG _ (List.mem_of_getElem? (i := 1) rfl)) (of1_0 _) (ce1 T ad _ _) (by decide) (Nst_use (cx_nst C) (w := .fieldLinkNest RX11 139 "RecipeScheduler$Kitchen" "state" "LRecipeScheduler$State;" "RecipeScheduler") 518 (by decide +kernel) rfl) (fun _ h => h) (v := .ref (ad 2 0 0)) rfl dX11_minute_4 ?_
  refine fw_getN C (ci := 6) (Cn := RX8) (Tc := TX8) (N := 15) (j := 1) ly_X11_minute_8 rfl (hG _ (List.mem_of_getElem? (i := 2) rfl)) (of2_0 _) (ce2 T ad _ _) (by decide) (Nst_use (cx_nst C) (w := .fieldLinkNest RX11 146 "RecipeScheduler$State" "minute" "I" "RecipeScheduler") 439 (by decide +kernel) rfl) (fun _ h => h) (v := .int (Y 2 0 0 1)) rfl dX11_minute_7 ?_
  exact fw_iret C hrt Y ⟨Option.some.inj h, rfl⟩ (fun t ht => ht) dX11_minute_10
end
set_option maxRecDepth 100000 in
set_option maxHeartbeats 4000000 in
theorem c_X11_minute {l : Launch} {N0 : Nat} {T : Nat → ClassId} {D : va_G} {gr : List (Nat × Nat)} {ad : Nat → Nat → Nat → Nat} {Y : Mem} {res : Int32} (hG : ∀ q ∈ [(0, 0), (1, 0), (2, 0)], q ∈ gr) (h : X11_minute Y = some res) : CI l yX11_minute wsX11_minute (Rm 0) N0 T D gr ad Y [.ref (ad 0 0 0)] (fun r Y1 => r = res ∧ Y1 = Y) :=
  fw_body (by decide +kernel) rfl (Nat.le_of_ble_eq_true rfl) (fun p e s m below meth c C hrt => w_X11_minute C hrt hG  h)
theorem ly_X3_runToBurn_3 : ∀ w ∈ u_ws RX3 TX3 5, w ∈ wsX3_runToBurn := by decide +kernel
theorem fl_X3_runToBurn_12 : Cond.fieldLink RX3 12 "RecipeScheduler$Kitchen" "state" "LRecipeScheduler$State;" ∈ wsX3_runToBurn := by decide +kernel
theorem ly_X3_runToBurn_8 : ∀ w ∈ u_ws RX8 TX8 15, w ∈ wsX3_runToBurn := by decide +kernel
noncomputable def X3_runToBurn_b16 (g0 : Nat) (a1 : Int32) : Nat → Mem → Int32 → Int32 → Option (Int32 × Mem)
  | 0, _, _, _ => none
  | n+1, Y, l3, l2 =>
  if 500 < l3 then (some ((-1), Y)) else (bd2 (X3_runMinute Y g0) <| fun r8 Y10 => gd (inb a1 14) <| if (Y10 2 g0 6 (ix a1)) ≤ l2 then (X3_runToBurn_b16 g0 a1 n Y10 (l3 + 1) l2) else (some (l3, Y10)))
noncomputable def X3_runToBurn (Y : Mem) (g0 : Nat) (a1 : Int32) : Option (Int32 × Mem) :=
  bd1 (X3_rank Y g0) <| fun Y3 => gd (inb a1 14) <| lt_ (Y3 2 g0 6 (ix a1)) <| fun v5 => X3_runToBurn_b16 g0 a1 FU Y3 1 v5
section
variable {p : Program} {l : Launch} {e : Env} {s : State} {m : MethodId} {below : List Frame} {meth : Method} {c : Code} {N0 : Nat} {T : Nat → ClassId} {D : va_G} {gr : List (Nat × Nat)} {ad : Nat → Nat → Nat → Nat}
set_option maxRecDepth 100000 in
set_option maxHeartbeats 4000000 in
theorem w_X3_runToBurn_b16 {g0 : Nat} {a1 : Int32} (C : Cx p s m [.ref (ad 1 g0 0), .int a1].toArray meth c cX3_runToBurn 4 wsX3_runToBurn RX3 N0 T D gr ad) (hrt : meth.sig.returnType = (some .int)) (hG : ∀ q ∈ ([(2, g0), (1, g0)] ++ allG), q ∈ gr) {res : Int32 × Mem} : ∀ (n : Nat) (Y : Mem) (l3 : Int32) (l2 : Int32), X3_runToBurn_b16 g0 a1  n Y l3 l2 = some res → FW p l e (Rm 4) s m [.ref (ad 1 g0 0), .int a1].toArray below meth c 4 N0 T D gr ad 0 0 (MQ below (va_Qi (fun r Y1 => (r, Y1) = res) (WB T D gr ad) (fun q => N0 ≤ q)) [.ref (ad 1 g0 0), .int a1].toArray s 0 0 (fun q => N0 ≤ q)) Y 16 [(3, .int l3), (2, .int l2), (0, .ref (ad 1 g0 0)), (1, .int a1)] [] := by
  intro n
  induction n with
  | zero =>
    intro Y l3 l2 h
    unfold X3_runToBurn_b16 at h
    cases h
  | succ n ih =>
    intro Y l3 l2 h
    unfold X3_runToBurn_b16 at h
    refine fw_iload_n C dX3_runToBurn_16 rfl 0 rfl ?_
    refine fw_sipush C dX3_runToBurn_17 (v := 500) rfl ?_
    refine fw_icmp_gt C dX3_runToBurn_20 (tgt := 49) rfl (fun c7 => ?_) (fun c7 => ?_)
    · have h := ite_t c7 h
      refine fw_iconst C dX3_runToBurn_49 (v := (-1)) rfl ?_
      exact fw_iret C hrt Y (Option.some.inj h) (fun t ht => ht) dX3_runToBurn_50
    · have h := ite_f c7 h
      refine fw_aload_n C dX3_runToBurn_23 rfl 2 rfl ?_
      obtain ⟨r8, Y10, q9, h⟩ := bd2_some h
      refine fw_callVi C (ci := 1) (Cn := RX3) (Tc := TX3) (N := 5) (As := []) (c_X3_runMinute (gac (hG _ (List.mem_of_getElem? (i := 1) rfl)) (gac (hG _ (List.mem_of_getElem? (i := 0) rfl)) (fun q hq => hG q (List.mem_append_right _ hq)))) q9) (cwV 0 (cx_ts C) gX3_runToBurn_X3_runMinute rfl rfl rfl (by decide +kernel) ⟨Nat.le_of_ble_eq_true rfl, Nat.le_of_ble_eq_true rfl⟩) rfl (hG _ (List.mem_of_getElem? (i := 1) rfl)) (of1_0 _) (ce1 T ad _ _) rfl (st := []) rfl (Nat.le_of_ble_eq_true rfl) ⟨Nat.le_refl 0, Nat.le_refl 0⟩ dX3_runToBurn_24 ?_
      intro r_ Y_ e_
      obtain ⟨rfl, rfl⟩ := Prod.mk.inj e_
      refine fw_pop C dX3_runToBurn_27 rfl ?_
      refine fw_aload_n C dX3_runToBurn_28 rfl 2 rfl ?_
      refine fw_get C (ci := 1) (Cn := RX3) (Tc := TX3) (N := 5) (j := 1) ly_X3_runToBurn_3 rfl (hG _ (List.mem_of_getElem? (i := 1) rfl)) (of1_0 _) (ce1 T ad _ _) (by decide) (cx_ts C _ fl_X3_runToBurn_12) (fun _ h => h) (v := .ref (ad 2 g0 0)) rfl dX3_runToBurn_29 ?_
      refine fw_getN C (ci := 6) (Cn := RX8) (Tc := TX8) (N := 15) (j := 14) ly_X3_runToBurn_8 rfl (hG _ (List.mem_of_getElem? (i := 0) rfl)) (of2_0 _) (ce2 T ad _ _) (by decide) (Nst_use (cx_nst C) (w := .fieldLinkNest RX3 56 "RecipeScheduler$State" "burns" "[I" "RecipeScheduler") 474 (by decide +kernel) rfl) (fun _ h => h) (v := .ref (ad 2 g0 6)) rfl dX3_runToBurn_32 ?_
      refine fw_iload_n C dX3_runToBurn_35 rfl 3 rfl ?_
      obtain ⟨b11, h⟩ := gd_some h
      refine fw_iald2 C (hG _ (List.mem_of_getElem? (i := 0) rfl)) (of2_6 _) (ca2_6 T ad _ _) b11 (Nat.le_of_ble_eq_true rfl) dX3_runToBurn_36 ?_
      refine fw_iload_n C dX3_runToBurn_37 rfl 1 rfl ?_
      refine fw_icmp_le C dX3_runToBurn_38 (tgt := 43) rfl (fun c12 => ?_) (fun c12 => ?_)
      · have h := ite_t c12 h
        refine fw_iinc C dX3_runToBurn_43 (kk := 0) (v := l3 + 1) rfl rfl (by decide) (L' := [(3, .int (l3 + 1)), (2, .int l2), (0, .ref (ad 1 g0 0)), (1, .int a1)]) rfl ?_
        refine fw_goto C dX3_runToBurn_46 (tgt := 16) rfl ?_
        exact ih _ _ _ h
      · have h := ite_f c12 h
        refine fw_iload_n C dX3_runToBurn_41 rfl 0 rfl ?_
        exact fw_iret C hrt Y10 (Option.some.inj h) (fun t ht => ht) dX3_runToBurn_42
set_option maxRecDepth 100000 in
set_option maxHeartbeats 4000000 in
theorem w_X3_runToBurn {Y : Mem} {g0 : Nat} {a1 : Int32} (C : Cx p s m [.ref (ad 1 g0 0), .int a1].toArray meth c cX3_runToBurn 4 wsX3_runToBurn RX3 N0 T D gr ad) (hrt : meth.sig.returnType = (some .int)) (hG : ∀ q ∈ ([(2, g0), (1, g0)] ++ allG), q ∈ gr) {res : Int32 × Mem} (h : X3_runToBurn Y g0 a1 = some res) : FW p l e (Rm 4) s m [.ref (ad 1 g0 0), .int a1].toArray below meth c 4 N0 T D gr ad 0 0 (MQ below (va_Qi (fun r Y1 => (r, Y1) = res) (WB T D gr ad) (fun q => N0 ≤ q)) [.ref (ad 1 g0 0), .int a1].toArray s 0 0 (fun q => N0 ≤ q)) Y 0 [(0, .ref (ad 1 g0 0)), (1, .int a1)] [] := by
  unfold X3_runToBurn at h
  refine fw_aload_n C dX3_runToBurn_0 rfl 0 rfl ?_
  obtain ⟨Y3, q2, h⟩ := bd1_some h
  refine fw_callVv C (ci := 1) (Cn := RX3) (Tc := TX3) (N := 5) (As := []) (c_X3_rank (gac (hG _ (List.mem_of_getElem? (i := 1) rfl)) (gac (hG _ (List.mem_of_getElem? (i := 0) rfl)) (fun q hq => hG q (List.mem_append_right _ hq)))) q2) (cwV 0 (cx_ts C) gX3_runToBurn_X3_rank rfl rfl rfl (by decide +kernel) ⟨Nat.le_of_ble_eq_true rfl, Nat.le_of_ble_eq_true rfl⟩) rfl (hG _ (List.mem_of_getElem? (i := 1) rfl)) (of1_0 _) (ce1 T ad _ _) rfl (st := []) rfl (Nat.le_of_ble_eq_true rfl) ⟨Nat.le_refl 0, Nat.le_refl 0⟩ dX3_runToBurn_1 ?_
  rintro _ rfl
  refine fw_aload_n C dX3_runToBurn_4 rfl 0 rfl ?_
  refine fw_get C (ci := 1) (Cn := RX3) (Tc := TX3) (N := 5) (j := 1) ly_X3_runToBurn_3 rfl (hG _ (List.mem_of_getElem? (i := 1) rfl)) (of1_0 _) (ce1 T ad _ _) (by decide) (cx_ts C _ fl_X3_runToBurn_12) (fun _ h => h) (v := .ref (ad 2 g0 0)) rfl dX3_runToBurn_5 ?_
  refine fw_getN C (ci := 6) (Cn := RX8) (Tc := TX8) (N := 15) (j := 14) ly_X3_runToBurn_8 rfl (hG _ (List.mem_of_getElem? (i := 0) rfl)) (of2_0 _) (ce2 T ad _ _) (by decide) (Nst_use (cx_nst C) (w := .fieldLinkNest RX3 56 "RecipeScheduler$State" "burns" "[I" "RecipeScheduler") 474 (by decide +kernel) rfl) (fun _ h => h) (v := .ref (ad 2 g0 6)) rfl dX3_runToBurn_8 ?_
  refine fw_iload_n C dX3_runToBurn_11 rfl 1 rfl ?_
  obtain ⟨b4, h⟩ := gd_some h
  refine fw_iald2 C (hG _ (List.mem_of_getElem? (i := 0) rfl)) (of2_6 _) (ca2_6 T ad _ _) b4 (Nat.le_of_ble_eq_true rfl) dX3_runToBurn_12 ?_
  obtain ⟨v5, e6, h⟩ := lt_some h
  refine fw_top (v' := .int v5) (by rw [e6]) ?_
  refine fw_istore_n C dX3_runToBurn_13 rfl (by decide) (L' := [(2, .int v5), (0, .ref (ad 1 g0 0)), (1, .int a1)]) rfl ?_
  refine fw_iconst C dX3_runToBurn_14 (v := 1) rfl ?_
  refine fw_istore_n C dX3_runToBurn_15 rfl (by decide) (L' := [(3, .int 1), (2, .int v5), (0, .ref (ad 1 g0 0)), (1, .int a1)]) rfl ?_
  exact w_X3_runToBurn_b16 C hrt hG   _ _ _ _ h
end
set_option maxRecDepth 100000 in
set_option maxHeartbeats 4000000 in
theorem c_X3_runToBurn {l : Launch} {N0 : Nat} {T : Nat → ClassId} {D : va_G} {gr : List (Nat × Nat)} {ad : Nat → Nat → Nat → Nat} {Y : Mem} {g0 : Nat} {a1 : Int32} {res : Int32 × Mem} (hG : ∀ q ∈ ([(2, g0), (1, g0)] ++ allG), q ∈ gr) (h : X3_runToBurn Y g0 a1 = some res) : CI l yX3_runToBurn wsX3_runToBurn (Rm 4) N0 T D gr ad Y [.ref (ad 1 g0 0), .int a1] (fun r Y1 => (r, Y1) = res) :=
  fw_body (by decide +kernel) rfl (Nat.le_of_ble_eq_true rfl) (fun p e s m below meth c C hrt => w_X3_runToBurn C hrt hG  h)
theorem ly_X11_minutesToBurn_11 : ∀ w ∈ u_ws RX11 TX11 11, w ∈ wsX11_minutesToBurn := by decide +kernel
theorem fl_X11_minutesToBurn_71 : Cond.fieldLink RX11 71 "RecipeScheduler" "forecast" "LRecipeScheduler$Kitchen;" ∈ wsX11_minutesToBurn := by decide +kernel
theorem fl_X11_minutesToBurn_67 : Cond.fieldLink RX11 67 "RecipeScheduler" "now" "LRecipeScheduler$Kitchen;" ∈ wsX11_minutesToBurn := by decide +kernel
noncomputable def X11_minutesToBurn (Y : Mem) (a1 : Int32) : Option ((Nat × Mem) ⊕ (Int32 × Mem)) :=
  bdxv (X11_requireStep Y a1) <| fun Y4 => bd1 (X3_copyFrom Y4 1 0) <| fun Y9 => bd2 (X3_runToBurn Y9 1 a1) <| fun r10 Y12 => some (.inr (r10, Y12))
section
variable {p : Program} {l : Launch} {e : Env} {s : State} {m : MethodId} {below : List Frame} {meth : Method} {c : Code} {N0 : Nat} {T : Nat → ClassId} {D : va_G} {gr : List (Nat × Nat)} {ad : Nat → Nat → Nat → Nat}
set_option maxRecDepth 100000 in
set_option maxHeartbeats 4000000 in
theorem w_X11_minutesToBurn {Y : Mem} {a1 : Int32} (C : Cx p s m [.ref (ad 0 0 0), .int a1].toArray meth c cX11_minutesToBurn 2 wsX11_minutesToBurn RX11 N0 T D gr ad) (hrt : meth.sig.returnType = (some .int)) (hG : ∀ q ∈ ([(1, 0), (0, 0), (2, 0), (2, 1), (1, 1)] ++ allG), q ∈ gr) (hl : l.stackTraces = false) (hX : ∀ x ∈ c.exceptionTable.toList, False) {res : (Nat × Mem) ⊕ (Int32 × Mem)} (h : X11_minutesToBurn Y a1 = some res) : FW p l e (Rx 7 1) s m [.ref (ad 0 0 0), .int a1].toArray below meth c 2 N0 T D gr ad 0 0 (vx_MQ below (va_Qi (fun r Y1 => Sum.inr (r, Y1) = res) (WB T D gr ad) (fun q => N0 ≤ q)) (vx_X (fun u => Sum.inl u = res) (XB T D gr ad) (fun q => N0 ≤ q)) [.ref (ad 0 0 0), .int a1].toArray s 1 6 (fun q => N0 ≤ q)) Y 0 [(0, .ref (ad 0 0 0)), (1, .int a1)] [] := by
  unfold X11_minutesToBurn at h
  refine fw_aload_n C dX11_minutesToBurn_0 rfl 0 rfl ?_
  refine fw_iload_n C dX11_minutesToBurn_1 rfl 1 rfl ?_
  rcases bdxv_some h with ⟨x5, q2, e6⟩ | ⟨Y4, q2, h⟩
  · exact fw_callXVv_l C (ci := 9) (Cn := RX11) (Tc := TX11) (N := 11) (As := [.int a1]) (c_X11_requireStep hl (gac (hG _ (List.mem_of_getElem? (i := 1) rfl)) (gac (hG _ (List.mem_of_getElem? (i := 0) rfl)) (fun q hq => hG q (List.mem_append_right _ hq)))) q2) (cwV 1 (cx_ts C) gX11_minutesToBurn_X11_requireStep rfl rfl rfl (by decide +kernel) ⟨Nat.le_of_ble_eq_true rfl, Nat.le_of_ble_eq_true rfl⟩) rfl (hG _ (List.mem_of_getElem? (i := 1) rfl)) (of0_0 _) (ce0 T ad _ _) rfl (st := []) rfl (Nat.le_of_ble_eq_true rfl) ⟨Nat.le_of_ble_eq_true rfl, Nat.le_of_ble_eq_true rfl⟩ dX11_minutesToBurn_2 hX e6 (Nat.le_of_ble_eq_true rfl) (Nat.le_of_ble_eq_true rfl)
  refine fw_callXVv_r C (ci := 9) (Cn := RX11) (Tc := TX11) (N := 11) (As := [.int a1]) (c_X11_requireStep hl (gac (hG _ (List.mem_of_getElem? (i := 1) rfl)) (gac (hG _ (List.mem_of_getElem? (i := 0) rfl)) (fun q hq => hG q (List.mem_append_right _ hq)))) q2) (cwV 1 (cx_ts C) gX11_minutesToBurn_X11_requireStep rfl rfl rfl (by decide +kernel) ⟨Nat.le_of_ble_eq_true rfl, Nat.le_of_ble_eq_true rfl⟩) rfl (hG _ (List.mem_of_getElem? (i := 1) rfl)) (of0_0 _) (ce0 T ad _ _) rfl (st := []) rfl (Nat.le_of_ble_eq_true rfl) ⟨Nat.le_of_ble_eq_true rfl, Nat.le_of_ble_eq_true rfl⟩ dX11_minutesToBurn_2 ?_
  refine fw_aload_n C dX11_minutesToBurn_5 rfl 0 rfl ?_
  refine fw_get C (ci := 9) (Cn := RX11) (Tc := TX11) (N := 11) (j := 6) ly_X11_minutesToBurn_11 rfl (hG _ (List.mem_of_getElem? (i := 1) rfl)) (of0_0 _) (ce0 T ad _ _) (by decide) (cx_ts C _ fl_X11_minutesToBurn_71) (fun _ h => h) (v := .ref (ad 1 1 0)) rfl dX11_minutesToBurn_6 ?_
  refine fw_aload_n C dX11_minutesToBurn_9 rfl 0 rfl ?_
  refine fw_get C (ci := 9) (Cn := RX11) (Tc := TX11) (N := 11) (j := 5) ly_X11_minutesToBurn_11 rfl (hG _ (List.mem_of_getElem? (i := 1) rfl)) (of0_0 _) (ce0 T ad _ _) (by decide) (cx_ts C _ fl_X11_minutesToBurn_67) (fun _ h => h) (v := .ref (ad 1 0 0)) rfl dX11_minutesToBurn_10 ?_
  obtain ⟨Y9, q8, h⟩ := bd1_some h
  refine fw_callVv C (ci := 1) (Cn := RX3) (Tc := TX3) (N := 5) (As := [.ref (ad 1 0 0)]) (c_X3_copyFrom (gac (hG _ (List.mem_of_getElem? (i := 0) rfl)) (gac (hG _ (List.mem_of_getElem? (i := 4) rfl)) (gac (hG _ (List.mem_of_getElem? (i := 3) rfl)) (gac (hG _ (List.mem_of_getElem? (i := 2) rfl)) (fun q hq => hG q (List.mem_append_right _ hq)))))) q8) (cwV 1 (cx_ts C) gX11_minutesToBurn_X3_copyFrom rfl rfl rfl (by decide +kernel) ⟨Nat.le_of_ble_eq_true rfl, Nat.le_of_ble_eq_true rfl⟩) rfl (hG _ (List.mem_of_getElem? (i := 4) rfl)) (of1_0 _) (ce1 T ad _ _) rfl (st := []) rfl (Nat.le_of_ble_eq_true rfl) ⟨Nat.le_refl 0, Nat.le_refl 0⟩ dX11_minutesToBurn_13 ?_
  rintro _ rfl
  refine fw_aload_n C dX11_minutesToBurn_16 rfl 0 rfl ?_
  refine fw_get C (ci := 9) (Cn := RX11) (Tc := TX11) (N := 11) (j := 6) ly_X11_minutesToBurn_11 rfl (hG _ (List.mem_of_getElem? (i := 1) rfl)) (of0_0 _) (ce0 T ad _ _) (by decide) (cx_ts C _ fl_X11_minutesToBurn_71) (fun _ h => h) (v := .ref (ad 1 1 0)) rfl dX11_minutesToBurn_17 ?_
  refine fw_iload_n C dX11_minutesToBurn_20 rfl 1 rfl ?_
  obtain ⟨r10, Y12, q11, h⟩ := bd2_some h
  refine fw_callVi C (ci := 1) (Cn := RX3) (Tc := TX3) (N := 5) (As := [.int a1]) (c_X3_runToBurn (gac (hG _ (List.mem_of_getElem? (i := 3) rfl)) (gac (hG _ (List.mem_of_getElem? (i := 4) rfl)) (fun q hq => hG q (List.mem_append_right _ hq)))) q11) (cwV 1 (cx_ts C) gX11_minutesToBurn_X3_runToBurn rfl rfl rfl (by decide +kernel) ⟨Nat.le_of_ble_eq_true rfl, Nat.le_of_ble_eq_true rfl⟩) rfl (hG _ (List.mem_of_getElem? (i := 4) rfl)) (of1_0 _) (ce1 T ad _ _) rfl (st := []) rfl (Nat.le_of_ble_eq_true rfl) ⟨Nat.le_refl 0, Nat.le_refl 0⟩ dX11_minutesToBurn_21 ?_
  intro r_ Y_ e_
  obtain ⟨rfl, rfl⟩ := Prod.mk.inj e_
  refine fw_xr (Nat.le_of_ble_eq_true rfl) (Nat.le_of_ble_eq_true rfl) ?_
  exact fw_iret C hrt Y12 (Option.some.inj h) (fun t ht => ht) dX11_minutesToBurn_24
end
set_option maxRecDepth 100000 in
set_option maxHeartbeats 4000000 in
theorem c_X11_minutesToBurn {l : Launch} {N0 : Nat} {T : Nat → ClassId} {D : va_G} {gr : List (Nat × Nat)} {ad : Nat → Nat → Nat → Nat} {Y : Mem} {a1 : Int32} {res : (Nat × Mem) ⊕ (Int32 × Mem)} (hl : l.stackTraces = false) (hG : ∀ q ∈ ([(1, 0), (0, 0), (2, 0), (2, 1), (1, 1)] ++ allG), q ∈ gr) (h : X11_minutesToBurn Y a1 = some res) : CXi l yX11_minutesToBurn wsX11_minutesToBurn (Rx 7 1) N0 T D gr ad Y [.ref (ad 0 0 0), .int a1] 1 res :=
  fw_xbody (by decide +kernel) rfl (Nat.le_of_ble_eq_true rfl) (fun p e s m below meth c C hrt hX => w_X11_minutesToBurn C hrt hG hl hX h)
theorem ly_X11_minutesToFinish_11 : ∀ w ∈ u_ws RX11 TX11 11, w ∈ wsX11_minutesToFinish := by decide +kernel
theorem fl_X11_minutesToFinish_71 : Cond.fieldLink RX11 71 "RecipeScheduler" "forecast" "LRecipeScheduler$Kitchen;" ∈ wsX11_minutesToFinish := by decide +kernel
theorem fl_X11_minutesToFinish_67 : Cond.fieldLink RX11 67 "RecipeScheduler" "now" "LRecipeScheduler$Kitchen;" ∈ wsX11_minutesToFinish := by decide +kernel
noncomputable def X11_minutesToFinish (Y : Mem) : Option (Int32 × Mem) :=
  bd1 (X3_copyFrom Y 1 0) <| fun Y3 => bd2 (X3_runToFinish Y3 1) <| fun r4 Y6 => some (r4, Y6)
section
variable {p : Program} {l : Launch} {e : Env} {s : State} {m : MethodId} {below : List Frame} {meth : Method} {c : Code} {N0 : Nat} {T : Nat → ClassId} {D : va_G} {gr : List (Nat × Nat)} {ad : Nat → Nat → Nat → Nat}
set_option maxRecDepth 100000 in
set_option maxHeartbeats 4000000 in
theorem w_X11_minutesToFinish {Y : Mem} (C : Cx p s m [.ref (ad 0 0 0)].toArray meth c cX11_minutesToFinish 1 wsX11_minutesToFinish RX11 N0 T D gr ad) (hrt : meth.sig.returnType = (some .int)) (hG : ∀ q ∈ ([(0, 0), (2, 0), (2, 1), (1, 1), (1, 0)] ++ allG), q ∈ gr) {res : Int32 × Mem} (h : X11_minutesToFinish Y = some res) : FW p l e (Rm 5) s m [.ref (ad 0 0 0)].toArray below meth c 1 N0 T D gr ad 0 0 (MQ below (va_Qi (fun r Y1 => (r, Y1) = res) (WB T D gr ad) (fun q => N0 ≤ q)) [.ref (ad 0 0 0)].toArray s 0 0 (fun q => N0 ≤ q)) Y 0 [(0, .ref (ad 0 0 0))] [] := by
  unfold X11_minutesToFinish at h
  refine fw_aload_n C dX11_minutesToFinish_0 rfl 0 rfl ?_
  refine fw_get C (ci := 9) (Cn := RX11) (Tc := TX11) (N := 11) (j := 6) ly_X11_minutesToFinish_11 rfl (hG _ (List.mem_of_getElem? (i := 0) rfl)) (of0_0 _) (ce0 T ad _ _) (by decide) (cx_ts C _ fl_X11_minutesToFinish_71) (fun _ h => h) (v := .ref (ad 1 1 0)) rfl dX11_minutesToFinish_1 ?_
  refine fw_aload_n C dX11_minutesToFinish_4 rfl 0 rfl ?_
  refine fw_get C (ci := 9) (Cn := RX11) (Tc := TX11) (N := 11) (j := 5) ly_X11_minutesToFinish_11 rfl (hG _ (List.mem_of_getElem? (i := 0) rfl)) (of0_0 _) (ce0 T ad _ _) (by decide) (cx_ts C _ fl_X11_minutesToFinish_67) (fun _ h => h) (v := .ref (ad 1 0 0)) rfl dX11_minutesToFinish_5 ?_
  obtain ⟨Y3, q2, h⟩ := bd1_some h
  refine fw_callVv C (ci := 1) (Cn := RX3) (Tc := TX3) (N := 5) (As := [.ref (ad 1 0 0)]) (c_X3_copyFrom (gac (hG _ (List.mem_of_getElem? (i := 4) rfl)) (gac (hG _ (List.mem_of_getElem? (i := 3) rfl)) (gac (hG _ (List.mem_of_getElem? (i := 2) rfl)) (gac (hG _ (List.mem_of_getElem? (i := 1) rfl)) (fun q hq => hG q (List.mem_append_right _ hq)))))) q2) (cwV 1 (cx_ts C) gX11_minutesToFinish_X3_copyFrom rfl rfl rfl (by decide +kernel) ⟨Nat.le_of_ble_eq_true rfl, Nat.le_of_ble_eq_true rfl⟩) rfl (hG _ (List.mem_of_getElem? (i := 3) rfl)) (of1_0 _) (ce1 T ad _ _) rfl (st := []) rfl (Nat.le_of_ble_eq_true rfl) ⟨Nat.le_refl 0, Nat.le_refl 0⟩ dX11_minutesToFinish_8 ?_
  rintro _ rfl
  refine fw_aload_n C dX11_minutesToFinish_11 rfl 0 rfl ?_
  refine fw_get C (ci := 9) (Cn := RX11) (Tc := TX11) (N := 11) (j := 6) ly_X11_minutesToFinish_11 rfl (hG _ (List.mem_of_getElem? (i := 0) rfl)) (of0_0 _) (ce0 T ad _ _) (by decide) (cx_ts C _ fl_X11_minutesToFinish_71) (fun _ h => h) (v := .ref (ad 1 1 0)) rfl dX11_minutesToFinish_12 ?_
  obtain ⟨r4, Y6, q5, h⟩ := bd2_some h
  refine fw_callVi C (ci := 1) (Cn := RX3) (Tc := TX3) (N := 5) (As := []) (c_X3_runToFinish (gac (hG _ (List.mem_of_getElem? (i := 2) rfl)) (gac (hG _ (List.mem_of_getElem? (i := 3) rfl)) (fun q hq => hG q (List.mem_append_right _ hq)))) q5) (cwV 0 (cx_ts C) gX11_minutesToFinish_X3_runToFinish rfl rfl rfl (by decide +kernel) ⟨Nat.le_of_ble_eq_true rfl, Nat.le_of_ble_eq_true rfl⟩) rfl (hG _ (List.mem_of_getElem? (i := 3) rfl)) (of1_0 _) (ce1 T ad _ _) rfl (st := []) rfl (Nat.le_of_ble_eq_true rfl) ⟨Nat.le_refl 0, Nat.le_refl 0⟩ dX11_minutesToFinish_15 ?_
  intro r_ Y_ e_
  obtain ⟨rfl, rfl⟩ := Prod.mk.inj e_
  exact fw_iret C hrt Y6 (Option.some.inj h) (fun t ht => ht) dX11_minutesToFinish_18
end
set_option maxRecDepth 100000 in
set_option maxHeartbeats 4000000 in
theorem c_X11_minutesToFinish {l : Launch} {N0 : Nat} {T : Nat → ClassId} {D : va_G} {gr : List (Nat × Nat)} {ad : Nat → Nat → Nat → Nat} {Y : Mem} {res : Int32 × Mem} (hG : ∀ q ∈ ([(0, 0), (2, 0), (2, 1), (1, 1), (1, 0)] ++ allG), q ∈ gr) (h : X11_minutesToFinish Y = some res) : CI l yX11_minutesToFinish wsX11_minutesToFinish (Rm 5) N0 T D gr ad Y [.ref (ad 0 0 0)] (fun r Y1 => (r, Y1) = res) :=
  fw_body (by decide +kernel) rfl (Nat.le_of_ble_eq_true rfl) (fun p e s m below meth c C hrt => w_X11_minutesToFinish C hrt hG  h)
theorem th_X11_requireCooks_8 : Cond.classLink RX11 109 "java/lang/IllegalArgumentException" ∈ wsX11_requireCooks ∧ Cond.initialized "java/lang/IllegalArgumentException" ∈ wsX11_requireCooks ∧ ∀ w ∈ vx_atS RX11 113 "java/lang/IllegalArgumentException" ["java/lang/RuntimeException", "java/lang/Exception"], w ∈ wsX11_requireCooks := by decide +kernel
noncomputable def X11_requireCooks (Y : Mem) (a1 : Int32) : Option ((Nat × Mem) ⊕ Mem) :=
  bd1 (X11_isCookCount Y a1) <| fun r1 => if r1 = 0 then (some (.inl (2, Y))) else (some (.inr Y))
section
variable {p : Program} {l : Launch} {e : Env} {s : State} {m : MethodId} {below : List Frame} {meth : Method} {c : Code} {N0 : Nat} {T : Nat → ClassId} {D : va_G} {gr : List (Nat × Nat)} {ad : Nat → Nat → Nat → Nat}
set_option maxRecDepth 100000 in
set_option maxHeartbeats 4000000 in
theorem w_X11_requireCooks {Y : Mem} {a1 : Int32} (C : Cx p s m [.ref (ad 0 0 0), .int a1].toArray meth c cX11_requireCooks 2 wsX11_requireCooks RX11 N0 T D gr ad) (hrt : meth.sig.returnType = none) (hG : ∀ q ∈ [(0, 0)], q ∈ gr) (hl : l.stackTraces = false) (hX : ∀ x ∈ c.exceptionTable.toList, False) {res : (Nat × Mem) ⊕ Mem} (h : X11_requireCooks Y a1 = some res) : FW p l e (Rx 6 1) s m [.ref (ad 0 0 0), .int a1].toArray below meth c 2 N0 T D gr ad 0 0 (vx_MQ below (va_Qv (fun Y1 => Sum.inr Y1 = res) (WB T D gr ad) (fun q => N0 ≤ q)) (vx_X (fun u => Sum.inl u = res) (XB T D gr ad) (fun q => N0 ≤ q)) [.ref (ad 0 0 0), .int a1].toArray s 1 6 (fun q => N0 ≤ q)) Y 0 [(0, .ref (ad 0 0 0)), (1, .int a1)] [] := by
  unfold X11_requireCooks at h
  refine fw_aload_n C dX11_requireCooks_0 rfl 0 rfl ?_
  refine fw_iload_n C dX11_requireCooks_1 rfl 1 rfl ?_
  obtain ⟨r1, q2, h⟩ := bd1_some h
  refine fw_callVi C (ci := 9) (Cn := RX11) (Tc := TX11) (N := 11) (As := [.int a1]) (c_X11_isCookCount ga0 q2) (cwV 1 (cx_ts C) gX11_requireCooks_X11_isCookCount rfl rfl rfl (by decide +kernel) ⟨Nat.le_of_ble_eq_true rfl, Nat.le_of_ble_eq_true rfl⟩) rfl (hG _ (List.mem_of_getElem? (i := 0) rfl)) (of0_0 _) (ce0 T ad _ _) rfl (st := []) rfl (Nat.le_of_ble_eq_true rfl) ⟨Nat.le_refl 0, Nat.le_refl 0⟩ dX11_requireCooks_2 ?_
  rintro _ _ ⟨rfl, rfl⟩
  refine fw_if_ne C dX11_requireCooks_5 (tgt := 19) rfl (fun c3 => ?_) (fun c3 => ?_)
  · have h := ite_f c3 h
    refine fw_xr (Nat.le_of_ble_eq_true rfl) (Nat.le_of_ble_eq_true rfl) ?_
    exact fw_vret C hrt Y (Option.some.inj h) (fun t ht => ht) dX11_requireCooks_19
  · have h := ite_t c3 h
    exact fw_throwSW C hl hX (cls := "java/lang/IllegalArgumentException") (names := ["java/lang/RuntimeException", "java/lang/Exception"]) 2 rfl (by decide +kernel) (by decide +kernel) (cx_ts C _ th_X11_requireCooks_8.1) (cx_ts C _ th_X11_requireCooks_8.2.1) ((cx_st C).2.1 _ (List.mem_of_getElem? (i := 17) rfl)) (fun w hw => cx_ts C _ (th_X11_requireCooks_8.2.2 w hw)) tg_2_113_109 dX11_requireCooks_8 dX11_requireCooks_11 dX11_requireCooks_12 dX11_requireCooks_15 dX11_requireCooks_18 (Nat.le_of_ble_eq_true rfl) (Nat.le_of_ble_eq_true rfl) (Nat.le_of_ble_eq_true rfl) (Nat.le_of_ble_eq_true rfl) (Nat.le_of_ble_eq_true rfl) (Nat.le_of_ble_eq_true rfl) (Option.some.inj h)
end
set_option maxRecDepth 100000 in
set_option maxHeartbeats 4000000 in
theorem c_X11_requireCooks {l : Launch} {N0 : Nat} {T : Nat → ClassId} {D : va_G} {gr : List (Nat × Nat)} {ad : Nat → Nat → Nat → Nat} {Y : Mem} {a1 : Int32} {res : (Nat × Mem) ⊕ Mem} (hl : l.stackTraces = false) (hG : ∀ q ∈ [(0, 0)], q ∈ gr) (h : X11_requireCooks Y a1 = some res) : CXv l yX11_requireCooks wsX11_requireCooks (Rx 6 1) N0 T D gr ad Y [.ref (ad 0 0 0), .int a1] 1 res :=
  fw_xbody (by decide +kernel) rfl (Nat.le_of_ble_eq_true rfl) (fun p e s m below meth c C hrt hX => w_X11_requireCooks C hrt hG hl hX h)
noncomputable def X11_minutesWithCooks (Y : Mem) (a1 : Int32) : Option ((Nat × Mem) ⊕ (Int32 × Mem)) :=
  bdxv (X11_requireCooks Y a1) <| fun Y4 => bd2 (X11_finishWithCooks Y4 a1) <| fun r7 Y9 => some (.inr (r7, Y9))
section
variable {p : Program} {l : Launch} {e : Env} {s : State} {m : MethodId} {below : List Frame} {meth : Method} {c : Code} {N0 : Nat} {T : Nat → ClassId} {D : va_G} {gr : List (Nat × Nat)} {ad : Nat → Nat → Nat → Nat}
set_option maxRecDepth 100000 in
set_option maxHeartbeats 4000000 in
theorem w_X11_minutesWithCooks {Y : Mem} {a1 : Int32} (C : Cx p s m [.ref (ad 0 0 0), .int a1].toArray meth c cX11_minutesWithCooks 2 wsX11_minutesWithCooks RX11 N0 T D gr ad) (hrt : meth.sig.returnType = (some .int)) (hG : ∀ q ∈ ([(0, 0), (1, 0), (1, 1), (2, 1), (2, 0)] ++ allG), q ∈ gr) (hl : l.stackTraces = false) (hX : ∀ x ∈ c.exceptionTable.toList, False) {res : (Nat × Mem) ⊕ (Int32 × Mem)} (h : X11_minutesWithCooks Y a1 = some res) : FW p l e (Rx 7 1) s m [.ref (ad 0 0 0), .int a1].toArray below meth c 2 N0 T D gr ad 0 0 (vx_MQ below (va_Qi (fun r Y1 => Sum.inr (r, Y1) = res) (WB T D gr ad) (fun q => N0 ≤ q)) (vx_X (fun u => Sum.inl u = res) (XB T D gr ad) (fun q => N0 ≤ q)) [.ref (ad 0 0 0), .int a1].toArray s 1 6 (fun q => N0 ≤ q)) Y 0 [(0, .ref (ad 0 0 0)), (1, .int a1)] [] := by
  unfold X11_minutesWithCooks at h
  refine fw_aload_n C dX11_minutesWithCooks_0 rfl 0 rfl ?_
  refine fw_iload_n C dX11_minutesWithCooks_1 rfl 1 rfl ?_
  rcases bdxv_some h with ⟨x5, q2, e6⟩ | ⟨Y4, q2, h⟩
  · exact fw_callXVv_l C (ci := 9) (Cn := RX11) (Tc := TX11) (N := 11) (As := [.int a1]) (c_X11_requireCooks hl (gac (hG _ (List.mem_of_getElem? (i := 0) rfl)) ga0) q2) (cwV 1 (cx_ts C) gX11_minutesWithCooks_X11_requireCooks rfl rfl rfl (by decide +kernel) ⟨Nat.le_of_ble_eq_true rfl, Nat.le_of_ble_eq_true rfl⟩) rfl (hG _ (List.mem_of_getElem? (i := 0) rfl)) (of0_0 _) (ce0 T ad _ _) rfl (st := []) rfl (Nat.le_of_ble_eq_true rfl) ⟨Nat.le_of_ble_eq_true rfl, Nat.le_of_ble_eq_true rfl⟩ dX11_minutesWithCooks_2 hX e6 (Nat.le_of_ble_eq_true rfl) (Nat.le_of_ble_eq_true rfl)
  refine fw_callXVv_r C (ci := 9) (Cn := RX11) (Tc := TX11) (N := 11) (As := [.int a1]) (c_X11_requireCooks hl (gac (hG _ (List.mem_of_getElem? (i := 0) rfl)) ga0) q2) (cwV 1 (cx_ts C) gX11_minutesWithCooks_X11_requireCooks rfl rfl rfl (by decide +kernel) ⟨Nat.le_of_ble_eq_true rfl, Nat.le_of_ble_eq_true rfl⟩) rfl (hG _ (List.mem_of_getElem? (i := 0) rfl)) (of0_0 _) (ce0 T ad _ _) rfl (st := []) rfl (Nat.le_of_ble_eq_true rfl) ⟨Nat.le_of_ble_eq_true rfl, Nat.le_of_ble_eq_true rfl⟩ dX11_minutesWithCooks_2 ?_
  refine fw_aload_n C dX11_minutesWithCooks_5 rfl 0 rfl ?_
  refine fw_iload_n C dX11_minutesWithCooks_6 rfl 1 rfl ?_
  obtain ⟨r7, Y9, q8, h⟩ := bd2_some h
  refine fw_callVi C (ci := 9) (Cn := RX11) (Tc := TX11) (N := 11) (As := [.int a1]) (c_X11_finishWithCooks (gac (hG _ (List.mem_of_getElem? (i := 0) rfl)) (gac (hG _ (List.mem_of_getElem? (i := 4) rfl)) (gac (hG _ (List.mem_of_getElem? (i := 3) rfl)) (gac (hG _ (List.mem_of_getElem? (i := 2) rfl)) (gac (hG _ (List.mem_of_getElem? (i := 1) rfl)) (fun q hq => hG q (List.mem_append_right _ hq))))))) q8) (cwV 1 (cx_ts C) gX11_minutesWithCooks_X11_finishWithCooks rfl rfl rfl (by decide +kernel) ⟨Nat.le_of_ble_eq_true rfl, Nat.le_of_ble_eq_true rfl⟩) rfl (hG _ (List.mem_of_getElem? (i := 0) rfl)) (of0_0 _) (ce0 T ad _ _) rfl (st := []) rfl (Nat.le_of_ble_eq_true rfl) ⟨Nat.le_refl 0, Nat.le_refl 0⟩ dX11_minutesWithCooks_7 ?_
  intro r_ Y_ e_
  obtain ⟨rfl, rfl⟩ := Prod.mk.inj e_
  refine fw_xr (Nat.le_of_ble_eq_true rfl) (Nat.le_of_ble_eq_true rfl) ?_
  exact fw_iret C hrt Y9 (Option.some.inj h) (fun t ht => ht) dX11_minutesWithCooks_10
end
set_option maxRecDepth 100000 in
set_option maxHeartbeats 4000000 in
theorem c_X11_minutesWithCooks {l : Launch} {N0 : Nat} {T : Nat → ClassId} {D : va_G} {gr : List (Nat × Nat)} {ad : Nat → Nat → Nat → Nat} {Y : Mem} {a1 : Int32} {res : (Nat × Mem) ⊕ (Int32 × Mem)} (hl : l.stackTraces = false) (hG : ∀ q ∈ ([(0, 0), (1, 0), (1, 1), (2, 1), (2, 0)] ++ allG), q ∈ gr) (h : X11_minutesWithCooks Y a1 = some res) : CXi l yX11_minutesWithCooks wsX11_minutesWithCooks (Rx 7 1) N0 T D gr ad Y [.ref (ad 0 0 0), .int a1] 1 res :=
  fw_xbody (by decide +kernel) rfl (Nat.le_of_ble_eq_true rfl) (fun p e s m below meth c C hrt hX => w_X11_minutesWithCooks C hrt hG hl hX h)
