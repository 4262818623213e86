theorem ly_X4_prepare_4 : ∀ w ∈ u_ws RX4 TX4 3, w ∈ wsX4_prepare := by decide +kernel
theorem fl_X4_prepare_16 : Cond.fieldLink RX4 16 "RecipeScheduler$Names" "lengths" "[I" ∈ wsX4_prepare := by decide +kernel
theorem fl_X4_prepare_20 : Cond.fieldLink RX4 20 "RecipeScheduler$Names" "count" "I" ∈ wsX4_prepare := by decide +kernel
theorem fl_X4_prepare_11 : Cond.fieldLink RX4 11 "RecipeScheduler$Names" "letters" "[[B" ∈ wsX4_prepare := by decide +kernel
theorem ly_X4_prepare_9 : ∀ w ∈ u_ws RX9 TX9 2, w ∈ wsX4_prepare := by decide +kernel
section
variable {p : Program} {l : Launch} {e : Env} {s : State} {m : MethodId} {below : List Frame} {meth : Method} {c : Code} {N0 : Nat} {T : Nat → ClassId} {D : va_G} {gr : List (Nat × Nat)} {ad : Nat → Nat → Nat → Nat}
set_option maxRecDepth 100000 in
set_option maxHeartbeats 4000000 in
theorem w_X4_prepare_b31 {g0 : Nat} {g1 : Nat} {a2 : Int32} {a3 : Int32} (C : Cx p s m [.ref (ad 4 g0 0), .ref (ad 5 g1 0), .int a2, .int a3].toArray meth c cX4_prepare 5 wsX4_prepare RX4 N0 T D gr ad) (hrt : meth.sig.returnType = none) (hG : ∀ q ∈ [(4, g0), (5, g1)], q ∈ gr) {res : Mem} : ∀ (n : Nat) (Y : Mem) (l4 : Int32), X4_prepare_b31 g0 g1 a2 a3  n Y l4 = some res → FW p l e (Rm 1) s m [.ref (ad 4 g0 0), .ref (ad 5 g1 0), .int a2, .int a3].toArray below meth c 5 N0 T D gr ad 0 0 (MQ below (va_Qv (fun Y1 => Y1 = res) (WB T D gr ad) (fun q => N0 ≤ q)) [.ref (ad 4 g0 0), .ref (ad 5 g1 0), .int a2, .int a3].toArray s 0 0 (fun q => N0 ≤ q)) Y 31 [(4, .int l4), (0, .ref (ad 4 g0 0)), (1, .ref (ad 5 g1 0)), (2, .int a2), (3, .int a3)] [] := by
  intro n
  induction n with
  | zero =>
    intro Y l4 h
    unfold X4_prepare_b31 at h
    cases h
  | succ n ih =>
    intro Y l4 h
    unfold X4_prepare_b31 at h
    refine fw_iload C dX4_prepare_31 0 rfl ?_
    refine fw_iload_n C dX4_prepare_33 rfl 4 rfl ?_
    refine fw_iload_n C dX4_prepare_34 rfl 3 rfl ?_
    refine fw_isub C dX4_prepare_35 ?_
    refine fw_icmp_ge C dX4_prepare_36 (tgt := 66) rfl (fun c8 => ?_) (fun c8 => ?_)
    · have h := ite_t c8 h
      exact fw_vret C hrt Y (Option.some.inj h) (fun t ht => ht) dX4_prepare_66
    · have h := ite_f c8 h
      refine fw_aload_n C dX4_prepare_39 rfl 1 rfl ?_
      refine fw_get C (ci := 2) (Cn := RX4) (Tc := TX4) (N := 3) (j := 0) ly_X4_prepare_4 rfl (hG _ (List.mem_of_getElem? (i := 0) rfl)) (of4_0 _) (ce4 T ad _ _) (by decide) (cx_ts C _ fl_X4_prepare_11) (fun _ h => h) (v := .ref (ad 4 g0 1)) rfl dX4_prepare_40 ?_
      refine fw_aload_n C dX4_prepare_43 rfl 1 rfl ?_
      refine fw_get C (ci := 2) (Cn := RX4) (Tc := TX4) (N := 3) (j := 2) ly_X4_prepare_4 rfl (hG _ (List.mem_of_getElem? (i := 0) rfl)) (of4_0 _) (ce4 T ad _ _) (by decide) (cx_ts C _ fl_X4_prepare_20) (fun _ h => h) (v := .int (Y 4 g0 0 2)) rfl dX4_prepare_44 ?_
      obtain ⟨b9, h⟩ := gd_some h
      refine fw_aald2 C 4 (hG _ (List.mem_of_getElem? (i := 0) rfl)) (of4_1 _) (ca4_1 T ad _ _) rfl rfl b9 (ncap_lt _) (v := .ref (ad 4 g0 (10+ix (Y 4 g0 0 2)))) rfl dX4_prepare_47 ?_
      refine fw_iload C dX4_prepare_48 0 rfl ?_
      refine fw_aload_n C dX4_prepare_50 rfl 2 rfl ?_
      refine fw_getN C (ci := 7) (Cn := RX9) (Tc := TX9) (N := 2) (j := 0) ly_X4_prepare_9 rfl (hG _ (List.mem_of_getElem? (i := 1) rfl)) (of5_0 _) (ce5 T ad _ _) (by decide) (Nst_use (cx_nst C) (w := .fieldLinkNest RX4 28 "RecipeScheduler$Text" "bytes" "[B" "RecipeScheduler") 44 (by decide +kernel) rfl) (fun _ h => h) (v := .ref (ad 5 g1 1)) rfl dX4_prepare_51 ?_
      refine fw_iload_n C dX4_prepare_54 rfl 3 rfl ?_
      refine fw_iload C dX4_prepare_55 0 rfl ?_
      refine fw_iadd C dX4_prepare_57 ?_
      obtain ⟨b10, h⟩ := gd_some h
      refine fw_bald2 C (hG _ (List.mem_of_getElem? (i := 1) rfl)) (of5_1 _) (ca5_1 T ad _ _) b10 (tcap_lt _) dX4_prepare_58 ?_
      obtain ⟨b11, h⟩ := gd_some h
      obtain ⟨Y12, e13, h⟩ := lt_some h
      refine fw_bast2 C (hG _ (List.mem_of_getElem? (i := 0) rfl)) (of4_r _ (inb_lt b9)) (ca4_r T ad _ _) b11 (Nat.le_of_ble_eq_true rfl) dX4_prepare_59 ?_
      refine fw_mem e13 ?_
      refine fw_iinc C dX4_prepare_60 (kk := 0) (v := l4 + 1) rfl rfl (by decide) (L' := [(4, .int (l4 + 1)), (0, .ref (ad 4 g0 0)), (1, .ref (ad 5 g1 0)), (2, .int a2), (3, .int a3)]) rfl ?_
      refine fw_goto C dX4_prepare_63 (tgt := 31) rfl ?_
      exact ih _ _ h
set_option maxRecDepth 100000 in
set_option maxHeartbeats 4000000 in
theorem w_X4_prepare {Y : Mem} {g0 : Nat} {g1 : Nat} {a2 : Int32} {a3 : Int32} (C : Cx p s m [.ref (ad 4 g0 0), .ref (ad 5 g1 0), .int a2, .int a3].toArray meth c cX4_prepare 5 wsX4_prepare RX4 N0 T D gr ad) (hrt : meth.sig.returnType = none) (hG : ∀ q ∈ [(4, g0), (5, g1)], q ∈ gr) {res : Mem} (h : X4_prepare Y g0 g1 a2 a3 = some res) : FW p l e (Rm 1) s m [.ref (ad 4 g0 0), .ref (ad 5 g1 0), .int a2, .int a3].toArray below meth c 5 N0 T D gr ad 0 0 (MQ below (va_Qv (fun Y1 => Y1 = res) (WB T D gr ad) (fun q => N0 ≤ q)) [.ref (ad 4 g0 0), .ref (ad 5 g1 0), .int a2, .int a3].toArray s 0 0 (fun q => N0 ≤ q)) Y 0 [(0, .ref (ad 4 g0 0)), (1, .ref (ad 5 g1 0)), (2, .int a2), (3, .int a3)] [] := by
  unfold X4_prepare at h
  refine fw_aload_n C dX4_prepare_0 rfl 0 rfl ?_
  obtain ⟨r1, q2, h⟩ := bd1_some h
  refine fw_callVi C (ci := 2) (Cn := RX4) (Tc := TX4) (N := 3) (As := []) (c_X4_isFull (gac (hG _ (List.mem_of_getElem? (i := 0) rfl)) ga0) q2) (cwV 0 (cx_ts C) gX4_prepare_X4_isFull rfl rfl rfl (by decide +kernel) ⟨Nat.le_of_ble_eq_true rfl, Nat.le_of_ble_eq_true rfl⟩) rfl (hG _ (List.mem_of_getElem? (i := 0) rfl)) (of4_0 _) (ce4 T ad _ _) rfl (st := []) rfl (Nat.le_of_ble_eq_true rfl) ⟨Nat.le_refl 0, Nat.le_refl 0⟩ dX4_prepare_1 (pp2 ?_)
  refine fw_if_ne C dX4_prepare_4 (tgt := 15) rfl (fun c3 => ?_) (fun c3 => ?_)
  · have h := ite_f c3 h
    exact fw_vret C hrt Y (Option.some.inj h) (fun t ht => ht) dX4_prepare_15
  · have h := ite_t c3 h
    refine fw_iload_n C dX4_prepare_7 rfl 3 rfl ?_
    refine fw_iload_n C dX4_prepare_8 rfl 2 rfl ?_
    refine fw_isub C dX4_prepare_9 ?_
    refine fw_bipush C dX4_prepare_10 (v := 6) rfl ?_
    refine fw_icmp_le C dX4_prepare_12 (tgt := 16) rfl (fun c4 => ?_) (fun c4 => ?_)
    · have h := ite_t c4 h
      refine fw_aload_n C dX4_prepare_16 rfl 0 rfl ?_
      refine fw_get C (ci := 2) (Cn := RX4) (Tc := TX4) (N := 3) (j := 1) ly_X4_prepare_4 rfl (hG _ (List.mem_of_getElem? (i := 0) rfl)) (of4_0 _) (ce4 T ad _ _) (by decide) (cx_ts C _ fl_X4_prepare_16) (fun _ h => h) (v := .ref (ad 4 g0 2)) rfl dX4_prepare_17 ?_
      refine fw_aload_n C dX4_prepare_20 rfl 0 rfl ?_
      refine fw_get C (ci := 2) (Cn := RX4) (Tc := TX4) (N := 3) (j := 2) ly_X4_prepare_4 rfl (hG _ (List.mem_of_getElem? (i := 0) rfl)) (of4_0 _) (ce4 T ad _ _) (by decide) (cx_ts C _ fl_X4_prepare_20) (fun _ h => h) (v := .int (Y 4 g0 0 2)) rfl dX4_prepare_21 ?_
      refine fw_iload_n C dX4_prepare_24 rfl 3 rfl ?_
      refine fw_iload_n C dX4_prepare_25 rfl 2 rfl ?_
      refine fw_isub C dX4_prepare_26 ?_
      obtain ⟨b5, h⟩ := gd_some h
      obtain ⟨Y6, e7, h⟩ := lt_some h
      refine fw_iast2 C (hG _ (List.mem_of_getElem? (i := 0) rfl)) (of4_2 _) (ca4_2 T ad _) b5 (ncap_lt _) dX4_prepare_27 ?_
      refine fw_mem e7 ?_
      refine fw_iconst C dX4_prepare_28 (v := 0) rfl ?_
      refine fw_istore C dX4_prepare_29 (by decide) (L' := [(4, .int 0), (0, .ref (ad 4 g0 0)), (1, .ref (ad 5 g1 0)), (2, .int a2), (3, .int a3)]) rfl ?_
      exact w_X4_prepare_b31 C hrt hG   _ _ _ h
    · have h := ite_f c4 h
      exact fw_vret C hrt Y (Option.some.inj h) (fun t ht => ht) dX4_prepare_15
end
set_option maxRecDepth 100000 in
set_option maxHeartbeats 4000000 in
theorem c_X4_prepare {l : Launch} {N0 : Nat} {T : Nat → ClassId} {D : va_G} {gr : List (Nat × Nat)} {ad : Nat → Nat → Nat → Nat} {Y : Mem} {g0 : Nat} {g1 : Nat} {a2 : Int32} {a3 : Int32} {res : Mem} (hG : ∀ q ∈ [(4, g0), (5, g1)], q ∈ gr) (h : X4_prepare Y g0 g1 a2 a3 = some res) : CV l yX4_prepare wsX4_prepare (Rm 1) N0 T D gr ad Y [.ref (ad 4 g0 0), .ref (ad 5 g1 0), .int a2, .int a3] (fun Y1 => Y1 = res) :=
  fw_body (by decide +kernel) rfl (Nat.le_of_ble_eq_true rfl) (fun p e s m below meth c C hrt => w_X4_prepare C hrt hG  h)
theorem ly_X10_expectNewName_10 : ∀ w ∈ u_ws RX10 TX10 6, w ∈ wsX10_expectNewName := by decide +kernel
theorem fl_X10_expectNewName_44 : Cond.fieldLink RX10 44 "RecipeScheduler$Tokens" "kind" "I" ∈ wsX10_expectNewName := by decide +kernel
theorem fl_X10_expectNewName_22 : Cond.fieldLink RX10 22 "RecipeScheduler$Tokens" "end" "I" ∈ wsX10_expectNewName := by decide +kernel
theorem fl_X10_expectNewName_28 : Cond.fieldLink RX10 28 "RecipeScheduler$Tokens" "start" "I" ∈ wsX10_expectNewName := by decide +kernel
theorem fl_X10_expectNewName_9 : Cond.fieldLink RX10 9 "RecipeScheduler$Tokens" "text" "LRecipeScheduler$Text;" ∈ wsX10_expectNewName := by decide +kernel
section
variable {p : Program} {l : Launch} {e : Env} {s : State} {m : MethodId} {below : List Frame} {meth : Method} {c : Code} {N0 : Nat} {T : Nat → ClassId} {D : va_G} {gr : List (Nat × Nat)} {ad : Nat → Nat → Nat → Nat}
set_option maxRecDepth 100000 in
set_option maxHeartbeats 4000000 in
theorem w_X10_expectNewName_b48 {g1 : Nat} (C : Cx p s m [.ref (ad 6 0 0), .ref (ad 4 g1 0)].toArray meth c cX10_expectNewName 2 wsX10_expectNewName RX10 N0 T D gr ad) (hrt : meth.sig.returnType = none) (hG : ∀ q ∈ [(6, 0), (5, 0), (4, 0), (4, g1)], q ∈ gr) {res : Mem} (Y : Mem) (h : X10_expectNewName_b48 g1  Y = some res) : FW p l e (Rm 2) s m [.ref (ad 6 0 0), .ref (ad 4 g1 0)].toArray below meth c 2 N0 T D gr ad 0 0 (MQ below (va_Qv (fun Y1 => Y1 = res) (WB T D gr ad) (fun q => N0 ≤ q)) [.ref (ad 6 0 0), .ref (ad 4 g1 0)].toArray s 0 0 (fun q => N0 ≤ q)) Y 48 [(0, .ref (ad 6 0 0))] [] := by
  unfold X10_expectNewName_b48 at h
  refine fw_aload_n C dX10_expectNewName_48 rfl 0 rfl ?_
  refine fw_iconst C dX10_expectNewName_49 (v := 3) rfl ?_
  obtain ⟨Y5, q4, h⟩ := bd1_some h
  refine fw_callVv C (ci := 8) (Cn := RX10) (Tc := TX10) (N := 6) (As := [.int 3]) (c_X10_fail (gac (hG _ (List.mem_of_getElem? (i := 0) rfl)) ga0) q4) (cwV 1 (cx_ts C) gX10_expectNewName_X10_fail rfl rfl rfl (by decide +kernel) ⟨Nat.le_of_ble_eq_true rfl, Nat.le_of_ble_eq_true rfl⟩) rfl (hG _ (List.mem_of_getElem? (i := 0) rfl)) (of6_0 _) (ce6 T ad _ _) rfl (st := []) rfl (Nat.le_of_ble_eq_true rfl) ⟨Nat.le_refl 0, Nat.le_refl 0⟩ dX10_expectNewName_50 (ppv ?_)
  exact fw_vret C hrt Y5 (Option.some.inj h) (fun t ht => ht) dX10_expectNewName_53
set_option maxRecDepth 100000 in
set_option maxHeartbeats 4000000 in
theorem w_X10_expectNewName {Y : Mem} {g1 : Nat} (C : Cx p s m [.ref (ad 6 0 0), .ref (ad 4 g1 0)].toArray meth c cX10_expectNewName 2 wsX10_expectNewName RX10 N0 T D gr ad) (hrt : meth.sig.returnType = none) (hG : ∀ q ∈ [(6, 0), (5, 0), (4, 0), (4, g1)], q ∈ gr) {res : Mem} (h : X10_expectNewName Y g1 = some res) : FW p l e (Rm 2) s m [.ref (ad 6 0 0), .ref (ad 4 g1 0)].toArray below meth c 2 N0 T D gr ad 0 0 (MQ below (va_Qv (fun Y1 => Y1 = res) (WB T D gr ad) (fun q => N0 ≤ q)) [.ref (ad 6 0 0), .ref (ad 4 g1 0)].toArray s 0 0 (fun q => N0 ≤ q)) Y 0 [(0, .ref (ad 6 0 0)), (1, .ref (ad 4 g1 0))] [] := by
  unfold X10_expectNewName at h
  refine fw_aload_n C dX10_expectNewName_0 rfl 0 rfl ?_
  refine fw_get C (ci := 8) (Cn := RX10) (Tc := TX10) (N := 6) (j := 1) ly_X10_expectNewName_10 rfl (hG _ (List.mem_of_getElem? (i := 0) rfl)) (of6_0 _) (ce6 T ad _ _) (by decide) (cx_ts C _ fl_X10_expectNewName_44) (fun _ h => h) (v := .int (Y 6 0 0 1)) rfl dX10_expectNewName_1 ?_
  refine fw_iconst C dX10_expectNewName_4 (v := 1) rfl ?_
  refine fw_icmp_eq C dX10_expectNewName_5 (tgt := 14) rfl (fun c1 => ?_) (fun c1 => ?_)
  · have h := ite_t c1 h
    refine fw_aload_n C dX10_expectNewName_14 rfl 0 rfl ?_
    refine fw_get C (ci := 8) (Cn := RX10) (Tc := TX10) (N := 6) (j := 3) ly_X10_expectNewName_10 rfl (hG _ (List.mem_of_getElem? (i := 0) rfl)) (of6_0 _) (ce6 T ad _ _) (by decide) (cx_ts C _ fl_X10_expectNewName_22) (fun _ h => h) (v := .int (Y 6 0 0 3)) rfl dX10_expectNewName_15 ?_
    refine fw_aload_n C dX10_expectNewName_18 rfl 0 rfl ?_
    refine fw_get C (ci := 8) (Cn := RX10) (Tc := TX10) (N := 6) (j := 2) ly_X10_expectNewName_10 rfl (hG _ (List.mem_of_getElem? (i := 0) rfl)) (of6_0 _) (ce6 T ad _ _) (by decide) (cx_ts C _ fl_X10_expectNewName_28) (fun _ h => h) (v := .int (Y 6 0 0 2)) rfl dX10_expectNewName_19 ?_
    refine fw_isub C dX10_expectNewName_22 ?_
    refine fw_bipush C dX10_expectNewName_23 (v := 6) rfl ?_
    refine fw_icmp_gt C dX10_expectNewName_25 (tgt := 48) rfl (fun c2 => ?_) (fun c2 => ?_)
    · have h := ite_t c2 h
      refine fw_sub [0] (L' := [(0, .ref (ad 6 0 0))]) rfl ?_
      exact w_X10_expectNewName_b48 C hrt hG   _ h
    · have h := ite_f c2 h
      refine fw_aload_n C dX10_expectNewName_28 rfl 1 rfl ?_
      refine fw_aload_n C dX10_expectNewName_29 rfl 0 rfl ?_
      refine fw_get C (ci := 8) (Cn := RX10) (Tc := TX10) (N := 6) (j := 0) ly_X10_expectNewName_10 rfl (hG _ (List.mem_of_getElem? (i := 0) rfl)) (of6_0 _) (ce6 T ad _ _) (by decide) (cx_ts C _ fl_X10_expectNewName_9) (fun _ h => h) (v := .ref (ad 5 0 0)) rfl dX10_expectNewName_30 ?_
      refine fw_aload_n C dX10_expectNewName_33 rfl 0 rfl ?_
      refine fw_get C (ci := 8) (Cn := RX10) (Tc := TX10) (N := 6) (j := 2) ly_X10_expectNewName_10 rfl (hG _ (List.mem_of_getElem? (i := 0) rfl)) (of6_0 _) (ce6 T ad _ _) (by decide) (cx_ts C _ fl_X10_expectNewName_28) (fun _ h => h) (v := .int (Y 6 0 0 2)) rfl dX10_expectNewName_34 ?_
      refine fw_aload_n C dX10_expectNewName_37 rfl 0 rfl ?_
      refine fw_get C (ci := 8) (Cn := RX10) (Tc := TX10) (N := 6) (j := 3) ly_X10_expectNewName_10 rfl (hG _ (List.mem_of_getElem? (i := 0) rfl)) (of6_0 _) (ce6 T ad _ _) (by decide) (cx_ts C _ fl_X10_expectNewName_22) (fun _ h => h) (v := .int (Y 6 0 0 3)) rfl dX10_expectNewName_38 ?_
      obtain ⟨r6, q7, h⟩ := bd1_some h
      refine fw_callVi C (ci := 2) (Cn := RX4) (Tc := TX4) (N := 3) (As := [.ref (ad 5 0 0), .int (Y 6 0 0 2), .int (Y 6 0 0 3)]) (c_X4_indexOf (gac (hG _ (List.mem_of_getElem? (i := 2) rfl)) (gac (hG _ (List.mem_of_getElem? (i := 1) rfl)) ga0)) q7) (cwV 3 (cx_ts C) gX10_expectNewName_X4_indexOf rfl rfl rfl (by decide +kernel) ⟨Nat.le_of_ble_eq_true rfl, Nat.le_of_ble_eq_true rfl⟩) rfl (hG _ (List.mem_of_getElem? (i := 3) rfl)) (of4_0 _) (ce4 T ad _ _) rfl (st := []) rfl (Nat.le_of_ble_eq_true rfl) ⟨Nat.le_refl 0, Nat.le_refl 0⟩ dX10_expectNewName_41 (pp2 ?_)
      refine fw_iconst C dX10_expectNewName_44 (v := (-1)) rfl ?_
      refine fw_icmp_eq C dX10_expectNewName_45 (tgt := 54) rfl (fun c8 => ?_) (fun c8 => ?_)
      · have h := ite_t c8 h
        refine fw_aload_n C dX10_expectNewName_54 rfl 1 rfl ?_
        refine fw_aload_n C dX10_expectNewName_55 rfl 0 rfl ?_
        refine fw_get C (ci := 8) (Cn := RX10) (Tc := TX10) (N := 6) (j := 0) ly_X10_expectNewName_10 rfl (hG _ (List.mem_of_getElem? (i := 0) rfl)) (of6_0 _) (ce6 T ad _ _) (by decide) (cx_ts C _ fl_X10_expectNewName_9) (fun _ h => h) (v := .ref (ad 5 0 0)) rfl dX10_expectNewName_56 ?_
        refine fw_aload_n C dX10_expectNewName_59 rfl 0 rfl ?_
        refine fw_get C (ci := 8) (Cn := RX10) (Tc := TX10) (N := 6) (j := 2) ly_X10_expectNewName_10 rfl (hG _ (List.mem_of_getElem? (i := 0) rfl)) (of6_0 _) (ce6 T ad _ _) (by decide) (cx_ts C _ fl_X10_expectNewName_28) (fun _ h => h) (v := .int (Y 6 0 0 2)) rfl dX10_expectNewName_60 ?_
        refine fw_aload_n C dX10_expectNewName_63 rfl 0 rfl ?_
        refine fw_get C (ci := 8) (Cn := RX10) (Tc := TX10) (N := 6) (j := 3) ly_X10_expectNewName_10 rfl (hG _ (List.mem_of_getElem? (i := 0) rfl)) (of6_0 _) (ce6 T ad _ _) (by decide) (cx_ts C _ fl_X10_expectNewName_22) (fun _ h => h) (v := .int (Y 6 0 0 3)) rfl dX10_expectNewName_64 ?_
        obtain ⟨Y11, q10, h⟩ := bd1_some h
        refine fw_callVv C (ci := 2) (Cn := RX4) (Tc := TX4) (N := 3) (As := [.ref (ad 5 0 0), .int (Y 6 0 0 2), .int (Y 6 0 0 3)]) (c_X4_prepare (gac (hG _ (List.mem_of_getElem? (i := 2) rfl)) (gac (hG _ (List.mem_of_getElem? (i := 1) rfl)) ga0)) q10) (cwV 3 (cx_ts C) gX10_expectNewName_X4_prepare rfl rfl rfl (by decide +kernel) ⟨Nat.le_of_ble_eq_true rfl, Nat.le_of_ble_eq_true rfl⟩) rfl (hG _ (List.mem_of_getElem? (i := 3) rfl)) (of4_0 _) (ce4 T ad _ _) rfl (st := []) rfl (Nat.le_of_ble_eq_true rfl) ⟨Nat.le_refl 0, Nat.le_refl 0⟩ dX10_expectNewName_67 (ppv ?_)
        refine fw_aload_n C dX10_expectNewName_70 rfl 0 rfl ?_
        obtain ⟨Y14, q13, h⟩ := bd1_some h
        refine fw_callVv C (ci := 8) (Cn := RX10) (Tc := TX10) (N := 6) (As := []) (c_X10_advance (gac (hG _ (List.mem_of_getElem? (i := 0) rfl)) (gac (hG _ (List.mem_of_getElem? (i := 1) rfl)) ga0)) q13) (cwV 0 (cx_ts C) gX10_expectNewName_X10_advance rfl rfl rfl (by decide +kernel) ⟨Nat.le_of_ble_eq_true rfl, Nat.le_of_ble_eq_true rfl⟩) rfl (hG _ (List.mem_of_getElem? (i := 0) rfl)) (of6_0 _) (ce6 T ad _ _) rfl (st := []) rfl (Nat.le_of_ble_eq_true rfl) ⟨Nat.le_refl 0, Nat.le_refl 0⟩ dX10_expectNewName_71 (ppv ?_)
        exact fw_vret C hrt Y14 (Option.some.inj h) (fun t ht => ht) dX10_expectNewName_74
      · have h := ite_f c8 h
        refine fw_sub [0] (L' := [(0, .ref (ad 6 0 0))]) rfl ?_
        exact w_X10_expectNewName_b48 C hrt hG   _ h
  · have h := ite_f c1 h
    refine fw_aload_n C dX10_expectNewName_8 rfl 0 rfl ?_
    refine fw_iconst C dX10_expectNewName_9 (v := 1) rfl ?_
    obtain ⟨Y17, q16, h⟩ := bd1_some h
    refine fw_callVv C (ci := 8) (Cn := RX10) (Tc := TX10) (N := 6) (As := [.int 1]) (c_X10_fail (gac (hG _ (List.mem_of_getElem? (i := 0) rfl)) ga0) q16) (cwV 1 (cx_ts C) gX10_expectNewName_X10_fail rfl rfl rfl (by decide +kernel) ⟨Nat.le_of_ble_eq_true rfl, Nat.le_of_ble_eq_true rfl⟩) rfl (hG _ (List.mem_of_getElem? (i := 0) rfl)) (of6_0 _) (ce6 T ad _ _) rfl (st := []) rfl (Nat.le_of_ble_eq_true rfl) ⟨Nat.le_refl 0, Nat.le_refl 0⟩ dX10_expectNewName_10 (ppv ?_)
    exact fw_vret C hrt Y17 (Option.some.inj h) (fun t ht => ht) dX10_expectNewName_13
end
set_option maxRecDepth 100000 in
set_option maxHeartbeats 4000000 in
theorem c_X10_expectNewName {l : Launch} {N0 : Nat} {T : Nat → ClassId} {D : va_G} {gr : List (Nat × Nat)} {ad : Nat → Nat → Nat → Nat} {Y : Mem} {g1 : Nat} {res : Mem} (hG : ∀ q ∈ [(6, 0), (5, 0), (4, 0), (4, g1)], q ∈ gr) (h : X10_expectNewName Y g1 = some res) : CV l yX10_expectNewName wsX10_expectNewName (Rm 2) N0 T D gr ad Y [.ref (ad 6 0 0), .ref (ad 4 g1 0)] (fun Y1 => Y1 = res) :=
  fw_body (by decide +kernel) rfl (Nat.le_of_ble_eq_true rfl) (fun p e s m below meth c C hrt => w_X10_expectNewName C hrt hG  h)
theorem ly_X10_expectNumber_10 : ∀ w ∈ u_ws RX10 TX10 6, w ∈ wsX10_expectNumber := by decide +kernel
theorem fl_X10_expectNumber_44 : Cond.fieldLink RX10 44 "RecipeScheduler$Tokens" "kind" "I" ∈ wsX10_expectNumber := by decide +kernel
theorem fl_X10_expectNumber_28 : Cond.fieldLink RX10 28 "RecipeScheduler$Tokens" "start" "I" ∈ wsX10_expectNumber := by decide +kernel
theorem fl_X10_expectNumber_22 : Cond.fieldLink RX10 22 "RecipeScheduler$Tokens" "end" "I" ∈ wsX10_expectNumber := by decide +kernel
theorem in_X10_expectNumber_11 : Cond.initialized RX11 ∈ wsX10_expectNumber := by decide +kernel
theorem sw_X10_expectNumber_X11_isWithin : Cond.static yX11_isWithin ∈ wsX10_expectNumber := by decide +kernel
theorem fl_X10_expectNumber_9 : Cond.fieldLink RX10 9 "RecipeScheduler$Tokens" "text" "LRecipeScheduler$Text;" ∈ wsX10_expectNumber := by decide +kernel
theorem ly_X10_expectNumber_9 : ∀ w ∈ u_ws RX9 TX9 2, w ∈ wsX10_expectNumber := by decide +kernel
section
variable {p : Program} {l : Launch} {e : Env} {s : State} {m : MethodId} {below : List Frame} {meth : Method} {c : Code} {N0 : Nat} {T : Nat → ClassId} {D : va_G} {gr : List (Nat × Nat)} {ad : Nat → Nat → Nat → Nat}
set_option maxRecDepth 100000 in
set_option maxHeartbeats 4000000 in
theorem w_X10_expectNumber_b23 {a1 : Int32} {a2 : Int32} (C : Cx p s m [.ref (ad 6 0 0), .int a1, .int a2].toArray meth c cX10_expectNumber 5 wsX10_expectNumber RX10 N0 T D gr ad) (hrt : meth.sig.returnType = (some .int)) (hG : ∀ q ∈ [(6, 0), (5, 0)], q ∈ gr) {res : Int32 × Mem} : ∀ (n : Nat) (Y : Mem) (l4 : Int32) (l3 : Int32), X10_expectNumber_b23 a1 a2  n Y l4 l3 = some res → FW p l e (Rm 2) s m [.ref (ad 6 0 0), .int a1, .int a2].toArray below meth c 5 N0 T D gr ad 0 0 (MQ below (va_Qi (fun r Y1 => (r, Y1) = res) (WB T D gr ad) (fun q => N0 ≤ q)) [.ref (ad 6 0 0), .int a1, .int a2].toArray s 0 0 (fun q => N0 ≤ q)) Y 23 [(4, .int l4), (3, .int l3), (0, .ref (ad 6 0 0)), (1, .int a1), (2, .int a2)] [] := by
  intro n
  induction n with
  | zero =>
    intro Y l4 l3 h
    unfold X10_expectNumber_b23 at h
    cases h
  | succ n ih =>
    intro Y l4 l3 h
    unfold X10_expectNumber_b23 at h
    refine fw_iload C dX10_expectNumber_23 0 rfl ?_
    refine fw_aload_n C dX10_expectNumber_25 rfl 2 rfl ?_
    refine fw_get C (ci := 8) (Cn := RX10) (Tc := TX10) (N := 6) (j := 3) ly_X10_expectNumber_10 rfl (hG _ (List.mem_of_getElem? (i := 0) rfl)) (of6_0 _) (ce6 T ad _ _) (by decide) (cx_ts C _ fl_X10_expectNumber_22) (fun _ h => h) (v := .int (Y 6 0 0 3)) rfl dX10_expectNumber_26 ?_
    refine fw_icmp_ge C dX10_expectNumber_29 (tgt := 57) rfl (fun c4 => ?_) (fun c4 => ?_)
    · have h := ite_t c4 h
      refine fw_iload_n C dX10_expectNumber_57 rfl 1 rfl ?_
      refine fw_iload_n C dX10_expectNumber_58 rfl 3 rfl ?_
      refine fw_iload_n C dX10_expectNumber_59 rfl 4 rfl ?_
      obtain ⟨r5, q6, h⟩ := bd1_some h
      refine fw_callSNi C (As := [.int l3, .int a1, .int a2]) (c_X11_isWithin ga0 q6) ⟨(va_cnB 3 (cx_ts C) gX10_expectNumber_X11_isWithin_n47 rfl rfl rfl (cx_nw C (w := .methodLinkNest RX10 47 yX11_isWithin "RecipeScheduler") 295 (by decide +kernel) rfl) (cx_ts C _ in_X10_expectNumber_11) (by decide +kernel) ⟨Nat.le_of_ble_eq_true rfl, Nat.le_of_ble_eq_true rfl⟩), cx_ts C _ sw_X10_expectNumber_X11_isWithin, trivial⟩ rfl (st := []) rfl (Nat.le_of_ble_eq_true rfl) ⟨Nat.le_refl 0, Nat.le_refl 0⟩ dX10_expectNumber_60 (pp2 ?_)
      refine fw_if_ne C dX10_expectNumber_63 (tgt := 73) rfl (fun c7 => ?_) (fun c7 => ?_)
      · have h := ite_f c7 h
        refine fw_aload_n C dX10_expectNumber_73 rfl 2 rfl ?_
        obtain ⟨Y10, q9, h⟩ := bd1_some h
        refine fw_callVv C (ci := 8) (Cn := RX10) (Tc := TX10) (N := 6) (As := []) (c_X10_advance (gac (hG _ (List.mem_of_getElem? (i := 0) rfl)) (gac (hG _ (List.mem_of_getElem? (i := 1) rfl)) ga0)) q9) (cwV 0 (cx_ts C) gX10_expectNumber_X10_advance rfl rfl rfl (by decide +kernel) ⟨Nat.le_of_ble_eq_true rfl, Nat.le_of_ble_eq_true rfl⟩) rfl (hG _ (List.mem_of_getElem? (i := 0) rfl)) (of6_0 _) (ce6 T ad _ _) rfl (st := []) rfl (Nat.le_of_ble_eq_true rfl) ⟨Nat.le_refl 0, Nat.le_refl 0⟩ dX10_expectNumber_74 (ppv ?_)
        refine fw_iload_n C dX10_expectNumber_77 rfl 1 rfl ?_
        exact fw_iret C hrt Y10 (Option.some.inj h) (fun t ht => ht) dX10_expectNumber_78
      · have h := ite_t c7 h
        refine fw_aload_n C dX10_expectNumber_66 rfl 2 rfl ?_
        refine fw_iconst C dX10_expectNumber_67 (v := 2) rfl ?_
        obtain ⟨Y13, q12, h⟩ := bd1_some h
        refine fw_callVv C (ci := 8) (Cn := RX10) (Tc := TX10) (N := 6) (As := [.int 2]) (c_X10_fail (gac (hG _ (List.mem_of_getElem? (i := 0) rfl)) ga0) q12) (cwV 1 (cx_ts C) gX10_expectNumber_X10_fail rfl rfl rfl (by decide +kernel) ⟨Nat.le_of_ble_eq_true rfl, Nat.le_of_ble_eq_true rfl⟩) rfl (hG _ (List.mem_of_getElem? (i := 0) rfl)) (of6_0 _) (ce6 T ad _ _) rfl (st := []) rfl (Nat.le_of_ble_eq_true rfl) ⟨Nat.le_refl 0, Nat.le_refl 0⟩ dX10_expectNumber_68 (ppv ?_)
        refine fw_iload_n C dX10_expectNumber_71 rfl 3 rfl ?_
        exact fw_iret C hrt Y13 (Option.some.inj h) (fun t ht => ht) dX10_expectNumber_72
    · have h := ite_f c4 h
      refine fw_iload_n C dX10_expectNumber_32 rfl 1 rfl ?_
      refine fw_bipush C dX10_expectNumber_33 (v := 10) rfl ?_
      refine fw_imul C dX10_expectNumber_35 ?_
      refine fw_aload_n C dX10_expectNumber_36 rfl 2 rfl ?_
      refine fw_get C (ci := 8) (Cn := RX10) (Tc := TX10) (N := 6) (j := 0) ly_X10_expectNumber_10 rfl (hG _ (List.mem_of_getElem? (i := 0) rfl)) (of6_0 _) (ce6 T ad _ _) (by decide) (cx_ts C _ fl_X10_expectNumber_9) (fun _ h => h) (v := .ref (ad 5 0 0)) rfl dX10_expectNumber_37 ?_
      refine fw_getN C (ci := 7) (Cn := RX9) (Tc := TX9) (N := 2) (j := 0) ly_X10_expectNumber_9 rfl (hG _ (List.mem_of_getElem? (i := 1) rfl)) (of5_0 _) (ce5 T ad _ _) (by decide) (Nst_use (cx_nst C) (w := .fieldLinkNest RX10 36 "RecipeScheduler$Text" "bytes" "[B" "RecipeScheduler") 43 (by decide +kernel) rfl) (fun _ h => h) (v := .ref (ad 5 0 1)) rfl dX10_expectNumber_40 ?_
      refine fw_iload C dX10_expectNumber_43 0 rfl ?_
      obtain ⟨b14, h⟩ := gd_some h
      refine fw_bald2 C (hG _ (List.mem_of_getElem? (i := 1) rfl)) (of5_1 _) (ca5_1 T ad _ _) b14 (tcap_lt _) dX10_expectNumber_45 ?_
      refine fw_iadd C dX10_expectNumber_46 ?_
      refine fw_bipush C dX10_expectNumber_47 (v := 48) rfl ?_
      refine fw_isub C dX10_expectNumber_49 ?_
      obtain ⟨v15, e16, h⟩ := lt_some h
      refine fw_top (v' := .int v15) (by rw [e16]) ?_
      refine fw_istore_n C dX10_expectNumber_50 rfl (by decide) (L' := [(3, .int v15), (4, .int l4), (0, .ref (ad 6 0 0)), (1, .int a1), (2, .int a2)]) rfl ?_
      refine fw_iinc C dX10_expectNumber_51 (kk := 1) (v := l4 + 1) rfl rfl (by decide) (L' := [(4, .int (l4 + 1)), (3, .int v15), (0, .ref (ad 6 0 0)), (1, .int a1), (2, .int a2)]) rfl ?_
      refine fw_goto C dX10_expectNumber_54 (tgt := 23) rfl ?_
      exact ih _ _ _ h
set_option maxRecDepth 100000 in
set_option maxHeartbeats 4000000 in
theorem w_X10_expectNumber {Y : Mem} {a1 : Int32} {a2 : Int32} (C : Cx p s m [.ref (ad 6 0 0), .int a1, .int a2].toArray meth c cX10_expectNumber 5 wsX10_expectNumber RX10 N0 T D gr ad) (hrt : meth.sig.returnType = (some .int)) (hG : ∀ q ∈ [(6, 0), (5, 0)], q ∈ gr) {res : Int32 × Mem} (h : X10_expectNumber Y a1 a2 = some res) : FW p l e (Rm 2) s m [.ref (ad 6 0 0), .int a1, .int a2].toArray below meth c 5 N0 T D gr ad 0 0 (MQ below (va_Qi (fun r Y1 => (r, Y1) = res) (WB T D gr ad) (fun q => N0 ≤ q)) [.ref (ad 6 0 0), .int a1, .int a2].toArray s 0 0 (fun q => N0 ≤ q)) Y 0 [(0, .ref (ad 6 0 0)), (1, .int a1), (2, .int a2)] [] := by
  unfold X10_expectNumber at h
  refine fw_aload_n C dX10_expectNumber_0 rfl 0 rfl ?_
  refine fw_get C (ci := 8) (Cn := RX10) (Tc := TX10) (N := 6) (j := 1) ly_X10_expectNumber_10 rfl (hG _ (List.mem_of_getElem? (i := 0) rfl)) (of6_0 _) (ce6 T ad _ _) (by decide) (cx_ts C _ fl_X10_expectNumber_44) (fun _ h => h) (v := .int (Y 6 0 0 1)) rfl dX10_expectNumber_1 ?_
  refine fw_iconst C dX10_expectNumber_4 (v := 2) rfl ?_
  refine fw_icmp_eq C dX10_expectNumber_5 (tgt := 15) rfl (fun c1 => ?_) (fun c1 => ?_)
  · have h := ite_t c1 h
    refine fw_iconst C dX10_expectNumber_15 (v := 0) rfl ?_
    refine fw_istore_n C dX10_expectNumber_16 rfl (by decide) (L' := [(3, .int 0), (0, .ref (ad 6 0 0)), (1, .int a1), (2, .int a2)]) rfl ?_
    refine fw_aload_n C dX10_expectNumber_17 rfl 1 rfl ?_
    refine fw_get C (ci := 8) (Cn := RX10) (Tc := TX10) (N := 6) (j := 2) ly_X10_expectNumber_10 rfl (hG _ (List.mem_of_getElem? (i := 0) rfl)) (of6_0 _) (ce6 T ad _ _) (by decide) (cx_ts C _ fl_X10_expectNumber_28) (fun _ h => h) (v := .int (Y 6 0 0 2)) rfl dX10_expectNumber_18 ?_
    obtain ⟨v2, e3, h⟩ := lt_some h
    refine fw_top (v' := .int v2) (by rw [e3]) ?_
    refine fw_istore C dX10_expectNumber_21 (by decide) (L' := [(4, .int v2), (3, .int 0), (0, .ref (ad 6 0 0)), (1, .int a1), (2, .int a2)]) rfl ?_
    exact w_X10_expectNumber_b23 C hrt hG   _ _ _ _ h
  · have h := ite_f c1 h
    refine fw_aload_n C dX10_expectNumber_8 rfl 0 rfl ?_
    refine fw_iconst C dX10_expectNumber_9 (v := 1) rfl ?_
    obtain ⟨Y19, q18, h⟩ := bd1_some h
    refine fw_callVv C (ci := 8) (Cn := RX10) (Tc := TX10) (N := 6) (As := [.int 1]) (c_X10_fail (gac (hG _ (List.mem_of_getElem? (i := 0) rfl)) ga0) q18) (cwV 1 (cx_ts C) gX10_expectNumber_X10_fail rfl rfl rfl (by decide +kernel) ⟨Nat.le_of_ble_eq_true rfl, Nat.le_of_ble_eq_true rfl⟩) rfl (hG _ (List.mem_of_getElem? (i := 0) rfl)) (of6_0 _) (ce6 T ad _ _) rfl (st := []) rfl (Nat.le_of_ble_eq_true rfl) ⟨Nat.le_refl 0, Nat.le_refl 0⟩ dX10_expectNumber_10 (ppv ?_)
    refine fw_iload_n C dX10_expectNumber_13 rfl 1 rfl ?_
    exact fw_iret C hrt Y19 (Option.some.inj h) (fun t ht => ht) dX10_expectNumber_14
end
set_option maxRecDepth 100000 in
set_option maxHeartbeats 4000000 in
theorem c_X10_expectNumber {l : Launch} {N0 : Nat} {T : Nat → ClassId} {D : va_G} {gr : List (Nat × Nat)} {ad : Nat → Nat → Nat → Nat} {Y : Mem} {a1 : Int32} {a2 : Int32} {res : Int32 × Mem} (hG : ∀ q ∈ [(6, 0), (5, 0)], q ∈ gr) (h : X10_expectNumber Y a1 a2 = some res) : CI l yX10_expectNumber wsX10_expectNumber (Rm 2) N0 T D gr ad Y [.ref (ad 6 0 0), .int a1, .int a2] (fun r Y1 => (r, Y1) = res) :=
  fw_body (by decide +kernel) rfl (Nat.le_of_ble_eq_true rfl) (fun p e s m below meth c C hrt => w_X10_expectNumber C hrt hG  h)
theorem ly_X10_expectSemicolon_10 : ∀ w ∈ u_ws RX10 TX10 6, w ∈ wsX10_expectSemicolon := by decide +kernel
theorem fl_X10_expectSemicolon_44 : Cond.fieldLink RX10 44 "RecipeScheduler$Tokens" "kind" "I" ∈ wsX10_expectSemicolon := by decide +kernel
section
variable {p : Program} {l : Launch} {e : Env} {s : State} {m : MethodId} {below : List Frame} {meth : Method} {c : Code} {N0 : Nat} {T : Nat → ClassId} {D : va_G} {gr : List (Nat × Nat)} {ad : Nat → Nat → Nat → Nat}
set_option maxRecDepth 100000 in
set_option maxHeartbeats 4000000 in
theorem w_X10_expectSemicolon {Y : Mem} (C : Cx p s m [.ref (ad 6 0 0)].toArray meth c cX10_expectSemicolon 1 wsX10_expectSemicolon RX10 N0 T D gr ad) (hrt : meth.sig.returnType = none) (hG : ∀ q ∈ [(6, 0), (5, 0)], q ∈ gr) {res : Mem} (h : X10_expectSemicolon Y = some res) : FW p l e (Rm 2) s m [.ref (ad 6 0 0)].toArray below meth c 1 N0 T D gr ad 0 0 (MQ below (va_Qv (fun Y1 => Y1 = res) (WB T D gr ad) (fun q => N0 ≤ q)) [.ref (ad 6 0 0)].toArray s 0 0 (fun q => N0 ≤ q)) Y 0 [(0, .ref (ad 6 0 0))] [] := by
  unfold X10_expectSemicolon at h
  refine fw_aload_n C dX10_expectSemicolon_0 rfl 0 rfl ?_
  refine fw_get C (ci := 8) (Cn := RX10) (Tc := TX10) (N := 6) (j := 1) ly_X10_expectSemicolon_10 rfl (hG _ (List.mem_of_getElem? (i := 0) rfl)) (of6_0 _) (ce6 T ad _ _) (by decide) (cx_ts C _ fl_X10_expectSemicolon_44) (fun _ h => h) (v := .int (Y 6 0 0 1)) rfl dX10_expectSemicolon_1 ?_
  refine fw_iconst C dX10_expectSemicolon_4 (v := 3) rfl ?_
  refine fw_icmp_eq C dX10_expectSemicolon_5 (tgt := 14) rfl (fun c1 => ?_) (fun c1 => ?_)
  · have h := ite_t c1 h
    refine fw_aload_n C dX10_expectSemicolon_14 rfl 0 rfl ?_
    obtain ⟨Y4, q3, h⟩ := bd1_some h
    refine fw_callVv C (ci := 8) (Cn := RX10) (Tc := TX10) (N := 6) (As := []) (c_X10_advance (gac (hG _ (List.mem_of_getElem? (i := 0) rfl)) (gac (hG _ (List.mem_of_getElem? (i := 1) rfl)) ga0)) q3) (cwV 0 (cx_ts C) gX10_expectSemicolon_X10_advance rfl rfl rfl (by decide +kernel) ⟨Nat.le_of_ble_eq_true rfl, Nat.le_of_ble_eq_true rfl⟩) rfl (hG _ (List.mem_of_getElem? (i := 0) rfl)) (of6_0 _) (ce6 T ad _ _) rfl (st := []) rfl (Nat.le_of_ble_eq_true rfl) ⟨Nat.le_refl 0, Nat.le_refl 0⟩ dX10_expectSemicolon_15 (ppv ?_)
    exact fw_vret C hrt Y4 (Option.some.inj h) (fun t ht => ht) dX10_expectSemicolon_18
  · have h := ite_f c1 h
    refine fw_aload_n C dX10_expectSemicolon_8 rfl 0 rfl ?_
    refine fw_iconst C dX10_expectSemicolon_9 (v := 1) rfl ?_
    obtain ⟨Y7, q6, h⟩ := bd1_some h
    refine fw_callVv C (ci := 8) (Cn := RX10) (Tc := TX10) (N := 6) (As := [.int 1]) (c_X10_fail (gac (hG _ (List.mem_of_getElem? (i := 0) rfl)) ga0) q6) (cwV 1 (cx_ts C) gX10_expectSemicolon_X10_fail rfl rfl rfl (by decide +kernel) ⟨Nat.le_of_ble_eq_true rfl, Nat.le_of_ble_eq_true rfl⟩) rfl (hG _ (List.mem_of_getElem? (i := 0) rfl)) (of6_0 _) (ce6 T ad _ _) rfl (st := []) rfl (Nat.le_of_ble_eq_true rfl) ⟨Nat.le_refl 0, Nat.le_refl 0⟩ dX10_expectSemicolon_10 (ppv ?_)
    exact fw_vret C hrt Y7 (Option.some.inj h) (fun t ht => ht) dX10_expectSemicolon_13
end
set_option maxRecDepth 100000 in
set_option maxHeartbeats 4000000 in
theorem c_X10_expectSemicolon {l : Launch} {N0 : Nat} {T : Nat → ClassId} {D : va_G} {gr : List (Nat × Nat)} {ad : Nat → Nat → Nat → Nat} {Y : Mem} {res : Mem} (hG : ∀ q ∈ [(6, 0), (5, 0)], q ∈ gr) (h : X10_expectSemicolon Y = some res) : CV l yX10_expectSemicolon wsX10_expectSemicolon (Rm 2) N0 T D gr ad Y [.ref (ad 6 0 0)] (fun Y1 => Y1 = res) :=
  fw_body (by decide +kernel) rfl (Nat.le_of_ble_eq_true rfl) (fun p e s m below meth c C hrt => w_X10_expectSemicolon C hrt hG  h)
theorem ly_X10_findName_10 : ∀ w ∈ u_ws RX10 TX10 6, w ∈ wsX10_findName := by decide +kernel
theorem fl_X10_findName_44 : Cond.fieldLink RX10 44 "RecipeScheduler$Tokens" "kind" "I" ∈ wsX10_findName := by decide +kernel
theorem fl_X10_findName_9 : Cond.fieldLink RX10 9 "RecipeScheduler$Tokens" "text" "LRecipeScheduler$Text;" ∈ wsX10_findName := by decide +kernel
theorem fl_X10_findName_28 : Cond.fieldLink RX10 28 "RecipeScheduler$Tokens" "start" "I" ∈ wsX10_findName := by decide +kernel
theorem fl_X10_findName_22 : Cond.fieldLink RX10 22 "RecipeScheduler$Tokens" "end" "I" ∈ wsX10_findName := by decide +kernel
section
variable {p : Program} {l : Launch} {e : Env} {s : State} {m : MethodId} {below : List Frame} {meth : Method} {c : Code} {N0 : Nat} {T : Nat → ClassId} {D : va_G} {gr : List (Nat × Nat)} {ad : Nat → Nat → Nat → Nat}
set_option maxRecDepth 100000 in
set_option maxHeartbeats 4000000 in
theorem w_X10_findName {Y : Mem} {g1 : Nat} (C : Cx p s m [.ref (ad 6 0 0), .ref (ad 4 g1 0)].toArray meth c cX10_findName 3 wsX10_findName RX10 N0 T D gr ad) (hrt : meth.sig.returnType = (some .int)) (hG : ∀ q ∈ [(6, 0), (5, 0), (4, 0), (4, g1)], q ∈ gr) {res : Int32 × Mem} (h : X10_findName Y g1 = some res) : FW p l e (Rm 2) s m [.ref (ad 6 0 0), .ref (ad 4 g1 0)].toArray below meth c 3 N0 T D gr ad 0 0 (MQ below (va_Qi (fun r Y1 => (r, Y1) = res) (WB T D gr ad) (fun q => N0 ≤ q)) [.ref (ad 6 0 0), .ref (ad 4 g1 0)].toArray s 0 0 (fun q => N0 ≤ q)) Y 0 [(0, .ref (ad 6 0 0)), (1, .ref (ad 4 g1 0))] [] := by
  unfold X10_findName at h
  refine fw_aload_n C dX10_findName_0 rfl 0 rfl ?_
  refine fw_get C (ci := 8) (Cn := RX10) (Tc := TX10) (N := 6) (j := 1) ly_X10_findName_10 rfl (hG _ (List.mem_of_getElem? (i := 0) rfl)) (of6_0 _) (ce6 T ad _ _) (by decide) (cx_ts C _ fl_X10_findName_44) (fun _ h => h) (v := .int (Y 6 0 0 1)) rfl dX10_findName_1 ?_
  refine fw_iconst C dX10_findName_4 (v := 1) rfl ?_
  refine fw_icmp_eq C dX10_findName_5 (tgt := 15) rfl (fun c1 => ?_) (fun c1 => ?_)
  · have h := ite_t c1 h
    refine fw_aload_n C dX10_findName_15 rfl 1 rfl ?_
    refine fw_aload_n C dX10_findName_16 rfl 0 rfl ?_
    refine fw_get C (ci := 8) (Cn := RX10) (Tc := TX10) (N := 6) (j := 0) ly_X10_findName_10 rfl (hG _ (List.mem_of_getElem? (i := 0) rfl)) (of6_0 _) (ce6 T ad _ _) (by decide) (cx_ts C _ fl_X10_findName_9) (fun _ h => h) (v := .ref (ad 5 0 0)) rfl dX10_findName_17 ?_
    refine fw_aload_n C dX10_findName_20 rfl 0 rfl ?_
    refine fw_get C (ci := 8) (Cn := RX10) (Tc := TX10) (N := 6) (j := 2) ly_X10_findName_10 rfl (hG _ (List.mem_of_getElem? (i := 0) rfl)) (of6_0 _) (ce6 T ad _ _) (by decide) (cx_ts C _ fl_X10_findName_28) (fun _ h => h) (v := .int (Y 6 0 0 2)) rfl dX10_findName_21 ?_
    refine fw_aload_n C dX10_findName_24 rfl 0 rfl ?_
    refine fw_get C (ci := 8) (Cn := RX10) (Tc := TX10) (N := 6) (j := 3) ly_X10_findName_10 rfl (hG _ (List.mem_of_getElem? (i := 0) rfl)) (of6_0 _) (ce6 T ad _ _) (by decide) (cx_ts C _ fl_X10_findName_22) (fun _ h => h) (v := .int (Y 6 0 0 3)) rfl dX10_findName_25 ?_
    obtain ⟨r2, q3, h⟩ := bd1_some h
    refine fw_callVi C (ci := 2) (Cn := RX4) (Tc := TX4) (N := 3) (As := [.ref (ad 5 0 0), .int (Y 6 0 0 2), .int (Y 6 0 0 3)]) (c_X4_indexOf (gac (hG _ (List.mem_of_getElem? (i := 2) rfl)) (gac (hG _ (List.mem_of_getElem? (i := 1) rfl)) ga0)) q3) (cwV 3 (cx_ts C) gX10_findName_X4_indexOf rfl rfl rfl (by decide +kernel) ⟨Nat.le_of_ble_eq_true rfl, Nat.le_of_ble_eq_true rfl⟩) rfl (hG _ (List.mem_of_getElem? (i := 3) rfl)) (of4_0 _) (ce4 T ad _ _) rfl (st := []) rfl (Nat.le_of_ble_eq_true rfl) ⟨Nat.le_refl 0, Nat.le_refl 0⟩ dX10_findName_28 (pp2 ?_)
    refine fw_istore_n C dX10_findName_31 rfl (by decide) (L' := [(2, .int r2), (0, .ref (ad 6 0 0)), (1, .ref (ad 4 g1 0))]) rfl ?_
    refine fw_iload_n C dX10_findName_32 rfl 0 rfl ?_
    refine fw_iconst C dX10_findName_33 (v := (-1)) rfl ?_
    refine fw_icmp_ne C dX10_findName_34 (tgt := 42) rfl (fun c4 => ?_) (fun c4 => ?_)
    · have h := ite_f c4 h
      refine fw_iload_n C dX10_findName_42 rfl 0 rfl ?_
      exact fw_iret C hrt Y (Option.some.inj h) (fun t ht => ht) dX10_findName_43
    · have h := ite_t c4 h
      refine fw_aload_n C dX10_findName_37 rfl 1 rfl ?_
      refine fw_iconst C dX10_findName_38 (v := 3) rfl ?_
      obtain ⟨Y7, q6, h⟩ := bd1_some h
      refine fw_callVv C (ci := 8) (Cn := RX10) (Tc := TX10) (N := 6) (As := [.int 3]) (c_X10_fail (gac (hG _ (List.mem_of_getElem? (i := 0) rfl)) ga0) q6) (cwV 1 (cx_ts C) gX10_findName_X10_fail rfl rfl rfl (by decide +kernel) ⟨Nat.le_of_ble_eq_true rfl, Nat.le_of_ble_eq_true rfl⟩) rfl (hG _ (List.mem_of_getElem? (i := 0) rfl)) (of6_0 _) (ce6 T ad _ _) rfl (st := []) rfl (Nat.le_of_ble_eq_true rfl) ⟨Nat.le_refl 0, Nat.le_refl 0⟩ dX10_findName_39 (ppv ?_)
      refine fw_iload_n C dX10_findName_42 rfl 0 rfl ?_
      exact fw_iret C hrt Y7 (Option.some.inj h) (fun t ht => ht) dX10_findName_43
  · have h := ite_f c1 h
    refine fw_aload_n C dX10_findName_8 rfl 0 rfl ?_
    refine fw_iconst C dX10_findName_9 (v := 1) rfl ?_
    obtain ⟨Y10, q9, h⟩ := bd1_some h
    refine fw_callVv C (ci := 8) (Cn := RX10) (Tc := TX10) (N := 6) (As := [.int 1]) (c_X10_fail (gac (hG _ (List.mem_of_getElem? (i := 0) rfl)) ga0) q9) (cwV 1 (cx_ts C) gX10_findName_X10_fail rfl rfl rfl (by decide +kernel) ⟨Nat.le_of_ble_eq_true rfl, Nat.le_of_ble_eq_true rfl⟩) rfl (hG _ (List.mem_of_getElem? (i := 0) rfl)) (of6_0 _) (ce6 T ad _ _) rfl (st := []) rfl (Nat.le_of_ble_eq_true rfl) ⟨Nat.le_refl 0, Nat.le_refl 0⟩ dX10_findName_10 (ppv ?_)
    refine fw_iconst C dX10_findName_13 (v := (-1)) rfl ?_
    exact fw_iret C hrt Y10 (Option.some.inj h) (fun t ht => ht) dX10_findName_14
end
set_option maxRecDepth 100000 in
set_option maxHeartbeats 4000000 in
theorem c_X10_findName {l : Launch} {N0 : Nat} {T : Nat → ClassId} {D : va_G} {gr : List (Nat × Nat)} {ad : Nat → Nat → Nat → Nat} {Y : Mem} {g1 : Nat} {res : Int32 × Mem} (hG : ∀ q ∈ [(6, 0), (5, 0), (4, 0), (4, g1)], q ∈ gr) (h : X10_findName Y g1 = some res) : CI l yX10_findName wsX10_findName (Rm 2) N0 T D gr ad Y [.ref (ad 6 0 0), .ref (ad 4 g1 0)] (fun r Y1 => (r, Y1) = res) :=
  fw_body (by decide +kernel) rfl (Nat.le_of_ble_eq_true rfl) (fun p e s m below meth c C hrt => w_X10_findName C hrt hG  h)
theorem ly_X10_isAnyWord_10 : ∀ w ∈ u_ws RX10 TX10 6, w ∈ wsX10_isAnyWord := by decide +kernel
theorem fl_X10_isAnyWord_44 : Cond.fieldLink RX10 44 "RecipeScheduler$Tokens" "kind" "I" ∈ wsX10_isAnyWord := by decide +kernel
section
variable {p : Program} {l : Launch} {e : Env} {s : State} {m : MethodId} {below : List Frame} {meth : Method} {c : Code} {N0 : Nat} {T : Nat → ClassId} {D : va_G} {gr : List (Nat × Nat)} {ad : Nat → Nat → Nat → Nat}
set_option maxRecDepth 100000 in
set_option maxHeartbeats 4000000 in
theorem w_X10_isAnyWord {Y : Mem} (C : Cx p s m [.ref (ad 6 0 0)].toArray meth c cX10_isAnyWord 1 wsX10_isAnyWord RX10 N0 T D gr ad) (hrt : meth.sig.returnType = (some .boolean)) (hG : ∀ q ∈ [(6, 0)], q ∈ gr) {res : Int32} (h : X10_isAnyWord Y = some res) : FW p l e (Rm 0) s m [.ref (ad 6 0 0)].toArray below meth c 1 N0 T D gr ad 0 0 (MQ below (va_Qi (fun r Y1 => r = res ∧ Y1 = Y) (WB T D gr ad) (fun q => N0 ≤ q)) [.ref (ad 6 0 0)].toArray s 0 0 (fun q => N0 ≤ q)) Y 0 [(0, .ref (ad 6 0 0))] [] := by
  unfold X10_isAnyWord at h
  refine fw_aload_n C dX10_isAnyWord_0 rfl 0 rfl ?_
  refine fw_get C (ci := 8) (Cn := RX10) (Tc := TX10) (N := 6) (j := 1) ly_X10_isAnyWord_10 rfl (hG _ (List.mem_of_getElem? (i := 0) rfl)) (of6_0 _) (ce6 T ad _ _) (by decide) (cx_ts C _ fl_X10_isAnyWord_44) (fun _ h => h) (v := .int (Y 6 0 0 1)) rfl dX10_isAnyWord_1 ?_
  refine fw_iconst C dX10_isAnyWord_4 (v := 1) rfl ?_
  refine fw_icmp_ne C dX10_isAnyWord_5 (tgt := 12) rfl (fun c1 => ?_) (fun c1 => ?_)
  · have h := ite_f c1 h
    refine fw_iconst C dX10_isAnyWord_12 (v := 0) rfl ?_
    exact fw_zret C hrt (by decide) Y ⟨Option.some.inj h, rfl⟩ (fun t ht => ht) dX10_isAnyWord_13
  · have h := ite_t c1 h
    refine fw_iconst C dX10_isAnyWord_8 (v := 1) rfl ?_
    refine fw_goto C dX10_isAnyWord_9 (tgt := 13) rfl ?_
    exact fw_zret C hrt (by decide) Y ⟨Option.some.inj h, rfl⟩ (fun t ht => ht) dX10_isAnyWord_13
end
set_option maxRecDepth 100000 in
set_option maxHeartbeats 4000000 in
theorem c_X10_isAnyWord {l : Launch} {N0 : Nat} {T : Nat → ClassId} {D : va_G} {gr : List (Nat × Nat)} {ad : Nat → Nat → Nat → Nat} {Y : Mem} {res : Int32} (hG : ∀ q ∈ [(6, 0)], q ∈ gr) (h : X10_isAnyWord Y = some res) : CI l yX10_isAnyWord wsX10_isAnyWord (Rm 0) N0 T D gr ad Y [.ref (ad 6 0 0)] (fun r Y1 => r = res ∧ Y1 = Y) :=
  fw_body (by decide +kernel) rfl (Nat.le_of_ble_eq_true rfl) (fun p e s m below meth c C hrt => w_X10_isAnyWord C hrt hG  h)
theorem ly_X10_mayGoOn_10 : ∀ w ∈ u_ws RX10 TX10 6, w ∈ wsX10_mayGoOn := by decide +kernel
theorem fl_X10_mayGoOn_44 : Cond.fieldLink RX10 44 "RecipeScheduler$Tokens" "kind" "I" ∈ wsX10_mayGoOn := by decide +kernel
section
variable {p : Program} {l : Launch} {e : Env} {s : State} {m : MethodId} {below : List Frame} {meth : Method} {c : Code} {N0 : Nat} {T : Nat → ClassId} {D : va_G} {gr : List (Nat × Nat)} {ad : Nat → Nat → Nat → Nat}
set_option maxRecDepth 100000 in
set_option maxHeartbeats 4000000 in
theorem w_X10_mayGoOn {Y : Mem} (C : Cx p s m [.ref (ad 6 0 0)].toArray meth c cX10_mayGoOn 1 wsX10_mayGoOn RX10 N0 T D gr ad) (hrt : meth.sig.returnType = (some .boolean)) (hG : ∀ q ∈ [(6, 0)], q ∈ gr) {res : Int32} (h : X10_mayGoOn Y = some res) : FW p l e (Rm 0) s m [.ref (ad 6 0 0)].toArray below meth c 1 N0 T D gr ad 0 0 (MQ below (va_Qi (fun r Y1 => r = res ∧ Y1 = Y) (WB T D gr ad) (fun q => N0 ≤ q)) [.ref (ad 6 0 0)].toArray s 0 0 (fun q => N0 ≤ q)) Y 0 [(0, .ref (ad 6 0 0))] [] := by
  unfold X10_mayGoOn at h
  refine fw_aload_n C dX10_mayGoOn_0 rfl 0 rfl ?_
  refine fw_get C (ci := 8) (Cn := RX10) (Tc := TX10) (N := 6) (j := 1) ly_X10_mayGoOn_10 rfl (hG _ (List.mem_of_getElem? (i := 0) rfl)) (of6_0 _) (ce6 T ad _ _) (by decide) (cx_ts C _ fl_X10_mayGoOn_44) (fun _ h => h) (v := .int (Y 6 0 0 1)) rfl dX10_mayGoOn_1 ?_
  refine fw_if_eq C dX10_mayGoOn_4 (tgt := 19) rfl (fun c1 => ?_) (fun c1 => ?_)
  · have h := ite_t c1 h
    refine fw_iconst C dX10_mayGoOn_19 (v := 0) rfl ?_
    exact fw_zret C hrt (by decide) Y ⟨Option.some.inj h, rfl⟩ (fun t ht => ht) dX10_mayGoOn_20
  · have h := ite_f c1 h
    refine fw_aload_n C dX10_mayGoOn_7 rfl 0 rfl ?_
    refine fw_get C (ci := 8) (Cn := RX10) (Tc := TX10) (N := 6) (j := 1) ly_X10_mayGoOn_10 rfl (hG _ (List.mem_of_getElem? (i := 0) rfl)) (of6_0 _) (ce6 T ad _ _) (by decide) (cx_ts C _ fl_X10_mayGoOn_44) (fun _ h => h) (v := .int (Y 6 0 0 1)) rfl dX10_mayGoOn_8 ?_
    refine fw_iconst C dX10_mayGoOn_11 (v := 5) rfl ?_
    refine fw_icmp_eq C dX10_mayGoOn_12 (tgt := 19) rfl (fun c2 => ?_) (fun c2 => ?_)
    · have h := ite_t c2 h
      refine fw_iconst C dX10_mayGoOn_19 (v := 0) rfl ?_
      exact fw_zret C hrt (by decide) Y ⟨Option.some.inj h, rfl⟩ (fun t ht => ht) dX10_mayGoOn_20
    · have h := ite_f c2 h
      refine fw_iconst C dX10_mayGoOn_15 (v := 1) rfl ?_
      refine fw_goto C dX10_mayGoOn_16 (tgt := 20) rfl ?_
      exact fw_zret C hrt (by decide) Y ⟨Option.some.inj h, rfl⟩ (fun t ht => ht) dX10_mayGoOn_20
end
set_option maxRecDepth 100000 in
set_option maxHeartbeats 4000000 in
theorem c_X10_mayGoOn {l : Launch} {N0 : Nat} {T : Nat → ClassId} {D : va_G} {gr : List (Nat × Nat)} {ad : Nat → Nat → Nat → Nat} {Y : Mem} {res : Int32} (hG : ∀ q ∈ [(6, 0)], q ∈ gr) (h : X10_mayGoOn Y = some res) : CI l yX10_mayGoOn wsX10_mayGoOn (Rm 0) N0 T D gr ad Y [.ref (ad 6 0 0)] (fun r Y1 => r = res ∧ Y1 = Y) :=
  fw_body (by decide +kernel) rfl (Nat.le_of_ble_eq_true rfl) (fun p e s m below meth c C hrt => w_X10_mayGoOn C hrt hG  h)
section
variable {p : Program} {l : Launch} {e : Env} {s : State} {m : MethodId} {below : List Frame} {meth : Method} {c : Code} {N0 : Nat} {T : Nat → ClassId} {D : va_G} {gr : List (Nat × Nat)} {ad : Nat → Nat → Nat → Nat}
set_option maxRecDepth 100000 in
set_option maxHeartbeats 4000000 in
theorem w_X11_isSaltAmount {Y : Mem} {a1 : Int32} (C : Cx p s m [.ref (ad 0 0 0), .int a1].toArray meth c cX11_isSaltAmount 2 wsX11_isSaltAmount RX11 N0 T D gr ad) (hrt : meth.sig.returnType = (some .boolean)) (hG : ∀ q ∈ [], q ∈ gr) {res : Int32} (h : X11_isSaltAmount Y a1 = some res) : FW p l e (Rm 1) s m [.ref (ad 0 0 0), .int a1].toArray below meth c 2 N0 T D gr ad 0 0 (MQ below (va_Qi (fun r Y1 => r = res ∧ Y1 = Y) (WB T D gr ad) (fun q => N0 ≤ q)) [.ref (ad 0 0 0), .int a1].toArray s 0 0 (fun q => N0 ≤ q)) Y 0 [(0, .ref (ad 0 0 0)), (1, .int a1)] [] := by
  unfold X11_isSaltAmount at h
  refine fw_iload_n C dX11_isSaltAmount_0 rfl 1 rfl ?_
  refine fw_if_eq C dX11_isSaltAmount_1 (tgt := 19) rfl (fun c1 => ?_) (fun c1 => ?_)
  · have h := ite_t c1 h
    refine fw_iconst C dX11_isSaltAmount_19 (v := 0) rfl ?_
    exact fw_zret C hrt (by decide) Y ⟨Option.some.inj h, rfl⟩ (fun t ht => ht) dX11_isSaltAmount_20
  · have h := ite_f c1 h
    refine fw_iload_n C dX11_isSaltAmount_4 rfl 1 rfl ?_
    refine fw_bipush C dX11_isSaltAmount_5 (v := (-9)) rfl ?_
    refine fw_bipush C dX11_isSaltAmount_7 (v := 9) rfl ?_
    obtain ⟨r2, q3, h⟩ := bd1_some h
    refine fw_callSi C (As := [.int a1, .int ((-9)), .int 9]) (c_X11_isWithin ga0 q3) (va_cwS 3 (cx_ts C) gX11_isSaltAmount_X11_isWithin rfl rfl rfl (by decide +kernel) ⟨Nat.le_of_ble_eq_true rfl, Nat.le_of_ble_eq_true rfl⟩) rfl (st := []) rfl (Nat.le_of_ble_eq_true rfl) ⟨Nat.le_refl 0, Nat.le_refl 0⟩ dX11_isSaltAmount_9 (pp2 ?_)
    refine fw_if_eq C dX11_isSaltAmount_12 (tgt := 19) rfl (fun c4 => ?_) (fun c4 => ?_)
    · have h := ite_t c4 h
      refine fw_iconst C dX11_isSaltAmount_19 (v := 0) rfl ?_
      exact fw_zret C hrt (by decide) Y ⟨Option.some.inj h, rfl⟩ (fun t ht => ht) dX11_isSaltAmount_20
    · have h := ite_f c4 h
      refine fw_iconst C dX11_isSaltAmount_15 (v := 1) rfl ?_
      refine fw_goto C dX11_isSaltAmount_16 (tgt := 20) rfl ?_
      exact fw_zret C hrt (by decide) Y ⟨Option.some.inj h, rfl⟩ (fun t ht => ht) dX11_isSaltAmount_20
end
set_option maxRecDepth 100000 in
set_option maxHeartbeats 4000000 in
theorem c_X11_isSaltAmount {l : Launch} {N0 : Nat} {T : Nat → ClassId} {D : va_G} {gr : List (Nat × Nat)} {ad : Nat → Nat → Nat → Nat} {Y : Mem} {a1 : Int32} {res : Int32} (hG : ∀ q ∈ [], q ∈ gr) (h : X11_isSaltAmount Y a1 = some res) : CI l yX11_isSaltAmount wsX11_isSaltAmount (Rm 1) N0 T D gr ad Y [.ref (ad 0 0 0), .int a1] (fun r Y1 => r = res ∧ Y1 = Y) :=
  fw_body (by decide +kernel) rfl (Nat.le_of_ble_eq_true rfl) (fun p e s m below meth c C hrt => w_X11_isSaltAmount C hrt hG  h)
theorem ly_X8_copyFrom_8 : ∀ w ∈ u_ws RX8 TX8 15, w ∈ wsX8_copyFrom := by decide +kernel
theorem fl_X8_copyFrom_36 : Cond.fieldLink RX8 36 "RecipeScheduler$State" "cooks" "I" ∈ wsX8_copyFrom := by decide +kernel
theorem fl_X8_copyFrom_37 : Cond.fieldLink RX8 37 "RecipeScheduler$State" "minute" "I" ∈ wsX8_copyFrom := by decide +kernel
theorem fl_X8_copyFrom_40 : Cond.fieldLink RX8 40 "RecipeScheduler$State" "salt" "I" ∈ wsX8_copyFrom := by decide +kernel
theorem fl_X8_copyFrom_43 : Cond.fieldLink RX8 43 "RecipeScheduler$State" "cookMinutes" "I" ∈ wsX8_copyFrom := by decide +kernel
theorem fl_X8_copyFrom_46 : Cond.fieldLink RX8 46 "RecipeScheduler$State" "stops" "I" ∈ wsX8_copyFrom := by decide +kernel
theorem fl_X8_copyFrom_49 : Cond.fieldLink RX8 49 "RecipeScheduler$State" "served" "Z" ∈ wsX8_copyFrom := by decide +kernel
theorem fl_X8_copyFrom_53 : Cond.fieldLink RX8 53 "RecipeScheduler$State" "running" "I" ∈ wsX8_copyFrom := by decide +kernel
theorem fl_X8_copyFrom_56 : Cond.fieldLink RX8 56 "RecipeScheduler$State" "done" "I" ∈ wsX8_copyFrom := by decide +kernel
theorem fl_X8_copyFrom_59 : Cond.fieldLink RX8 59 "RecipeScheduler$State" "burnt" "I" ∈ wsX8_copyFrom := by decide +kernel
theorem fl_X8_copyFrom_9 : Cond.fieldLink RX8 9 "RecipeScheduler$State" "duration" "[I" ∈ wsX8_copyFrom := by decide +kernel
theorem cw_X8_copyFrom_copy : Cond.methodLink RX8 63 arraycopyName ∈ wsX8_copyFrom ∧ Cond.native arraycopyName ∈ wsX8_copyFrom ∧ Cond.static arraycopyName ∈ wsX8_copyFrom ∧ Cond.initialized "java/lang/System" ∈ wsX8_copyFrom := by decide +kernel
theorem fl_X8_copyFrom_15 : Cond.fieldLink RX8 15 "RecipeScheduler$State" "remaining" "[I" ∈ wsX8_copyFrom := by decide +kernel
theorem fl_X8_copyFrom_18 : Cond.fieldLink RX8 18 "RecipeScheduler$State" "age" "[I" ∈ wsX8_copyFrom := by decide +kernel
theorem fl_X8_copyFrom_21 : Cond.fieldLink RX8 21 "RecipeScheduler$State" "starts" "[I" ∈ wsX8_copyFrom := by decide +kernel
theorem fl_X8_copyFrom_24 : Cond.fieldLink RX8 24 "RecipeScheduler$State" "completions" "[I" ∈ wsX8_copyFrom := by decide +kernel
theorem fl_X8_copyFrom_27 : Cond.fieldLink RX8 27 "RecipeScheduler$State" "burns" "[I" ∈ wsX8_copyFrom := by decide +kernel
section
variable {p : Program} {l : Launch} {e : Env} {s : State} {m : MethodId} {below : List Frame} {meth : Method} {c : Code} {N0 : Nat} {T : Nat → ClassId} {D : va_G} {gr : List (Nat × Nat)} {ad : Nat → Nat → Nat → Nat}
set_option maxRecDepth 100000 in
set_option maxHeartbeats 4000000 in
theorem w_X8_copyFrom {Y : Mem} {g0 : Nat} {g1 : Nat} (C : Cx p s m [.ref (ad 2 g0 0), .ref (ad 2 g1 0)].toArray meth c cX8_copyFrom 2 wsX8_copyFrom RX8 N0 T D gr ad) (hrt : meth.sig.returnType = none) (hG : ∀ q ∈ [(2, g1), (2, g0)], q ∈ gr) {res : Mem} (h : X8_copyFrom Y g0 g1 = some res) : FW p l e (Rm 1) s m [.ref (ad 2 g0 0), .ref (ad 2 g1 0)].toArray below meth c 2 N0 T D gr ad 0 0 (MQ below (va_Qv (fun Y1 => Y1 = res) (WB T D gr ad) (fun q => N0 ≤ q)) [.ref (ad 2 g0 0), .ref (ad 2 g1 0)].toArray s 0 0 (fun q => N0 ≤ q)) Y 0 [(0, .ref (ad 2 g0 0)), (1, .ref (ad 2 g1 0))] [] := by
  unfold X8_copyFrom at h
  refine fw_aload_n C dX8_copyFrom_0 rfl 0 rfl ?_
  refine fw_aload_n C dX8_copyFrom_1 rfl 1 rfl ?_
  refine fw_get C (ci := 6) (Cn := RX8) (Tc := TX8) (N := 15) (j := 0) ly_X8_copyFrom_8 rfl (hG _ (List.mem_of_getElem? (i := 0) rfl)) (of2_0 _) (ce2 T ad _ _) (by decide) (cx_ts C _ fl_X8_copyFrom_36) (fun _ h => h) (v := .int (Y 2 g1 0 0)) rfl dX8_copyFrom_2 ?_
  obtain ⟨Y1, e2, h⟩ := lt_some h
  refine fw_put C (ci := 6) (Cn := RX8) (Tc := TX8) (N := 15) (j := 0) (ty := .int) (upd (Y 2 g0 0) 0 (Y 2 g1 0 0)) ly_X8_copyFrom_8 rfl tyX8_ok nmX8 (hG _ (List.mem_of_getElem? (i := 1) rfl)) (of2_0 _) (ce2 T ad _ _) (by decide) (cx_ts C _ fl_X8_copyFrom_36) (fun _ h => h) rfl (by decide +kernel) rfl rfl (Nat.le_of_ble_eq_true rfl) (ce2_put0 T ad _ _ _) dX8_copyFrom_5 ?_
  refine fw_mem ((up_eq _ _ _ _ _ _).symm.trans e2) ?_
  refine fw_aload_n C dX8_copyFrom_8 rfl 0 rfl ?_
  refine fw_aload_n C dX8_copyFrom_9 rfl 1 rfl ?_
  refine fw_get C (ci := 6) (Cn := RX8) (Tc := TX8) (N := 15) (j := 1) ly_X8_copyFrom_8 rfl (hG _ (List.mem_of_getElem? (i := 0) rfl)) (of2_0 _) (ce2 T ad _ _) (by decide) (cx_ts C _ fl_X8_copyFrom_37) (fun _ h => h) (v := .int (Y1 2 g1 0 1)) rfl dX8_copyFrom_10 ?_
  obtain ⟨Y3, e4, h⟩ := lt_some h
  refine fw_put C (ci := 6) (Cn := RX8) (Tc := TX8) (N := 15) (j := 1) (ty := .int) (upd (Y1 2 g0 0) 1 (Y1 2 g1 0 1)) ly_X8_copyFrom_8 rfl tyX8_ok nmX8 (hG _ (List.mem_of_getElem? (i := 1) rfl)) (of2_0 _) (ce2 T ad _ _) (by decide) (cx_ts C _ fl_X8_copyFrom_37) (fun _ h => h) rfl (by decide +kernel) rfl rfl (Nat.le_of_ble_eq_true rfl) (ce2_put1 T ad _ _ _) dX8_copyFrom_13 ?_
  refine fw_mem ((up_eq _ _ _ _ _ _).symm.trans e4) ?_
  refine fw_aload_n C dX8_copyFrom_16 rfl 0 rfl ?_
  refine fw_aload_n C dX8_copyFrom_17 rfl 1 rfl ?_
  refine fw_get C (ci := 6) (Cn := RX8) (Tc := TX8) (N := 15) (j := 2) ly_X8_copyFrom_8 rfl (hG _ (List.mem_of_getElem? (i := 0) rfl)) (of2_0 _) (ce2 T ad _ _) (by decide) (cx_ts C _ fl_X8_copyFrom_40) (fun _ h => h) (v := .int (Y3 2 g1 0 2)) rfl dX8_copyFrom_18 ?_
  obtain ⟨Y5, e6, h⟩ := lt_some h
  refine fw_put C (ci := 6) (Cn := RX8) (Tc := TX8) (N := 15) (j := 2) (ty := .int) (upd (Y3 2 g0 0) 2 (Y3 2 g1 0 2)) ly_X8_copyFrom_8 rfl tyX8_ok nmX8 (hG _ (List.mem_of_getElem? (i := 1) rfl)) (of2_0 _) (ce2 T ad _ _) (by decide) (cx_ts C _ fl_X8_copyFrom_40) (fun _ h => h) rfl (by decide +kernel) rfl rfl (Nat.le_of_ble_eq_true rfl) (ce2_put2 T ad _ _ _) dX8_copyFrom_21 ?_
  refine fw_mem ((up_eq _ _ _ _ _ _).symm.trans e6) ?_
  refine fw_aload_n C dX8_copyFrom_24 rfl 0 rfl ?_
  refine fw_aload_n C dX8_copyFrom_25 rfl 1 rfl ?_
  refine fw_get C (ci := 6) (Cn := RX8) (Tc := TX8) (N := 15) (j := 3) ly_X8_copyFrom_8 rfl (hG _ (List.mem_of_getElem? (i := 0) rfl)) (of2_0 _) (ce2 T ad _ _) (by decide) (cx_ts C _ fl_X8_copyFrom_43) (fun _ h => h) (v := .int (Y5 2 g1 0 3)) rfl dX8_copyFrom_26 ?_
  obtain ⟨Y7, e8, h⟩ := lt_some h
  refine fw_put C (ci := 6) (Cn := RX8) (Tc := TX8) (N := 15) (j := 3) (ty := .int) (upd (Y5 2 g0 0) 3 (Y5 2 g1 0 3)) ly_X8_copyFrom_8 rfl tyX8_ok nmX8 (hG _ (List.mem_of_getElem? (i := 1) rfl)) (of2_0 _) (ce2 T ad _ _) (by decide) (cx_ts C _ fl_X8_copyFrom_43) (fun _ h => h) rfl (by decide +kernel) rfl rfl (Nat.le_of_ble_eq_true rfl) (ce2_put3 T ad _ _ _) dX8_copyFrom_29 ?_
  refine fw_mem ((up_eq _ _ _ _ _ _).symm.trans e8) ?_
  refine fw_aload_n C dX8_copyFrom_32 rfl 0 rfl ?_
  refine fw_aload_n C dX8_copyFrom_33 rfl 1 rfl ?_
  refine fw_get C (ci := 6) (Cn := RX8) (Tc := TX8) (N := 15) (j := 4) ly_X8_copyFrom_8 rfl (hG _ (List.mem_of_getElem? (i := 0) rfl)) (of2_0 _) (ce2 T ad _ _) (by decide) (cx_ts C _ fl_X8_copyFrom_46) (fun _ h => h) (v := .int (Y7 2 g1 0 4)) rfl dX8_copyFrom_34 ?_
  obtain ⟨Y9, e10, h⟩ := lt_some h
  refine fw_put C (ci := 6) (Cn := RX8) (Tc := TX8) (N := 15) (j := 4) (ty := .int) (upd (Y7 2 g0 0) 4 (Y7 2 g1 0 4)) ly_X8_copyFrom_8 rfl tyX8_ok nmX8 (hG _ (List.mem_of_getElem? (i := 1) rfl)) (of2_0 _) (ce2 T ad _ _) (by decide) (cx_ts C _ fl_X8_copyFrom_46) (fun _ h => h) rfl (by decide +kernel) rfl rfl (Nat.le_of_ble_eq_true rfl) (ce2_put4 T ad _ _ _) dX8_copyFrom_37 ?_
  refine fw_mem ((up_eq _ _ _ _ _ _).symm.trans e10) ?_
  refine fw_aload_n C dX8_copyFrom_40 rfl 0 rfl ?_
  refine fw_aload_n C dX8_copyFrom_41 rfl 1 rfl ?_
  refine fw_get C (ci := 6) (Cn := RX8) (Tc := TX8) (N := 15) (j := 5) ly_X8_copyFrom_8 rfl (hG _ (List.mem_of_getElem? (i := 0) rfl)) (of2_0 _) (ce2 T ad _ _) (by decide) (cx_ts C _ fl_X8_copyFrom_49) (fun _ h => h) (v := .int (Y9 2 g1 0 5)) rfl dX8_copyFrom_42 ?_
  obtain ⟨b13, h⟩ := gd_some h
  obtain ⟨Y11, e12, h⟩ := lt_some h
  refine fw_put C (ci := 6) (Cn := RX8) (Tc := TX8) (N := 15) (j := 5) (ty := .boolean) (upd (Y9 2 g0 0) 5 (Y9 2 g1 0 5)) ly_X8_copyFrom_8 rfl tyX8_ok nmX8 (hG _ (List.mem_of_getElem? (i := 1) rfl)) (of2_0 _) (ce2 T ad _ _) (by decide) (cx_ts C _ fl_X8_copyFrom_49) (fun _ h => h) rfl (by decide +kernel) (nz_ok (of_decide_eq_true b13)) (nz_fit (of_decide_eq_true b13)) (Nat.le_of_ble_eq_true rfl) (ce2_put5 T ad _ _ _) dX8_copyFrom_45 ?_
  refine fw_mem ((up_eq _ _ _ _ _ _).symm.trans e12) ?_
  refine fw_aload_n C dX8_copyFrom_48 rfl 0 rfl ?_
  refine fw_aload_n C dX8_copyFrom_49 rfl 1 rfl ?_
  refine fw_get C (ci := 6) (Cn := RX8) (Tc := TX8) (N := 15) (j := 6) ly_X8_copyFrom_8 rfl (hG _ (List.mem_of_getElem? (i := 0) rfl)) (of2_0 _) (ce2 T ad _ _) (by decide) (cx_ts C _ fl_X8_copyFrom_53) (fun _ h => h) (v := .int (Y11 2 g1 0 6)) rfl dX8_copyFrom_50 ?_
  obtain ⟨Y14, e15, h⟩ := lt_some h
  refine fw_put C (ci := 6) (Cn := RX8) (Tc := TX8) (N := 15) (j := 6) (ty := .int) (upd (Y11 2 g0 0) 6 (Y11 2 g1 0 6)) ly_X8_copyFrom_8 rfl tyX8_ok nmX8 (hG _ (List.mem_of_getElem? (i := 1) rfl)) (of2_0 _) (ce2 T ad _ _) (by decide) (cx_ts C _ fl_X8_copyFrom_53) (fun _ h => h) rfl (by decide +kernel) rfl rfl (Nat.le_of_ble_eq_true rfl) (ce2_put6 T ad _ _ _) dX8_copyFrom_53 ?_
  refine fw_mem ((up_eq _ _ _ _ _ _).symm.trans e15) ?_
  refine fw_aload_n C dX8_copyFrom_56 rfl 0 rfl ?_
  refine fw_aload_n C dX8_copyFrom_57 rfl 1 rfl ?_
  refine fw_get C (ci := 6) (Cn := RX8) (Tc := TX8) (N := 15) (j := 7) ly_X8_copyFrom_8 rfl (hG _ (List.mem_of_getElem? (i := 0) rfl)) (of2_0 _) (ce2 T ad _ _) (by decide) (cx_ts C _ fl_X8_copyFrom_56) (fun _ h => h) (v := .int (Y14 2 g1 0 7)) rfl dX8_copyFrom_58 ?_
  obtain ⟨Y16, e17, h⟩ := lt_some h
  refine fw_put C (ci := 6) (Cn := RX8) (Tc := TX8) (N := 15) (j := 7) (ty := .int) (upd (Y14 2 g0 0) 7 (Y14 2 g1 0 7)) ly_X8_copyFrom_8 rfl tyX8_ok nmX8 (hG _ (List.mem_of_getElem? (i := 1) rfl)) (of2_0 _) (ce2 T ad _ _) (by decide) (cx_ts C _ fl_X8_copyFrom_56) (fun _ h => h) rfl (by decide +kernel) rfl rfl (Nat.le_of_ble_eq_true rfl) (ce2_put7 T ad _ _ _) dX8_copyFrom_61 ?_
  refine fw_mem ((up_eq _ _ _ _ _ _).symm.trans e17) ?_
  refine fw_aload_n C dX8_copyFrom_64 rfl 0 rfl ?_
  refine fw_aload_n C dX8_copyFrom_65 rfl 1 rfl ?_
  refine fw_get C (ci := 6) (Cn := RX8) (Tc := TX8) (N := 15) (j := 8) ly_X8_copyFrom_8 rfl (hG _ (List.mem_of_getElem? (i := 0) rfl)) (of2_0 _) (ce2 T ad _ _) (by decide) (cx_ts C _ fl_X8_copyFrom_59) (fun _ h => h) (v := .int (Y16 2 g1 0 8)) rfl dX8_copyFrom_66 ?_
  obtain ⟨Y18, e19, h⟩ := lt_some h
  refine fw_put C (ci := 6) (Cn := RX8) (Tc := TX8) (N := 15) (j := 8) (ty := .int) (upd (Y16 2 g0 0) 8 (Y16 2 g1 0 8)) ly_X8_copyFrom_8 rfl tyX8_ok nmX8 (hG _ (List.mem_of_getElem? (i := 1) rfl)) (of2_0 _) (ce2 T ad _ _) (by decide) (cx_ts C _ fl_X8_copyFrom_59) (fun _ h => h) rfl (by decide +kernel) rfl rfl (Nat.le_of_ble_eq_true rfl) (ce2_put8 T ad _ _ _) dX8_copyFrom_69 ?_
  refine fw_mem ((up_eq _ _ _ _ _ _).symm.trans e19) ?_
  refine fw_aload_n C dX8_copyFrom_72 rfl 1 rfl ?_
  refine fw_get C (ci := 6) (Cn := RX8) (Tc := TX8) (N := 15) (j := 9) ly_X8_copyFrom_8 rfl (hG _ (List.mem_of_getElem? (i := 0) rfl)) (of2_0 _) (ce2 T ad _ _) (by decide) (cx_ts C _ fl_X8_copyFrom_9) (fun _ h => h) (v := .ref (ad 2 g1 1)) rfl dX8_copyFrom_73 ?_
  refine fw_iconst C dX8_copyFrom_76 (v := 0) rfl ?_
  refine fw_aload_n C dX8_copyFrom_77 rfl 0 rfl ?_
  refine fw_get C (ci := 6) (Cn := RX8) (Tc := TX8) (N := 15) (j := 9) ly_X8_copyFrom_8 rfl (hG _ (List.mem_of_getElem? (i := 1) rfl)) (of2_0 _) (ce2 T ad _ _) (by decide) (cx_ts C _ fl_X8_copyFrom_9) (fun _ h => h) (v := .ref (ad 2 g0 1)) rfl dX8_copyFrom_78 ?_
  refine fw_iconst C dX8_copyFrom_81 (v := 0) rfl ?_
  refine fw_bipush C dX8_copyFrom_82 (v := 14) rfl ?_
  obtain ⟨Y20, e21, h⟩ := lt_some h
  refine fw_copyi C (st := []) (hG _ (List.mem_of_getElem? (i := 0) rfl)) (of2_1 _) (hG _ (List.mem_of_getElem? (i := 1) rfl)) (of2_1 _) (ca2_1 T ad _ _) (ca2_1 T ad _) (cx_ts C _ cw_X8_copyFrom_copy.1) (cx_ts C _ cw_X8_copyFrom_copy.2.1) (cx_ts C _ cw_X8_copyFrom_copy.2.2.1) (cx_ts C _ cw_X8_copyFrom_copy.2.2.2) (Nat.le_of_ble_eq_true rfl) (Nat.le_of_ble_eq_true rfl) dX8_copyFrom_84 ?_
  refine fw_mem e21 ?_
  refine fw_aload_n C dX8_copyFrom_87 rfl 1 rfl ?_
  refine fw_get C (ci := 6) (Cn := RX8) (Tc := TX8) (N := 15) (j := 10) ly_X8_copyFrom_8 rfl (hG _ (List.mem_of_getElem? (i := 0) rfl)) (of2_0 _) (ce2 T ad _ _) (by decide) (cx_ts C _ fl_X8_copyFrom_15) (fun _ h => h) (v := .ref (ad 2 g1 2)) rfl dX8_copyFrom_88 ?_
  refine fw_iconst C dX8_copyFrom_91 (v := 0) rfl ?_
  refine fw_aload_n C dX8_copyFrom_92 rfl 0 rfl ?_
  refine fw_get C (ci := 6) (Cn := RX8) (Tc := TX8) (N := 15) (j := 10) ly_X8_copyFrom_8 rfl (hG _ (List.mem_of_getElem? (i := 1) rfl)) (of2_0 _) (ce2 T ad _ _) (by decide) (cx_ts C _ fl_X8_copyFrom_15) (fun _ h => h) (v := .ref (ad 2 g0 2)) rfl dX8_copyFrom_93 ?_
  refine fw_iconst C dX8_copyFrom_96 (v := 0) rfl ?_
  refine fw_bipush C dX8_copyFrom_97 (v := 14) rfl ?_
  obtain ⟨Y22, e23, h⟩ := lt_some h
  refine fw_copyi C (st := []) (hG _ (List.mem_of_getElem? (i := 0) rfl)) (of2_2 _) (hG _ (List.mem_of_getElem? (i := 1) rfl)) (of2_2 _) (ca2_2 T ad _ _) (ca2_2 T ad _) (cx_ts C _ cw_X8_copyFrom_copy.1) (cx_ts C _ cw_X8_copyFrom_copy.2.1) (cx_ts C _ cw_X8_copyFrom_copy.2.2.1) (cx_ts C _ cw_X8_copyFrom_copy.2.2.2) (Nat.le_of_ble_eq_true rfl) (Nat.le_of_ble_eq_true rfl) dX8_copyFrom_99 ?_
  refine fw_mem e23 ?_
  refine fw_aload_n C dX8_copyFrom_102 rfl 1 rfl ?_
  refine fw_get C (ci := 6) (Cn := RX8) (Tc := TX8) (N := 15) (j := 11) ly_X8_copyFrom_8 rfl (hG _ (List.mem_of_getElem? (i := 0) rfl)) (of2_0 _) (ce2 T ad _ _) (by decide) (cx_ts C _ fl_X8_copyFrom_18) (fun _ h => h) (v := .ref (ad 2 g1 3)) rfl dX8_copyFrom_103 ?_
  refine fw_iconst C dX8_copyFrom_106 (v := 0) rfl ?_
  refine fw_aload_n C dX8_copyFrom_107 rfl 0 rfl ?_
  refine fw_get C (ci := 6) (Cn := RX8) (Tc := TX8) (N := 15) (j := 11) ly_X8_copyFrom_8 rfl (hG _ (List.mem_of_getElem? (i := 1) rfl)) (of2_0 _) (ce2 T ad _ _) (by decide) (cx_ts C _ fl_X8_copyFrom_18) (fun _ h => h) (v := .ref (ad 2 g0 3)) rfl dX8_copyFrom_108 ?_
  refine fw_iconst C dX8_copyFrom_111 (v := 0) rfl ?_
  refine fw_bipush C dX8_copyFrom_112 (v := 14) rfl ?_
  obtain ⟨Y24, e25, h⟩ := lt_some h
  refine fw_copyi C (st := []) (hG _ (List.mem_of_getElem? (i := 0) rfl)) (of2_3 _) (hG _ (List.mem_of_getElem? (i := 1) rfl)) (of2_3 _) (ca2_3 T ad _ _) (ca2_3 T ad _) (cx_ts C _ cw_X8_copyFrom_copy.1) (cx_ts C _ cw_X8_copyFrom_copy.2.1) (cx_ts C _ cw_X8_copyFrom_copy.2.2.1) (cx_ts C _ cw_X8_copyFrom_copy.2.2.2) (Nat.le_of_ble_eq_true rfl) (Nat.le_of_ble_eq_true rfl) dX8_copyFrom_114 ?_
  refine fw_mem e25 ?_
  refine fw_aload_n C dX8_copyFrom_117 rfl 1 rfl ?_
  refine fw_get C (ci := 6) (Cn := RX8) (Tc := TX8) (N := 15) (j := 12) ly_X8_copyFrom_8 rfl (hG _ (List.mem_of_getElem? (i := 0) rfl)) (of2_0 _) (ce2 T ad _ _) (by decide) (cx_ts C _ fl_X8_copyFrom_21) (fun _ h => h) (v := .ref (ad 2 g1 4)) rfl dX8_copyFrom_118 ?_
  refine fw_iconst C dX8_copyFrom_121 (v := 0) rfl ?_
  refine fw_aload_n C dX8_copyFrom_122 rfl 0 rfl ?_
  refine fw_get C (ci := 6) (Cn := RX8) (Tc := TX8) (N := 15) (j := 12) ly_X8_copyFrom_8 rfl (hG _ (List.mem_of_getElem? (i := 1) rfl)) (of2_0 _) (ce2 T ad _ _) (by decide) (cx_ts C _ fl_X8_copyFrom_21) (fun _ h => h) (v := .ref (ad 2 g0 4)) rfl dX8_copyFrom_123 ?_
  refine fw_iconst C dX8_copyFrom_126 (v := 0) rfl ?_
  refine fw_bipush C dX8_copyFrom_127 (v := 14) rfl ?_
  obtain ⟨Y26, e27, h⟩ := lt_some h
  refine fw_copyi C (st := []) (hG _ (List.mem_of_getElem? (i := 0) rfl)) (of2_4 _) (hG _ (List.mem_of_getElem? (i := 1) rfl)) (of2_4 _) (ca2_4 T ad _ _) (ca2_4 T ad _) (cx_ts C _ cw_X8_copyFrom_copy.1) (cx_ts C _ cw_X8_copyFrom_copy.2.1) (cx_ts C _ cw_X8_copyFrom_copy.2.2.1) (cx_ts C _ cw_X8_copyFrom_copy.2.2.2) (Nat.le_of_ble_eq_true rfl) (Nat.le_of_ble_eq_true rfl) dX8_copyFrom_129 ?_
  refine fw_mem e27 ?_
  refine fw_aload_n C dX8_copyFrom_132 rfl 1 rfl ?_
  refine fw_get C (ci := 6) (Cn := RX8) (Tc := TX8) (N := 15) (j := 13) ly_X8_copyFrom_8 rfl (hG _ (List.mem_of_getElem? (i := 0) rfl)) (of2_0 _) (ce2 T ad _ _) (by decide) (cx_ts C _ fl_X8_copyFrom_24) (fun _ h => h) (v := .ref (ad 2 g1 5)) rfl dX8_copyFrom_133 ?_
  refine fw_iconst C dX8_copyFrom_136 (v := 0) rfl ?_
  refine fw_aload_n C dX8_copyFrom_137 rfl 0 rfl ?_
  refine fw_get C (ci := 6) (Cn := RX8) (Tc := TX8) (N := 15) (j := 13) ly_X8_copyFrom_8 rfl (hG _ (List.mem_of_getElem? (i := 1) rfl)) (of2_0 _) (ce2 T ad _ _) (by decide) (cx_ts C _ fl_X8_copyFrom_24) (fun _ h => h) (v := .ref (ad 2 g0 5)) rfl dX8_copyFrom_138 ?_
  refine fw_iconst C dX8_copyFrom_141 (v := 0) rfl ?_
  refine fw_bipush C dX8_copyFrom_142 (v := 14) rfl ?_
  obtain ⟨Y28, e29, h⟩ := lt_some h
  refine fw_copyi C (st := []) (hG _ (List.mem_of_getElem? (i := 0) rfl)) (of2_5 _) (hG _ (List.mem_of_getElem? (i := 1) rfl)) (of2_5 _) (ca2_5 T ad _ _) (ca2_5 T ad _) (cx_ts C _ cw_X8_copyFrom_copy.1) (cx_ts C _ cw_X8_copyFrom_copy.2.1) (cx_ts C _ cw_X8_copyFrom_copy.2.2.1) (cx_ts C _ cw_X8_copyFrom_copy.2.2.2) (Nat.le_of_ble_eq_true rfl) (Nat.le_of_ble_eq_true rfl) dX8_copyFrom_144 ?_
  refine fw_mem e29 ?_
  refine fw_aload_n C dX8_copyFrom_147 rfl 1 rfl ?_
  refine fw_get C (ci := 6) (Cn := RX8) (Tc := TX8) (N := 15) (j := 14) ly_X8_copyFrom_8 rfl (hG _ (List.mem_of_getElem? (i := 0) rfl)) (of2_0 _) (ce2 T ad _ _) (by decide) (cx_ts C _ fl_X8_copyFrom_27) (fun _ h => h) (v := .ref (ad 2 g1 6)) rfl dX8_copyFrom_148 ?_
  refine fw_iconst C dX8_copyFrom_151 (v := 0) rfl ?_
  refine fw_aload_n C dX8_copyFrom_152 rfl 0 rfl ?_
  refine fw_get C (ci := 6) (Cn := RX8) (Tc := TX8) (N := 15) (j := 14) ly_X8_copyFrom_8 rfl (hG _ (List.mem_of_getElem? (i := 1) rfl)) (of2_0 _) (ce2 T ad _ _) (by decide) (cx_ts C _ fl_X8_copyFrom_27) (fun _ h => h) (v := .ref (ad 2 g0 6)) rfl dX8_copyFrom_153 ?_
  refine fw_iconst C dX8_copyFrom_156 (v := 0) rfl ?_
  refine fw_bipush C dX8_copyFrom_157 (v := 14) rfl ?_
  obtain ⟨Y30, e31, h⟩ := lt_some h
  refine fw_copyi C (st := []) (hG _ (List.mem_of_getElem? (i := 0) rfl)) (of2_6 _) (hG _ (List.mem_of_getElem? (i := 1) rfl)) (of2_6 _) (ca2_6 T ad _ _) (ca2_6 T ad _) (cx_ts C _ cw_X8_copyFrom_copy.1) (cx_ts C _ cw_X8_copyFrom_copy.2.1) (cx_ts C _ cw_X8_copyFrom_copy.2.2.1) (cx_ts C _ cw_X8_copyFrom_copy.2.2.2) (Nat.le_of_ble_eq_true rfl) (Nat.le_of_ble_eq_true rfl) dX8_copyFrom_159 ?_
  refine fw_mem e31 ?_
  exact fw_vret C hrt Y30 (Option.some.inj h) (fun t ht => ht) dX8_copyFrom_162
end
set_option maxRecDepth 100000 in
set_option maxHeartbeats 4000000 in
theorem c_X8_copyFrom {l : Launch} {N0 : Nat} {T : Nat → ClassId} {D : va_G} {gr : List (Nat × Nat)} {ad : Nat → Nat → Nat → Nat} {Y : Mem} {g0 : Nat} {g1 : Nat} {res : Mem} (hG : ∀ q ∈ [(2, g1), (2, g0)], q ∈ gr) (h : X8_copyFrom Y g0 g1 = some res) : CV l yX8_copyFrom wsX8_copyFrom (Rm 1) N0 T D gr ad Y [.ref (ad 2 g0 0), .ref (ad 2 g1 0)] (fun Y1 => Y1 = res) :=
  fw_body (by decide +kernel) rfl (Nat.le_of_ble_eq_true rfl) (fun p e s m below meth c C hrt => w_X8_copyFrom C hrt hG  h)
theorem ly_X2_push_2 : ∀ w ∈ u_ws RX2 TX2 3, w ∈ wsX2_push := by decide +kernel
theorem fl_X2_push_11 : Cond.fieldLink RX2 11 "RecipeScheduler$History" "states" "[LRecipeScheduler$State;" ∈ wsX2_push := by decide +kernel
theorem fl_X2_push_18 : Cond.fieldLink RX2 18 "RecipeScheduler$History" "next" "I" ∈ wsX2_push := by decide +kernel
theorem fl_X2_push_26 : Cond.fieldLink RX2 26 "RecipeScheduler$History" "count" "I" ∈ wsX2_push := by decide +kernel
theorem cw_X2_push_min : Cond.methodLink RX2 29 Lib.Math.min.name ∈ wsX2_push ∧ Cond.static Lib.Math.min.name ∈ wsX2_push ∧ Cond.initialized "java/lang/Math" ∈ wsX2_push ∧ Cond.code Lib.Math.min.name Lib.Math.min.code 2 (some .int) ∈ wsX2_push := by decide +kernel
section
variable {p : Program} {l : Launch} {e : Env} {s : State} {m : MethodId} {below : List Frame} {meth : Method} {c : Code} {N0 : Nat} {T : Nat → ClassId} {D : va_G} {gr : List (Nat × Nat)} {ad : Nat → Nat → Nat → Nat}
set_option maxRecDepth 100000 in
set_option maxHeartbeats 4000000 in
theorem w_X2_push {Y : Mem} {g1 : Nat} (C : Cx p s m [.ref (ad 9 0 0), .ref (ad 2 g1 0)].toArray meth c cX2_push 2 wsX2_push RX2 N0 T D gr ad) (hrt : meth.sig.returnType = none) (hG : ∀ q ∈ ([(9, 0), (2, g1)] ++ allG), q ∈ gr) {res : Mem} (h : X2_push Y g1 = some res) : FW p l e (Rm 2) s m [.ref (ad 9 0 0), .ref (ad 2 g1 0)].toArray below meth c 2 N0 T D gr ad 0 0 (MQ below (va_Qv (fun Y1 => Y1 = res) (WB T D gr ad) (fun q => N0 ≤ q)) [.ref (ad 9 0 0), .ref (ad 2 g1 0)].toArray s 0 0 (fun q => N0 ≤ q)) Y 0 [(0, .ref (ad 9 0 0)), (1, .ref (ad 2 g1 0))] [] := by
  unfold X2_push at h
  refine fw_aload_n C dX2_push_0 rfl 0 rfl ?_
  refine fw_get C (ci := 0) (Cn := RX2) (Tc := TX2) (N := 3) (j := 0) ly_X2_push_2 rfl (hG _ (List.mem_of_getElem? (i := 0) rfl)) (of9_0 _) (ce9 T ad _ _) (by decide) (cx_ts C _ fl_X2_push_11) (fun _ h => h) (v := .ref (ad 9 0 1)) rfl dX2_push_1 ?_
  refine fw_aload_n C dX2_push_4 rfl 0 rfl ?_
  refine fw_get C (ci := 0) (Cn := RX2) (Tc := TX2) (N := 3) (j := 1) ly_X2_push_2 rfl (hG _ (List.mem_of_getElem? (i := 0) rfl)) (of9_0 _) (ce9 T ad _ _) (by decide) (cx_ts C _ fl_X2_push_18) (fun _ h => h) (v := .int (Y 9 0 0 1)) rfl dX2_push_5 ?_
  obtain ⟨b1, h⟩ := gd_some h
  refine fw_aald2 C 3 (hG _ (List.mem_of_getElem? (i := 0) rfl)) (of9_1 _) (ca9_1 T ad _ _) rfl rfl b1 (Nat.le_of_ble_eq_true rfl) (v := .ref (ad 2 (2+ix (Y 9 0 0 1)) 0)) rfl dX2_push_8 ?_
  refine fw_aload_n C dX2_push_9 rfl 1 rfl ?_
  obtain ⟨Y4, q3, h⟩ := bd1_some h
  refine fw_callVv C (ci := 6) (Cn := RX8) (Tc := TX8) (N := 15) (As := [.ref (ad 2 g1 0)]) (c_X8_copyFrom (gac (hG _ (List.mem_of_getElem? (i := 1) rfl)) (gac ((fun q hq => hG q (List.mem_append_right _ hq)) _ (allG_2 (by have q := inb_lt b1; omega))) ga0)) q3) (cwV 1 (cx_ts C) gX2_push_X8_copyFrom rfl rfl rfl (by decide +kernel) ⟨Nat.le_of_ble_eq_true rfl, Nat.le_of_ble_eq_true rfl⟩) rfl ((fun q hq => hG q (List.mem_append_right _ hq)) _ (allG_2 (by have q := inb_lt b1; omega))) (of2_0 _) (ce2 T ad _ _) rfl (st := []) rfl (Nat.le_of_ble_eq_true rfl) ⟨Nat.le_refl 0, Nat.le_refl 0⟩ dX2_push_10 (ppv ?_)
  refine fw_aload_n C dX2_push_13 rfl 0 rfl ?_
  refine fw_aload_n C dX2_push_14 rfl 0 rfl ?_
  refine fw_get C (ci := 0) (Cn := RX2) (Tc := TX2) (N := 3) (j := 1) ly_X2_push_2 rfl (hG _ (List.mem_of_getElem? (i := 0) rfl)) (of9_0 _) (ce9 T ad _ _) (by decide) (cx_ts C _ fl_X2_push_18) (fun _ h => h) (v := .int (Y4 9 0 0 1)) rfl dX2_push_15 ?_
  refine fw_iconst C dX2_push_18 (v := 1) rfl ?_
  refine fw_iadd C dX2_push_19 ?_
  refine fw_bipush C dX2_push_20 (v := 6) rfl ?_
  refine fw_irem C dX2_push_22 (by decide) ?_
  obtain ⟨Y5, e6, h⟩ := lt_some h
  refine fw_put C (ci := 0) (Cn := RX2) (Tc := TX2) (N := 3) (j := 1) (ty := .int) (upd (Y4 9 0 0) 1 (((Y4 9 0 0 1) + 1) - ((Y4 9 0 0 1) + 1) / 6 * 6)) ly_X2_push_2 rfl tyX2_ok nmX2 (hG _ (List.mem_of_getElem? (i := 0) rfl)) (of9_0 _) (ce9 T ad _ _) (by decide) (cx_ts C _ fl_X2_push_18) (fun _ h => h) rfl (by decide +kernel) rfl rfl (Nat.le_of_ble_eq_true rfl) (ce9_put1 T ad _ _ _) dX2_push_23 ?_
  refine fw_mem ((up_eq _ _ _ _ _ _).symm.trans e6) ?_
  refine fw_aload_n C dX2_push_26 rfl 0 rfl ?_
  refine fw_aload_n C dX2_push_27 rfl 0 rfl ?_
  refine fw_get C (ci := 0) (Cn := RX2) (Tc := TX2) (N := 3) (j := 2) ly_X2_push_2 rfl (hG _ (List.mem_of_getElem? (i := 0) rfl)) (of9_0 _) (ce9 T ad _ _) (by decide) (cx_ts C _ fl_X2_push_26) (fun _ h => h) (v := .int (Y5 9 0 0 2)) rfl dX2_push_28 ?_
  refine fw_iconst C dX2_push_31 (v := 1) rfl ?_
  refine fw_iadd C dX2_push_32 ?_
  refine fw_bipush C dX2_push_33 (v := 6) rfl ?_
  refine fw_mmin C (st := [.ref (ad 9 0 0)]) (cx_ts C _ cw_X2_push_min.1) (cx_ts C _ cw_X2_push_min.2.1) (cx_ts C _ cw_X2_push_min.2.2.1) (cx_ts C _ cw_X2_push_min.2.2.2) (Nat.le_of_ble_eq_true rfl) (Nat.le_of_ble_eq_true rfl) ⟨Nat.le_refl 0, Nat.le_refl 0⟩ dX2_push_35 ?_
  obtain ⟨Y7, e8, h⟩ := lt_some h
  refine fw_put C (ci := 0) (Cn := RX2) (Tc := TX2) (N := 3) (j := 2) (ty := .int) (upd (Y5 9 0 0) 2 ((if 6 < ((Y5 9 0 0 2) + 1) then 6 else ((Y5 9 0 0 2) + 1)))) ly_X2_push_2 rfl tyX2_ok nmX2 (hG _ (List.mem_of_getElem? (i := 0) rfl)) (of9_0 _) (ce9 T ad _ _) (by decide) (cx_ts C _ fl_X2_push_26) (fun _ h => h) rfl (by decide +kernel) rfl rfl (Nat.le_of_ble_eq_true rfl) (ce9_put2 T ad _ _ _) dX2_push_38 ?_
  refine fw_mem ((up_eq _ _ _ _ _ _).symm.trans e8) ?_
  exact fw_vret C hrt Y7 (Option.some.inj h) (fun t ht => ht) dX2_push_41
end
set_option maxRecDepth 100000 in
set_option maxHeartbeats 4000000 in
theorem c_X2_push {l : Launch} {N0 : Nat} {T : Nat → ClassId} {D : va_G} {gr : List (Nat × Nat)} {ad : Nat → Nat → Nat → Nat} {Y : Mem} {g1 : Nat} {res : Mem} (hG : ∀ q ∈ ([(9, 0), (2, g1)] ++ allG), q ∈ gr) (h : X2_push Y g1 = some res) : CV l yX2_push wsX2_push (Rm 2) N0 T D gr ad Y [.ref (ad 9 0 0), .ref (ad 2 g1 0)] (fun Y1 => Y1 = res) :=
  fw_body (by decide +kernel) rfl (Nat.le_of_ble_eq_true rfl) (fun p e s m below meth c C hrt => w_X2_push C hrt hG  h)
section
variable {p : Program} {l : Launch} {e : Env} {s : State} {m : MethodId} {below : List Frame} {meth : Method} {c : Code} {N0 : Nat} {T : Nat → ClassId} {D : va_G} {gr : List (Nat × Nat)} {ad : Nat → Nat → Nat → Nat}
set_option maxRecDepth 100000 in
set_option maxHeartbeats 4000000 in
theorem w_X11_contains {Y : Mem} {a0 : Int32} {a1 : Int32} (C : Cx p s m [.int a0, .int a1].toArray meth c cX11_contains 2 wsX11_contains RX11 N0 T D gr ad) (hrt : meth.sig.returnType = (some .boolean)) (hG : ∀ q ∈ [], q ∈ gr) {res : Int32} (h : X11_contains Y a0 a1 = some res) : FW p l e (Rm 0) s m [.int a0, .int a1].toArray below meth c 2 N0 T D gr ad 0 0 (MQ below (va_Qi (fun r Y1 => r = res ∧ Y1 = Y) (WB T D gr ad) (fun q => N0 ≤ q)) [.int a0, .int a1].toArray s 0 0 (fun q => N0 ≤ q)) Y 0 [(0, .int a0), (1, .int a1)] [] := by
  unfold X11_contains at h
  refine fw_iload_n C dX11_contains_0 rfl 0 rfl ?_
  refine fw_iload_n C dX11_contains_1 rfl 1 rfl ?_
  refine fw_ishr C dX11_contains_2 ?_
  refine fw_iconst C dX11_contains_3 (v := 1) rfl ?_
  refine fw_iand C dX11_contains_4 ?_
  refine fw_if_eq C dX11_contains_5 (tgt := 12) rfl (fun c1 => ?_) (fun c1 => ?_)
  · have h := ite_t c1 h
    refine fw_iconst C dX11_contains_12 (v := 0) rfl ?_
    exact fw_zret C hrt (by decide) Y ⟨Option.some.inj h, rfl⟩ (fun t ht => ht) dX11_contains_13
  · have h := ite_f c1 h
    refine fw_iconst C dX11_contains_8 (v := 1) rfl ?_
    refine fw_goto C dX11_contains_9 (tgt := 13) rfl ?_
    exact fw_zret C hrt (by decide) Y ⟨Option.some.inj h, rfl⟩ (fun t ht => ht) dX11_contains_13
end
set_option maxRecDepth 100000 in
set_option maxHeartbeats 4000000 in
theorem c_X11_contains {l : Launch} {N0 : Nat} {T : Nat → ClassId} {D : va_G} {gr : List (Nat × Nat)} {ad : Nat → Nat → Nat → Nat} {Y : Mem} {a0 : Int32} {a1 : Int32} {res : Int32} (hG : ∀ q ∈ [], q ∈ gr) (h : X11_contains Y a0 a1 = some res) : CI l yX11_contains wsX11_contains (Rm 0) N0 T D gr ad Y [.int a0, .int a1] (fun r Y1 => r = res ∧ Y1 = Y) :=
  fw_body (by decide +kernel) rfl (Nat.le_of_ble_eq_true rfl) (fun p e s m below meth c C hrt => w_X11_contains C hrt hG  h)
theorem ly_X3_dishTaste_3 : ∀ w ∈ u_ws RX3 TX3 5, w ∈ wsX3_dishTaste := by decide +kernel
theorem fl_X3_dishTaste_12 : Cond.fieldLink RX3 12 "RecipeScheduler$Kitchen" "state" "LRecipeScheduler$State;" ∈ wsX3_dishTaste := by decide +kernel
theorem ly_X3_dishTaste_8 : ∀ w ∈ u_ws RX8 TX8 15, w ∈ wsX3_dishTaste := by decide +kernel
theorem fl_X3_dishTaste_28 : Cond.fieldLink RX3 28 "RecipeScheduler$Kitchen" "recipe" "LRecipeScheduler$Recipe;" ∈ wsX3_dishTaste := by decide +kernel
theorem ly_X3_dishTaste_5 : ∀ w ∈ u_ws RX5 TX5 17, w ∈ wsX3_dishTaste := by decide +kernel
theorem ly_X3_dishTaste_4 : ∀ w ∈ u_ws RX4 TX4 3, w ∈ wsX3_dishTaste := by decide +kernel
theorem in_X3_dishTaste_11 : Cond.initialized RX11 ∈ wsX3_dishTaste := by decide +kernel
theorem sw_X3_dishTaste_X11_contains : Cond.static yX11_contains ∈ wsX3_dishTaste := by decide +kernel
section
variable {p : Program} {l : Launch} {e : Env} {s : State} {m : MethodId} {below : List Frame} {meth : Method} {c : Code} {N0 : Nat} {T : Nat → ClassId} {D : va_G} {gr : List (Nat × Nat)} {ad : Nat → Nat → Nat → Nat}
set_option maxRecDepth 100000 in
set_option maxHeartbeats 4000000 in
theorem w_X3_dishTaste_b50 {Y : Mem} {g0 : Nat} (C : Cx p s m [.ref (ad 1 g0 0)].toArray meth c cX3_dishTaste 3 wsX3_dishTaste RX3 N0 T D gr ad) (hrt : meth.sig.returnType = (some .int)) (hG : ∀ q ∈ ([(1, g0), (2, g0)] ++ allG), q ∈ gr) {res : Int32} {k10 : Int32 → Int32 → Option (Int32)} (hk10 : ∀ (l2 : Int32) (l1 : Int32), k10 l2 l1 = some res → FW p l e (Rm 1) s m [.ref (ad 1 g0 0)].toArray below meth c 3 N0 T D gr ad 0 0 (MQ below (va_Qi (fun r Y1 => r = res ∧ Y1 = Y) (WB T D gr ad) (fun q => N0 ≤ q)) [.ref (ad 1 g0 0)].toArray s 0 0 (fun q => N0 ≤ q)) Y 10 [(2, .int l2), (1, .int l1), (0, .ref (ad 1 g0 0))] []) (l2 : Int32) (l1 : Int32) (h : X3_dishTaste_b50 Y g0 k10 l2 l1 = some res) : FW p l e (Rm 1) s m [.ref (ad 1 g0 0)].toArray below meth c 3 N0 T D gr ad 0 0 (MQ below (va_Qi (fun r Y1 => r = res ∧ Y1 = Y) (WB T D gr ad) (fun q => N0 ≤ q)) [.ref (ad 1 g0 0)].toArray s 0 0 (fun q => N0 ≤ q)) Y 50 [(2, .int l2), (1, .int l1), (0, .ref (ad 1 g0 0))] [] := by
  unfold X3_dishTaste_b50 at h
  refine fw_iinc C dX3_dishTaste_50 (kk := 0) (v := l2 + 1) rfl rfl (by decide) (L' := [(2, .int (l2 + 1)), (1, .int l1), (0, .ref (ad 1 g0 0))]) rfl ?_
  refine fw_goto C dX3_dishTaste_53 (tgt := 10) rfl ?_
  exact hk10 _ _ h
set_option maxRecDepth 100000 in
set_option maxHeartbeats 4000000 in
theorem w_X3_dishTaste_b10 {Y : Mem} {g0 : Nat} (C : Cx p s m [.ref (ad 1 g0 0)].toArray meth c cX3_dishTaste 3 wsX3_dishTaste RX3 N0 T D gr ad) (hrt : meth.sig.returnType = (some .int)) (hG : ∀ q ∈ ([(1, g0), (2, g0)] ++ allG), q ∈ gr) {res : Int32} : ∀ (n : Nat) (l2 : Int32) (l1 : Int32), X3_dishTaste_b10 Y g0  n l2 l1 = some res → FW p l e (Rm 1) s m [.ref (ad 1 g0 0)].toArray below meth c 3 N0 T D gr ad 0 0 (MQ below (va_Qi (fun r Y1 => r = res ∧ Y1 = Y) (WB T D gr ad) (fun q => N0 ≤ q)) [.ref (ad 1 g0 0)].toArray s 0 0 (fun q => N0 ≤ q)) Y 10 [(2, .int l2), (1, .int l1), (0, .ref (ad 1 g0 0))] [] := by
  intro n
  induction n with
  | zero =>
    intro l2 l1 h
    unfold X3_dishTaste_b10 at h
    cases h
  | succ n ih =>
    intro l2 l1 h
    unfold X3_dishTaste_b10 at h
    refine fw_iload_n C dX3_dishTaste_10 rfl 0 rfl ?_
    refine fw_aload_n C dX3_dishTaste_11 rfl 2 rfl ?_
    refine fw_get C (ci := 1) (Cn := RX3) (Tc := TX3) (N := 5) (j := 0) ly_X3_dishTaste_3 rfl (hG _ (List.mem_of_getElem? (i := 0) rfl)) (of1_0 _) (ce1 T ad _ _) (by decide) (cx_ts C _ fl_X3_dishTaste_28) (fun _ h => h) (v := .ref (ad 3 ((Y 1 g0 0 0).toNatClampNeg) 0)) rfl dX3_dishTaste_12 ?_
    obtain ⟨b3, h⟩ := gd_some h
    have b3 := of_decide_eq_true b3
    refine fw_getN C (ci := 3) (Cn := RX5) (Tc := TX5) (N := 17) (j := 7) ly_X3_dishTaste_5 rfl ((fun q hq => hG q (List.mem_append_right _ hq)) _ (allG_3 b3)) (of3_0 _) (ce3 T ad _ _) (by decide) (Nst_use (cx_nst C) (w := .fieldLinkNest RX3 91 "RecipeScheduler$Recipe" "steps" "LRecipeScheduler$Names;" "RecipeScheduler") 148 (by decide +kernel) rfl) (fun _ h => h) (v := .ref (ad 4 (2*((Y 1 g0 0 0).toNatClampNeg)+1) 0)) rfl dX3_dishTaste_15 ?_
    obtain ⟨b4, h⟩ := gd_some h
    have b4 := of_decide_eq_true b4
    refine fw_getN C (ci := 2) (Cn := RX4) (Tc := TX4) (N := 3) (j := 2) ly_X3_dishTaste_4 rfl ((fun q hq => hG q (List.mem_append_right _ hq)) _ (allG_4b b4)) (of4_0 _) (ce4 T ad _ _) (by decide) (Nst_use (cx_nst C) (w := .fieldLinkNest RX3 95 "RecipeScheduler$Names" "count" "I" "RecipeScheduler") 114 (by decide +kernel) rfl) (fun _ h => h) (v := .int (Y 4 (2*((Y 1 g0 0 0).toNatClampNeg)+1) 0 2)) rfl dX3_dishTaste_18 ?_
    refine fw_icmp_ge C dX3_dishTaste_21 (tgt := 56) rfl (fun c5 => ?_) (fun c5 => ?_)
    · have h := ite_t c5 h
      refine fw_iload_n C dX3_dishTaste_56 rfl 1 rfl ?_
      exact fw_iret C hrt Y ⟨Option.some.inj h, rfl⟩ (fun t ht => ht) dX3_dishTaste_57
    · have h := ite_f c5 h
      refine fw_aload_n C dX3_dishTaste_24 rfl 2 rfl ?_
      refine fw_get C (ci := 1) (Cn := RX3) (Tc := TX3) (N := 5) (j := 1) ly_X3_dishTaste_3 rfl (hG _ (List.mem_of_getElem? (i := 0) rfl)) (of1_0 _) (ce1 T ad _ _) (by decide) (cx_ts C _ fl_X3_dishTaste_12) (fun _ h => h) (v := .ref (ad 2 g0 0)) rfl dX3_dishTaste_25 ?_
      refine fw_getN C (ci := 6) (Cn := RX8) (Tc := TX8) (N := 15) (j := 7) ly_X3_dishTaste_8 rfl (hG _ (List.mem_of_getElem? (i := 1) rfl)) (of2_0 _) (ce2 T ad _ _) (by decide) (Nst_use (cx_nst C) (w := .fieldLinkNest RX3 47 "RecipeScheduler$State" "done" "I" "RecipeScheduler") 455 (by decide +kernel) rfl) (fun _ h => h) (v := .int (Y 2 g0 0 7)) rfl dX3_dishTaste_28 ?_
      refine fw_iload_n C dX3_dishTaste_31 rfl 0 rfl ?_
      obtain ⟨r6, q7, h⟩ := bd1_some h
      refine fw_callSNi C (As := [.int (Y 2 g0 0 7), .int l2]) (c_X11_contains ga0 q7) ⟨(va_cnB 2 (cx_ts C) gX3_dishTaste_X11_contains_n100 rfl rfl rfl (cx_nw C (w := .methodLinkNest RX3 100 yX11_contains "RecipeScheduler") 623 (by decide +kernel) rfl) (cx_ts C _ in_X3_dishTaste_11) (by decide +kernel) ⟨Nat.le_of_ble_eq_true rfl, Nat.le_of_ble_eq_true rfl⟩), cx_ts C _ sw_X3_dishTaste_X11_contains, trivial⟩ rfl (st := []) rfl (Nat.le_of_ble_eq_true rfl) ⟨Nat.le_refl 0, Nat.le_refl 0⟩ dX3_dishTaste_32 (pp2 ?_)
      refine fw_if_eq C dX3_dishTaste_35 (tgt := 50) rfl (fun c8 => ?_) (fun c8 => ?_)
      · have h := ite_t c8 h
        exact w_X3_dishTaste_b50 C hrt hG  ih _ _ h
      · have h := ite_f c8 h
        refine fw_iload_n C dX3_dishTaste_38 rfl 1 rfl ?_
        refine fw_aload_n C dX3_dishTaste_39 rfl 2 rfl ?_
        refine fw_get C (ci := 1) (Cn := RX3) (Tc := TX3) (N := 5) (j := 0) ly_X3_dishTaste_3 rfl (hG _ (List.mem_of_getElem? (i := 0) rfl)) (of1_0 _) (ce1 T ad _ _) (by decide) (cx_ts C _ fl_X3_dishTaste_28) (fun _ h => h) (v := .ref (ad 3 ((Y 1 g0 0 0).toNatClampNeg) 0)) rfl dX3_dishTaste_40 ?_
        refine fw_getN C (ci := 3) (Cn := RX5) (Tc := TX5) (N := 17) (j := 9) ly_X3_dishTaste_5 rfl ((fun q hq => hG q (List.mem_append_right _ hq)) _ (allG_3 b3)) (of3_0 _) (ce3 T ad _ _) (by decide) (Nst_use (cx_nst C) (w := .fieldLinkNest RX3 194 "RecipeScheduler$Recipe" "taste" "[I" "RecipeScheduler") 155 (by decide +kernel) rfl) (fun _ h => h) (v := .ref (ad 3 (((Y 1 g0 0 0).toNatClampNeg)) 4)) rfl dX3_dishTaste_43 ?_
        refine fw_iload_n C dX3_dishTaste_46 rfl 0 rfl ?_
        obtain ⟨b9, h⟩ := gd_some h
        refine fw_iald2 C ((fun q hq => hG q (List.mem_append_right _ hq)) _ (allG_3 b3)) (of3_4 _) (ca3_4 T ad _ _) b9 (Nat.le_of_ble_eq_true rfl) dX3_dishTaste_47 ?_
        refine fw_iadd C dX3_dishTaste_48 ?_
        obtain ⟨v10, e11, h⟩ := lt_some h
        refine fw_top (v' := .int v10) (by rw [e11]) ?_
        refine fw_istore_n C dX3_dishTaste_49 rfl (by decide) (L' := [(1, .int v10), (2, .int l2), (0, .ref (ad 1 g0 0))]) rfl ?_
        refine fw_sub [1, 0, 2] (L' := [(2, .int l2), (1, .int v10), (0, .ref (ad 1 g0 0))]) rfl ?_
        exact w_X3_dishTaste_b50 C hrt hG  ih _ _ h
set_option maxRecDepth 100000 in
set_option maxHeartbeats 4000000 in
theorem w_X3_dishTaste {Y : Mem} {g0 : Nat} (C : Cx p s m [.ref (ad 1 g0 0)].toArray meth c cX3_dishTaste 3 wsX3_dishTaste RX3 N0 T D gr ad) (hrt : meth.sig.returnType = (some .int)) (hG : ∀ q ∈ ([(1, g0), (2, g0)] ++ allG), q ∈ gr) {res : Int32} (h : X3_dishTaste Y g0 = some res) : FW p l e (Rm 1) s m [.ref (ad 1 g0 0)].toArray below meth c 3 N0 T D gr ad 0 0 (MQ below (va_Qi (fun r Y1 => r = res ∧ Y1 = Y) (WB T D gr ad) (fun q => N0 ≤ q)) [.ref (ad 1 g0 0)].toArray s 0 0 (fun q => N0 ≤ q)) Y 0 [(0, .ref (ad 1 g0 0))] [] := by
  unfold X3_dishTaste at h
  refine fw_aload_n C dX3_dishTaste_0 rfl 0 rfl ?_
  refine fw_get C (ci := 1) (Cn := RX3) (Tc := TX3) (N := 5) (j := 1) ly_X3_dishTaste_3 rfl (hG _ (List.mem_of_getElem? (i := 0) rfl)) (of1_0 _) (ce1 T ad _ _) (by decide) (cx_ts C _ fl_X3_dishTaste_12) (fun _ h => h) (v := .ref (ad 2 g0 0)) rfl dX3_dishTaste_1 ?_
  refine fw_getN C (ci := 6) (Cn := RX8) (Tc := TX8) (N := 15) (j := 2) ly_X3_dishTaste_8 rfl (hG _ (List.mem_of_getElem? (i := 1) rfl)) (of2_0 _) (ce2 T ad _ _) (by decide) (Nst_use (cx_nst C) (w := .fieldLinkNest RX3 191 "RecipeScheduler$State" "salt" "I" "RecipeScheduler") 442 (by decide +kernel) rfl) (fun _ h => h) (v := .int (Y 2 g0 0 2)) rfl dX3_dishTaste_4 ?_
  obtain ⟨v1, e2, h⟩ := lt_some h
  refine fw_top (v' := .int v1) (by rw [e2]) ?_
  refine fw_istore_n C dX3_dishTaste_7 rfl (by decide) (L' := [(1, .int v1), (0, .ref (ad 1 g0 0))]) rfl ?_
  refine fw_iconst C dX3_dishTaste_8 (v := 0) rfl ?_
  refine fw_istore_n C dX3_dishTaste_9 rfl (by decide) (L' := [(2, .int 0), (1, .int v1), (0, .ref (ad 1 g0 0))]) rfl ?_
  exact w_X3_dishTaste_b10 C hrt hG   _ _ _ h
end
set_option maxRecDepth 100000 in
set_option maxHeartbeats 4000000 in
theorem c_X3_dishTaste {l : Launch} {N0 : Nat} {T : Nat → ClassId} {D : va_G} {gr : List (Nat × Nat)} {ad : Nat → Nat → Nat → Nat} {Y : Mem} {g0 : Nat} {res : Int32} (hG : ∀ q ∈ ([(1, g0), (2, g0)] ++ allG), q ∈ gr) (h : X3_dishTaste Y g0 = some res) : CI l yX3_dishTaste wsX3_dishTaste (Rm 1) N0 T D gr ad Y [.ref (ad 1 g0 0)] (fun r Y1 => r = res ∧ Y1 = Y) :=
  fw_body (by decide +kernel) rfl (Nat.le_of_ble_eq_true rfl) (fun p e s m below meth c C hrt => w_X3_dishTaste C hrt hG  h)
theorem ly_X11_addSalt_11 : ∀ w ∈ u_ws RX11 TX11 11, w ∈ wsX11_addSalt := by decide +kernel
theorem fl_X11_addSalt_67 : Cond.fieldLink RX11 67 "RecipeScheduler" "now" "LRecipeScheduler$Kitchen;" ∈ wsX11_addSalt := by decide +kernel
theorem ly_X11_addSalt_3 : ∀ w ∈ u_ws RX3 TX3 5, w ∈ wsX11_addSalt := by decide +kernel
theorem ly_X11_addSalt_8 : ∀ w ∈ u_ws RX8 TX8 15, w ∈ wsX11_addSalt := by decide +kernel
theorem fl_X11_addSalt_77 : Cond.fieldLink RX11 77 "RecipeScheduler" "history" "LRecipeScheduler$History;" ∈ wsX11_addSalt := by decide +kernel
theorem th_X11_addSalt_32 : Cond.classLink RX11 96 "java/lang/IllegalStateException" ∈ wsX11_addSalt ∧ Cond.initialized "java/lang/IllegalStateException" ∈ wsX11_addSalt ∧ ∀ w ∈ vx_atS RX11 100 "java/lang/IllegalStateException" ["java/lang/RuntimeException", "java/lang/Exception"], w ∈ wsX11_addSalt := by decide +kernel
theorem tg_1_100_96 : ∀ w ∈ Cond.classLink RX11 96 "java/lang/IllegalStateException" :: Cond.initialized "java/lang/IllegalStateException" :: vx_atS RX11 100 "java/lang/IllegalStateException" ["java/lang/RuntimeException", "java/lang/Exception"], vx_ot w = true := by decide +kernel
theorem th_X11_addSalt_8 : Cond.classLink RX11 109 "java/lang/IllegalArgumentException" ∈ wsX11_addSalt ∧ Cond.initialized "java/lang/IllegalArgumentException" ∈ wsX11_addSalt ∧ ∀ w ∈ vx_atS RX11 113 "java/lang/IllegalArgumentException" ["java/lang/RuntimeException", "java/lang/Exception"], w ∈ wsX11_addSalt := by decide +kernel
theorem tg_2_113_109 : ∀ w ∈ Cond.classLink RX11 109 "java/lang/IllegalArgumentException" :: Cond.initialized "java/lang/IllegalArgumentException" :: vx_atS RX11 113 "java/lang/IllegalArgumentException" ["java/lang/RuntimeException", "java/lang/Exception"], vx_ot w = true := by decide +kernel
section
variable {p : Program} {l : Launch} {e : Env} {s : State} {m : MethodId} {below : List Frame} {meth : Method} {c : Code} {N0 : Nat} {T : Nat → ClassId} {D : va_G} {gr : List (Nat × Nat)} {ad : Nat → Nat → Nat → Nat}
set_option maxRecDepth 100000 in
set_option maxHeartbeats 4000000 in
theorem w_X11_addSalt {Y : Mem} {a1 : Int32} (C : Cx p s m [.ref (ad 0 0 0), .int a1].toArray meth c cX11_addSalt 2 wsX11_addSalt RX11 N0 T D gr ad) (hrt : meth.sig.returnType = (some .int)) (hG : ∀ q ∈ ([(0, 0), (1, 0), (2, 0), (9, 0)] ++ allG), q ∈ gr) (hl : l.stackTraces = false) (hX : ∀ x ∈ c.exceptionTable.toList, False) {res : (Nat × Mem) ⊕ (Int32 × Mem)} (h : X11_addSalt Y a1 = some res) : FW p l e (Rx 6 1) s m [.ref (ad 0 0 0), .int a1].toArray below meth c 2 N0 T D gr ad 0 0 (vx_MQ below (va_Qi (fun r Y1 => Sum.inr (r, Y1) = res) (WB T D gr ad) (fun q => N0 ≤ q)) (vx_X (fun u => Sum.inl u = res) (XB T D gr ad) (fun q => N0 ≤ q)) [.ref (ad 0 0 0), .int a1].toArray s 1 6 (fun q => N0 ≤ q)) Y 0 [(0, .ref (ad 0 0 0)), (1, .int a1)] [] := by
  unfold X11_addSalt at h
  refine fw_aload_n C dX11_addSalt_0 rfl 0 rfl ?_
  refine fw_iload_n C dX11_addSalt_1 rfl 1 rfl ?_
  obtain ⟨r1, q2, h⟩ := bd1_some h
  refine fw_callVi C (ci := 9) (Cn := RX11) (Tc := TX11) (N := 11) (As := [.int a1]) (c_X11_isSaltAmount ga0 q2) (cwV 1 (cx_ts C) gX11_addSalt_X11_isSaltAmount rfl rfl rfl (by decide +kernel) ⟨Nat.le_of_ble_eq_true rfl, Nat.le_of_ble_eq_true rfl⟩) rfl (hG _ (List.mem_of_getElem? (i := 0) rfl)) (of0_0 _) (ce0 T ad _ _) rfl (st := []) rfl (Nat.le_of_ble_eq_true rfl) ⟨Nat.le_refl 0, Nat.le_refl 0⟩ dX11_addSalt_2 (pp2 ?_)
  refine fw_if_ne C dX11_addSalt_5 (tgt := 19) rfl (fun c3 => ?_) (fun c3 => ?_)
  · have h := ite_f c3 h
    refine fw_aload_n C dX11_addSalt_19 rfl 0 rfl ?_
    refine fw_get C (ci := 9) (Cn := RX11) (Tc := TX11) (N := 11) (j := 5) ly_X11_addSalt_11 rfl (hG _ (List.mem_of_getElem? (i := 0) rfl)) (of0_0 _) (ce0 T ad _ _) (by decide) (cx_ts C _ fl_X11_addSalt_67) (fun _ h => h) (v := .ref (ad 1 0 0)) rfl dX11_addSalt_20 ?_
    refine fw_getN C (ci := 1) (Cn := RX3) (Tc := TX3) (N := 5) (j := 1) ly_X11_addSalt_3 rfl (hG _ (List.mem_of_getElem? (i := 1) rfl)) (of1_0 _) (ce1 T ad _ _) (by decide) (Nst_use (cx_nst C) (w := .fieldLinkNest RX11 139 "RecipeScheduler$Kitchen" "state" "LRecipeScheduler$State;" "RecipeScheduler") 518 (by decide +kernel) rfl) (fun _ h => h) (v := .ref (ad 2 0 0)) rfl dX11_addSalt_23 ?_
    refine fw_getN C (ci := 6) (Cn := RX8) (Tc := TX8) (N := 15) (j := 5) ly_X11_addSalt_8 rfl (hG _ (List.mem_of_getElem? (i := 2) rfl)) (of2_0 _) (ce2 T ad _ _) (by decide) (Nst_use (cx_nst C) (w := .fieldLinkNest RX11 347 "RecipeScheduler$State" "served" "Z" "RecipeScheduler") 450 (by decide +kernel) rfl) (fun _ h => h) (v := .int (Y 2 0 0 5)) rfl dX11_addSalt_26 ?_
    refine fw_if_eq C dX11_addSalt_29 (tgt := 43) rfl (fun c4 => ?_) (fun c4 => ?_)
    · have h := ite_t c4 h
      refine fw_aload_n C dX11_addSalt_43 rfl 0 rfl ?_
      refine fw_get C (ci := 9) (Cn := RX11) (Tc := TX11) (N := 11) (j := 7) ly_X11_addSalt_11 rfl (hG _ (List.mem_of_getElem? (i := 0) rfl)) (of0_0 _) (ce0 T ad _ _) (by decide) (cx_ts C _ fl_X11_addSalt_77) (fun _ h => h) (v := .ref (ad 9 0 0)) rfl dX11_addSalt_44 ?_
      refine fw_aload_n C dX11_addSalt_47 rfl 0 rfl ?_
      refine fw_get C (ci := 9) (Cn := RX11) (Tc := TX11) (N := 11) (j := 5) ly_X11_addSalt_11 rfl (hG _ (List.mem_of_getElem? (i := 0) rfl)) (of0_0 _) (ce0 T ad _ _) (by decide) (cx_ts C _ fl_X11_addSalt_67) (fun _ h => h) (v := .ref (ad 1 0 0)) rfl dX11_addSalt_48 ?_
      refine fw_getN C (ci := 1) (Cn := RX3) (Tc := TX3) (N := 5) (j := 1) ly_X11_addSalt_3 rfl (hG _ (List.mem_of_getElem? (i := 1) rfl)) (of1_0 _) (ce1 T ad _ _) (by decide) (Nst_use (cx_nst C) (w := .fieldLinkNest RX11 139 "RecipeScheduler$Kitchen" "state" "LRecipeScheduler$State;" "RecipeScheduler") 518 (by decide +kernel) rfl) (fun _ h => h) (v := .ref (ad 2 0 0)) rfl dX11_addSalt_51 ?_
      obtain ⟨Y7, q6, h⟩ := bd1_some h
      refine fw_callVv C (ci := 0) (Cn := RX2) (Tc := TX2) (N := 3) (As := [.ref (ad 2 0 0)]) (c_X2_push (gac (hG _ (List.mem_of_getElem? (i := 3) rfl)) (gac (hG _ (List.mem_of_getElem? (i := 2) rfl)) (fun q hq => hG q (List.mem_append_right _ hq)))) q6) (cwV 1 (cx_ts C) gX11_addSalt_X2_push rfl rfl rfl (by decide +kernel) ⟨Nat.le_of_ble_eq_true rfl, Nat.le_of_ble_eq_true rfl⟩) rfl (hG _ (List.mem_of_getElem? (i := 3) rfl)) (of9_0 _) (ce9 T ad _ _) rfl (st := []) rfl (Nat.le_of_ble_eq_true rfl) ⟨Nat.le_refl 0, Nat.le_refl 0⟩ dX11_addSalt_54 (ppv ?_)
      refine fw_aload_n C dX11_addSalt_57 rfl 0 rfl ?_
      refine fw_get C (ci := 9) (Cn := RX11) (Tc := TX11) (N := 11) (j := 5) ly_X11_addSalt_11 rfl (hG _ (List.mem_of_getElem? (i := 0) rfl)) (of0_0 _) (ce0 T ad _ _) (by decide) (cx_ts C _ fl_X11_addSalt_67) (fun _ h => h) (v := .ref (ad 1 0 0)) rfl dX11_addSalt_58 ?_
      refine fw_getN C (ci := 1) (Cn := RX3) (Tc := TX3) (N := 5) (j := 1) ly_X11_addSalt_3 rfl (hG _ (List.mem_of_getElem? (i := 1) rfl)) (of1_0 _) (ce1 T ad _ _) (by decide) (Nst_use (cx_nst C) (w := .fieldLinkNest RX11 139 "RecipeScheduler$Kitchen" "state" "LRecipeScheduler$State;" "RecipeScheduler") 518 (by decide +kernel) rfl) (fun _ h => h) (v := .ref (ad 2 0 0)) rfl dX11_addSalt_61 ?_
      refine fw_dup C dX11_addSalt_64 rfl ?_
      refine fw_getN C (ci := 6) (Cn := RX8) (Tc := TX8) (N := 15) (j := 2) ly_X11_addSalt_8 rfl (hG _ (List.mem_of_getElem? (i := 2) rfl)) (of2_0 _) (ce2 T ad _ _) (by decide) (Nst_use (cx_nst C) (w := .fieldLinkNest RX11 149 "RecipeScheduler$State" "salt" "I" "RecipeScheduler") 441 (by decide +kernel) rfl) (fun _ h => h) (v := .int (Y7 2 0 0 2)) rfl dX11_addSalt_65 ?_
      refine fw_iload_n C dX11_addSalt_68 rfl 1 rfl ?_
      refine fw_iadd C dX11_addSalt_69 ?_
      obtain ⟨Y8, e9, h⟩ := lt_some h
      refine fw_putN C (ci := 6) (Cn := RX8) (Tc := TX8) (N := 15) (j := 2) (ty := .int) (upd (Y7 2 0 0) 2 ((Y7 2 0 0 2) + a1)) ly_X11_addSalt_8 rfl tyX8_ok nmX8 (hG _ (List.mem_of_getElem? (i := 2) rfl)) (of2_0 _) (ce2 T ad _ _) (by decide) (Nst_use (cx_nst C) (w := .fieldLinkNest RX11 149 "RecipeScheduler$State" "salt" "I" "RecipeScheduler") 441 (by decide +kernel) rfl) (fun _ h => h) rfl (by decide +kernel) rfl rfl (Nat.le_of_ble_eq_true rfl) (ce2_put2 T ad _ _ _) dX11_addSalt_70 ?_
      refine fw_mem ((up_eq _ _ _ _ _ _).symm.trans e9) ?_
      refine fw_aload_n C dX11_addSalt_73 rfl 0 rfl ?_
      refine fw_get C (ci := 9) (Cn := RX11) (Tc := TX11) (N := 11) (j := 5) ly_X11_addSalt_11 rfl (hG _ (List.mem_of_getElem? (i := 0) rfl)) (of0_0 _) (ce0 T ad _ _) (by decide) (cx_ts C _ fl_X11_addSalt_67) (fun _ h => h) (v := .ref (ad 1 0 0)) rfl dX11_addSalt_74 ?_
      obtain ⟨r10, q11, h⟩ := bd1_some h
      refine fw_callVi C (ci := 1) (Cn := RX3) (Tc := TX3) (N := 5) (As := []) (c_X3_dishTaste (gac (hG _ (List.mem_of_getElem? (i := 1) rfl)) (gac (hG _ (List.mem_of_getElem? (i := 2) rfl)) (fun q hq => hG q (List.mem_append_right _ hq)))) q11) (cwV 0 (cx_ts C) gX11_addSalt_X3_dishTaste rfl rfl rfl (by decide +kernel) ⟨Nat.le_of_ble_eq_true rfl, Nat.le_of_ble_eq_true rfl⟩) rfl (hG _ (List.mem_of_getElem? (i := 1) rfl)) (of1_0 _) (ce1 T ad _ _) rfl (st := []) rfl (Nat.le_of_ble_eq_true rfl) ⟨Nat.le_refl 0, Nat.le_refl 0⟩ dX11_addSalt_77 (pp2 ?_)
      refine fw_xr (Nat.le_of_ble_eq_true rfl) (Nat.le_of_ble_eq_true rfl) ?_
      exact fw_iret C hrt Y8 (Option.some.inj h) (fun t ht => ht) dX11_addSalt_80
    · have h := ite_f c4 h
      exact fw_throwSW C hl hX (cls := "java/lang/IllegalStateException") (names := ["java/lang/RuntimeException", "java/lang/Exception"]) 1 rfl (by decide +kernel) (by decide +kernel) (cx_ts C _ th_X11_addSalt_32.1) (cx_ts C _ th_X11_addSalt_32.2.1) ((cx_st C).2.1 _ (List.mem_of_getElem? (i := 21) rfl)) (fun w hw => cx_ts C _ (th_X11_addSalt_32.2.2 w hw)) tg_1_100_96 dX11_addSalt_32 dX11_addSalt_35 dX11_addSalt_36 dX11_addSalt_39 dX11_addSalt_42 (Nat.le_of_ble_eq_true rfl) (Nat.le_of_ble_eq_true rfl) (Nat.le_of_ble_eq_true rfl) (Nat.le_of_ble_eq_true rfl) (Nat.le_of_ble_eq_true rfl) (Nat.le_of_ble_eq_true rfl) (Option.some.inj h)
  · have h := ite_t c3 h
    exact fw_throwSW C hl hX (cls := "java/lang/IllegalArgumentException") (names := ["java/lang/RuntimeException", "java/lang/Exception"]) 2 rfl (by decide +kernel) (by decide +kernel) (cx_ts C _ th_X11_addSalt_8.1) (cx_ts C _ th_X11_addSalt_8.2.1) ((cx_st C).2.1 _ (List.mem_of_getElem? (i := 20) rfl)) (fun w hw => cx_ts C _ (th_X11_addSalt_8.2.2 w hw)) tg_2_113_109 dX11_addSalt_8 dX11_addSalt_11 dX11_addSalt_12 dX11_addSalt_15 dX11_addSalt_18 (Nat.le_of_ble_eq_true rfl) (Nat.le_of_ble_eq_true rfl) (Nat.le_of_ble_eq_true rfl) (Nat.le_of_ble_eq_true rfl) (Nat.le_of_ble_eq_true rfl) (Nat.le_of_ble_eq_true rfl) (Option.some.inj h)
end
set_option maxRecDepth 100000 in
set_option maxHeartbeats 4000000 in
theorem c_X11_addSalt {l : Launch} {N0 : Nat} {T : Nat → ClassId} {D : va_G} {gr : List (Nat × Nat)} {ad : Nat → Nat → Nat → Nat} {Y : Mem} {a1 : Int32} {res : (Nat × Mem) ⊕ (Int32 × Mem)} (hl : l.stackTraces = false) (hG : ∀ q ∈ ([(0, 0), (1, 0), (2, 0), (9, 0)] ++ allG), q ∈ gr) (h : X11_addSalt Y a1 = some res) : CXi l yX11_addSalt wsX11_addSalt (Rx 6 1) N0 T D gr ad Y [.ref (ad 0 0 0), .int a1] 1 res :=
  fw_xbody (by decide +kernel) rfl (Nat.le_of_ble_eq_true rfl) (fun p e s m below meth c C hrt hX => w_X11_addSalt C hrt hG hl hX h)
theorem ly_X11_requireStep_11 : ∀ w ∈ u_ws RX11 TX11 11, w ∈ wsX11_requireStep := by decide +kernel
theorem fl_X11_requireStep_67 : Cond.fieldLink RX11 67 "RecipeScheduler" "now" "LRecipeScheduler$Kitchen;" ∈ wsX11_requireStep := by decide +kernel
theorem ly_X11_requireStep_3 : ∀ w ∈ u_ws RX3 TX3 5, w ∈ wsX11_requireStep := by decide +kernel
theorem ly_X11_requireStep_5 : ∀ w ∈ u_ws RX5 TX5 17, w ∈ wsX11_requireStep := by decide +kernel
theorem ly_X11_requireStep_4 : ∀ w ∈ u_ws RX4 TX4 3, w ∈ wsX11_requireStep := by decide +kernel
theorem th_X11_requireStep_23 : Cond.classLink RX11 237 "java/lang/IndexOutOfBoundsException" ∈ wsX11_requireStep ∧ Cond.initialized "java/lang/IndexOutOfBoundsException" ∈ wsX11_requireStep ∧ ∀ w ∈ vx_atS RX11 241 "java/lang/IndexOutOfBoundsException" ["java/lang/RuntimeException", "java/lang/Exception"], w ∈ wsX11_requireStep := by decide +kernel
theorem tg_3_241_237 : ∀ w ∈ Cond.classLink RX11 237 "java/lang/IndexOutOfBoundsException" :: Cond.initialized "java/lang/IndexOutOfBoundsException" :: vx_atS RX11 241 "java/lang/IndexOutOfBoundsException" ["java/lang/RuntimeException", "java/lang/Exception"], vx_ot w = true := by decide +kernel
section
variable {p : Program} {l : Launch} {e : Env} {s : State} {m : MethodId} {below : List Frame} {meth : Method} {c : Code} {N0 : Nat} {T : Nat → ClassId} {D : va_G} {gr : List (Nat × Nat)} {ad : Nat → Nat → Nat → Nat}
set_option maxRecDepth 100000 in
set_option maxHeartbeats 4000000 in
theorem w_X11_requireStep {Y : Mem} {a1 : Int32} (C : Cx p s m [.ref (ad 0 0 0), .int a1].toArray meth c cX11_requireStep 2 wsX11_requireStep RX11 N0 T D gr ad) (hrt : meth.sig.returnType = none) (hG : ∀ q ∈ ([(0, 0), (1, 0)] ++ allG), q ∈ gr) (hl : l.stackTraces = false) (hX : ∀ x ∈ c.exceptionTable.toList, False) {res : (Nat × Mem) ⊕ Mem} (h : X11_requireStep Y a1 = some res) : FW p l e (Rx 6 1) s m [.ref (ad 0 0 0), .int a1].toArray below meth c 2 N0 T D gr ad 0 0 (vx_MQ below (va_Qv (fun Y1 => Sum.inr Y1 = res) (WB T D gr ad) (fun q => N0 ≤ q)) (vx_X (fun u => Sum.inl u = res) (XB T D gr ad) (fun q => N0 ≤ q)) [.ref (ad 0 0 0), .int a1].toArray s 1 6 (fun q => N0 ≤ q)) Y 0 [(0, .ref (ad 0 0 0)), (1, .int a1)] [] := by
  unfold X11_requireStep at h
  refine fw_iload_n C dX11_requireStep_0 rfl 1 rfl ?_
  refine fw_iconst C dX11_requireStep_1 (v := 0) rfl ?_
  refine fw_aload_n C dX11_requireStep_2 rfl 0 rfl ?_
  refine fw_get C (ci := 9) (Cn := RX11) (Tc := TX11) (N := 11) (j := 5) ly_X11_requireStep_11 rfl (hG _ (List.mem_of_getElem? (i := 0) rfl)) (of0_0 _) (ce0 T ad _ _) (by decide) (cx_ts C _ fl_X11_requireStep_67) (fun _ h => h) (v := .ref (ad 1 0 0)) rfl dX11_requireStep_3 ?_
  refine fw_getN C (ci := 1) (Cn := RX3) (Tc := TX3) (N := 5) (j := 0) ly_X11_requireStep_3 rfl (hG _ (List.mem_of_getElem? (i := 1) rfl)) (of1_0 _) (ce1 T ad _ _) (by decide) (Nst_use (cx_nst C) (w := .fieldLinkNest RX11 117 "RecipeScheduler$Kitchen" "recipe" "LRecipeScheduler$Recipe;" "RecipeScheduler") 516 (by decide +kernel) rfl) (fun _ h => h) (v := .ref (ad 3 ((Y 1 0 0 0).toNatClampNeg) 0)) rfl dX11_requireStep_6 ?_
  obtain ⟨b1, h⟩ := gd_some h
  have b1 := of_decide_eq_true b1
  refine fw_getN C (ci := 3) (Cn := RX5) (Tc := TX5) (N := 17) (j := 7) ly_X11_requireStep_5 rfl ((fun q hq => hG q (List.mem_append_right _ hq)) _ (allG_3 b1)) (of3_0 _) (ce3 T ad _ _) (by decide) (Nst_use (cx_nst C) (w := .fieldLinkNest RX11 126 "RecipeScheduler$Recipe" "steps" "LRecipeScheduler$Names;" "RecipeScheduler") 146 (by decide +kernel) rfl) (fun _ h => h) (v := .ref (ad 4 (2*((Y 1 0 0 0).toNatClampNeg)+1) 0)) rfl dX11_requireStep_9 ?_
  obtain ⟨b2, h⟩ := gd_some h
  have b2 := of_decide_eq_true b2
  refine fw_getN C (ci := 2) (Cn := RX4) (Tc := TX4) (N := 3) (j := 2) ly_X11_requireStep_4 rfl ((fun q hq => hG q (List.mem_append_right _ hq)) _ (allG_4b b2)) (of4_0 _) (ce4 T ad _ _) (by decide) (Nst_use (cx_nst C) (w := .fieldLinkNest RX11 130 "RecipeScheduler$Names" "count" "I" "RecipeScheduler") 113 (by decide +kernel) rfl) (fun _ h => h) (v := .int (Y 4 (2*((Y 1 0 0 0).toNatClampNeg)+1) 0 2)) rfl dX11_requireStep_12 ?_
  refine fw_iconst C dX11_requireStep_15 (v := 1) rfl ?_
  refine fw_isub C dX11_requireStep_16 ?_
  obtain ⟨r3, q4, h⟩ := bd1_some h
  refine fw_callSi C (As := [.int a1, .int 0, .int ((Y 4 (2*((Y 1 0 0 0).toNatClampNeg)+1) 0 2) - 1)]) (c_X11_isWithin ga0 q4) (va_cwS 3 (cx_ts C) gX11_requireStep_X11_isWithin rfl rfl rfl (by decide +kernel) ⟨Nat.le_of_ble_eq_true rfl, Nat.le_of_ble_eq_true rfl⟩) rfl (st := []) rfl (Nat.le_of_ble_eq_true rfl) ⟨Nat.le_refl 0, Nat.le_refl 0⟩ dX11_requireStep_17 (pp2 ?_)
  refine fw_if_ne C dX11_requireStep_20 (tgt := 34) rfl (fun c5 => ?_) (fun c5 => ?_)
  · have h := ite_f c5 h
    refine fw_xr (Nat.le_of_ble_eq_true rfl) (Nat.le_of_ble_eq_true rfl) ?_
    exact fw_vret C hrt Y (Option.some.inj h) (fun t ht => ht) dX11_requireStep_34
  · have h := ite_t c5 h
    exact fw_throwSW C hl hX (cls := "java/lang/IndexOutOfBoundsException") (names := ["java/lang/RuntimeException", "java/lang/Exception"]) 3 rfl (by decide +kernel) (by decide +kernel) (cx_ts C _ th_X11_requireStep_23.1) (cx_ts C _ th_X11_requireStep_23.2.1) ((cx_st C).2.1 _ (List.mem_of_getElem? (i := 13) rfl)) (fun w hw => cx_ts C _ (th_X11_requireStep_23.2.2 w hw)) tg_3_241_237 dX11_requireStep_23 dX11_requireStep_26 dX11_requireStep_27 dX11_requireStep_30 dX11_requireStep_33 (Nat.le_of_ble_eq_true rfl) (Nat.le_of_ble_eq_true rfl) (Nat.le_of_ble_eq_true rfl) (Nat.le_of_ble_eq_true rfl) (Nat.le_of_ble_eq_true rfl) (Nat.le_of_ble_eq_true rfl) (Option.some.inj h)
end
set_option maxRecDepth 100000 in
set_option maxHeartbeats 4000000 in
theorem c_X11_requireStep {l : Launch} {N0 : Nat} {T : Nat → ClassId} {D : va_G} {gr : List (Nat × Nat)} {ad : Nat → Nat → Nat → Nat} {Y : Mem} {a1 : Int32} {res : (Nat × Mem) ⊕ Mem} (hl : l.stackTraces = false) (hG : ∀ q ∈ ([(0, 0), (1, 0)] ++ allG), q ∈ gr) (h : X11_requireStep Y a1 = some res) : CXv l yX11_requireStep wsX11_requireStep (Rx 6 1) N0 T D gr ad Y [.ref (ad 0 0 0), .int a1] 1 res :=
  fw_xbody (by decide +kernel) rfl (Nat.le_of_ble_eq_true rfl) (fun p e s m below meth c C hrt hX => w_X11_requireStep C hrt hG hl hX h)
theorem ly_X11_age_11 : ∀ w ∈ u_ws RX11 TX11 11, w ∈ wsX11_age := by decide +kernel
theorem fl_X11_age_67 : Cond.fieldLink RX11 67 "RecipeScheduler" "now" "LRecipeScheduler$Kitchen;" ∈ wsX11_age := by decide +kernel
theorem ly_X11_age_3 : ∀ w ∈ u_ws RX3 TX3 5, w ∈ wsX11_age := by decide +kernel
theorem ly_X11_age_8 : ∀ w ∈ u_ws RX8 TX8 15, w ∈ wsX11_age := by decide +kernel
section
variable {p : Program} {l : Launch} {e : Env} {s : State} {m : MethodId} {below : List Frame} {meth : Method} {c : Code} {N0 : Nat} {T : Nat → ClassId} {D : va_G} {gr : List (Nat × Nat)} {ad : Nat → Nat → Nat → Nat}
set_option maxRecDepth 100000 in
set_option maxHeartbeats 4000000 in
theorem w_X11_age {Y : Mem} {a1 : Int32} (C : Cx p s m [.ref (ad 0 0 0), .int a1].toArray meth c cX11_age 2 wsX11_age RX11 N0 T D gr ad) (hrt : meth.sig.returnType = (some .int)) (hG : ∀ q ∈ ([(1, 0), (0, 0), (2, 0)] ++ allG), q ∈ gr) (hl : l.stackTraces = false) (hX : ∀ x ∈ c.exceptionTable.toList, False) {res : (Nat × Mem) ⊕ (Int32 × Mem)} (h : X11_age Y a1 = some res) : FW p l e (Rx 7 1) s m [.ref (ad 0 0 0), .int a1].toArray below meth c 2 N0 T D gr ad 0 0 (vx_MQ below (va_Qi (fun r Y1 => Sum.inr (r, Y1) = res) (WB T D gr ad) (fun q => N0 ≤ q)) (vx_X (fun u => Sum.inl u = res) (XB T D gr ad) (fun q => N0 ≤ q)) [.ref (ad 0 0 0), .int a1].toArray s 1 6 (fun q => N0 ≤ q)) Y 0 [(0, .ref (ad 0 0 0)), (1, .int a1)] [] := by
  unfold X11_age at h
  refine fw_aload_n C dX11_age_0 rfl 0 rfl ?_
  refine fw_iload_n C dX11_age_1 rfl 1 rfl ?_
  rcases bdxv_some h with ⟨x5, q2, e6⟩ | ⟨Y4, q2, h⟩
  · exact fw_callXVv_l C (ci := 9) (Cn := RX11) (Tc := TX11) (N := 11) (As := [.int a1]) (c_X11_requireStep hl (gac (hG _ (List.mem_of_getElem? (i := 1) rfl)) (gac (hG _ (List.mem_of_getElem? (i := 0) rfl)) (fun q hq => hG q (List.mem_append_right _ hq)))) q2) (cwV 1 (cx_ts C) gX11_age_X11_requireStep rfl rfl rfl (by decide +kernel) ⟨Nat.le_of_ble_eq_true rfl, Nat.le_of_ble_eq_true rfl⟩) rfl (hG _ (List.mem_of_getElem? (i := 1) rfl)) (of0_0 _) (ce0 T ad _ _) rfl (st := []) rfl (Nat.le_of_ble_eq_true rfl) ⟨Nat.le_of_ble_eq_true rfl, Nat.le_of_ble_eq_true rfl⟩ dX11_age_2 hX e6 (Nat.le_of_ble_eq_true rfl) (Nat.le_of_ble_eq_true rfl)
  refine fw_callXVv_r C (ci := 9) (Cn := RX11) (Tc := TX11) (N := 11) (As := [.int a1]) (c_X11_requireStep hl (gac (hG _ (List.mem_of_getElem? (i := 1) rfl)) (gac (hG _ (List.mem_of_getElem? (i := 0) rfl)) (fun q hq => hG q (List.mem_append_right _ hq)))) q2) (cwV 1 (cx_ts C) gX11_age_X11_requireStep rfl rfl rfl (by decide +kernel) ⟨Nat.le_of_ble_eq_true rfl, Nat.le_of_ble_eq_true rfl⟩) rfl (hG _ (List.mem_of_getElem? (i := 1) rfl)) (of0_0 _) (ce0 T ad _ _) rfl (st := []) rfl (Nat.le_of_ble_eq_true rfl) ⟨Nat.le_of_ble_eq_true rfl, Nat.le_of_ble_eq_true rfl⟩ dX11_age_2 ?_
  refine fw_aload_n C dX11_age_5 rfl 0 rfl ?_
  refine fw_get C (ci := 9) (Cn := RX11) (Tc := TX11) (N := 11) (j := 5) ly_X11_age_11 rfl (hG _ (List.mem_of_getElem? (i := 1) rfl)) (of0_0 _) (ce0 T ad _ _) (by decide) (cx_ts C _ fl_X11_age_67) (fun _ h => h) (v := .ref (ad 1 0 0)) rfl dX11_age_6 ?_
  refine fw_getN C (ci := 1) (Cn := RX3) (Tc := TX3) (N := 5) (j := 1) ly_X11_age_3 rfl (hG _ (List.mem_of_getElem? (i := 0) rfl)) (of1_0 _) (ce1 T ad _ _) (by decide) (Nst_use (cx_nst C) (w := .fieldLinkNest RX11 139 "RecipeScheduler$Kitchen" "state" "LRecipeScheduler$State;" "RecipeScheduler") 518 (by decide +kernel) rfl) (fun _ h => h) (v := .ref (ad 2 0 0)) rfl dX11_age_9 ?_
  refine fw_getN C (ci := 6) (Cn := RX8) (Tc := TX8) (N := 15) (j := 11) ly_X11_age_8 rfl (hG _ (List.mem_of_getElem? (i := 2) rfl)) (of2_0 _) (ce2 T ad _ _) (by decide) (Nst_use (cx_nst C) (w := .fieldLinkNest RX11 258 "RecipeScheduler$State" "age" "[I" "RecipeScheduler") 467 (by decide +kernel) rfl) (fun _ h => h) (v := .ref (ad 2 0 3)) rfl dX11_age_12 ?_
  refine fw_iload_n C dX11_age_15 rfl 1 rfl ?_
  obtain ⟨b7, h⟩ := gd_some h
  refine fw_iald2 C (hG _ (List.mem_of_getElem? (i := 2) rfl)) (of2_3 _) (ca2_3 T ad _ _) b7 (Nat.le_of_ble_eq_true rfl) dX11_age_16 ?_
  refine fw_xr (Nat.le_of_ble_eq_true rfl) (Nat.le_of_ble_eq_true rfl) ?_
  exact fw_iret C hrt Y4 (Option.some.inj h) (fun t ht => ht) dX11_age_17
end
set_option maxRecDepth 100000 in
set_option maxHeartbeats 4000000 in
theorem c_X11_age {l : Launch} {N0 : Nat} {T : Nat → ClassId} {D : va_G} {gr : List (Nat × Nat)} {ad : Nat → Nat → Nat → Nat} {Y : Mem} {a1 : Int32} {res : (Nat × Mem) ⊕ (Int32 × Mem)} (hl : l.stackTraces = false) (hG : ∀ q ∈ ([(1, 0), (0, 0), (2, 0)] ++ allG), q ∈ gr) (h : X11_age Y a1 = some res) : CXi l yX11_age wsX11_age (Rx 7 1) N0 T D gr ad Y [.ref (ad 0 0 0), .int a1] 1 res :=
  fw_xbody (by decide +kernel) rfl (Nat.le_of_ble_eq_true rfl) (fun p e s m below meth c C hrt hX => w_X11_age C hrt hG hl hX h)
theorem ly_X9_addByte_9 : ∀ w ∈ u_ws RX9 TX9 2, w ∈ wsX9_addByte := by decide +kernel
theorem fl_X9_addByte_13 : Cond.fieldLink RX9 13 "RecipeScheduler$Text" "length" "I" ∈ wsX9_addByte := by decide +kernel
theorem fl_X9_addByte_7 : Cond.fieldLink RX9 7 "RecipeScheduler$Text" "bytes" "[B" ∈ wsX9_addByte := by decide +kernel
section
variable {p : Program} {l : Launch} {e : Env} {s : State} {m : MethodId} {below : List Frame} {meth : Method} {c : Code} {N0 : Nat} {T : Nat → ClassId} {D : va_G} {gr : List (Nat × Nat)} {ad : Nat → Nat → Nat → Nat}
set_option maxRecDepth 100000 in
set_option maxHeartbeats 4000000 in
theorem w_X9_addByte {Y : Mem} {g0 : Nat} {a1 : Int32} (C : Cx p s m [.ref (ad 5 g0 0), .int a1].toArray meth c cX9_addByte 2 wsX9_addByte RX9 N0 T D gr ad) (hrt : meth.sig.returnType = none) (hG : ∀ q ∈ [(5, g0)], q ∈ gr) {res : Mem} (h : X9_addByte Y g0 a1 = some res) : FW p l e (Rm 0) s m [.ref (ad 5 g0 0), .int a1].toArray below meth c 2 N0 T D gr ad 0 0 (MQ below (va_Qv (fun Y1 => Y1 = res) (WB T D gr ad) (fun q => N0 ≤ q)) [.ref (ad 5 g0 0), .int a1].toArray s 0 0 (fun q => N0 ≤ q)) Y 0 [(0, .ref (ad 5 g0 0)), (1, .int a1)] [] := by
  unfold X9_addByte at h
  refine fw_aload_n C dX9_addByte_0 rfl 0 rfl ?_
  refine fw_get C (ci := 7) (Cn := RX9) (Tc := TX9) (N := 2) (j := 1) ly_X9_addByte_9 rfl (hG _ (List.mem_of_getElem? (i := 0) rfl)) (of5_0 _) (ce5 T ad _ _) (by decide) (cx_ts C _ fl_X9_addByte_13) (fun _ h => h) (v := .int (Y 5 g0 0 1)) rfl dX9_addByte_1 ?_
  refine fw_aload_n C dX9_addByte_4 rfl 0 rfl ?_
  refine fw_get C (ci := 7) (Cn := RX9) (Tc := TX9) (N := 2) (j := 0) ly_X9_addByte_9 rfl (hG _ (List.mem_of_getElem? (i := 0) rfl)) (of5_0 _) (ce5 T ad _ _) (by decide) (cx_ts C _ fl_X9_addByte_7) (fun _ h => h) (v := .ref (ad 5 g0 1)) rfl dX9_addByte_5 ?_
  refine fw_alen C 1 (hG _ (List.mem_of_getElem? (i := 0) rfl)) (of5_1 _) (ca5_1 T ad _ _) rfl (v := (Int32.ofNat (tcap (g0)))) rfl dX9_addByte_8 ?_
  refine fw_icmp_ge C dX9_addByte_9 (tgt := 33) rfl (fun c1 => ?_) (fun c1 => ?_)
  · have h := ite_t c1 h
    exact fw_vret C hrt Y (Option.some.inj h) (fun t ht => ht) dX9_addByte_33
  · have h := ite_f c1 h
    refine fw_aload_n C dX9_addByte_12 rfl 0 rfl ?_
    refine fw_get C (ci := 7) (Cn := RX9) (Tc := TX9) (N := 2) (j := 0) ly_X9_addByte_9 rfl (hG _ (List.mem_of_getElem? (i := 0) rfl)) (of5_0 _) (ce5 T ad _ _) (by decide) (cx_ts C _ fl_X9_addByte_7) (fun _ h => h) (v := .ref (ad 5 g0 1)) rfl dX9_addByte_13 ?_
    refine fw_aload_n C dX9_addByte_16 rfl 0 rfl ?_
    refine fw_get C (ci := 7) (Cn := RX9) (Tc := TX9) (N := 2) (j := 1) ly_X9_addByte_9 rfl (hG _ (List.mem_of_getElem? (i := 0) rfl)) (of5_0 _) (ce5 T ad _ _) (by decide) (cx_ts C _ fl_X9_addByte_13) (fun _ h => h) (v := .int (Y 5 g0 0 1)) rfl dX9_addByte_17 ?_
    refine fw_iload_n C dX9_addByte_20 rfl 1 rfl ?_
    refine fw_i2b C dX9_addByte_21 (v := (a1).toInt8.toInt32) rfl ?_
    obtain ⟨b2, h⟩ := gd_some h
    obtain ⟨Y3, e4, h⟩ := lt_some h
    refine fw_bast2 C (hG _ (List.mem_of_getElem? (i := 0) rfl)) (of5_1 _) (ca5_1 T ad _) b2 (tcap_lt _) dX9_addByte_22 ?_
    refine fw_mem e4 ?_
    refine fw_aload_n C dX9_addByte_23 rfl 0 rfl ?_
    refine fw_dup C dX9_addByte_24 rfl ?_
    refine fw_get C (ci := 7) (Cn := RX9) (Tc := TX9) (N := 2) (j := 1) ly_X9_addByte_9 rfl (hG _ (List.mem_of_getElem? (i := 0) rfl)) (of5_0 _) (ce5 T ad _ _) (by decide) (cx_ts C _ fl_X9_addByte_13) (fun _ h => h) (v := .int (Y3 5 g0 0 1)) rfl dX9_addByte_25 ?_
    refine fw_iconst C dX9_addByte_28 (v := 1) rfl ?_
    refine fw_iadd C dX9_addByte_29 ?_
    obtain ⟨Y5, e6, h⟩ := lt_some h
    refine fw_put C (ci := 7) (Cn := RX9) (Tc := TX9) (N := 2) (j := 1) (ty := .int) (upd (Y3 5 g0 0) 1 ((Y3 5 g0 0 1) + 1)) ly_X9_addByte_9 rfl tyX9_ok nmX9 (hG _ (List.mem_of_getElem? (i := 0) rfl)) (of5_0 _) (ce5 T ad _ _) (by decide) (cx_ts C _ fl_X9_addByte_13) (fun _ h => h) rfl (by decide +kernel) rfl rfl (Nat.le_of_ble_eq_true rfl) (ce5_put1 T ad _ _ _) dX9_addByte_30 ?_
    refine fw_mem ((up_eq _ _ _ _ _ _).symm.trans e6) ?_
    exact fw_vret C hrt Y5 (Option.some.inj h) (fun t ht => ht) dX9_addByte_33
end
set_option maxRecDepth 100000 in
set_option maxHeartbeats 4000000 in
theorem c_X9_addByte {l : Launch} {N0 : Nat} {T : Nat → ClassId} {D : va_G} {gr : List (Nat × Nat)} {ad : Nat → Nat → Nat → Nat} {Y : Mem} {g0 : Nat} {a1 : Int32} {res : Mem} (hG : ∀ q ∈ [(5, g0)], q ∈ gr) (h : X9_addByte Y g0 a1 = some res) : CV l yX9_addByte wsX9_addByte (Rm 0) N0 T D gr ad Y [.ref (ad 5 g0 0), .int a1] (fun Y1 => Y1 = res) :=
  fw_body (by decide +kernel) rfl (Nat.le_of_ble_eq_true rfl) (fun p e s m below meth c C hrt => w_X9_addByte C hrt hG  h)
section
variable {p : Program} {l : Launch} {e : Env} {s : State} {m : MethodId} {below : List Frame} {meth : Method} {c : Code} {N0 : Nat} {T : Nat → ClassId} {D : va_G} {gr : List (Nat × Nat)} {ad : Nat → Nat → Nat → Nat}
set_option maxRecDepth 100000 in
set_option maxHeartbeats 4000000 in
theorem w_X9_addFourBytes {Y : Mem} {g0 : Nat} {a1 : Int32} (C : Cx p s m [.ref (ad 5 g0 0), .int a1].toArray meth c cX9_addFourBytes 2 wsX9_addFourBytes RX9 N0 T D gr ad) (hrt : meth.sig.returnType = none) (hG : ∀ q ∈ [(5, g0)], q ∈ gr) {res : Mem} (h : X9_addFourBytes Y g0 a1 = some res) : FW p l e (Rm 1) s m [.ref (ad 5 g0 0), .int a1].toArray below meth c 2 N0 T D gr ad 0 0 (MQ below (va_Qv (fun Y1 => Y1 = res) (WB T D gr ad) (fun q => N0 ≤ q)) [.ref (ad 5 g0 0), .int a1].toArray s 0 0 (fun q => N0 ≤ q)) Y 0 [(0, .ref (ad 5 g0 0)), (1, .int a1)] [] := by
  unfold X9_addFourBytes at h
  refine fw_aload_n C dX9_addFourBytes_0 rfl 0 rfl ?_
  refine fw_iload_n C dX9_addFourBytes_1 rfl 1 rfl ?_
  refine fw_bipush C dX9_addFourBytes_2 (v := 24) rfl ?_
  refine fw_iushr C dX9_addFourBytes_4 (v := us a1 24) rfl ?_
  obtain ⟨Y3, q2, h⟩ := bd1_some h
  refine fw_callVv C (ci := 7) (Cn := RX9) (Tc := TX9) (N := 2) (As := [.int (us a1 24)]) (c_X9_addByte (gac (hG _ (List.mem_of_getElem? (i := 0) rfl)) ga0) q2) (cwV 1 (cx_ts C) gX9_addFourBytes_X9_addByte rfl rfl rfl (by decide +kernel) ⟨Nat.le_of_ble_eq_true rfl, Nat.le_of_ble_eq_true rfl⟩) rfl (hG _ (List.mem_of_getElem? (i := 0) rfl)) (of5_0 _) (ce5 T ad _ _) rfl (st := []) rfl (Nat.le_of_ble_eq_true rfl) ⟨Nat.le_refl 0, Nat.le_refl 0⟩ dX9_addFourBytes_5 (ppv ?_)
  refine fw_aload_n C dX9_addFourBytes_8 rfl 0 rfl ?_
  refine fw_iload_n C dX9_addFourBytes_9 rfl 1 rfl ?_
  refine fw_bipush C dX9_addFourBytes_10 (v := 16) rfl ?_
  refine fw_iushr C dX9_addFourBytes_12 (v := us a1 16) rfl ?_
  obtain ⟨Y6, q5, h⟩ := bd1_some h
  refine fw_callVv C (ci := 7) (Cn := RX9) (Tc := TX9) (N := 2) (As := [.int (us a1 16)]) (c_X9_addByte (gac (hG _ (List.mem_of_getElem? (i := 0) rfl)) ga0) q5) (cwV 1 (cx_ts C) gX9_addFourBytes_X9_addByte rfl rfl rfl (by decide +kernel) ⟨Nat.le_of_ble_eq_true rfl, Nat.le_of_ble_eq_true rfl⟩) rfl (hG _ (List.mem_of_getElem? (i := 0) rfl)) (of5_0 _) (ce5 T ad _ _) rfl (st := []) rfl (Nat.le_of_ble_eq_true rfl) ⟨Nat.le_refl 0, Nat.le_refl 0⟩ dX9_addFourBytes_13 (ppv ?_)
  refine fw_aload_n C dX9_addFourBytes_16 rfl 0 rfl ?_
  refine fw_iload_n C dX9_addFourBytes_17 rfl 1 rfl ?_
  refine fw_bipush C dX9_addFourBytes_18 (v := 8) rfl ?_
  refine fw_iushr C dX9_addFourBytes_20 (v := us a1 8) rfl ?_
  obtain ⟨Y9, q8, h⟩ := bd1_some h
  refine fw_callVv C (ci := 7) (Cn := RX9) (Tc := TX9) (N := 2) (As := [.int (us a1 8)]) (c_X9_addByte (gac (hG _ (List.mem_of_getElem? (i := 0) rfl)) ga0) q8) (cwV 1 (cx_ts C) gX9_addFourBytes_X9_addByte rfl rfl rfl (by decide +kernel) ⟨Nat.le_of_ble_eq_true rfl, Nat.le_of_ble_eq_true rfl⟩) rfl (hG _ (List.mem_of_getElem? (i := 0) rfl)) (of5_0 _) (ce5 T ad _ _) rfl (st := []) rfl (Nat.le_of_ble_eq_true rfl) ⟨Nat.le_refl 0, Nat.le_refl 0⟩ dX9_addFourBytes_21 (ppv ?_)
  refine fw_aload_n C dX9_addFourBytes_24 rfl 0 rfl ?_
  refine fw_iload_n C dX9_addFourBytes_25 rfl 1 rfl ?_
  obtain ⟨Y12, q11, h⟩ := bd1_some h
  refine fw_callVv C (ci := 7) (Cn := RX9) (Tc := TX9) (N := 2) (As := [.int a1]) (c_X9_addByte (gac (hG _ (List.mem_of_getElem? (i := 0) rfl)) ga0) q11) (cwV 1 (cx_ts C) gX9_addFourBytes_X9_addByte rfl rfl rfl (by decide +kernel) ⟨Nat.le_of_ble_eq_true rfl, Nat.le_of_ble_eq_true rfl⟩) rfl (hG _ (List.mem_of_getElem? (i := 0) rfl)) (of5_0 _) (ce5 T ad _ _) rfl (st := []) rfl (Nat.le_of_ble_eq_true rfl) ⟨Nat.le_refl 0, Nat.le_refl 0⟩ dX9_addFourBytes_26 (ppv ?_)
  exact fw_vret C hrt Y12 (Option.some.inj h) (fun t ht => ht) dX9_addFourBytes_29
end
set_option maxRecDepth 100000 in
set_option maxHeartbeats 4000000 in
theorem c_X9_addFourBytes {l : Launch} {N0 : Nat} {T : Nat → ClassId} {D : va_G} {gr : List (Nat × Nat)} {ad : Nat → Nat → Nat → Nat} {Y : Mem} {g0 : Nat} {a1 : Int32} {res : Mem} (hG : ∀ q ∈ [(5, g0)], q ∈ gr) (h : X9_addFourBytes Y g0 a1 = some res) : CV l yX9_addFourBytes wsX9_addFourBytes (Rm 1) N0 T D gr ad Y [.ref (ad 5 g0 0), .int a1] (fun Y1 => Y1 = res) :=
  fw_body (by decide +kernel) rfl (Nat.le_of_ble_eq_true rfl) (fun p e s m below meth c C hrt => w_X9_addFourBytes C hrt hG  h)
