theorem ly_X6_read_6 : ∀ w ∈ u_ws RX6 TX6 5, w ∈ wsX6_read := by decide +kernel
theorem fl_X6_read_32 : Cond.fieldLink RX6 32 "RecipeScheduler$ScriptReader" "count" "I" ∈ wsX6_read := by decide +kernel
theorem fl_X6_read_24 : Cond.fieldLink RX6 24 "RecipeScheduler$ScriptReader" "tokens" "LRecipeScheduler$Tokens;" ∈ wsX6_read := by decide +kernel
section
variable {p : Program} {l : Launch} {e : Env} {s : State} {m : MethodId} {below : List Frame} {meth : Method} {c : Code} {N0 : Nat} {T : Nat → ClassId} {D : va_G} {gr : List (Nat × Nat)} {ad : Nat → Nat → Nat → Nat}
set_option maxRecDepth 100000 in
set_option maxHeartbeats 4000000 in
theorem w_X6_read_b14 {g1 : Nat} (C : Cx p s m [.ref (ad 8 0 0), .ref (ad 4 g1 0)].toArray meth c cX6_read 3 wsX6_read RX6 N0 T D gr ad) (hrt : meth.sig.returnType = none) (hG : ∀ q ∈ [(8, 0), (5, 0), (6, 0), (4, g1)], q ∈ gr) {res : Mem} : ∀ (n : Nat) (Y : Mem) (l2 : Int32), X6_read_b14 g1  n Y l2 = some res → FW p l e (Rm 7) s m [.ref (ad 8 0 0), .ref (ad 4 g1 0)].toArray below meth c 3 N0 T D gr ad 0 0 (MQ below (va_Qv (fun Y1 => Y1 = res) (WB T D gr ad) (fun q => N0 ≤ q)) [.ref (ad 8 0 0), .ref (ad 4 g1 0)].toArray s 0 0 (fun q => N0 ≤ q)) Y 14 [(2, .int l2), (0, .ref (ad 8 0 0)), (1, .ref (ad 4 g1 0))] [] := by
  intro n
  induction n with
  | zero =>
    intro Y l2 h
    unfold X6_read_b14 at h
    cases h
  | succ n ih =>
    intro Y l2 h
    unfold X6_read_b14 at h
    refine fw_iload_n C dX6_read_14 rfl 0 rfl ?_
    refine fw_bipush C dX6_read_15 (v := 30) rfl ?_
    refine fw_icmp_gt C dX6_read_17 (tgt := 41) rfl (fun c6 => ?_) (fun c6 => ?_)
    · have h := ite_t c6 h
      exact fw_vret C hrt Y (Option.some.inj h) (fun t ht => ht) dX6_read_41
    · have h := ite_f c6 h
      refine fw_aload_n C dX6_read_20 rfl 1 rfl ?_
      refine fw_get C (ci := 4) (Cn := RX6) (Tc := TX6) (N := 5) (j := 0) ly_X6_read_6 rfl (hG _ (List.mem_of_getElem? (i := 0) rfl)) (of8_0 _) (ce8 T ad _ _) (by decide) (cx_ts C _ fl_X6_read_24) (fun _ h => h) (v := .ref (ad 6 0 0)) rfl dX6_read_21 ?_
      obtain ⟨r7, q8, h⟩ := bd1_some h
      refine fw_callVi C (ci := 8) (Cn := RX10) (Tc := TX10) (N := 6) (As := []) (c_X10_mayGoOn (gac (hG _ (List.mem_of_getElem? (i := 2) rfl)) ga0) q8) (cwV 0 (cx_ts C) gX6_read_X10_mayGoOn rfl rfl rfl (by decide +kernel) ⟨Nat.le_of_ble_eq_true rfl, Nat.le_of_ble_eq_true rfl⟩) rfl (hG _ (List.mem_of_getElem? (i := 2) rfl)) (of6_0 _) (ce6 T ad _ _) rfl (st := []) rfl (Nat.le_of_ble_eq_true rfl) ⟨Nat.le_refl 0, Nat.le_refl 0⟩ dX6_read_24 (pp2 ?_)
      refine fw_if_eq C dX6_read_27 (tgt := 41) rfl (fun c9 => ?_) (fun c9 => ?_)
      · have h := ite_t c9 h
        exact fw_vret C hrt Y (Option.some.inj h) (fun t ht => ht) dX6_read_41
      · have h := ite_f c9 h
        refine fw_aload_n C dX6_read_30 rfl 1 rfl ?_
        refine fw_aload_n C dX6_read_31 rfl 2 rfl ?_
        obtain ⟨Y12, q11, h⟩ := bd1_some h
        refine fw_callVv C (ci := 4) (Cn := RX6) (Tc := TX6) (N := 5) (As := [.ref (ad 4 g1 0)]) (c_X6_readCommand (gac (hG _ (List.mem_of_getElem? (i := 2) rfl)) (gac (hG _ (List.mem_of_getElem? (i := 1) rfl)) (gac (hG _ (List.mem_of_getElem? (i := 0) rfl)) (gac (hG _ (List.mem_of_getElem? (i := 3) rfl)) ga0)))) q11) (cwV 1 (cx_ts C) gX6_read_X6_readCommand rfl rfl rfl (by decide +kernel) ⟨Nat.le_of_ble_eq_true rfl, Nat.le_of_ble_eq_true rfl⟩) rfl (hG _ (List.mem_of_getElem? (i := 0) rfl)) (of8_0 _) (ce8 T ad _ _) rfl (st := []) rfl (Nat.le_of_ble_eq_true rfl) ⟨Nat.le_refl 0, Nat.le_refl 0⟩ dX6_read_32 (ppv ?_)
        refine fw_iinc C dX6_read_35 (kk := 0) (v := l2 + 1) rfl rfl (by decide) (L' := [(2, .int (l2 + 1)), (0, .ref (ad 8 0 0)), (1, .ref (ad 4 g1 0))]) rfl ?_
        refine fw_goto C dX6_read_38 (tgt := 14) rfl ?_
        exact ih _ _ h
set_option maxRecDepth 100000 in
set_option maxHeartbeats 4000000 in
theorem w_X6_read {Y : Mem} {g1 : Nat} (C : Cx p s m [.ref (ad 8 0 0), .ref (ad 4 g1 0)].toArray meth c cX6_read 3 wsX6_read RX6 N0 T D gr ad) (hrt : meth.sig.returnType = none) (hG : ∀ q ∈ [(8, 0), (5, 0), (6, 0), (4, g1)], q ∈ gr) {res : Mem} (h : X6_read Y g1 = some res) : FW p l e (Rm 7) s m [.ref (ad 8 0 0), .ref (ad 4 g1 0)].toArray below meth c 3 N0 T D gr ad 0 0 (MQ below (va_Qv (fun Y1 => Y1 = res) (WB T D gr ad) (fun q => N0 ≤ q)) [.ref (ad 8 0 0), .ref (ad 4 g1 0)].toArray s 0 0 (fun q => N0 ≤ q)) Y 0 [(0, .ref (ad 8 0 0)), (1, .ref (ad 4 g1 0))] [] := by
  unfold X6_read at h
  refine fw_aload_n C dX6_read_0 rfl 0 rfl ?_
  refine fw_iconst C dX6_read_1 (v := 0) rfl ?_
  obtain ⟨Y1, e2, h⟩ := lt_some h
  refine fw_put C (ci := 4) (Cn := RX6) (Tc := TX6) (N := 5) (j := 4) (ty := .int) (upd (Y 8 0 0) 4 0) ly_X6_read_6 rfl tyX6_ok nmX6 (hG _ (List.mem_of_getElem? (i := 0) rfl)) (of8_0 _) (ce8 T ad _ _) (by decide) (cx_ts C _ fl_X6_read_32) (fun _ h => h) rfl (by decide +kernel) rfl rfl (Nat.le_of_ble_eq_true rfl) (ce8_put4 T ad _ _ _) dX6_read_2 ?_
  refine fw_mem ((up_eq _ _ _ _ _ _).symm.trans e2) ?_
  refine fw_aload_n C dX6_read_5 rfl 0 rfl ?_
  refine fw_get C (ci := 4) (Cn := RX6) (Tc := TX6) (N := 5) (j := 0) ly_X6_read_6 rfl (hG _ (List.mem_of_getElem? (i := 0) rfl)) (of8_0 _) (ce8 T ad _ _) (by decide) (cx_ts C _ fl_X6_read_24) (fun _ h => h) (v := .ref (ad 6 0 0)) rfl dX6_read_6 ?_
  obtain ⟨Y5, q4, h⟩ := bd1_some h
  refine fw_callVv C (ci := 8) (Cn := RX10) (Tc := TX10) (N := 6) (As := []) (c_X10_begin (gac (hG _ (List.mem_of_getElem? (i := 2) rfl)) (gac (hG _ (List.mem_of_getElem? (i := 1) rfl)) ga0)) q4) (cwV 0 (cx_ts C) gX6_read_X10_begin rfl rfl rfl (by decide +kernel) ⟨Nat.le_of_ble_eq_true rfl, Nat.le_of_ble_eq_true rfl⟩) rfl (hG _ (List.mem_of_getElem? (i := 2) rfl)) (of6_0 _) (ce6 T ad _ _) rfl (st := []) rfl (Nat.le_of_ble_eq_true rfl) ⟨Nat.le_refl 0, Nat.le_refl 0⟩ dX6_read_9 (ppv ?_)
  refine fw_iconst C dX6_read_12 (v := 0) rfl ?_
  refine fw_istore_n C dX6_read_13 rfl (by decide) (L' := [(2, .int 0), (0, .ref (ad 8 0 0)), (1, .ref (ad 4 g1 0))]) rfl ?_
  exact w_X6_read_b14 C hrt hG   _ _ _ h
end
set_option maxRecDepth 100000 in
set_option maxHeartbeats 4000000 in
theorem c_X6_read {l : Launch} {N0 : Nat} {T : Nat → ClassId} {D : va_G} {gr : List (Nat × Nat)} {ad : Nat → Nat → Nat → Nat} {Y : Mem} {g1 : Nat} {res : Mem} (hG : ∀ q ∈ [(8, 0), (5, 0), (6, 0), (4, g1)], q ∈ gr) (h : X6_read Y g1 = some res) : CV l yX6_read wsX6_read (Rm 7) N0 T D gr ad Y [.ref (ad 8 0 0), .ref (ad 4 g1 0)] (fun Y1 => Y1 = res) :=
  fw_body (by decide +kernel) rfl (Nat.le_of_ble_eq_true rfl) (fun p e s m below meth c C hrt => w_X6_read C hrt hG  h)
theorem ly_X11_runScript_11 : ∀ w ∈ u_ws RX11 TX11 11, w ∈ wsX11_runScript := by decide +kernel
theorem fl_X11_runScript_59 : Cond.fieldLink RX11 59 "RecipeScheduler" "scriptReader" "LRecipeScheduler$ScriptReader;" ∈ wsX11_runScript := by decide +kernel
theorem fl_X11_runScript_67 : Cond.fieldLink RX11 67 "RecipeScheduler" "now" "LRecipeScheduler$Kitchen;" ∈ wsX11_runScript := by decide +kernel
theorem ly_X11_runScript_3 : ∀ w ∈ u_ws RX3 TX3 5, w ∈ wsX11_runScript := by decide +kernel
theorem ly_X11_runScript_5 : ∀ w ∈ u_ws RX5 TX5 17, w ∈ wsX11_runScript := by decide +kernel
theorem fl_X11_runScript_41 : Cond.fieldLink RX11 41 "RecipeScheduler" "input" "LRecipeScheduler$Text;" ∈ wsX11_runScript := by decide +kernel
theorem ly_X11_runScript_9 : ∀ w ∈ u_ws RX9 TX9 2, w ∈ wsX11_runScript := by decide +kernel
theorem fl_X11_runScript_77 : Cond.fieldLink RX11 77 "RecipeScheduler" "history" "LRecipeScheduler$History;" ∈ wsX11_runScript := by decide +kernel
theorem ly_X11_runScript_6 : ∀ w ∈ u_ws RX6 TX6 5, w ∈ wsX11_runScript := by decide +kernel
section
variable {p : Program} {l : Launch} {e : Env} {s : State} {m : MethodId} {below : List Frame} {meth : Method} {c : Code} {N0 : Nat} {T : Nat → ClassId} {D : va_G} {gr : List (Nat × Nat)} {ad : Nat → Nat → Nat → Nat}
set_option maxRecDepth 100000 in
set_option maxHeartbeats 4000000 in
theorem w_X11_runScript_b45  (C : Cx p s m [.ref (ad 0 0 0)].toArray meth c cX11_runScript 5 wsX11_runScript RX11 N0 T D gr ad) (hrt : meth.sig.returnType = (some .int)) (hG : ∀ q ∈ ([(0, 0), (1, 0), (6, 0), (5, 0), (8, 0), (2, 0), (9, 0)] ++ allG), q ∈ gr) (hl : l.stackTraces = false) (hX : ∀ x ∈ c.exceptionTable.toList, False) {res : (Nat × Mem) ⊕ (Int32 × Mem)} : ∀ (n : Nat) (Y : Mem) (l1 : Int32), X11_runScript_b45   n Y l1 = some res → FW p l e (Rx 8 1) s m [.ref (ad 0 0 0)].toArray below meth c 5 N0 T D gr ad 1 6 (vx_MQ below (va_Qi (fun r Y1 => Sum.inr (r, Y1) = res) (WB T D gr ad) (fun q => N0 ≤ q)) (vx_X (fun u => Sum.inl u = res) (XB T D gr ad) (fun q => N0 ≤ q)) [.ref (ad 0 0 0)].toArray s 1 6 (fun q => N0 ≤ q)) Y 45 [(1, .int l1), (0, .ref (ad 0 0 0))] [] := by
  intro n
  induction n with
  | zero =>
    intro Y l1 h
    unfold X11_runScript_b45 at h
    cases h
  | succ n ih =>
    intro Y l1 h
    unfold X11_runScript_b45 at h
    refine fw_iload_n C dX11_runScript_45 rfl 0 rfl ?_
    refine fw_aload_n C dX11_runScript_46 rfl 1 rfl ?_
    refine fw_get C (ci := 9) (Cn := RX11) (Tc := TX11) (N := 11) (j := 4) ly_X11_runScript_11 rfl (hG _ (List.mem_of_getElem? (i := 0) rfl)) (of0_0 _) (ce0 T ad _ _) (by decide) (cx_ts C _ fl_X11_runScript_59) (fun _ h => h) (v := .ref (ad 8 0 0)) rfl dX11_runScript_47 ?_
    refine fw_getN C (ci := 4) (Cn := RX6) (Tc := TX6) (N := 5) (j := 4) ly_X11_runScript_6 rfl (hG _ (List.mem_of_getElem? (i := 4) rfl)) (of8_0 _) (ce8 T ad _ _) (by decide) (Nst_use (cx_nst C) (w := .fieldLinkNest RX11 380 "RecipeScheduler$ScriptReader" "count" "I" "RecipeScheduler") 414 (by decide +kernel) rfl) (fun _ h => h) (v := .int (Y 8 0 0 4)) rfl dX11_runScript_50 ?_
    refine fw_icmp_ge C dX11_runScript_53 (tgt := 114) rfl (fun c17 => ?_) (fun c17 => ?_)
    · have h := ite_t c17 h
      refine fw_aload_n C dX11_runScript_114 rfl 1 rfl ?_
      refine fw_get C (ci := 9) (Cn := RX11) (Tc := TX11) (N := 11) (j := 4) ly_X11_runScript_11 rfl (hG _ (List.mem_of_getElem? (i := 0) rfl)) (of0_0 _) (ce0 T ad _ _) (by decide) (cx_ts C _ fl_X11_runScript_59) (fun _ h => h) (v := .ref (ad 8 0 0)) rfl dX11_runScript_115 ?_
      refine fw_getN C (ci := 4) (Cn := RX6) (Tc := TX6) (N := 5) (j := 4) ly_X11_runScript_6 rfl (hG _ (List.mem_of_getElem? (i := 4) rfl)) (of8_0 _) (ce8 T ad _ _) (by decide) (Nst_use (cx_nst C) (w := .fieldLinkNest RX11 380 "RecipeScheduler$ScriptReader" "count" "I" "RecipeScheduler") 414 (by decide +kernel) rfl) (fun _ h => h) (v := .int (Y 8 0 0 4)) rfl dX11_runScript_118 ?_
      refine fw_xr (Nat.le_of_ble_eq_true rfl) (Nat.le_of_ble_eq_true rfl) ?_
      exact fw_iret C hrt Y (Option.some.inj h) (fun t ht => ht) dX11_runScript_121
    · have h := ite_f c17 h
      refine fw_aload_n C dX11_runScript_56 rfl 1 rfl ?_
      refine fw_get C (ci := 9) (Cn := RX11) (Tc := TX11) (N := 11) (j := 4) ly_X11_runScript_11 rfl (hG _ (List.mem_of_getElem? (i := 0) rfl)) (of0_0 _) (ce0 T ad _ _) (by decide) (cx_ts C _ fl_X11_runScript_59) (fun _ h => h) (v := .ref (ad 8 0 0)) rfl dX11_runScript_57 ?_
      refine fw_getN C (ci := 4) (Cn := RX6) (Tc := TX6) (N := 5) (j := 1) ly_X11_runScript_6 rfl (hG _ (List.mem_of_getElem? (i := 4) rfl)) (of8_0 _) (ce8 T ad _ _) (by decide) (Nst_use (cx_nst C) (w := .fieldLinkNest RX11 381 "RecipeScheduler$ScriptReader" "commands" "[LRecipeScheduler$Command;" "RecipeScheduler") 408 (by decide +kernel) rfl) (fun _ h => h) (v := .ref (ad 8 0 1)) rfl dX11_runScript_60 ?_
      refine fw_iload_n C dX11_runScript_63 rfl 0 rfl ?_
      obtain ⟨b18, h⟩ := gd_some h
      obtain ⟨b19, h⟩ := gd_some h
      refine fw_aald2 C 6 (hG _ (List.mem_of_getElem? (i := 4) rfl)) (of8_1 _) (ca8_1 T ad _ _) rfl rfl b18 (Nat.le_of_ble_eq_true rfl) (v := .ref (ad 20 ((Y 8 0 1 (ix l1)).toNatClampNeg - 1) 0)) (by rw [cmdr, if_neg (of_decide_eq_true b19)]; rfl) dX11_runScript_64 ?_
      obtain ⟨v20, e21, h⟩ := lt_some h
      refine fw_top (v' := .ref (ad 20 v20 0)) (by rw [e21]) ?_
      refine fw_astore_n C dX11_runScript_65 rfl (by decide) (L' := [(2, .ref (ad 20 v20 0)), (1, .int l1), (0, .ref (ad 0 0 0))]) rfl ?_
      refine fw_aload_n C dX11_runScript_66 rfl 2 rfl ?_
      refine fw_get C (ci := 9) (Cn := RX11) (Tc := TX11) (N := 11) (j := 4) ly_X11_runScript_11 rfl (hG _ (List.mem_of_getElem? (i := 0) rfl)) (of0_0 _) (ce0 T ad _ _) (by decide) (cx_ts C _ fl_X11_runScript_59) (fun _ h => h) (v := .ref (ad 8 0 0)) rfl dX11_runScript_67 ?_
      refine fw_getN C (ci := 4) (Cn := RX6) (Tc := TX6) (N := 5) (j := 2) ly_X11_runScript_6 rfl (hG _ (List.mem_of_getElem? (i := 4) rfl)) (of8_0 _) (ce8 T ad _ _) (by decide) (Nst_use (cx_nst C) (w := .fieldLinkNest RX11 385 "RecipeScheduler$ScriptReader" "steps" "[I" "RecipeScheduler") 410 (by decide +kernel) rfl) (fun _ h => h) (v := .ref (ad 8 0 2)) rfl dX11_runScript_70 ?_
      refine fw_iload_n C dX11_runScript_73 rfl 1 rfl ?_
      refine fw_iald2 C (hG _ (List.mem_of_getElem? (i := 4) rfl)) (of8_2 _) (ca8_2 T ad _ _) b18 (Nat.le_of_ble_eq_true rfl) dX11_runScript_74 ?_
      obtain ⟨v22, e23, h⟩ := lt_some h
      refine fw_top (v' := .int v22) (by rw [e23]) ?_
      refine fw_istore_n C dX11_runScript_75 rfl (by decide) (L' := [(3, .int v22), (2, .ref (ad 20 v20 0)), (1, .int l1), (0, .ref (ad 0 0 0))]) rfl ?_
      refine fw_aload_n C dX11_runScript_76 rfl 3 rfl ?_
      refine fw_get C (ci := 9) (Cn := RX11) (Tc := TX11) (N := 11) (j := 4) ly_X11_runScript_11 rfl (hG _ (List.mem_of_getElem? (i := 0) rfl)) (of0_0 _) (ce0 T ad _ _) (by decide) (cx_ts C _ fl_X11_runScript_59) (fun _ h => h) (v := .ref (ad 8 0 0)) rfl dX11_runScript_77 ?_
      refine fw_getN C (ci := 4) (Cn := RX6) (Tc := TX6) (N := 5) (j := 3) ly_X11_runScript_6 rfl (hG _ (List.mem_of_getElem? (i := 4) rfl)) (of8_0 _) (ce8 T ad _ _) (by decide) (Nst_use (cx_nst C) (w := .fieldLinkNest RX11 387 "RecipeScheduler$ScriptReader" "numbers" "[I" "RecipeScheduler") 412 (by decide +kernel) rfl) (fun _ h => h) (v := .ref (ad 8 0 3)) rfl dX11_runScript_80 ?_
      refine fw_iload_n C dX11_runScript_83 rfl 2 rfl ?_
      refine fw_iald2 C (hG _ (List.mem_of_getElem? (i := 4) rfl)) (of8_3 _) (ca8_3 T ad _ _) b18 (Nat.le_of_ble_eq_true rfl) dX11_runScript_84 ?_
      obtain ⟨v24, e25, h⟩ := lt_some h
      refine fw_top (v' := .int v24) (by rw [e25]) ?_
      refine fw_istore C dX11_runScript_85 (by decide) (L' := [(4, .int v24), (3, .int v22), (2, .ref (ad 20 v20 0)), (1, .int l1), (0, .ref (ad 0 0 0))]) rfl ?_
      refine fw_aload_n C dX11_runScript_87 rfl 4 rfl ?_
      refine fw_aload_n C dX11_runScript_88 rfl 2 rfl ?_
      refine fw_iload_n C dX11_runScript_89 rfl 1 rfl ?_
      refine fw_iload C dX11_runScript_90 0 rfl ?_
      obtain ⟨r26, q27, h⟩ := bd1_some h
      refine fw_callVi C (ci := 9) (Cn := RX11) (Tc := TX11) (N := 11) (As := [.ref (ad 20 v20 0), .int v22, .int v24]) (c_X11_isAllowed (gac (hG _ (List.mem_of_getElem? (i := 0) rfl)) (gac (hG _ (List.mem_of_getElem? (i := 5) rfl)) (gac (hG _ (List.mem_of_getElem? (i := 1) rfl)) (fun q hq => hG q (List.mem_append_right _ hq))))) q27) (cwV 3 (cx_ts C) gX11_runScript_X11_isAllowed rfl rfl rfl (by decide +kernel) ⟨Nat.le_of_ble_eq_true rfl, Nat.le_of_ble_eq_true rfl⟩) rfl (hG _ (List.mem_of_getElem? (i := 0) rfl)) (of0_0 _) (ce0 T ad _ _) rfl (st := []) rfl (Nat.le_of_ble_eq_true rfl) ⟨Nat.le_of_ble_eq_true rfl, Nat.le_of_ble_eq_true rfl⟩ dX11_runScript_92 (pp2 ?_)
      refine fw_if_ne C dX11_runScript_95 (tgt := 100) rfl (fun c28 => ?_) (fun c28 => ?_)
      · have h := ite_f c28 h
        refine fw_aload_n C dX11_runScript_100 rfl 4 rfl ?_
        refine fw_aload_n C dX11_runScript_101 rfl 2 rfl ?_
        refine fw_iload_n C dX11_runScript_102 rfl 1 rfl ?_
        refine fw_iload C dX11_runScript_103 0 rfl ?_
        obtain ⟨Y31, q30, h⟩ := bd1_some h
        refine fw_callVv C (ci := 9) (Cn := RX11) (Tc := TX11) (N := 11) (As := [.ref (ad 20 v20 0), .int v22, .int v24]) (c_X11_carryOut (gac (hG _ (List.mem_of_getElem? (i := 0) rfl)) (gac (hG _ (List.mem_of_getElem? (i := 1) rfl)) (gac (hG _ (List.mem_of_getElem? (i := 5) rfl)) (fun q hq => hG q (List.mem_append_right _ hq))))) q30) (cwV 3 (cx_ts C) gX11_runScript_X11_carryOut rfl rfl rfl (by decide +kernel) ⟨Nat.le_of_ble_eq_true rfl, Nat.le_of_ble_eq_true rfl⟩) rfl (hG _ (List.mem_of_getElem? (i := 0) rfl)) (of0_0 _) (ce0 T ad _ _) rfl (st := []) rfl (Nat.le_of_ble_eq_true rfl) ⟨Nat.le_of_ble_eq_true rfl, Nat.le_of_ble_eq_true rfl⟩ dX11_runScript_105 (ppv ?_)
        refine fw_iinc C dX11_runScript_108 (kk := 3) (v := l1 + 1) rfl rfl (by decide) (L' := [(1, .int (l1 + 1)), (4, .int v24), (3, .int v22), (2, .ref (ad 20 v20 0)), (0, .ref (ad 0 0 0))]) rfl ?_
        refine fw_goto C dX11_runScript_111 (tgt := 45) rfl ?_
        refine fw_sub [0, 4] (L' := [(1, .int (l1 + 1)), (0, .ref (ad 0 0 0))]) rfl ?_
        exact ih _ _ h
      · have h := ite_t c28 h
        refine fw_iload_n C dX11_runScript_98 rfl 3 rfl ?_
        refine fw_xr (Nat.le_of_ble_eq_true rfl) (Nat.le_of_ble_eq_true rfl) ?_
        exact fw_iret C hrt Y (Option.some.inj h) (fun t ht => ht) dX11_runScript_99
set_option maxRecDepth 100000 in
set_option maxHeartbeats 4000000 in
theorem w_X11_runScript {Y : Mem} (C : Cx p s m [.ref (ad 0 0 0)].toArray meth c cX11_runScript 5 wsX11_runScript RX11 N0 T D gr ad) (hrt : meth.sig.returnType = (some .int)) (hG : ∀ q ∈ ([(0, 0), (1, 0), (6, 0), (5, 0), (8, 0), (2, 0), (9, 0)] ++ allG), q ∈ gr) (hl : l.stackTraces = false) (hX : ∀ x ∈ c.exceptionTable.toList, False) {res : (Nat × Mem) ⊕ (Int32 × Mem)} (h : X11_runScript Y = some res) : FW p l e (Rx 8 1) s m [.ref (ad 0 0 0)].toArray below meth c 5 N0 T D gr ad 0 0 (vx_MQ below (va_Qi (fun r Y1 => Sum.inr (r, Y1) = res) (WB T D gr ad) (fun q => N0 ≤ q)) (vx_X (fun u => Sum.inl u = res) (XB T D gr ad) (fun q => N0 ≤ q)) [.ref (ad 0 0 0)].toArray s 1 6 (fun q => N0 ≤ q)) Y 0 [(0, .ref (ad 0 0 0))] [] := by
  unfold X11_runScript at h
  refine fw_aload_n C dX11_runScript_0 rfl 0 rfl ?_
  refine fw_get C (ci := 9) (Cn := RX11) (Tc := TX11) (N := 11) (j := 4) ly_X11_runScript_11 rfl (hG _ (List.mem_of_getElem? (i := 0) rfl)) (of0_0 _) (ce0 T ad _ _) (by decide) (cx_ts C _ fl_X11_runScript_59) (fun _ h => h) (v := .ref (ad 8 0 0)) rfl dX11_runScript_1 ?_
  refine fw_aload_n C dX11_runScript_4 rfl 0 rfl ?_
  refine fw_get C (ci := 9) (Cn := RX11) (Tc := TX11) (N := 11) (j := 5) ly_X11_runScript_11 rfl (hG _ (List.mem_of_getElem? (i := 0) rfl)) (of0_0 _) (ce0 T ad _ _) (by decide) (cx_ts C _ fl_X11_runScript_67) (fun _ h => h) (v := .ref (ad 1 0 0)) rfl dX11_runScript_5 ?_
  refine fw_getN C (ci := 1) (Cn := RX3) (Tc := TX3) (N := 5) (j := 0) ly_X11_runScript_3 rfl (hG _ (List.mem_of_getElem? (i := 1) rfl)) (of1_0 _) (ce1 T ad _ _) (by decide) (Nst_use (cx_nst C) (w := .fieldLinkNest RX11 117 "RecipeScheduler$Kitchen" "recipe" "LRecipeScheduler$Recipe;" "RecipeScheduler") 520 (by decide +kernel) rfl) (fun _ h => h) (v := .ref (ad 3 ((Y 1 0 0 0).toNatClampNeg) 0)) rfl dX11_runScript_8 ?_
  obtain ⟨b1, h⟩ := gd_some h
  have b1 := of_decide_eq_true b1
  refine fw_getN C (ci := 3) (Cn := RX5) (Tc := TX5) (N := 17) (j := 7) ly_X11_runScript_5 rfl ((fun q hq => hG q (List.mem_append_right _ hq)) _ (allG_3 b1)) (of3_0 _) (ce3 T ad _ _) (by decide) (Nst_use (cx_nst C) (w := .fieldLinkNest RX11 126 "RecipeScheduler$Recipe" "steps" "LRecipeScheduler$Names;" "RecipeScheduler") 148 (by decide +kernel) rfl) (fun _ h => h) (v := .ref (ad 4 (2*((Y 1 0 0 0).toNatClampNeg)+1) 0)) rfl dX11_runScript_11 ?_
  obtain ⟨b2, h⟩ := gd_some h
  have b2 := of_decide_eq_true b2
  obtain ⟨Y5, q4, h⟩ := bd1_some h
  refine fw_callVv C (ci := 4) (Cn := RX6) (Tc := TX6) (N := 5) (As := [.ref (ad 4 (2*((Y 1 0 0 0).toNatClampNeg)+1) 0)]) (c_X6_read (gac (hG _ (List.mem_of_getElem? (i := 4) rfl)) (gac (hG _ (List.mem_of_getElem? (i := 3) rfl)) (gac (hG _ (List.mem_of_getElem? (i := 2) rfl)) (gac ((fun q hq => hG q (List.mem_append_right _ hq)) _ (allG_4b b2)) ga0)))) q4) (cwV 1 (cx_ts C) gX11_runScript_X6_read rfl rfl rfl (by decide +kernel) ⟨Nat.le_of_ble_eq_true rfl, Nat.le_of_ble_eq_true rfl⟩) rfl (hG _ (List.mem_of_getElem? (i := 4) rfl)) (of8_0 _) (ce8 T ad _ _) rfl (st := []) rfl (Nat.le_of_ble_eq_true rfl) ⟨Nat.le_of_ble_eq_true rfl, Nat.le_of_ble_eq_true rfl⟩ dX11_runScript_14 (ppv ?_)
  refine fw_aload_n C dX11_runScript_17 rfl 0 rfl ?_
  refine fw_get C (ci := 9) (Cn := RX11) (Tc := TX11) (N := 11) (j := 0) ly_X11_runScript_11 rfl (hG _ (List.mem_of_getElem? (i := 0) rfl)) (of0_0 _) (ce0 T ad _ _) (by decide) (cx_ts C _ fl_X11_runScript_41) (fun _ h => h) (v := .ref (ad 5 0 0)) rfl dX11_runScript_18 ?_
  refine fw_iconst C dX11_runScript_21 (v := 0) rfl ?_
  obtain ⟨Y6, e7, h⟩ := lt_some h
  refine fw_putN C (ci := 7) (Cn := RX9) (Tc := TX9) (N := 2) (j := 1) (ty := .int) (upd (Y5 5 0 0) 1 0) ly_X11_runScript_9 rfl tyX9_ok nmX9 (hG _ (List.mem_of_getElem? (i := 3) rfl)) (of5_0 _) (ce5 T ad _ _) (by decide) (Nst_use (cx_nst C) (w := .fieldLinkNest RX11 37 "RecipeScheduler$Text" "length" "I" "RecipeScheduler") 48 (by decide +kernel) rfl) (fun _ h => h) rfl (by decide +kernel) rfl rfl (Nat.le_of_ble_eq_true rfl) (ce5_put1 T ad _ _ _) dX11_runScript_22 ?_
  refine fw_mem ((up_eq _ _ _ _ _ _).symm.trans e7) ?_
  refine fw_aload_n C dX11_runScript_25 rfl 0 rfl ?_
  rcases bdxv_some h with ⟨x12, q9, e13⟩ | ⟨Y11, q9, h⟩
  · exact fw_callXVv_l C (ci := 9) (Cn := RX11) (Tc := TX11) (N := 11) (As := []) (c_X11_requireNoError hl (gac (hG _ (List.mem_of_getElem? (i := 0) rfl)) (gac (hG _ (List.mem_of_getElem? (i := 2) rfl)) ga0)) q9) (cwV 0 (cx_ts C) gX11_runScript_X11_requireNoError rfl rfl rfl (by decide +kernel) ⟨Nat.le_of_ble_eq_true rfl, Nat.le_of_ble_eq_true rfl⟩) rfl (hG _ (List.mem_of_getElem? (i := 0) rfl)) (of0_0 _) (ce0 T ad _ _) rfl (st := []) rfl (Nat.le_of_ble_eq_true rfl) ⟨Nat.le_of_ble_eq_true rfl, Nat.le_of_ble_eq_true rfl⟩ dX11_runScript_26 hX e13 (Nat.le_of_ble_eq_true rfl) (Nat.le_of_ble_eq_true rfl)
  refine fw_callXVv_r C (ci := 9) (Cn := RX11) (Tc := TX11) (N := 11) (As := []) (c_X11_requireNoError hl (gac (hG _ (List.mem_of_getElem? (i := 0) rfl)) (gac (hG _ (List.mem_of_getElem? (i := 2) rfl)) ga0)) q9) (cwV 0 (cx_ts C) gX11_runScript_X11_requireNoError rfl rfl rfl (by decide +kernel) ⟨Nat.le_of_ble_eq_true rfl, Nat.le_of_ble_eq_true rfl⟩) rfl (hG _ (List.mem_of_getElem? (i := 0) rfl)) (of0_0 _) (ce0 T ad _ _) rfl (st := []) rfl (Nat.le_of_ble_eq_true rfl) ⟨Nat.le_of_ble_eq_true rfl, Nat.le_of_ble_eq_true rfl⟩ dX11_runScript_26 ?_
  refine fw_aload_n C dX11_runScript_29 rfl 0 rfl ?_
  refine fw_get C (ci := 9) (Cn := RX11) (Tc := TX11) (N := 11) (j := 7) ly_X11_runScript_11 rfl (hG _ (List.mem_of_getElem? (i := 0) rfl)) (of0_0 _) (ce0 T ad _ _) (by decide) (cx_ts C _ fl_X11_runScript_77) (fun _ h => h) (v := .ref (ad 9 0 0)) rfl dX11_runScript_30 ?_
  refine fw_aload_n C dX11_runScript_33 rfl 0 rfl ?_
  refine fw_get C (ci := 9) (Cn := RX11) (Tc := TX11) (N := 11) (j := 5) ly_X11_runScript_11 rfl (hG _ (List.mem_of_getElem? (i := 0) rfl)) (of0_0 _) (ce0 T ad _ _) (by decide) (cx_ts C _ fl_X11_runScript_67) (fun _ h => h) (v := .ref (ad 1 0 0)) rfl dX11_runScript_34 ?_
  refine fw_getN C (ci := 1) (Cn := RX3) (Tc := TX3) (N := 5) (j := 1) ly_X11_runScript_3 rfl (hG _ (List.mem_of_getElem? (i := 1) rfl)) (of1_0 _) (ce1 T ad _ _) (by decide) (Nst_use (cx_nst C) (w := .fieldLinkNest RX11 139 "RecipeScheduler$Kitchen" "state" "LRecipeScheduler$State;" "RecipeScheduler") 522 (by decide +kernel) rfl) (fun _ h => h) (v := .ref (ad 2 0 0)) rfl dX11_runScript_37 ?_
  obtain ⟨Y16, q15, h⟩ := bd1_some h
  refine fw_callVv C (ci := 0) (Cn := RX2) (Tc := TX2) (N := 3) (As := [.ref (ad 2 0 0)]) (c_X2_push (gac (hG _ (List.mem_of_getElem? (i := 6) rfl)) (gac (hG _ (List.mem_of_getElem? (i := 5) rfl)) (fun q hq => hG q (List.mem_append_right _ hq)))) q15) (cwV 1 (cx_ts C) gX11_runScript_X2_push rfl rfl rfl (by decide +kernel) ⟨Nat.le_of_ble_eq_true rfl, Nat.le_of_ble_eq_true rfl⟩) rfl (hG _ (List.mem_of_getElem? (i := 6) rfl)) (of9_0 _) (ce9 T ad _ _) rfl (st := []) rfl (Nat.le_of_ble_eq_true rfl) ⟨Nat.le_of_ble_eq_true rfl, Nat.le_of_ble_eq_true rfl⟩ dX11_runScript_40 (ppv ?_)
  refine fw_iconst C dX11_runScript_43 (v := 0) rfl ?_
  refine fw_istore_n C dX11_runScript_44 rfl (by decide) (L' := [(1, .int 0), (0, .ref (ad 0 0 0))]) rfl ?_
  exact w_X11_runScript_b45 C hrt hG  hl hX  _ _ _ h
end
set_option maxRecDepth 100000 in
set_option maxHeartbeats 4000000 in
theorem c_X11_runScript {l : Launch} {N0 : Nat} {T : Nat → ClassId} {D : va_G} {gr : List (Nat × Nat)} {ad : Nat → Nat → Nat → Nat} {Y : Mem} {res : (Nat × Mem) ⊕ (Int32 × Mem)} (hl : l.stackTraces = false) (hG : ∀ q ∈ ([(0, 0), (1, 0), (6, 0), (5, 0), (8, 0), (2, 0), (9, 0)] ++ allG), q ∈ gr) (h : X11_runScript Y = some res) : CXi l yX11_runScript wsX11_runScript (Rx 8 1) N0 T D gr ad Y [.ref (ad 0 0 0)] 1 res :=
  fw_xbody (by decide +kernel) rfl (Nat.le_of_ble_eq_true rfl) (fun p e s m below meth c C hrt hX => w_X11_runScript C hrt hG hl hX h)
theorem ly_X11_salt_11 : ∀ w ∈ u_ws RX11 TX11 11, w ∈ wsX11_salt := by decide +kernel
theorem fl_X11_salt_67 : Cond.fieldLink RX11 67 "RecipeScheduler" "now" "LRecipeScheduler$Kitchen;" ∈ wsX11_salt := by decide +kernel
theorem ly_X11_salt_3 : ∀ w ∈ u_ws RX3 TX3 5, w ∈ wsX11_salt := by decide +kernel
theorem ly_X11_salt_8 : ∀ w ∈ u_ws RX8 TX8 15, w ∈ wsX11_salt := by decide +kernel
section
variable {p : Program} {l : Launch} {e : Env} {s : State} {m : MethodId} {below : List Frame} {meth : Method} {c : Code} {N0 : Nat} {T : Nat → ClassId} {D : va_G} {gr : List (Nat × Nat)} {ad : Nat → Nat → Nat → Nat}
set_option maxRecDepth 100000 in
set_option maxHeartbeats 4000000 in
theorem w_X11_salt {Y : Mem} (C : Cx p s m [.ref (ad 0 0 0)].toArray meth c cX11_salt 1 wsX11_salt RX11 N0 T D gr ad) (hrt : meth.sig.returnType = (some .int)) (hG : ∀ q ∈ [(0, 0), (1, 0), (2, 0)], q ∈ gr) {res : Int32} (h : X11_salt Y = some res) : FW p l e (Rm 0) s m [.ref (ad 0 0 0)].toArray below meth c 1 N0 T D gr ad 0 0 (MQ below (va_Qi (fun r Y1 => r = res ∧ Y1 = Y) (WB T D gr ad) (fun q => N0 ≤ q)) [.ref (ad 0 0 0)].toArray s 0 0 (fun q => N0 ≤ q)) Y 0 [(0, .ref (ad 0 0 0))] [] := by
  unfold X11_salt at h
  refine fw_aload_n C dX11_salt_0 rfl 0 rfl ?_
  refine fw_get C (ci := 9) (Cn := RX11) (Tc := TX11) (N := 11) (j := 5) ly_X11_salt_11 rfl (hG _ (List.mem_of_getElem? (i := 0) rfl)) (of0_0 _) (ce0 T ad _ _) (by decide) (cx_ts C _ fl_X11_salt_67) (fun _ h => h) (v := .ref (ad 1 0 0)) rfl dX11_salt_1 ?_
  refine fw_getN C (ci := 1) (Cn := RX3) (Tc := TX3) (N := 5) (j := 1) ly_X11_salt_3 rfl (hG _ (List.mem_of_getElem? (i := 1) rfl)) (of1_0 _) (ce1 T ad _ _) (by decide) (Nst_use (cx_nst C) (w := .fieldLinkNest RX11 139 "RecipeScheduler$Kitchen" "state" "LRecipeScheduler$State;" "RecipeScheduler") 522 (by decide +kernel) rfl) (fun _ h => h) (v := .ref (ad 2 0 0)) rfl dX11_salt_4 ?_
  refine fw_getN C (ci := 6) (Cn := RX8) (Tc := TX8) (N := 15) (j := 2) ly_X11_salt_8 rfl (hG _ (List.mem_of_getElem? (i := 2) rfl)) (of2_0 _) (ce2 T ad _ _) (by decide) (Nst_use (cx_nst C) (w := .fieldLinkNest RX11 149 "RecipeScheduler$State" "salt" "I" "RecipeScheduler") 445 (by decide +kernel) rfl) (fun _ h => h) (v := .int (Y 2 0 0 2)) rfl dX11_salt_7 ?_
  exact fw_iret C hrt Y ⟨Option.some.inj h, rfl⟩ (fun t ht => ht) dX11_salt_10
end
set_option maxRecDepth 100000 in
set_option maxHeartbeats 4000000 in
theorem c_X11_salt {l : Launch} {N0 : Nat} {T : Nat → ClassId} {D : va_G} {gr : List (Nat × Nat)} {ad : Nat → Nat → Nat → Nat} {Y : Mem} {res : Int32} (hG : ∀ q ∈ [(0, 0), (1, 0), (2, 0)], q ∈ gr) (h : X11_salt Y = some res) : CI l yX11_salt wsX11_salt (Rm 0) N0 T D gr ad Y [.ref (ad 0 0 0)] (fun r Y1 => r = res ∧ Y1 = Y) :=
  fw_body (by decide +kernel) rfl (Nat.le_of_ble_eq_true rfl) (fun p e s m below meth c C hrt => w_X11_salt C hrt hG  h)
theorem ly_X11_saltNeeded_11 : ∀ w ∈ u_ws RX11 TX11 11, w ∈ wsX11_saltNeeded := by decide +kernel
theorem fl_X11_saltNeeded_67 : Cond.fieldLink RX11 67 "RecipeScheduler" "now" "LRecipeScheduler$Kitchen;" ∈ wsX11_saltNeeded := by decide +kernel
theorem ly_X11_saltNeeded_3 : ∀ w ∈ u_ws RX3 TX3 5, w ∈ wsX11_saltNeeded := by decide +kernel
theorem ly_X11_saltNeeded_5 : ∀ w ∈ u_ws RX5 TX5 17, w ∈ wsX11_saltNeeded := by decide +kernel
theorem ly_X11_saltNeeded_4 : ∀ w ∈ u_ws RX4 TX4 3, w ∈ wsX11_saltNeeded := by decide +kernel
theorem ly_X11_saltNeeded_8 : ∀ w ∈ u_ws RX8 TX8 15, w ∈ wsX11_saltNeeded := by decide +kernel
section
variable {p : Program} {l : Launch} {e : Env} {s : State} {m : MethodId} {below : List Frame} {meth : Method} {c : Code} {N0 : Nat} {T : Nat → ClassId} {D : va_G} {gr : List (Nat × Nat)} {ad : Nat → Nat → Nat → Nat}
set_option maxRecDepth 100000 in
set_option maxHeartbeats 4000000 in
theorem w_X11_saltNeeded {Y : Mem} (C : Cx p s m [.ref (ad 0 0 0)].toArray meth c cX11_saltNeeded 2 wsX11_saltNeeded RX11 N0 T D gr ad) (hrt : meth.sig.returnType = (some .int)) (hG : ∀ q ∈ ([(0, 0), (1, 0), (2, 0)] ++ allG), q ∈ gr) {res : Int32} (h : X11_saltNeeded Y = some res) : FW p l e (Rm 1) s m [.ref (ad 0 0 0)].toArray below meth c 2 N0 T D gr ad 0 0 (MQ below (va_Qi (fun r Y1 => r = res ∧ Y1 = Y) (WB T D gr ad) (fun q => N0 ≤ q)) [.ref (ad 0 0 0)].toArray s 0 0 (fun q => N0 ≤ q)) Y 0 [(0, .ref (ad 0 0 0))] [] := by
  unfold X11_saltNeeded at h
  refine fw_aload_n C dX11_saltNeeded_0 rfl 0 rfl ?_
  refine fw_get C (ci := 9) (Cn := RX11) (Tc := TX11) (N := 11) (j := 5) ly_X11_saltNeeded_11 rfl (hG _ (List.mem_of_getElem? (i := 0) rfl)) (of0_0 _) (ce0 T ad _ _) (by decide) (cx_ts C _ fl_X11_saltNeeded_67) (fun _ h => h) (v := .ref (ad 1 0 0)) rfl dX11_saltNeeded_1 ?_
  refine fw_getN C (ci := 1) (Cn := RX3) (Tc := TX3) (N := 5) (j := 0) ly_X11_saltNeeded_3 rfl (hG _ (List.mem_of_getElem? (i := 1) rfl)) (of1_0 _) (ce1 T ad _ _) (by decide) (Nst_use (cx_nst C) (w := .fieldLinkNest RX11 117 "RecipeScheduler$Kitchen" "recipe" "LRecipeScheduler$Recipe;" "RecipeScheduler") 520 (by decide +kernel) rfl) (fun _ h => h) (v := .ref (ad 3 ((Y 1 0 0 0).toNatClampNeg) 0)) rfl dX11_saltNeeded_4 ?_
  obtain ⟨b1, h⟩ := gd_some h
  have b1 := of_decide_eq_true b1
  refine fw_getN C (ci := 3) (Cn := RX5) (Tc := TX5) (N := 17) (j := 9) ly_X11_saltNeeded_5 rfl ((fun q hq => hG q (List.mem_append_right _ hq)) _ (allG_3 b1)) (of3_0 _) (ce3 T ad _ _) (by decide) (Nst_use (cx_nst C) (w := .fieldLinkNest RX11 199 "RecipeScheduler$Recipe" "taste" "[I" "RecipeScheduler") 156 (by decide +kernel) rfl) (fun _ h => h) (v := .ref (ad 3 (((Y 1 0 0 0).toNatClampNeg)) 4)) rfl dX11_saltNeeded_7 ?_
  refine fw_aload_n C dX11_saltNeeded_10 rfl 0 rfl ?_
  refine fw_get C (ci := 9) (Cn := RX11) (Tc := TX11) (N := 11) (j := 5) ly_X11_saltNeeded_11 rfl (hG _ (List.mem_of_getElem? (i := 0) rfl)) (of0_0 _) (ce0 T ad _ _) (by decide) (cx_ts C _ fl_X11_saltNeeded_67) (fun _ h => h) (v := .ref (ad 1 0 0)) rfl dX11_saltNeeded_11 ?_
  refine fw_getN C (ci := 1) (Cn := RX3) (Tc := TX3) (N := 5) (j := 0) ly_X11_saltNeeded_3 rfl (hG _ (List.mem_of_getElem? (i := 1) rfl)) (of1_0 _) (ce1 T ad _ _) (by decide) (Nst_use (cx_nst C) (w := .fieldLinkNest RX11 117 "RecipeScheduler$Kitchen" "recipe" "LRecipeScheduler$Recipe;" "RecipeScheduler") 520 (by decide +kernel) rfl) (fun _ h => h) (v := .ref (ad 3 ((Y 1 0 0 0).toNatClampNeg) 0)) rfl dX11_saltNeeded_14 ?_
  refine fw_getN C (ci := 3) (Cn := RX5) (Tc := TX5) (N := 17) (j := 7) ly_X11_saltNeeded_5 rfl ((fun q hq => hG q (List.mem_append_right _ hq)) _ (allG_3 b1)) (of3_0 _) (ce3 T ad _ _) (by decide) (Nst_use (cx_nst C) (w := .fieldLinkNest RX11 126 "RecipeScheduler$Recipe" "steps" "LRecipeScheduler$Names;" "RecipeScheduler") 148 (by decide +kernel) rfl) (fun _ h => h) (v := .ref (ad 4 (2*((Y 1 0 0 0).toNatClampNeg)+1) 0)) rfl dX11_saltNeeded_17 ?_
  obtain ⟨b2, h⟩ := gd_some h
  have b2 := of_decide_eq_true b2
  refine fw_getN C (ci := 2) (Cn := RX4) (Tc := TX4) (N := 3) (j := 2) ly_X11_saltNeeded_4 rfl ((fun q hq => hG q (List.mem_append_right _ hq)) _ (allG_4b b2)) (of4_0 _) (ce4 T ad _ _) (by decide) (Nst_use (cx_nst C) (w := .fieldLinkNest RX11 130 "RecipeScheduler$Names" "count" "I" "RecipeScheduler") 115 (by decide +kernel) rfl) (fun _ h => h) (v := .int (Y 4 (2*((Y 1 0 0 0).toNatClampNeg)+1) 0 2)) rfl dX11_saltNeeded_20 ?_
  obtain ⟨r3, q4, h⟩ := bd1_some h
  refine fw_callSi C (As := [.ref (ad 3 (((Y 1 0 0 0).toNatClampNeg)) 4), .int (Y 4 (2*((Y 1 0 0 0).toNatClampNeg)+1) 0 2)]) (c_X11_sum (gac ((fun q hq => hG q (List.mem_append_right _ hq)) _ (allG_3 b1)) ga0) (ca3_4 T ad _) (of3_4 _) (Nat.le_of_ble_eq_true rfl) q4) (va_cwS 2 (cx_ts C) gX11_saltNeeded_X11_sum rfl rfl rfl (by decide +kernel) ⟨Nat.le_of_ble_eq_true rfl, Nat.le_of_ble_eq_true rfl⟩) rfl (st := []) rfl (Nat.le_of_ble_eq_true rfl) ⟨Nat.le_refl 0, Nat.le_refl 0⟩ dX11_saltNeeded_23 (pp2 ?_)
  refine fw_aload_n C dX11_saltNeeded_26 rfl 0 rfl ?_
  refine fw_get C (ci := 9) (Cn := RX11) (Tc := TX11) (N := 11) (j := 5) ly_X11_saltNeeded_11 rfl (hG _ (List.mem_of_getElem? (i := 0) rfl)) (of0_0 _) (ce0 T ad _ _) (by decide) (cx_ts C _ fl_X11_saltNeeded_67) (fun _ h => h) (v := .ref (ad 1 0 0)) rfl dX11_saltNeeded_27 ?_
  refine fw_getN C (ci := 1) (Cn := RX3) (Tc := TX3) (N := 5) (j := 1) ly_X11_saltNeeded_3 rfl (hG _ (List.mem_of_getElem? (i := 1) rfl)) (of1_0 _) (ce1 T ad _ _) (by decide) (Nst_use (cx_nst C) (w := .fieldLinkNest RX11 139 "RecipeScheduler$Kitchen" "state" "LRecipeScheduler$State;" "RecipeScheduler") 522 (by decide +kernel) rfl) (fun _ h => h) (v := .ref (ad 2 0 0)) rfl dX11_saltNeeded_30 ?_
  refine fw_getN C (ci := 6) (Cn := RX8) (Tc := TX8) (N := 15) (j := 2) ly_X11_saltNeeded_8 rfl (hG _ (List.mem_of_getElem? (i := 2) rfl)) (of2_0 _) (ce2 T ad _ _) (by decide) (Nst_use (cx_nst C) (w := .fieldLinkNest RX11 149 "RecipeScheduler$State" "salt" "I" "RecipeScheduler") 445 (by decide +kernel) rfl) (fun _ h => h) (v := .int (Y 2 0 0 2)) rfl dX11_saltNeeded_33 ?_
  refine fw_iadd C dX11_saltNeeded_36 ?_
  obtain ⟨v5, e6, h⟩ := lt_some h
  refine fw_top (v' := .int v5) (by rw [e6]) ?_
  refine fw_istore_n C dX11_saltNeeded_37 rfl (by decide) (L' := [(1, .int v5), (0, .ref (ad 0 0 0))]) rfl ?_
  refine fw_iload_n C dX11_saltNeeded_38 rfl 0 rfl ?_
  refine fw_aload_n C dX11_saltNeeded_39 rfl 1 rfl ?_
  refine fw_get C (ci := 9) (Cn := RX11) (Tc := TX11) (N := 11) (j := 5) ly_X11_saltNeeded_11 rfl (hG _ (List.mem_of_getElem? (i := 0) rfl)) (of0_0 _) (ce0 T ad _ _) (by decide) (cx_ts C _ fl_X11_saltNeeded_67) (fun _ h => h) (v := .ref (ad 1 0 0)) rfl dX11_saltNeeded_40 ?_
  refine fw_getN C (ci := 1) (Cn := RX3) (Tc := TX3) (N := 5) (j := 0) ly_X11_saltNeeded_3 rfl (hG _ (List.mem_of_getElem? (i := 1) rfl)) (of1_0 _) (ce1 T ad _ _) (by decide) (Nst_use (cx_nst C) (w := .fieldLinkNest RX11 117 "RecipeScheduler$Kitchen" "recipe" "LRecipeScheduler$Recipe;" "RecipeScheduler") 520 (by decide +kernel) rfl) (fun _ h => h) (v := .ref (ad 3 ((Y 1 0 0 0).toNatClampNeg) 0)) rfl dX11_saltNeeded_43 ?_
  refine fw_getN C (ci := 3) (Cn := RX5) (Tc := TX5) (N := 17) (j := 2) ly_X11_saltNeeded_5 rfl ((fun q hq => hG q (List.mem_append_right _ hq)) _ (allG_3 b1)) (of3_0 _) (ce3 T ad _ _) (by decide) (Nst_use (cx_nst C) (w := .fieldLinkNest RX11 315 "RecipeScheduler$Recipe" "lowest" "I" "RecipeScheduler") 133 (by decide +kernel) rfl) (fun _ h => h) (v := .int (Y 3 ((Y 1 0 0 0).toNatClampNeg) 0 2)) rfl dX11_saltNeeded_46 ?_
  refine fw_icmp_ge C dX11_saltNeeded_49 (tgt := 65) rfl (fun c7 => ?_) (fun c7 => ?_)
  · have h := ite_t c7 h
    refine fw_iload_n C dX11_saltNeeded_65 rfl 0 rfl ?_
    refine fw_aload_n C dX11_saltNeeded_66 rfl 1 rfl ?_
    refine fw_get C (ci := 9) (Cn := RX11) (Tc := TX11) (N := 11) (j := 5) ly_X11_saltNeeded_11 rfl (hG _ (List.mem_of_getElem? (i := 0) rfl)) (of0_0 _) (ce0 T ad _ _) (by decide) (cx_ts C _ fl_X11_saltNeeded_67) (fun _ h => h) (v := .ref (ad 1 0 0)) rfl dX11_saltNeeded_67 ?_
    refine fw_getN C (ci := 1) (Cn := RX3) (Tc := TX3) (N := 5) (j := 0) ly_X11_saltNeeded_3 rfl (hG _ (List.mem_of_getElem? (i := 1) rfl)) (of1_0 _) (ce1 T ad _ _) (by decide) (Nst_use (cx_nst C) (w := .fieldLinkNest RX11 117 "RecipeScheduler$Kitchen" "recipe" "LRecipeScheduler$Recipe;" "RecipeScheduler") 520 (by decide +kernel) rfl) (fun _ h => h) (v := .ref (ad 3 ((Y 1 0 0 0).toNatClampNeg) 0)) rfl dX11_saltNeeded_70 ?_
    refine fw_getN C (ci := 3) (Cn := RX5) (Tc := TX5) (N := 17) (j := 3) ly_X11_saltNeeded_5 rfl ((fun q hq => hG q (List.mem_append_right _ hq)) _ (allG_3 b1)) (of3_0 _) (ce3 T ad _ _) (by decide) (Nst_use (cx_nst C) (w := .fieldLinkNest RX11 318 "RecipeScheduler$Recipe" "highest" "I" "RecipeScheduler") 136 (by decide +kernel) rfl) (fun _ h => h) (v := .int (Y 3 ((Y 1 0 0 0).toNatClampNeg) 0 3)) rfl dX11_saltNeeded_73 ?_
    refine fw_icmp_le C dX11_saltNeeded_76 (tgt := 94) rfl (fun c8 => ?_) (fun c8 => ?_)
    · have h := ite_t c8 h
      refine fw_iconst C dX11_saltNeeded_94 (v := 0) rfl ?_
      exact fw_iret C hrt Y ⟨Option.some.inj h, rfl⟩ (fun t ht => ht) dX11_saltNeeded_95
    · have h := ite_f c8 h
      refine fw_aload_n C dX11_saltNeeded_79 rfl 1 rfl ?_
      refine fw_get C (ci := 9) (Cn := RX11) (Tc := TX11) (N := 11) (j := 5) ly_X11_saltNeeded_11 rfl (hG _ (List.mem_of_getElem? (i := 0) rfl)) (of0_0 _) (ce0 T ad _ _) (by decide) (cx_ts C _ fl_X11_saltNeeded_67) (fun _ h => h) (v := .ref (ad 1 0 0)) rfl dX11_saltNeeded_80 ?_
      refine fw_getN C (ci := 1) (Cn := RX3) (Tc := TX3) (N := 5) (j := 0) ly_X11_saltNeeded_3 rfl (hG _ (List.mem_of_getElem? (i := 1) rfl)) (of1_0 _) (ce1 T ad _ _) (by decide) (Nst_use (cx_nst C) (w := .fieldLinkNest RX11 117 "RecipeScheduler$Kitchen" "recipe" "LRecipeScheduler$Recipe;" "RecipeScheduler") 520 (by decide +kernel) rfl) (fun _ h => h) (v := .ref (ad 3 ((Y 1 0 0 0).toNatClampNeg) 0)) rfl dX11_saltNeeded_83 ?_
      refine fw_getN C (ci := 3) (Cn := RX5) (Tc := TX5) (N := 17) (j := 3) ly_X11_saltNeeded_5 rfl ((fun q hq => hG q (List.mem_append_right _ hq)) _ (allG_3 b1)) (of3_0 _) (ce3 T ad _ _) (by decide) (Nst_use (cx_nst C) (w := .fieldLinkNest RX11 318 "RecipeScheduler$Recipe" "highest" "I" "RecipeScheduler") 136 (by decide +kernel) rfl) (fun _ h => h) (v := .int (Y 3 ((Y 1 0 0 0).toNatClampNeg) 0 3)) rfl dX11_saltNeeded_86 ?_
      refine fw_iload_n C dX11_saltNeeded_89 rfl 0 rfl ?_
      refine fw_isub C dX11_saltNeeded_90 ?_
      refine fw_goto C dX11_saltNeeded_91 (tgt := 95) rfl ?_
      exact fw_iret C hrt Y ⟨Option.some.inj h, rfl⟩ (fun t ht => ht) dX11_saltNeeded_95
  · have h := ite_f c7 h
    refine fw_aload_n C dX11_saltNeeded_52 rfl 1 rfl ?_
    refine fw_get C (ci := 9) (Cn := RX11) (Tc := TX11) (N := 11) (j := 5) ly_X11_saltNeeded_11 rfl (hG _ (List.mem_of_getElem? (i := 0) rfl)) (of0_0 _) (ce0 T ad _ _) (by decide) (cx_ts C _ fl_X11_saltNeeded_67) (fun _ h => h) (v := .ref (ad 1 0 0)) rfl dX11_saltNeeded_53 ?_
    refine fw_getN C (ci := 1) (Cn := RX3) (Tc := TX3) (N := 5) (j := 0) ly_X11_saltNeeded_3 rfl (hG _ (List.mem_of_getElem? (i := 1) rfl)) (of1_0 _) (ce1 T ad _ _) (by decide) (Nst_use (cx_nst C) (w := .fieldLinkNest RX11 117 "RecipeScheduler$Kitchen" "recipe" "LRecipeScheduler$Recipe;" "RecipeScheduler") 520 (by decide +kernel) rfl) (fun _ h => h) (v := .ref (ad 3 ((Y 1 0 0 0).toNatClampNeg) 0)) rfl dX11_saltNeeded_56 ?_
    refine fw_getN C (ci := 3) (Cn := RX5) (Tc := TX5) (N := 17) (j := 2) ly_X11_saltNeeded_5 rfl ((fun q hq => hG q (List.mem_append_right _ hq)) _ (allG_3 b1)) (of3_0 _) (ce3 T ad _ _) (by decide) (Nst_use (cx_nst C) (w := .fieldLinkNest RX11 315 "RecipeScheduler$Recipe" "lowest" "I" "RecipeScheduler") 133 (by decide +kernel) rfl) (fun _ h => h) (v := .int (Y 3 ((Y 1 0 0 0).toNatClampNeg) 0 2)) rfl dX11_saltNeeded_59 ?_
    refine fw_iload_n C dX11_saltNeeded_62 rfl 0 rfl ?_
    refine fw_isub C dX11_saltNeeded_63 ?_
    exact fw_iret C hrt Y ⟨Option.some.inj h, rfl⟩ (fun t ht => ht) dX11_saltNeeded_64
end
set_option maxRecDepth 100000 in
set_option maxHeartbeats 4000000 in
theorem c_X11_saltNeeded {l : Launch} {N0 : Nat} {T : Nat → ClassId} {D : va_G} {gr : List (Nat × Nat)} {ad : Nat → Nat → Nat → Nat} {Y : Mem} {res : Int32} (hG : ∀ q ∈ ([(0, 0), (1, 0), (2, 0)] ++ allG), q ∈ gr) (h : X11_saltNeeded Y = some res) : CI l yX11_saltNeeded wsX11_saltNeeded (Rm 1) N0 T D gr ad Y [.ref (ad 0 0 0)] (fun r Y1 => r = res ∧ Y1 = Y) :=
  fw_body (by decide +kernel) rfl (Nat.le_of_ble_eq_true rfl) (fun p e s m below meth c C hrt => w_X11_saltNeeded C hrt hG  h)
