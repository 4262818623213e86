section
variable {p : Program} {l : Launch} {e : Env} {s : State} {m : MethodId} {below : List Frame} {meth : Method} {c : Code} {N0 : Nat} {T : Nat → ClassId} {D : va_G} {gr : List (Nat × Nat)} {ad : Nat → Nat → Nat → Nat}
set_option maxRecDepth 100000 in
set_option maxHeartbeats 4000000 in
theorem w_X3_deepestMissing_b45 {Y : Mem} {g0 : Nat} {a1 : Int32} (C : Cx p s m [.ref (ad 1 g0 0), .int a1].toArray meth c cX3_deepestMissing 5 wsX3_deepestMissing RX3 N0 T D gr ad) (hrt : meth.sig.returnType = (some .int)) (hG : ∀ q ∈ ([(2, g0), (1, g0)] ++ allG), q ∈ gr) {res : Int32} {k7 : Int32 → Int32 → Int32 → Option (Int32)} (hk7 : ∀ (l4 : Int32) (l3 : Int32) (l2 : Int32), k7 l4 l3 l2 = some res → FW p l e (Rm 3) s m [.ref (ad 1 g0 0), .int a1].toArray below meth c 5 N0 T D gr ad 0 0 (MQ below (va_Qi (fun r Y1 => r = res ∧ Y1 = Y) (WB T D gr ad) (fun q => N0 ≤ q)) [.ref (ad 1 g0 0), .int a1].toArray s 0 0 (fun q => N0 ≤ q)) Y 7 [(4, .int l4), (3, .int l3), (2, .int l2), (0, .ref (ad 1 g0 0))] []) (l3 : Int32) (l4 : Int32) (l2 : Int32) (h : X3_deepestMissing_b45 Y g0 a1 k7 l3 l4 l2 = some res) : FW p l e (Rm 3) s m [.ref (ad 1 g0 0), .int a1].toArray below meth c 5 N0 T D gr ad 0 0 (MQ below (va_Qi (fun r Y1 => r = res ∧ Y1 = Y) (WB T D gr ad) (fun q => N0 ≤ q)) [.ref (ad 1 g0 0), .int a1].toArray s 0 0 (fun q => N0 ≤ q)) Y 45 [(3, .int l3), (4, .int l4), (2, .int l2), (0, .ref (ad 1 g0 0))] [] := by
  unfold X3_deepestMissing_b45 at h
  refine fw_iinc C dX3_deepestMissing_45 (kk := 1) (v := l4 + 1) rfl rfl (by decide) (L' := [(4, .int (l4 + 1)), (3, .int l3), (2, .int l2), (0, .ref (ad 1 g0 0))]) rfl ?_
  refine fw_goto C dX3_deepestMissing_48 (tgt := 7) rfl ?_
  exact hk7 _ _ _ h
set_option maxRecDepth 100000 in
set_option maxHeartbeats 4000000 in
theorem w_X3_deepestMissing_b37 {Y : Mem} {g0 : Nat} {a1 : Int32} (C : Cx p s m [.ref (ad 1 g0 0), .int a1].toArray meth c cX3_deepestMissing 5 wsX3_deepestMissing RX3 N0 T D gr ad) (hrt : meth.sig.returnType = (some .int)) (hG : ∀ q ∈ ([(2, g0), (1, g0)] ++ allG), q ∈ gr) {res : Int32} {k7 : Int32 → Int32 → Int32 → Option (Int32)} (hk7 : ∀ (l4 : Int32) (l3 : Int32) (l2 : Int32), k7 l4 l3 l2 = some res → FW p l e (Rm 3) s m [.ref (ad 1 g0 0), .int a1].toArray below meth c 5 N0 T D gr ad 0 0 (MQ below (va_Qi (fun r Y1 => r = res ∧ Y1 = Y) (WB T D gr ad) (fun q => N0 ≤ q)) [.ref (ad 1 g0 0), .int a1].toArray s 0 0 (fun q => N0 ≤ q)) Y 7 [(4, .int l4), (3, .int l3), (2, .int l2), (0, .ref (ad 1 g0 0))] []) (l4 : Int32) (l2 : Int32) (s0 : Int32) (h : X3_deepestMissing_b37 Y g0 a1 k7 l4 l2 s0 = some res) : FW p l e (Rm 3) s m [.ref (ad 1 g0 0), .int a1].toArray below meth c 5 N0 T D gr ad 0 0 (MQ below (va_Qi (fun r Y1 => r = res ∧ Y1 = Y) (WB T D gr ad) (fun q => N0 ≤ q)) [.ref (ad 1 g0 0), .int a1].toArray s 0 0 (fun q => N0 ≤ q)) Y 37 [(4, .int l4), (2, .int l2), (0, .ref (ad 1 g0 0))] [.int s0] := by
  unfold X3_deepestMissing_b37 at h
  refine fw_istore_n C dX3_deepestMissing_37 rfl (by decide) (L' := [(3, .int s0), (4, .int l4), (2, .int l2), (0, .ref (ad 1 g0 0))]) rfl ?_
  refine fw_iload_n C dX3_deepestMissing_38 rfl 0 rfl ?_
  refine fw_iconst C dX3_deepestMissing_39 (v := (-1)) rfl ?_
  refine fw_icmp_eq C dX3_deepestMissing_40 (tgt := 45) rfl (fun c6 => ?_) (fun c6 => ?_)
  · have h := ite_t c6 h
    exact w_X3_deepestMissing_b45 C hrt hG  hk7 _ _ _ h
  · have h := ite_f c6 h
    refine fw_iload_n C dX3_deepestMissing_43 rfl 0 rfl ?_
    refine fw_istore_n C dX3_deepestMissing_44 rfl (by decide) (L' := [(2, .int s0), (3, .int s0), (4, .int l4), (0, .ref (ad 1 g0 0))]) rfl ?_
    refine fw_sub [1, 2, 0, 3] (L' := [(3, .int s0), (4, .int l4), (2, .int s0), (0, .ref (ad 1 g0 0))]) rfl ?_
    exact w_X3_deepestMissing_b45 C hrt hG  hk7 _ _ _ h
set_option maxRecDepth 100000 in
set_option maxHeartbeats 4000000 in
theorem w_X3_deepestMissing_b7 {Y : Mem} {g0 : Nat} {a1 : Int32} (C : Cx p s m [.ref (ad 1 g0 0), .int a1].toArray meth c cX3_deepestMissing 5 wsX3_deepestMissing RX3 N0 T D gr ad) (hrt : meth.sig.returnType = (some .int)) (hG : ∀ q ∈ ([(2, g0), (1, g0)] ++ allG), q ∈ gr) {res : Int32} : ∀ (n : Nat) (l4 : Int32) (l3 : Int32) (l2 : Int32), X3_deepestMissing_b7 Y g0 a1  n l4 l3 l2 = some res → FW p l e (Rm 3) s m [.ref (ad 1 g0 0), .int a1].toArray below meth c 5 N0 T D gr ad 0 0 (MQ below (va_Qi (fun r Y1 => r = res ∧ Y1 = Y) (WB T D gr ad) (fun q => N0 ≤ q)) [.ref (ad 1 g0 0), .int a1].toArray s 0 0 (fun q => N0 ≤ q)) Y 7 [(4, .int l4), (3, .int l3), (2, .int l2), (0, .ref (ad 1 g0 0))] [] := by
  intro n
  induction n with
  | zero =>
    intro l4 l3 l2 h
    unfold X3_deepestMissing_b7 at h
    cases h
  | succ n ih =>
    intro l4 l3 l2 h
    unfold X3_deepestMissing_b7 at h
    refine fw_iload C dX3_deepestMissing_7 0 rfl ?_
    refine fw_bipush C dX3_deepestMissing_9 (v := 14) rfl ?_
    refine fw_icmp_ge C dX3_deepestMissing_11 (tgt := 51) rfl (fun c1 => ?_) (fun c1 => ?_)
    · have h := ite_t c1 h
      refine fw_iload_n C dX3_deepestMissing_51 rfl 2 rfl ?_
      exact fw_iret C hrt Y ⟨Option.some.inj h, rfl⟩ (fun t ht => ht) dX3_deepestMissing_52
    · have h := ite_f c1 h
      refine fw_iload_n C dX3_deepestMissing_14 rfl 1 rfl ?_
      refine fw_iconst C dX3_deepestMissing_15 (v := (-1)) rfl ?_
      refine fw_icmp_eq C dX3_deepestMissing_16 (tgt := 51) rfl (fun c2 => ?_) (fun c2 => ?_)
      · have h := ite_t c2 h
        refine fw_iload_n C dX3_deepestMissing_51 rfl 2 rfl ?_
        exact fw_iret C hrt Y ⟨Option.some.inj h, rfl⟩ (fun t ht => ht) dX3_deepestMissing_52
      · have h := ite_f c2 h
        refine fw_aload_n C dX3_deepestMissing_19 rfl 3 rfl ?_
        refine fw_iload_n C dX3_deepestMissing_20 rfl 1 rfl ?_
        obtain ⟨r3, q4, h⟩ := bd1_some h
        refine fw_callVi C (ci := 1) (Cn := RX3) (Tc := TX3) (N := 5) (As := [.int l3]) (c_X3_obstacle (gac (hG _ (List.mem_of_getElem? (i := 1) rfl)) (gac (hG _ (List.mem_of_getElem? (i := 0) rfl)) (fun q hq => hG q (List.mem_append_right _ hq)))) q4) (cwV 1 (cx_ts C) gX3_deepestMissing_X3_obstacle rfl rfl rfl (by decide +kernel) ⟨Nat.le_of_ble_eq_true rfl, Nat.le_of_ble_eq_true rfl⟩) rfl (hG _ (List.mem_of_getElem? (i := 1) rfl)) (of1_0 _) (ce1 T ad _ _) rfl (st := []) rfl (Nat.le_of_ble_eq_true rfl) ⟨Nat.le_refl 0, Nat.le_refl 0⟩ dX3_deepestMissing_21 (pp2 ?_)
        refine fw_iconst C dX3_deepestMissing_24 (v := 2) rfl ?_
        refine fw_icmp_ne C dX3_deepestMissing_25 (tgt := 36) rfl (fun c5 => ?_) (fun c5 => ?_)
        · have h := ite_f c5 h
          refine fw_iconst C dX3_deepestMissing_36 (v := (-1)) rfl ?_
          refine fw_sub [0, 2, 3] (L' := [(4, .int l4), (2, .int l2), (0, .ref (ad 1 g0 0))]) rfl ?_
          exact w_X3_deepestMissing_b37 C hrt hG  ih _ _ _ h
        · have h := ite_t c5 h
          refine fw_aload_n C dX3_deepestMissing_28 rfl 3 rfl ?_
          refine fw_iload_n C dX3_deepestMissing_29 rfl 1 rfl ?_
          obtain ⟨r7, q8, h⟩ := bd1_some h
          refine fw_callVi C (ci := 1) (Cn := RX3) (Tc := TX3) (N := 5) (As := [.int l3]) (c_X3_missingBefore (gac (hG _ (List.mem_of_getElem? (i := 1) rfl)) (gac (hG _ (List.mem_of_getElem? (i := 0) rfl)) (fun q hq => hG q (List.mem_append_right _ hq)))) q8) (cwV 1 (cx_ts C) gX3_deepestMissing_X3_missingBefore rfl rfl rfl (by decide +kernel) ⟨Nat.le_of_ble_eq_true rfl, Nat.le_of_ble_eq_true rfl⟩) rfl (hG _ (List.mem_of_getElem? (i := 1) rfl)) (of1_0 _) (ce1 T ad _ _) rfl (st := []) rfl (Nat.le_of_ble_eq_true rfl) ⟨Nat.le_refl 0, Nat.le_refl 0⟩ dX3_deepestMissing_30 (pp2 ?_)
          refine fw_goto C dX3_deepestMissing_33 (tgt := 37) rfl ?_
          refine fw_sub [0, 2, 3] (L' := [(4, .int l4), (2, .int l2), (0, .ref (ad 1 g0 0))]) rfl ?_
          exact w_X3_deepestMissing_b37 C hrt hG  ih _ _ _ h
set_option maxRecDepth 100000 in
set_option maxHeartbeats 4000000 in
theorem w_X3_deepestMissing {Y : Mem} {g0 : Nat} {a1 : Int32} (C : Cx p s m [.ref (ad 1 g0 0), .int a1].toArray meth c cX3_deepestMissing 5 wsX3_deepestMissing RX3 N0 T D gr ad) (hrt : meth.sig.returnType = (some .int)) (hG : ∀ q ∈ ([(2, g0), (1, g0)] ++ allG), q ∈ gr) {res : Int32} (h : X3_deepestMissing Y g0 a1 = some res) : FW p l e (Rm 3) s m [.ref (ad 1 g0 0), .int a1].toArray below meth c 5 N0 T D gr ad 0 0 (MQ below (va_Qi (fun r Y1 => r = res ∧ Y1 = Y) (WB T D gr ad) (fun q => N0 ≤ q)) [.ref (ad 1 g0 0), .int a1].toArray s 0 0 (fun q => N0 ≤ q)) Y 0 [(0, .ref (ad 1 g0 0)), (1, .int a1)] [] := by
  unfold X3_deepestMissing at h
  refine fw_iconst C dX3_deepestMissing_0 (v := (-1)) rfl ?_
  refine fw_istore_n C dX3_deepestMissing_1 rfl (by decide) (L' := [(2, .int ((-1))), (0, .ref (ad 1 g0 0)), (1, .int a1)]) rfl ?_
  refine fw_iload_n C dX3_deepestMissing_2 rfl 2 rfl ?_
  refine fw_istore_n C dX3_deepestMissing_3 rfl (by decide) (L' := [(3, .int a1), (2, .int ((-1))), (0, .ref (ad 1 g0 0)), (1, .int a1)]) rfl ?_
  refine fw_iconst C dX3_deepestMissing_4 (v := 0) rfl ?_
  refine fw_istore C dX3_deepestMissing_5 (by decide) (L' := [(4, .int 0), (3, .int a1), (2, .int ((-1))), (0, .ref (ad 1 g0 0)), (1, .int a1)]) rfl ?_
  refine fw_sub [0, 1, 2, 3] (L' := [(4, .int 0), (3, .int a1), (2, .int ((-1))), (0, .ref (ad 1 g0 0))]) rfl ?_
  exact w_X3_deepestMissing_b7 C hrt hG   _ _ _ _ h
end
set_option maxRecDepth 100000 in
set_option maxHeartbeats 4000000 in
theorem c_X3_deepestMissing {l : Launch} {N0 : Nat} {T : Nat → ClassId} {D : va_G} {gr : List (Nat × Nat)} {ad : Nat → Nat → Nat → Nat} {Y : Mem} {g0 : Nat} {a1 : Int32} {res : Int32} (hG : ∀ q ∈ ([(2, g0), (1, g0)] ++ allG), q ∈ gr) (h : X3_deepestMissing Y g0 a1 = some res) : CI l yX3_deepestMissing wsX3_deepestMissing (Rm 3) N0 T D gr ad Y [.ref (ad 1 g0 0), .int a1] (fun r Y1 => r = res ∧ Y1 = Y) :=
  fw_body (by decide +kernel) rfl (Nat.le_of_ble_eq_true rfl) (fun p e s m below meth c C hrt => w_X3_deepestMissing C hrt hG  h)
theorem ly_X11_rootBlocker_11 : ∀ w ∈ u_ws RX11 TX11 11, w ∈ wsX11_rootBlocker := by decide +kernel
theorem fl_X11_rootBlocker_67 : Cond.fieldLink RX11 67 "RecipeScheduler" "now" "LRecipeScheduler$Kitchen;" ∈ wsX11_rootBlocker := by decide +kernel
section
variable {p : Program} {l : Launch} {e : Env} {s : State} {m : MethodId} {below : List Frame} {meth : Method} {c : Code} {N0 : Nat} {T : Nat → ClassId} {D : va_G} {gr : List (Nat × Nat)} {ad : Nat → Nat → Nat → Nat}
set_option maxRecDepth 100000 in
set_option maxHeartbeats 4000000 in
theorem w_X11_rootBlocker {Y : Mem} {a1 : Int32} (C : Cx p s m [.ref (ad 0 0 0), .int a1].toArray meth c cX11_rootBlocker 2 wsX11_rootBlocker RX11 N0 T D gr ad) (hrt : meth.sig.returnType = (some .int)) (hG : ∀ q ∈ ([(1, 0), (0, 0), (2, 0)] ++ allG), q ∈ gr) (hl : l.stackTraces = false) (hX : ∀ x ∈ c.exceptionTable.toList, False) {res : (Nat × Mem) ⊕ (Int32 × Mem)} (h : X11_rootBlocker Y a1 = some res) : FW p l e (Rx 7 1) s m [.ref (ad 0 0 0), .int a1].toArray below meth c 2 N0 T D gr ad 0 0 (vx_MQ below (va_Qi (fun r Y1 => Sum.inr (r, Y1) = res) (WB T D gr ad) (fun q => N0 ≤ q)) (vx_X (fun u => Sum.inl u = res) (XB T D gr ad) (fun q => N0 ≤ q)) [.ref (ad 0 0 0), .int a1].toArray s 1 6 (fun q => N0 ≤ q)) Y 0 [(0, .ref (ad 0 0 0)), (1, .int a1)] [] := by
  unfold X11_rootBlocker at h
  refine fw_aload_n C dX11_rootBlocker_0 rfl 0 rfl ?_
  refine fw_iload_n C dX11_rootBlocker_1 rfl 1 rfl ?_
  rcases bdxv_some h with ⟨x5, q2, e6⟩ | ⟨Y4, q2, h⟩
  · exact fw_callXVv_l C (ci := 9) (Cn := RX11) (Tc := TX11) (N := 11) (As := [.int a1]) (c_X11_requireStep hl (gac (hG _ (List.mem_of_getElem? (i := 1) rfl)) (gac (hG _ (List.mem_of_getElem? (i := 0) rfl)) (fun q hq => hG q (List.mem_append_right _ hq)))) q2) (cwV 1 (cx_ts C) gX11_rootBlocker_X11_requireStep rfl rfl rfl (by decide +kernel) ⟨Nat.le_of_ble_eq_true rfl, Nat.le_of_ble_eq_true rfl⟩) rfl (hG _ (List.mem_of_getElem? (i := 1) rfl)) (of0_0 _) (ce0 T ad _ _) rfl (st := []) rfl (Nat.le_of_ble_eq_true rfl) ⟨Nat.le_of_ble_eq_true rfl, Nat.le_of_ble_eq_true rfl⟩ dX11_rootBlocker_2 hX e6 (Nat.le_of_ble_eq_true rfl) (Nat.le_of_ble_eq_true rfl)
  refine fw_callXVv_r C (ci := 9) (Cn := RX11) (Tc := TX11) (N := 11) (As := [.int a1]) (c_X11_requireStep hl (gac (hG _ (List.mem_of_getElem? (i := 1) rfl)) (gac (hG _ (List.mem_of_getElem? (i := 0) rfl)) (fun q hq => hG q (List.mem_append_right _ hq)))) q2) (cwV 1 (cx_ts C) gX11_rootBlocker_X11_requireStep rfl rfl rfl (by decide +kernel) ⟨Nat.le_of_ble_eq_true rfl, Nat.le_of_ble_eq_true rfl⟩) rfl (hG _ (List.mem_of_getElem? (i := 1) rfl)) (of0_0 _) (ce0 T ad _ _) rfl (st := []) rfl (Nat.le_of_ble_eq_true rfl) ⟨Nat.le_of_ble_eq_true rfl, Nat.le_of_ble_eq_true rfl⟩ dX11_rootBlocker_2 ?_
  refine fw_aload_n C dX11_rootBlocker_5 rfl 0 rfl ?_
  refine fw_get C (ci := 9) (Cn := RX11) (Tc := TX11) (N := 11) (j := 5) ly_X11_rootBlocker_11 rfl (hG _ (List.mem_of_getElem? (i := 1) rfl)) (of0_0 _) (ce0 T ad _ _) (by decide) (cx_ts C _ fl_X11_rootBlocker_67) (fun _ h => h) (v := .ref (ad 1 0 0)) rfl dX11_rootBlocker_6 ?_
  refine fw_iload_n C dX11_rootBlocker_9 rfl 1 rfl ?_
  obtain ⟨r7, q8, h⟩ := bd1_some h
  refine fw_callVi C (ci := 1) (Cn := RX3) (Tc := TX3) (N := 5) (As := [.int a1]) (c_X3_deepestMissing (gac (hG _ (List.mem_of_getElem? (i := 2) rfl)) (gac (hG _ (List.mem_of_getElem? (i := 0) rfl)) (fun q hq => hG q (List.mem_append_right _ hq)))) q8) (cwV 1 (cx_ts C) gX11_rootBlocker_X3_deepestMissing rfl rfl rfl (by decide +kernel) ⟨Nat.le_of_ble_eq_true rfl, Nat.le_of_ble_eq_true rfl⟩) rfl (hG _ (List.mem_of_getElem? (i := 0) rfl)) (of1_0 _) (ce1 T ad _ _) rfl (st := []) rfl (Nat.le_of_ble_eq_true rfl) ⟨Nat.le_of_ble_eq_true rfl, Nat.le_of_ble_eq_true rfl⟩ dX11_rootBlocker_10 (pp2 ?_)
  refine fw_xr (Nat.le_of_ble_eq_true rfl) (Nat.le_of_ble_eq_true rfl) ?_
  exact fw_iret C hrt Y4 (Option.some.inj h) (fun t ht => ht) dX11_rootBlocker_13
end
set_option maxRecDepth 100000 in
set_option maxHeartbeats 4000000 in
theorem c_X11_rootBlocker {l : Launch} {N0 : Nat} {T : Nat → ClassId} {D : va_G} {gr : List (Nat × Nat)} {ad : Nat → Nat → Nat → Nat} {Y : Mem} {a1 : Int32} {res : (Nat × Mem) ⊕ (Int32 × Mem)} (hl : l.stackTraces = false) (hG : ∀ q ∈ ([(1, 0), (0, 0), (2, 0)] ++ allG), q ∈ gr) (h : X11_rootBlocker Y a1 = some res) : CXi l yX11_rootBlocker wsX11_rootBlocker (Rx 7 1) N0 T D gr ad Y [.ref (ad 0 0 0), .int a1] 1 res :=
  fw_xbody (by decide +kernel) rfl (Nat.le_of_ble_eq_true rfl) (fun p e s m below meth c C hrt hX => w_X11_rootBlocker C hrt hG hl hX h)
theorem ly_X6_findCommand_6 : ∀ w ∈ u_ws RX6 TX6 5, w ∈ wsX6_findCommand := by decide +kernel
theorem fl_X6_findCommand_24 : Cond.fieldLink RX6 24 "RecipeScheduler$ScriptReader" "tokens" "LRecipeScheduler$Tokens;" ∈ wsX6_findCommand := by decide +kernel
section
variable {p : Program} {l : Launch} {e : Env} {s : State} {m : MethodId} {below : List Frame} {meth : Method} {c : Code} {N0 : Nat} {T : Nat → ClassId} {D : va_G} {gr : List (Nat × Nat)} {ad : Nat → Nat → Nat → Nat}
set_option maxRecDepth 100000 in
set_option maxHeartbeats 4000000 in
theorem w_X6_findCommand_b9 {Y : Mem} (C : Cx p s m [.ref (ad 8 0 0)].toArray meth c cX6_findCommand 5 wsX6_findCommand RX6 N0 T D gr ad) (hrt : meth.sig.returnType = (some (.object "RecipeScheduler$Command"))) (hG : ∀ q ∈ [(8, 0), (5, 0), (6, 0)], q ∈ gr) {res : Option Nat} : ∀ (n : Nat) (l3 : Int32) (l2 : Int32), X6_findCommand_b9 Y  n l3 l2 = some res → FW p l e (Rm 5) s m [.ref (ad 8 0 0)].toArray below meth c 5 N0 T D gr ad 0 0 (MQ below (va_Qq (fun r Y1 => r = res.map (fun i => ad 20 i 0) ∧ Y1 = Y) (WB T D gr ad) (fun q => N0 ≤ q)) [.ref (ad 8 0 0)].toArray s 0 0 (fun q => N0 ≤ q)) Y 9 [(3, .int l3), (2, .int l2), (1, .ref (ad 24 0 0)), (0, .ref (ad 8 0 0))] [] := by
  intro n
  induction n with
  | zero =>
    intro l3 l2 h
    unfold X6_findCommand_b9 at h
    cases h
  | succ n ih =>
    intro l3 l2 h
    unfold X6_findCommand_b9 at h
    refine fw_iload_n C dX6_findCommand_9 rfl 0 rfl ?_
    refine fw_iload_n C dX6_findCommand_10 rfl 1 rfl ?_
    refine fw_icmp_ge C dX6_findCommand_11 (tgt := 43) rfl (fun c1 => ?_) (fun c1 => ?_)
    · have h := ite_t c1 h
      refine fw_aconst_null C dX6_findCommand_43 ?_
      exact fw_qret C hrt (r := none) rfl Y ⟨by rw [← Option.some.inj h] <;> rfl, rfl⟩ (fun t ht => ht) dX6_findCommand_44
    · have h := ite_f c1 h
      refine fw_aload_n C dX6_findCommand_14 rfl 2 rfl ?_
      refine fw_iload_n C dX6_findCommand_15 rfl 0 rfl ?_
      obtain ⟨b2, h⟩ := gd_some h
      refine fw_tq C (cx_st C).2.2.2.1.2 b2 (v := .ref (ad 20 (ix l3) 0)) rfl dX6_findCommand_16 ?_
      obtain ⟨v3, e4, h⟩ := lt_some h
      refine fw_top (v' := .ref (ad 20 v3 0)) (by rw [e4]) ?_
      have b5 : v3 < 8 := by rw [← e4]; exact (inb_lt b2)
      refine fw_astore C dX6_findCommand_17 (by decide) (L' := [(4, .ref (ad 20 v3 0)), (3, .int l3), (2, .int l2), (1, .ref (ad 24 0 0)), (0, .ref (ad 8 0 0))]) rfl ?_
      refine fw_aload_n C dX6_findCommand_19 rfl 4 rfl ?_
      refine fw_get C (ci := 4) (Cn := RX6) (Tc := TX6) (N := 5) (j := 0) ly_X6_findCommand_6 rfl (hG _ (List.mem_of_getElem? (i := 0) rfl)) (of8_0 _) (ce8 T ad _ _) (by decide) (cx_ts C _ fl_X6_findCommand_24) (fun _ h => h) (v := .ref (ad 6 0 0)) rfl dX6_findCommand_20 ?_
      refine fw_aload C dX6_findCommand_23 0 rfl ?_
      refine fw_getON C (v := .ref (ad 21 (8 + v3) 0)) ((cx_st C).2.2.1 _ b5).2.2.1 (Nst_use (cx_nst C) (w := .fieldLinkNest RX6 81 "RecipeScheduler$Command" "word" "Ljava/lang/String;" "RecipeScheduler") 2053 (by decide +kernel) rfl) (fun _ h => h) dX6_findCommand_25 ?_
      obtain ⟨r6, q7, h⟩ := bd1_some h
      refine fw_callVi C (ci := 8) (Cn := RX10) (Tc := TX10) (N := 6) (As := [.ref (ad 21 (8 + v3) 0)]) (c_X10_isWord (gac (hG _ (List.mem_of_getElem? (i := 2) rfl)) (gac (hG _ (List.mem_of_getElem? (i := 1) rfl)) ga0)) q7) (cwV 1 (cx_ts C) gX6_findCommand_X10_isWord rfl rfl rfl (by decide +kernel) ⟨Nat.le_of_ble_eq_true rfl, Nat.le_of_ble_eq_true rfl⟩) rfl (hG _ (List.mem_of_getElem? (i := 2) rfl)) (of6_0 _) (ce6 T ad _ _) rfl (st := []) rfl (Nat.le_of_ble_eq_true rfl) ⟨Nat.le_refl 0, Nat.le_refl 0⟩ dX6_findCommand_28 (pp2 ?_)
      refine fw_if_eq C dX6_findCommand_31 (tgt := 37) rfl (fun c8 => ?_) (fun c8 => ?_)
      · have h := ite_t c8 h
        refine fw_iinc C dX6_findCommand_37 (kk := 1) (v := l3 + 1) rfl rfl (by decide) (L' := [(3, .int (l3 + 1)), (4, .ref (ad 20 v3 0)), (2, .int l2), (1, .ref (ad 24 0 0)), (0, .ref (ad 8 0 0))]) rfl ?_
        refine fw_goto C dX6_findCommand_40 (tgt := 9) rfl ?_
        refine fw_sub [0, 2, 3, 4] (L' := [(3, .int (l3 + 1)), (2, .int l2), (1, .ref (ad 24 0 0)), (0, .ref (ad 8 0 0))]) rfl ?_
        exact ih _ _ h
      · have h := ite_f c8 h
        refine fw_aload C dX6_findCommand_34 0 rfl ?_
        exact fw_qret C hrt (r := some (ad 20 v3 0)) rfl Y ⟨by rw [← Option.some.inj h] <;> rfl, rfl⟩ (fun t ht => ht) dX6_findCommand_36
set_option maxRecDepth 100000 in
set_option maxHeartbeats 4000000 in
theorem w_X6_findCommand {Y : Mem} (C : Cx p s m [.ref (ad 8 0 0)].toArray meth c cX6_findCommand 5 wsX6_findCommand RX6 N0 T D gr ad) (hrt : meth.sig.returnType = (some (.object "RecipeScheduler$Command"))) (hG : ∀ q ∈ [(8, 0), (5, 0), (6, 0)], q ∈ gr) {res : Option Nat} (h : X6_findCommand Y = some res) : FW p l e (Rm 5) s m [.ref (ad 8 0 0)].toArray below meth c 5 N0 T D gr ad 0 0 (MQ below (va_Qq (fun r Y1 => r = res.map (fun i => ad 20 i 0) ∧ Y1 = Y) (WB T D gr ad) (fun q => N0 ≤ q)) [.ref (ad 8 0 0)].toArray s 0 0 (fun q => N0 ≤ q)) Y 0 [(0, .ref (ad 8 0 0))] [] := by
  unfold X6_findCommand at h
  refine fw_getsN C (v := .ref (ad 24 0 0)) (cx_st C).2.2.2.1.1 (Nst_use (cx_nst C) (w := .fieldLinkNest RX6 78 "RecipeScheduler" "COMMANDS" "[LRecipeScheduler$Command;" "RecipeScheduler") 1340 (by decide +kernel) rfl) (fun _ h => h) dX6_findCommand_0 ?_
  refine fw_astore_n C dX6_findCommand_3 rfl (by decide) (L' := [(1, .ref (ad 24 0 0)), (0, .ref (ad 8 0 0))]) rfl ?_
  refine fw_aload_n C dX6_findCommand_4 rfl 0 rfl ?_
  refine fw_tlen C (cx_st C).2.2.2.1.2 (v := 8) rfl dX6_findCommand_5 ?_
  refine fw_istore_n C dX6_findCommand_6 rfl (by decide) (L' := [(2, .int 8), (1, .ref (ad 24 0 0)), (0, .ref (ad 8 0 0))]) rfl ?_
  refine fw_iconst C dX6_findCommand_7 (v := 0) rfl ?_
  refine fw_istore_n C dX6_findCommand_8 rfl (by decide) (L' := [(3, .int 0), (2, .int 8), (1, .ref (ad 24 0 0)), (0, .ref (ad 8 0 0))]) rfl ?_
  exact w_X6_findCommand_b9 C hrt hG   _ _ _ h
end
set_option maxRecDepth 100000 in
set_option maxHeartbeats 4000000 in
theorem c_X6_findCommand {l : Launch} {N0 : Nat} {T : Nat → ClassId} {D : va_G} {gr : List (Nat × Nat)} {ad : Nat → Nat → Nat → Nat} {Y : Mem} {res : Option Nat} (hG : ∀ q ∈ [(8, 0), (5, 0), (6, 0)], q ∈ gr) (h : X6_findCommand Y = some res) : CQ l yX6_findCommand wsX6_findCommand (Rm 5) N0 T D gr ad Y [.ref (ad 8 0 0)] (fun r Y1 => r = res.map (fun i => ad 20 i 0) ∧ Y1 = Y) :=
  fw_body (by decide +kernel) rfl (Nat.le_of_ble_eq_true rfl) (fun p e s m below meth c C hrt => w_X6_findCommand C hrt hG  h)
theorem ly_X6_readStepName_6 : ∀ w ∈ u_ws RX6 TX6 5, w ∈ wsX6_readStepName := by decide +kernel
theorem fl_X6_readStepName_24 : Cond.fieldLink RX6 24 "RecipeScheduler$ScriptReader" "tokens" "LRecipeScheduler$Tokens;" ∈ wsX6_readStepName := by decide +kernel
section
variable {p : Program} {l : Launch} {e : Env} {s : State} {m : MethodId} {below : List Frame} {meth : Method} {c : Code} {N0 : Nat} {T : Nat → ClassId} {D : va_G} {gr : List (Nat × Nat)} {ad : Nat → Nat → Nat → Nat}
set_option maxRecDepth 100000 in
set_option maxHeartbeats 4000000 in
theorem w_X6_readStepName {Y : Mem} {g1 : Nat} (C : Cx p s m [.ref (ad 8 0 0), .ref (ad 4 g1 0)].toArray meth c cX6_readStepName 3 wsX6_readStepName RX6 N0 T D gr ad) (hrt : meth.sig.returnType = (some .int)) (hG : ∀ q ∈ [(8, 0), (4, g1), (5, 0), (6, 0)], q ∈ gr) {res : Int32 × Mem} (h : X6_readStepName Y g1 = some res) : FW p l e (Rm 3) s m [.ref (ad 8 0 0), .ref (ad 4 g1 0)].toArray below meth c 3 N0 T D gr ad 0 0 (MQ below (va_Qi (fun r Y1 => (r, Y1) = res) (WB T D gr ad) (fun q => N0 ≤ q)) [.ref (ad 8 0 0), .ref (ad 4 g1 0)].toArray s 0 0 (fun q => N0 ≤ q)) Y 0 [(0, .ref (ad 8 0 0)), (1, .ref (ad 4 g1 0))] [] := by
  unfold X6_readStepName at h
  refine fw_aload_n C dX6_readStepName_0 rfl 0 rfl ?_
  refine fw_get C (ci := 4) (Cn := RX6) (Tc := TX6) (N := 5) (j := 0) ly_X6_readStepName_6 rfl (hG _ (List.mem_of_getElem? (i := 0) rfl)) (of8_0 _) (ce8 T ad _ _) (by decide) (cx_ts C _ fl_X6_readStepName_24) (fun _ h => h) (v := .ref (ad 6 0 0)) rfl dX6_readStepName_1 ?_
  refine fw_aload_n C dX6_readStepName_4 rfl 1 rfl ?_
  obtain ⟨r1, Y3, q2, h⟩ := bd2_some h
  refine fw_callVi C (ci := 8) (Cn := RX10) (Tc := TX10) (N := 6) (As := [.ref (ad 4 g1 0)]) (c_X10_findName (gac (hG _ (List.mem_of_getElem? (i := 3) rfl)) (gac (hG _ (List.mem_of_getElem? (i := 2) rfl)) (gac (hG _ (List.mem_of_getElem? (i := 1) rfl)) ga0))) q2) (cwV 1 (cx_ts C) gX6_readStepName_X10_findName rfl rfl rfl (by decide +kernel) ⟨Nat.le_of_ble_eq_true rfl, Nat.le_of_ble_eq_true rfl⟩) rfl (hG _ (List.mem_of_getElem? (i := 3) rfl)) (of6_0 _) (ce6 T ad _ _) rfl (st := []) rfl (Nat.le_of_ble_eq_true rfl) ⟨Nat.le_refl 0, Nat.le_refl 0⟩ dX6_readStepName_5 (ppw ?_)
  refine fw_istore_n C dX6_readStepName_8 rfl (by decide) (L' := [(2, .int r1), (0, .ref (ad 8 0 0)), (1, .ref (ad 4 g1 0))]) rfl ?_
  refine fw_iload_n C dX6_readStepName_9 rfl 0 rfl ?_
  refine fw_iconst C dX6_readStepName_10 (v := (-1)) rfl ?_
  refine fw_icmp_eq C dX6_readStepName_11 (tgt := 21) rfl (fun c4 => ?_) (fun c4 => ?_)
  · have h := ite_t c4 h
    refine fw_iload_n C dX6_readStepName_21 rfl 0 rfl ?_
    exact fw_iret C hrt Y3 (Option.some.inj h) (fun t ht => ht) dX6_readStepName_22
  · have h := ite_f c4 h
    refine fw_aload_n C dX6_readStepName_14 rfl 1 rfl ?_
    refine fw_get C (ci := 4) (Cn := RX6) (Tc := TX6) (N := 5) (j := 0) ly_X6_readStepName_6 rfl (hG _ (List.mem_of_getElem? (i := 0) rfl)) (of8_0 _) (ce8 T ad _ _) (by decide) (cx_ts C _ fl_X6_readStepName_24) (fun _ h => h) (v := .ref (ad 6 0 0)) rfl dX6_readStepName_15 ?_
    obtain ⟨Y7, q6, h⟩ := bd1_some h
    refine fw_callVv C (ci := 8) (Cn := RX10) (Tc := TX10) (N := 6) (As := []) (c_X10_advance (gac (hG _ (List.mem_of_getElem? (i := 3) rfl)) (gac (hG _ (List.mem_of_getElem? (i := 2) rfl)) ga0)) q6) (cwV 0 (cx_ts C) gX6_readStepName_X10_advance rfl rfl rfl (by decide +kernel) ⟨Nat.le_of_ble_eq_true rfl, Nat.le_of_ble_eq_true rfl⟩) rfl (hG _ (List.mem_of_getElem? (i := 3) rfl)) (of6_0 _) (ce6 T ad _ _) rfl (st := []) rfl (Nat.le_of_ble_eq_true rfl) ⟨Nat.le_refl 0, Nat.le_refl 0⟩ dX6_readStepName_18 (ppv ?_)
    refine fw_iload_n C dX6_readStepName_21 rfl 0 rfl ?_
    exact fw_iret C hrt Y7 (Option.some.inj h) (fun t ht => ht) dX6_readStepName_22
end
set_option maxRecDepth 100000 in
set_option maxHeartbeats 4000000 in
theorem c_X6_readStepName {l : Launch} {N0 : Nat} {T : Nat → ClassId} {D : va_G} {gr : List (Nat × Nat)} {ad : Nat → Nat → Nat → Nat} {Y : Mem} {g1 : Nat} {res : Int32 × Mem} (hG : ∀ q ∈ [(8, 0), (4, g1), (5, 0), (6, 0)], q ∈ gr) (h : X6_readStepName Y g1 = some res) : CI l yX6_readStepName wsX6_readStepName (Rm 3) N0 T D gr ad Y [.ref (ad 8 0 0), .ref (ad 4 g1 0)] (fun r Y1 => (r, Y1) = res) :=
  fw_body (by decide +kernel) rfl (Nat.le_of_ble_eq_true rfl) (fun p e s m below meth c C hrt => w_X6_readStepName C hrt hG  h)
theorem ly_X6_readCommand_6 : ∀ w ∈ u_ws RX6 TX6 5, w ∈ wsX6_readCommand := by decide +kernel
theorem fl_X6_readCommand_24 : Cond.fieldLink RX6 24 "RecipeScheduler$ScriptReader" "tokens" "LRecipeScheduler$Tokens;" ∈ wsX6_readCommand := by decide +kernel
theorem fl_X6_readCommand_32 : Cond.fieldLink RX6 32 "RecipeScheduler$ScriptReader" "count" "I" ∈ wsX6_readCommand := by decide +kernel
theorem fl_X6_readCommand_11 : Cond.fieldLink RX6 11 "RecipeScheduler$ScriptReader" "commands" "[LRecipeScheduler$Command;" ∈ wsX6_readCommand := by decide +kernel
theorem fl_X6_readCommand_17 : Cond.fieldLink RX6 17 "RecipeScheduler$ScriptReader" "steps" "[I" ∈ wsX6_readCommand := by decide +kernel
theorem fl_X6_readCommand_21 : Cond.fieldLink RX6 21 "RecipeScheduler$ScriptReader" "numbers" "[I" ∈ wsX6_readCommand := by decide +kernel
section
variable {p : Program} {l : Launch} {e : Env} {s : State} {m : MethodId} {below : List Frame} {meth : Method} {c : Code} {N0 : Nat} {T : Nat → ClassId} {D : va_G} {gr : List (Nat × Nat)} {ad : Nat → Nat → Nat → Nat}
set_option maxRecDepth 100000 in
set_option maxHeartbeats 4000000 in
theorem w_X6_readCommand_b108 {g1 : Nat} (C : Cx p s m [.ref (ad 8 0 0), .ref (ad 4 g1 0)].toArray meth c cX6_readCommand 3 wsX6_readCommand RX6 N0 T D gr ad) (hrt : meth.sig.returnType = none) (hG : ∀ q ∈ [(6, 0), (5, 0), (8, 0), (4, g1)], q ∈ gr) {res : Mem} (Y : Mem) (s0 : Int32) (s1 : Int32) (h : X6_readCommand_b108 g1  Y s0 s1 = some res) : FW p l e (Rm 6) s m [.ref (ad 8 0 0), .ref (ad 4 g1 0)].toArray below meth c 3 N0 T D gr ad 0 0 (MQ below (va_Qv (fun Y1 => Y1 = res) (WB T D gr ad) (fun q => N0 ≤ q)) [.ref (ad 8 0 0), .ref (ad 4 g1 0)].toArray s 0 0 (fun q => N0 ≤ q)) Y 108 [(0, .ref (ad 8 0 0))] [.int s0, .int s1, .ref (ad 8 0 3)] := by
  unfold X6_readCommand_b108 at h
  obtain ⟨b21, h⟩ := gd_some h
  obtain ⟨Y22, e23, h⟩ := lt_some h
  refine fw_iast2 C (hG _ (List.mem_of_getElem? (i := 2) rfl)) (of8_3 _) (ca8_3 T ad _) b21 (Nat.le_of_ble_eq_true rfl) dX6_readCommand_108 ?_
  refine fw_mem e23 ?_
  refine fw_aload_n C dX6_readCommand_109 rfl 0 rfl ?_
  refine fw_get C (ci := 4) (Cn := RX6) (Tc := TX6) (N := 5) (j := 0) ly_X6_readCommand_6 rfl (hG _ (List.mem_of_getElem? (i := 2) rfl)) (of8_0 _) (ce8 T ad _ _) (by decide) (cx_ts C _ fl_X6_readCommand_24) (fun _ h => h) (v := .ref (ad 6 0 0)) rfl dX6_readCommand_110 ?_
  obtain ⟨Y26, q25, h⟩ := bd1_some h
  refine fw_callVv C (ci := 8) (Cn := RX10) (Tc := TX10) (N := 6) (As := []) (c_X10_expectSemicolon (gac (hG _ (List.mem_of_getElem? (i := 0) rfl)) (gac (hG _ (List.mem_of_getElem? (i := 1) rfl)) ga0)) q25) (cwV 0 (cx_ts C) gX6_readCommand_X10_expectSemicolon rfl rfl rfl (by decide +kernel) ⟨Nat.le_of_ble_eq_true rfl, Nat.le_of_ble_eq_true rfl⟩) rfl (hG _ (List.mem_of_getElem? (i := 0) rfl)) (of6_0 _) (ce6 T ad _ _) rfl (st := []) rfl (Nat.le_of_ble_eq_true rfl) ⟨Nat.le_refl 0, Nat.le_refl 0⟩ dX6_readCommand_113 (ppv ?_)
  refine fw_aload_n C dX6_readCommand_116 rfl 0 rfl ?_
  refine fw_dup C dX6_readCommand_117 rfl ?_
  refine fw_get C (ci := 4) (Cn := RX6) (Tc := TX6) (N := 5) (j := 4) ly_X6_readCommand_6 rfl (hG _ (List.mem_of_getElem? (i := 2) rfl)) (of8_0 _) (ce8 T ad _ _) (by decide) (cx_ts C _ fl_X6_readCommand_32) (fun _ h => h) (v := .int (Y26 8 0 0 4)) rfl dX6_readCommand_118 ?_
  refine fw_iconst C dX6_readCommand_121 (v := 1) rfl ?_
  refine fw_iadd C dX6_readCommand_122 ?_
  obtain ⟨Y27, e28, h⟩ := lt_some h
  refine fw_put C (ci := 4) (Cn := RX6) (Tc := TX6) (N := 5) (j := 4) (ty := .int) (upd (Y26 8 0 0) 4 ((Y26 8 0 0 4) + 1)) ly_X6_readCommand_6 rfl tyX6_ok nmX6 (hG _ (List.mem_of_getElem? (i := 2) rfl)) (of8_0 _) (ce8 T ad _ _) (by decide) (cx_ts C _ fl_X6_readCommand_32) (fun _ h => h) rfl (by decide +kernel) rfl rfl (Nat.le_of_ble_eq_true rfl) (ce8_put4 T ad _ _ _) dX6_readCommand_123 ?_
  refine fw_mem ((up_eq _ _ _ _ _ _).symm.trans e28) ?_
  exact fw_vret C hrt Y27 (Option.some.inj h) (fun t ht => ht) dX6_readCommand_126
set_option maxRecDepth 100000 in
set_option maxHeartbeats 4000000 in
theorem w_X6_readCommand_b77 {g1 : Nat} (C : Cx p s m [.ref (ad 8 0 0), .ref (ad 4 g1 0)].toArray meth c cX6_readCommand 3 wsX6_readCommand RX6 N0 T D gr ad) (hrt : meth.sig.returnType = none) (hG : ∀ q ∈ [(6, 0), (5, 0), (8, 0), (4, g1)], q ∈ gr) {res : Mem} (Y : Mem) (l2 : Nat) (s0 : Int32) (s1 : Int32) (h : X6_readCommand_b77 g1  Y l2 s0 s1 = some res) : FW p l e (Rm 6) s m [.ref (ad 8 0 0), .ref (ad 4 g1 0)].toArray below meth c 3 N0 T D gr ad 0 0 (MQ below (va_Qv (fun Y1 => Y1 = res) (WB T D gr ad) (fun q => N0 ≤ q)) [.ref (ad 8 0 0), .ref (ad 4 g1 0)].toArray s 0 0 (fun q => N0 ≤ q)) Y 77 [(2, .ref (ad 20 l2 0)), (0, .ref (ad 8 0 0))] [.int s0, .int s1, .ref (ad 8 0 2)] := by
  unfold X6_readCommand_b77 at h
  obtain ⟨b16, h⟩ := gd_some h
  obtain ⟨Y17, e18, h⟩ := lt_some h
  refine fw_iast2 C (hG _ (List.mem_of_getElem? (i := 2) rfl)) (of8_2 _) (ca8_2 T ad _) b16 (Nat.le_of_ble_eq_true rfl) dX6_readCommand_77 ?_
  refine fw_mem e18 ?_
  refine fw_aload_n C dX6_readCommand_78 rfl 1 rfl ?_
  refine fw_get C (ci := 4) (Cn := RX6) (Tc := TX6) (N := 5) (j := 3) ly_X6_readCommand_6 rfl (hG _ (List.mem_of_getElem? (i := 2) rfl)) (of8_0 _) (ce8 T ad _ _) (by decide) (cx_ts C _ fl_X6_readCommand_21) (fun _ h => h) (v := .ref (ad 8 0 3)) rfl dX6_readCommand_79 ?_
  refine fw_aload_n C dX6_readCommand_82 rfl 1 rfl ?_
  refine fw_get C (ci := 4) (Cn := RX6) (Tc := TX6) (N := 5) (j := 4) ly_X6_readCommand_6 rfl (hG _ (List.mem_of_getElem? (i := 2) rfl)) (of8_0 _) (ce8 T ad _ _) (by decide) (cx_ts C _ fl_X6_readCommand_32) (fun _ h => h) (v := .int (Y17 8 0 0 4)) rfl dX6_readCommand_83 ?_
  refine fw_aload_n C dX6_readCommand_86 rfl 0 rfl ?_
  obtain ⟨b19, h⟩ := gd_some h
  have b19 := of_decide_eq_true b19
  refine fw_getON C (v := .int ((sCmd l2).2)) ((cx_st C).2.2.1 _ b19).2.2.2.2 (Nst_use (cx_nst C) (w := .fieldLinkNest RX6 68 "RecipeScheduler$Command" "takesNumber" "Z" "RecipeScheduler") 2055 (by decide +kernel) rfl) (fun _ h => h) dX6_readCommand_87 ?_
  refine fw_if_eq C dX6_readCommand_90 (tgt := 107) rfl (fun c20 => ?_) (fun c20 => ?_)
  · have h := ite_t c20 h
    refine fw_iconst C dX6_readCommand_107 (v := 0) rfl ?_
    refine fw_sub [1] (L' := [(0, .ref (ad 8 0 0))]) rfl ?_
    exact w_X6_readCommand_b108 C hrt hG   _ _ _ h
  · have h := ite_f c20 h
    refine fw_aload_n C dX6_readCommand_93 rfl 1 rfl ?_
    refine fw_get C (ci := 4) (Cn := RX6) (Tc := TX6) (N := 5) (j := 0) ly_X6_readCommand_6 rfl (hG _ (List.mem_of_getElem? (i := 2) rfl)) (of8_0 _) (ce8 T ad _ _) (by decide) (cx_ts C _ fl_X6_readCommand_24) (fun _ h => h) (v := .ref (ad 6 0 0)) rfl dX6_readCommand_94 ?_
    refine fw_iconst C dX6_readCommand_97 (v := 0) rfl ?_
    refine fw_sipush C dX6_readCommand_98 (v := 999) rfl ?_
    obtain ⟨r29, Y31, q30, h⟩ := bd2_some h
    refine fw_callVi C (ci := 8) (Cn := RX10) (Tc := TX10) (N := 6) (As := [.int 0, .int 999]) (c_X10_expectNumber (gac (hG _ (List.mem_of_getElem? (i := 0) rfl)) (gac (hG _ (List.mem_of_getElem? (i := 1) rfl)) ga0)) q30) (cwV 2 (cx_ts C) gX6_readCommand_X10_expectNumber rfl rfl rfl (by decide +kernel) ⟨Nat.le_of_ble_eq_true rfl, Nat.le_of_ble_eq_true rfl⟩) rfl (hG _ (List.mem_of_getElem? (i := 0) rfl)) (of6_0 _) (ce6 T ad _ _) rfl (st := [.int (Y17 8 0 0 4), .ref (ad 8 0 3)]) rfl (Nat.le_of_ble_eq_true rfl) ⟨Nat.le_refl 0, Nat.le_refl 0⟩ dX6_readCommand_101 (ppw ?_)
    refine fw_goto C dX6_readCommand_104 (tgt := 108) rfl ?_
    refine fw_sub [1] (L' := [(0, .ref (ad 8 0 0))]) rfl ?_
    exact w_X6_readCommand_b108 C hrt hG   _ _ _ h
set_option maxRecDepth 100000 in
set_option maxHeartbeats 4000000 in
theorem w_X6_readCommand {Y : Mem} {g1 : Nat} (C : Cx p s m [.ref (ad 8 0 0), .ref (ad 4 g1 0)].toArray meth c cX6_readCommand 3 wsX6_readCommand RX6 N0 T D gr ad) (hrt : meth.sig.returnType = none) (hG : ∀ q ∈ [(6, 0), (5, 0), (8, 0), (4, g1)], q ∈ gr) {res : Mem} (h : X6_readCommand Y g1 = some res) : FW p l e (Rm 6) s m [.ref (ad 8 0 0), .ref (ad 4 g1 0)].toArray below meth c 3 N0 T D gr ad 0 0 (MQ below (va_Qv (fun Y1 => Y1 = res) (WB T D gr ad) (fun q => N0 ≤ q)) [.ref (ad 8 0 0), .ref (ad 4 g1 0)].toArray s 0 0 (fun q => N0 ≤ q)) Y 0 [(0, .ref (ad 8 0 0)), (1, .ref (ad 4 g1 0))] [] := by
  unfold X6_readCommand at h
  refine fw_aload_n C dX6_readCommand_0 rfl 0 rfl ?_
  obtain ⟨r1, q2, h⟩ := bd1_some h
  refine fw_callVq C (ci := 4) (Cn := RX6) (Tc := TX6) (N := 5) (As := []) (c_X6_findCommand (gac (hG _ (List.mem_of_getElem? (i := 2) rfl)) (gac (hG _ (List.mem_of_getElem? (i := 1) rfl)) (gac (hG _ (List.mem_of_getElem? (i := 0) rfl)) ga0))) q2) (cwV 0 (cx_ts C) gX6_readCommand_X6_findCommand rfl rfl rfl (by decide +kernel) ⟨Nat.le_of_ble_eq_true rfl, Nat.le_of_ble_eq_true rfl⟩) rfl (hG _ (List.mem_of_getElem? (i := 2) rfl)) (of8_0 _) (ce8 T ad _ _) rfl (st := []) rfl (Nat.le_of_ble_eq_true rfl) ⟨Nat.le_refl 0, Nat.le_refl 0⟩ dX6_readCommand_1 (pp2 ?_)
  cases r1 with
  | none =>
    refine fw_astore_nN C dX6_readCommand_4 rfl (by decide) (L' := [(2, .null), (0, .ref (ad 8 0 0)), (1, .ref (ad 4 g1 0))]) rfl ?_
    refine fw_aload_nN C dX6_readCommand_5 rfl 0 rfl ?_
    refine fw_ifnonnullN C dX6_readCommand_6 ?_
    refine fw_aload_n C dX6_readCommand_9 rfl 1 rfl ?_
    refine fw_get C (ci := 4) (Cn := RX6) (Tc := TX6) (N := 5) (j := 0) ly_X6_readCommand_6 rfl (hG _ (List.mem_of_getElem? (i := 2) rfl)) (of8_0 _) (ce8 T ad _ _) (by decide) (cx_ts C _ fl_X6_readCommand_24) (fun _ h => h) (v := .ref (ad 6 0 0)) rfl dX6_readCommand_10 ?_
    refine fw_iconst C dX6_readCommand_13 (v := 1) rfl ?_
    obtain ⟨Y6, q5, h⟩ := bd1_some h
    refine fw_callVv C (ci := 8) (Cn := RX10) (Tc := TX10) (N := 6) (As := [.int 1]) (c_X10_fail (gac (hG _ (List.mem_of_getElem? (i := 0) rfl)) ga0) q5) (cwV 1 (cx_ts C) gX6_readCommand_X10_fail rfl rfl rfl (by decide +kernel) ⟨Nat.le_of_ble_eq_true rfl, Nat.le_of_ble_eq_true rfl⟩) rfl (hG _ (List.mem_of_getElem? (i := 0) rfl)) (of6_0 _) (ce6 T ad _ _) rfl (st := []) rfl (Nat.le_of_ble_eq_true rfl) ⟨Nat.le_refl 0, Nat.le_refl 0⟩ dX6_readCommand_14 (ppv ?_)
    exact fw_vret C hrt Y6 (Option.some.inj h) (fun t ht => ht) dX6_readCommand_17
  | some v3 =>
    refine fw_astore_n C dX6_readCommand_4 rfl (by decide) (L' := [(2, .ref (ad 20 v3 0)), (0, .ref (ad 8 0 0)), (1, .ref (ad 4 g1 0))]) rfl ?_
    refine fw_aload_n C dX6_readCommand_5 rfl 0 rfl ?_
    refine fw_ifnonnull C dX6_readCommand_6 (tgt := 18) rfl ?_
    refine fw_aload_n C dX6_readCommand_18 rfl 1 rfl ?_
    refine fw_get C (ci := 4) (Cn := RX6) (Tc := TX6) (N := 5) (j := 4) ly_X6_readCommand_6 rfl (hG _ (List.mem_of_getElem? (i := 2) rfl)) (of8_0 _) (ce8 T ad _ _) (by decide) (cx_ts C _ fl_X6_readCommand_32) (fun _ h => h) (v := .int (Y 8 0 0 4)) rfl dX6_readCommand_19 ?_
    refine fw_bipush C dX6_readCommand_22 (v := 30) rfl ?_
    refine fw_icmp_lt C dX6_readCommand_24 (tgt := 36) rfl (fun c7 => ?_) (fun c7 => ?_)
    · have h := ite_t c7 h
      refine fw_aload_n C dX6_readCommand_36 rfl 1 rfl ?_
      refine fw_get C (ci := 4) (Cn := RX6) (Tc := TX6) (N := 5) (j := 0) ly_X6_readCommand_6 rfl (hG _ (List.mem_of_getElem? (i := 2) rfl)) (of8_0 _) (ce8 T ad _ _) (by decide) (cx_ts C _ fl_X6_readCommand_24) (fun _ h => h) (v := .ref (ad 6 0 0)) rfl dX6_readCommand_37 ?_
      obtain ⟨Y10, q9, h⟩ := bd1_some h
      refine fw_callVv C (ci := 8) (Cn := RX10) (Tc := TX10) (N := 6) (As := []) (c_X10_advance (gac (hG _ (List.mem_of_getElem? (i := 0) rfl)) (gac (hG _ (List.mem_of_getElem? (i := 1) rfl)) ga0)) q9) (cwV 0 (cx_ts C) gX6_readCommand_X10_advance rfl rfl rfl (by decide +kernel) ⟨Nat.le_of_ble_eq_true rfl, Nat.le_of_ble_eq_true rfl⟩) rfl (hG _ (List.mem_of_getElem? (i := 0) rfl)) (of6_0 _) (ce6 T ad _ _) rfl (st := []) rfl (Nat.le_of_ble_eq_true rfl) ⟨Nat.le_refl 0, Nat.le_refl 0⟩ dX6_readCommand_40 (ppv ?_)
      refine fw_aload_n C dX6_readCommand_43 rfl 1 rfl ?_
      refine fw_get C (ci := 4) (Cn := RX6) (Tc := TX6) (N := 5) (j := 1) ly_X6_readCommand_6 rfl (hG _ (List.mem_of_getElem? (i := 2) rfl)) (of8_0 _) (ce8 T ad _ _) (by decide) (cx_ts C _ fl_X6_readCommand_11) (fun _ h => h) (v := .ref (ad 8 0 1)) rfl dX6_readCommand_44 ?_
      refine fw_aload_n C dX6_readCommand_47 rfl 1 rfl ?_
      refine fw_get C (ci := 4) (Cn := RX6) (Tc := TX6) (N := 5) (j := 4) ly_X6_readCommand_6 rfl (hG _ (List.mem_of_getElem? (i := 2) rfl)) (of8_0 _) (ce8 T ad _ _) (by decide) (cx_ts C _ fl_X6_readCommand_32) (fun _ h => h) (v := .int (Y10 8 0 0 4)) rfl dX6_readCommand_48 ?_
      refine fw_aload_n C dX6_readCommand_51 rfl 0 rfl ?_
      obtain ⟨b11, h⟩ := gd_some h
      have b11 := of_decide_eq_true b11
      obtain ⟨b12, h⟩ := gd_some h
      obtain ⟨Y13, e14, h⟩ := lt_some h
      refine fw_castq C (hG _ (List.mem_of_getElem? (i := 2) rfl)) (of8_1 _) (ca8_1 T ad _) b12 (Nat.le_of_ble_eq_true rfl) b11 dX6_readCommand_52 ?_
      refine fw_mem e14 ?_
      refine fw_aload_n C dX6_readCommand_53 rfl 1 rfl ?_
      refine fw_get C (ci := 4) (Cn := RX6) (Tc := TX6) (N := 5) (j := 2) ly_X6_readCommand_6 rfl (hG _ (List.mem_of_getElem? (i := 2) rfl)) (of8_0 _) (ce8 T ad _ _) (by decide) (cx_ts C _ fl_X6_readCommand_17) (fun _ h => h) (v := .ref (ad 8 0 2)) rfl dX6_readCommand_54 ?_
      refine fw_aload_n C dX6_readCommand_57 rfl 1 rfl ?_
      refine fw_get C (ci := 4) (Cn := RX6) (Tc := TX6) (N := 5) (j := 4) ly_X6_readCommand_6 rfl (hG _ (List.mem_of_getElem? (i := 2) rfl)) (of8_0 _) (ce8 T ad _ _) (by decide) (cx_ts C _ fl_X6_readCommand_32) (fun _ h => h) (v := .int (Y13 8 0 0 4)) rfl dX6_readCommand_58 ?_
      refine fw_aload_n C dX6_readCommand_61 rfl 0 rfl ?_
      refine fw_getON C (v := .int ((sCmd v3).1)) ((cx_st C).2.2.1 _ b11).2.2.2.1 (Nst_use (cx_nst C) (w := .fieldLinkNest RX6 60 "RecipeScheduler$Command" "takesName" "Z" "RecipeScheduler") 2054 (by decide +kernel) rfl) (fun _ h => h) dX6_readCommand_62 ?_
      refine fw_if_eq C dX6_readCommand_65 (tgt := 76) rfl (fun c15 => ?_) (fun c15 => ?_)
      · have h := ite_t c15 h
        refine fw_iconst C dX6_readCommand_76 (v := (-1)) rfl ?_
        refine fw_sub [0, 1] (L' := [(2, .ref (ad 20 v3 0)), (0, .ref (ad 8 0 0))]) rfl ?_
        exact w_X6_readCommand_b77 C hrt hG   _ _ _ _ h
      · have h := ite_f c15 h
        refine fw_aload_n C dX6_readCommand_68 rfl 1 rfl ?_
        refine fw_aload_n C dX6_readCommand_69 rfl 2 rfl ?_
        obtain ⟨r32, Y34, q33, h⟩ := bd2_some h
        refine fw_callVi C (ci := 4) (Cn := RX6) (Tc := TX6) (N := 5) (As := [.ref (ad 4 g1 0)]) (c_X6_readStepName (gac (hG _ (List.mem_of_getElem? (i := 2) rfl)) (gac (hG _ (List.mem_of_getElem? (i := 3) rfl)) (gac (hG _ (List.mem_of_getElem? (i := 1) rfl)) (gac (hG _ (List.mem_of_getElem? (i := 0) rfl)) ga0)))) q33) (cwV 1 (cx_ts C) gX6_readCommand_X6_readStepName rfl rfl rfl (by decide +kernel) ⟨Nat.le_of_ble_eq_true rfl, Nat.le_of_ble_eq_true rfl⟩) rfl (hG _ (List.mem_of_getElem? (i := 2) rfl)) (of8_0 _) (ce8 T ad _ _) rfl (st := [.int (Y13 8 0 0 4), .ref (ad 8 0 2)]) rfl (Nat.le_of_ble_eq_true rfl) ⟨Nat.le_refl 0, Nat.le_refl 0⟩ dX6_readCommand_70 (ppw ?_)
        refine fw_goto C dX6_readCommand_73 (tgt := 77) rfl ?_
        refine fw_sub [0, 1] (L' := [(2, .ref (ad 20 v3 0)), (0, .ref (ad 8 0 0))]) rfl ?_
        exact w_X6_readCommand_b77 C hrt hG   _ _ _ _ h
    · have h := ite_f c7 h
      refine fw_aload_n C dX6_readCommand_27 rfl 1 rfl ?_
      refine fw_get C (ci := 4) (Cn := RX6) (Tc := TX6) (N := 5) (j := 0) ly_X6_readCommand_6 rfl (hG _ (List.mem_of_getElem? (i := 2) rfl)) (of8_0 _) (ce8 T ad _ _) (by decide) (cx_ts C _ fl_X6_readCommand_24) (fun _ h => h) (v := .ref (ad 6 0 0)) rfl dX6_readCommand_28 ?_
      refine fw_iconst C dX6_readCommand_31 (v := 5) rfl ?_
      obtain ⟨Y37, q36, h⟩ := bd1_some h
      refine fw_callVv C (ci := 8) (Cn := RX10) (Tc := TX10) (N := 6) (As := [.int 5]) (c_X10_fail (gac (hG _ (List.mem_of_getElem? (i := 0) rfl)) ga0) q36) (cwV 1 (cx_ts C) gX6_readCommand_X10_fail rfl rfl rfl (by decide +kernel) ⟨Nat.le_of_ble_eq_true rfl, Nat.le_of_ble_eq_true rfl⟩) rfl (hG _ (List.mem_of_getElem? (i := 0) rfl)) (of6_0 _) (ce6 T ad _ _) rfl (st := []) rfl (Nat.le_of_ble_eq_true rfl) ⟨Nat.le_refl 0, Nat.le_refl 0⟩ dX6_readCommand_32 (ppv ?_)
      exact fw_vret C hrt Y37 (Option.some.inj h) (fun t ht => ht) dX6_readCommand_35
end
set_option maxRecDepth 100000 in
set_option maxHeartbeats 4000000 in
theorem c_X6_readCommand {l : Launch} {N0 : Nat} {T : Nat → ClassId} {D : va_G} {gr : List (Nat × Nat)} {ad : Nat → Nat → Nat → Nat} {Y : Mem} {g1 : Nat} {res : Mem} (hG : ∀ q ∈ [(6, 0), (5, 0), (8, 0), (4, g1)], q ∈ gr) (h : X6_readCommand Y g1 = some res) : CV l yX6_readCommand wsX6_readCommand (Rm 6) N0 T D gr ad Y [.ref (ad 8 0 0), .ref (ad 4 g1 0)] (fun Y1 => Y1 = res) :=
  fw_body (by decide +kernel) rfl (Nat.le_of_ble_eq_true rfl) (fun p e s m below meth c C hrt => w_X6_readCommand C hrt hG  h)
