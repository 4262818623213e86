theorem ly_X11_whyNotServed_11 : ∀ w ∈ u_ws RX11 TX11 11, w ∈ wsX11_whyNotServed := by decide +kernel
theorem fl_X11_whyNotServed_67 : Cond.fieldLink RX11 67 "RecipeScheduler" "now" "LRecipeScheduler$Kitchen;" ∈ wsX11_whyNotServed := by decide +kernel
section
variable {p : Program} {l : Launch} {e : Env} {s : State} {m : MethodId} {below : List Frame} {meth : Method} {c : Code} {N0 : Nat} {T : Nat → ClassId} {D : va_G} {gr : List (Nat × Nat)} {ad : Nat → Nat → Nat → Nat}
set_option maxRecDepth 100000 in
set_option maxHeartbeats 4000000 in
theorem w_X11_whyNotServed {Y : Mem} (C : Cx p s m [.ref (ad 0 0 0)].toArray meth c cX11_whyNotServed 1 wsX11_whyNotServed RX11 N0 T D gr ad) (hrt : meth.sig.returnType = (some .int)) (hG : ∀ q ∈ ([(0, 0), (2, 0), (1, 0)] ++ allG), q ∈ gr) {res : Int32} (h : X11_whyNotServed Y = some res) : FW p l e (Rm 3) s m [.ref (ad 0 0 0)].toArray below meth c 1 N0 T D gr ad 0 0 (MQ below (va_Qi (fun r Y1 => r = res ∧ Y1 = Y) (WB T D gr ad) (fun q => N0 ≤ q)) [.ref (ad 0 0 0)].toArray s 0 0 (fun q => N0 ≤ q)) Y 0 [(0, .ref (ad 0 0 0))] [] := by
  unfold X11_whyNotServed at h
  refine fw_aload_n C dX11_whyNotServed_0 rfl 0 rfl ?_
  refine fw_get C (ci := 11) (Cn := RX11) (Tc := TX11) (N := 11) (j := 5) ly_X11_whyNotServed_11 rfl (hG _ (List.mem_of_getElem? (i := 0) rfl)) (of0_0 _) (ce0 T ad _ _) (by decide) (cx_ts C _ fl_X11_whyNotServed_67) (fun _ h => h) (v := .ref (ad 1 0 0)) rfl dX11_whyNotServed_1 ?_
  obtain ⟨r1, q2, h⟩ := bd1_some h
  refine fw_callVi C (ci := 3) (Cn := RX3) (Tc := TX3) (N := 5) (As := []) (c_X3_servingObstacle (gac (hG _ (List.mem_of_getElem? (i := 2) rfl)) (gac (hG _ (List.mem_of_getElem? (i := 1) rfl)) (fun q hq => hG q (List.mem_append_right _ hq)))) q2) (cwV 0 (cx_ts C) gX11_whyNotServed_X3_servingObstacle rfl rfl rfl (by decide +kernel) ⟨Nat.le_of_ble_eq_true rfl, Nat.le_of_ble_eq_true rfl⟩) rfl (hG _ (List.mem_of_getElem? (i := 2) rfl)) (of1_0 _) (ce1 T ad _ _) rfl (st := []) rfl (Nat.le_of_ble_eq_true rfl) ⟨Nat.le_refl 0, Nat.le_refl 0⟩ dX11_whyNotServed_4 (pp2 ?_)
  exact fw_iret C hrt Y ⟨Option.some.inj h, rfl⟩ (fun t ht => ht) dX11_whyNotServed_7
end
set_option maxRecDepth 100000 in
set_option maxHeartbeats 4000000 in
theorem c_X11_whyNotServed {l : Launch} {N0 : Nat} {T : Nat → ClassId} {D : va_G} {gr : List (Nat × Nat)} {ad : Nat → Nat → Nat → Nat} {Y : Mem} {res : Int32} (hG : ∀ q ∈ ([(0, 0), (2, 0), (1, 0)] ++ allG), q ∈ gr) (h : X11_whyNotServed Y = some res) : CI l yX11_whyNotServed wsX11_whyNotServed (Rm 3) N0 T D gr ad Y [.ref (ad 0 0 0)] (fun r Y1 => r = res ∧ Y1 = Y) :=
  fw_body (by decide +kernel) rfl (Nat.le_of_ble_eq_true rfl) (fun p e s m below meth c C hrt => w_X11_whyNotServed C hrt hG  h)
section
variable {p : Program} {l : Launch} {e : Env} {s : State} {m : MethodId} {below : List Frame} {meth : Method} {c : Code} {N0 : Nat} {T : Nat → ClassId} {D : va_G} {gr : List (Nat × Nat)} {ad : Nat → Nat → Nat → Nat}
set_option maxRecDepth 100000 in
set_option maxHeartbeats 4000000 in
theorem w_X9_addString_b2 {g0 : Nat} {w1 : Nat} (C : Cx p s m [.ref (ad 5 g0 0), .ref (ad 21 w1 0)].toArray meth c cX9_addString 3 wsX9_addString RX9 N0 T D gr ad) (hrt : meth.sig.returnType = none) (hG : ∀ q ∈ [(5, g0)], q ∈ gr) {res : Mem} : ∀ (n : Nat) (Y : Mem) (l2 : Int32), X9_addString_b2 g0 w1  n Y l2 = some res → FW p l e (Rm 4) s m [.ref (ad 5 g0 0), .ref (ad 21 w1 0)].toArray below meth c 3 N0 T D gr ad 0 0 (MQ below (va_Qv (fun Y1 => Y1 = res) (WB T D gr ad) (fun q => N0 ≤ q)) [.ref (ad 5 g0 0), .ref (ad 21 w1 0)].toArray s 0 0 (fun q => N0 ≤ q)) Y 2 [(2, .int l2), (0, .ref (ad 5 g0 0)), (1, .ref (ad 21 w1 0))] [] := by
  intro n
  induction n with
  | zero =>
    intro Y l2 h
    unfold X9_addString_b2 at h
    cases h
  | succ n ih =>
    intro Y l2 h
    unfold X9_addString_b2 at h
    refine fw_iload_n C dX9_addString_2 rfl 0 rfl ?_
    refine fw_aload_n C dX9_addString_3 rfl 2 rfl ?_
    obtain ⟨b1, h⟩ := gd_some h
    have b1 := of_decide_eq_true b1
    obtain ⟨r2, q3, h⟩ := bd1_some h
    refine fw_callOi C (Cn := RJ0) (As := []) (c_J0_length_8abf5 ga0 q3) (cwV 0 (cx_ts C) gX9_addString_J0_length_8abf5 rfl rfl rfl (by decide +kernel) ⟨Nat.le_of_ble_eq_true rfl, Nat.le_of_ble_eq_true rfl⟩) ((cx_st C).1 _ (lt17 b1)).1 rfl (st := [.int l2]) rfl (Nat.le_of_ble_eq_true rfl) ⟨Nat.le_refl 0, Nat.le_refl 0⟩ dX9_addString_4 (pp2 ?_)
    refine fw_icmp_ge C dX9_addString_7 (tgt := 25) rfl (fun c4 => ?_) (fun c4 => ?_)
    · have h := ite_t c4 h
      exact fw_vret C hrt Y (Option.some.inj h) (fun t ht => ht) dX9_addString_25
    · have h := ite_f c4 h
      refine fw_aload_n C dX9_addString_10 rfl 1 rfl ?_
      refine fw_aload_n C dX9_addString_11 rfl 2 rfl ?_
      refine fw_iload_n C dX9_addString_12 rfl 0 rfl ?_
      obtain ⟨r5, q6, h⟩ := bd1_some h
      refine fw_callOi C (Cn := RJ0) (As := [.int l2]) (c_J0_charAt_5068e ga0 q6) (cwV 1 (cx_ts C) gX9_addString_J0_charAt_5068e rfl rfl rfl (by decide +kernel) ⟨Nat.le_of_ble_eq_true rfl, Nat.le_of_ble_eq_true rfl⟩) ((cx_st C).1 _ (lt17 b1)).1 rfl (st := [.ref (ad 5 g0 0)]) rfl (Nat.le_of_ble_eq_true rfl) ⟨Nat.le_refl 0, Nat.le_refl 0⟩ dX9_addString_13 (pp2 ?_)
      obtain ⟨Y9, q8, h⟩ := bd1_some h
      refine fw_callVv C (ci := 9) (Cn := RX9) (Tc := TX9) (N := 2) (As := [.int r5]) (c_X9_addByte (gac (hG _ (List.mem_of_getElem? (i := 0) rfl)) ga0) q8) (cwV 1 (cx_ts C) gX9_addString_X9_addByte rfl rfl rfl (by decide +kernel) ⟨Nat.le_of_ble_eq_true rfl, Nat.le_of_ble_eq_true rfl⟩) rfl (hG _ (List.mem_of_getElem? (i := 0) rfl)) (of5_0 _) (ce5 T ad _ _) rfl (st := []) rfl (Nat.le_of_ble_eq_true rfl) ⟨Nat.le_refl 0, Nat.le_refl 0⟩ dX9_addString_16 (ppv ?_)
      refine fw_iinc C dX9_addString_19 (kk := 0) (v := l2 + 1) rfl rfl (by decide) (L' := [(2, .int (l2 + 1)), (0, .ref (ad 5 g0 0)), (1, .ref (ad 21 w1 0))]) rfl ?_
      refine fw_goto C dX9_addString_22 (tgt := 2) rfl ?_
      exact ih _ _ h
set_option maxRecDepth 100000 in
set_option maxHeartbeats 4000000 in
theorem w_X9_addString {Y : Mem} {g0 : Nat} {w1 : Nat} (C : Cx p s m [.ref (ad 5 g0 0), .ref (ad 21 w1 0)].toArray meth c cX9_addString 3 wsX9_addString RX9 N0 T D gr ad) (hrt : meth.sig.returnType = none) (hG : ∀ q ∈ [(5, g0)], q ∈ gr) {res : Mem} (h : X9_addString Y g0 w1 = some res) : FW p l e (Rm 4) s m [.ref (ad 5 g0 0), .ref (ad 21 w1 0)].toArray below meth c 3 N0 T D gr ad 0 0 (MQ below (va_Qv (fun Y1 => Y1 = res) (WB T D gr ad) (fun q => N0 ≤ q)) [.ref (ad 5 g0 0), .ref (ad 21 w1 0)].toArray s 0 0 (fun q => N0 ≤ q)) Y 0 [(0, .ref (ad 5 g0 0)), (1, .ref (ad 21 w1 0))] [] := by
  unfold X9_addString at h
  refine fw_iconst C dX9_addString_0 (v := 0) rfl ?_
  refine fw_istore_n C dX9_addString_1 rfl (by decide) (L' := [(2, .int 0), (0, .ref (ad 5 g0 0)), (1, .ref (ad 21 w1 0))]) rfl ?_
  exact w_X9_addString_b2 C hrt hG   _ _ _ h
end
set_option maxRecDepth 100000 in
set_option maxHeartbeats 4000000 in
theorem c_X9_addString {l : Launch} {N0 : Nat} {T : Nat → ClassId} {D : va_G} {gr : List (Nat × Nat)} {ad : Nat → Nat → Nat → Nat} {Y : Mem} {g0 : Nat} {w1 : Nat} {res : Mem} (hG : ∀ q ∈ [(5, g0)], q ∈ gr) (h : X9_addString Y g0 w1 = some res) : CV l yX9_addString wsX9_addString (Rm 4) N0 T D gr ad Y [.ref (ad 5 g0 0), .ref (ad 21 w1 0)] (fun Y1 => Y1 = res) :=
  fw_body (by decide +kernel) rfl (Nat.le_of_ble_eq_true rfl) (fun p e s m below meth c C hrt => w_X9_addString C hrt hG  h)
theorem ly_X12_isReady_12 : ∀ w ∈ u_ws RX12 TX12 12, w ∈ wsX12_isReady := by decide +kernel
theorem fl_X12_isReady_7 : Cond.fieldLink RX12 7 "RecipeSchedulerLaw$Kitchen" "status" "[I" ∈ wsX12_isReady := by decide +kernel
theorem fl_X12_isReady_22 : Cond.fieldLink RX12 22 "RecipeSchedulerLaw$Kitchen" "x" "LRecipeScheduler;" ∈ wsX12_isReady := by decide +kernel
section
variable {p : Program} {l : Launch} {e : Env} {s : State} {m : MethodId} {below : List Frame} {meth : Method} {c : Code} {N0 : Nat} {T : Nat → ClassId} {D : va_G} {gr : List (Nat × Nat)} {ad : Nat → Nat → Nat → Nat}
set_option maxRecDepth 100000 in
set_option maxHeartbeats 4000000 in
theorem w_X12_isReady_b55 {a1 : Int32} (C : Cx p s m [.ref (ad 12 0 0), .int a1].toArray meth c cX12_isReady 4 wsX12_isReady RX12 N0 T D gr ad) (hrt : meth.sig.returnType = (some .boolean)) (hG : ∀ q ∈ ([(12, 0), (0, 0), (1, 0)] ++ allG), q ∈ gr) (hl : l.stackTraces = false) (hX : ∀ x ∈ c.exceptionTable.toList, False) {res : (Nat × Mem) ⊕ (Int32 × Mem)} {k24 : Mem → Int32 → Option ((Nat × Mem) ⊕ (Int32 × Mem))} (hk24 : ∀ (Y : Mem) (l2 : Int32), k24 Y l2 = some res → FW p l e (Rx 8 50) s m [.ref (ad 12 0 0), .int a1].toArray below meth c 4 N0 T D gr ad 50 300 (vx_MQ below (va_Qi (fun r Y1 => Sum.inr (r, Y1) = res) (WB T D gr ad) (fun q => N0 ≤ q)) (vx_X (fun u => Sum.inl u = res) (XB T D gr ad) (fun q => N0 ≤ q)) [.ref (ad 12 0 0), .int a1].toArray s 50 300 (fun q => N0 ≤ q)) Y 24 [(2, .int l2), (0, .ref (ad 12 0 0)), (1, .int a1)] []) (Y : Mem) (l2 : Int32) (h : X12_isReady_b55 a1 k24 Y l2 = some res) : FW p l e (Rx 8 50) s m [.ref (ad 12 0 0), .int a1].toArray below meth c 4 N0 T D gr ad 50 300 (vx_MQ below (va_Qi (fun r Y1 => Sum.inr (r, Y1) = res) (WB T D gr ad) (fun q => N0 ≤ q)) (vx_X (fun u => Sum.inl u = res) (XB T D gr ad) (fun q => N0 ≤ q)) [.ref (ad 12 0 0), .int a1].toArray s 50 300 (fun q => N0 ≤ q)) Y 55 [(2, .int l2), (0, .ref (ad 12 0 0)), (1, .int a1)] [] := by
  unfold X12_isReady_b55 at h
  refine fw_iinc C dX12_isReady_55 (kk := 0) (v := l2 + 1) rfl rfl (by decide) (L' := [(2, .int (l2 + 1)), (0, .ref (ad 12 0 0)), (1, .int a1)]) rfl ?_
  refine fw_goto C dX12_isReady_58 (tgt := 24) rfl ?_
  exact hk24 _ _ h
set_option maxRecDepth 100000 in
set_option maxHeartbeats 4000000 in
theorem w_X12_isReady_b24 {a1 : Int32} (C : Cx p s m [.ref (ad 12 0 0), .int a1].toArray meth c cX12_isReady 4 wsX12_isReady RX12 N0 T D gr ad) (hrt : meth.sig.returnType = (some .boolean)) (hG : ∀ q ∈ ([(12, 0), (0, 0), (1, 0)] ++ allG), q ∈ gr) (hl : l.stackTraces = false) (hX : ∀ x ∈ c.exceptionTable.toList, False) {res : (Nat × Mem) ⊕ (Int32 × Mem)} : ∀ (n : Nat) (Y : Mem) (l2 : Int32), X12_isReady_b24 a1  n Y l2 = some res → FW p l e (Rx 8 50) s m [.ref (ad 12 0 0), .int a1].toArray below meth c 4 N0 T D gr ad 50 300 (vx_MQ below (va_Qi (fun r Y1 => Sum.inr (r, Y1) = res) (WB T D gr ad) (fun q => N0 ≤ q)) (vx_X (fun u => Sum.inl u = res) (XB T D gr ad) (fun q => N0 ≤ q)) [.ref (ad 12 0 0), .int a1].toArray s 50 300 (fun q => N0 ≤ q)) Y 24 [(2, .int l2), (0, .ref (ad 12 0 0)), (1, .int a1)] [] := by
  intro n
  induction n with
  | zero =>
    intro Y l2 h
    unfold X12_isReady_b24 at h
    cases h
  | succ n ih =>
    intro Y l2 h
    unfold X12_isReady_b24 at h
    refine fw_iload_n C dX12_isReady_24 rfl 0 rfl ?_
    refine fw_iconst C dX12_isReady_25 (v := 4) rfl ?_
    refine fw_icmp_ge C dX12_isReady_26 (tgt := 61) rfl (fun c4 => ?_) (fun c4 => ?_)
    · have h := ite_t c4 h
      refine fw_iconst C dX12_isReady_61 (v := 1) rfl ?_
      refine fw_xr (Nat.le_of_ble_eq_true rfl) (Nat.le_of_ble_eq_true rfl) ?_
      exact fw_zret C hrt (by decide) Y (Option.some.inj h) (fun t ht => ht) dX12_isReady_62
    · have h := ite_f c4 h
      refine fw_aload_n C dX12_isReady_29 rfl 1 rfl ?_
      refine fw_get C (ci := 12) (Cn := RX12) (Tc := TX12) (N := 12) (j := 0) ly_X12_isReady_12 rfl (hG _ (List.mem_of_getElem? (i := 0) rfl)) (of12_0 _) (ce12 T ad _ _) (by decide) (cx_ts C _ fl_X12_isReady_22) (fun _ h => h) (v := .ref (ad 0 0 0)) rfl dX12_isReady_30 ?_
      refine fw_iload_n C dX12_isReady_33 rfl 2 rfl ?_
      refine fw_iload_n C dX12_isReady_34 rfl 0 rfl ?_
      rcases bdxi_some h with ⟨x9, q6, e10⟩ | ⟨r5, Y8, q6, h⟩
      · exact fw_callXVi_l C (ci := 11) (Cn := RX11) (Tc := TX11) (N := 11) (As := [.int a1, .int l2]) (c_X11_predecessor hl (gac (hG _ (List.mem_of_getElem? (i := 2) rfl)) (gac (hG _ (List.mem_of_getElem? (i := 1) rfl)) (fun q hq => hG q (List.mem_append_right _ hq)))) q6) (cwV 2 (cx_ts C) gX12_isReady_X11_predecessor rfl rfl rfl (by decide +kernel) ⟨Nat.le_of_ble_eq_true rfl, Nat.le_of_ble_eq_true rfl⟩) rfl (hG _ (List.mem_of_getElem? (i := 1) rfl)) (of0_0 _) (ce0 T ad _ _) rfl (st := []) rfl (Nat.le_of_ble_eq_true rfl) ⟨Nat.le_of_ble_eq_true rfl, Nat.le_of_ble_eq_true rfl⟩ dX12_isReady_35 hX e10 (Nat.le_of_ble_eq_true rfl) (Nat.le_of_ble_eq_true rfl)
      refine fw_callXVi_r C (ci := 11) (Cn := RX11) (Tc := TX11) (N := 11) (As := [.int a1, .int l2]) (c_X11_predecessor hl (gac (hG _ (List.mem_of_getElem? (i := 2) rfl)) (gac (hG _ (List.mem_of_getElem? (i := 1) rfl)) (fun q hq => hG q (List.mem_append_right _ hq)))) q6) (cwV 2 (cx_ts C) gX12_isReady_X11_predecessor rfl rfl rfl (by decide +kernel) ⟨Nat.le_of_ble_eq_true rfl, Nat.le_of_ble_eq_true rfl⟩) rfl (hG _ (List.mem_of_getElem? (i := 1) rfl)) (of0_0 _) (ce0 T ad _ _) rfl (st := []) rfl (Nat.le_of_ble_eq_true rfl) ⟨Nat.le_of_ble_eq_true rfl, Nat.le_of_ble_eq_true rfl⟩ dX12_isReady_35 ?_
      refine fw_istore_n C dX12_isReady_38 rfl (by decide) (L' := [(3, .int r5), (2, .int l2), (0, .ref (ad 12 0 0)), (1, .int a1)]) rfl ?_
      refine fw_iload_n C dX12_isReady_39 rfl 0 rfl ?_
      refine fw_if_lt C dX12_isReady_40 (tgt := 55) rfl (fun c11 => ?_) (fun c11 => ?_)
      · have h := ite_t c11 h
        refine fw_sub [1, 2, 3] (L' := [(2, .int l2), (0, .ref (ad 12 0 0)), (1, .int a1)]) rfl ?_
        exact w_X12_isReady_b55 C hrt hG  hl hX ih _ _ h
      · have h := ite_f c11 h
        refine fw_aload_n C dX12_isReady_43 rfl 2 rfl ?_
        refine fw_get C (ci := 12) (Cn := RX12) (Tc := TX12) (N := 12) (j := 3) ly_X12_isReady_12 rfl (hG _ (List.mem_of_getElem? (i := 0) rfl)) (of12_0 _) (ce12 T ad _ _) (by decide) (cx_ts C _ fl_X12_isReady_7) (fun _ h => h) (v := .ref (ad 12 0 1)) rfl dX12_isReady_44 ?_
        refine fw_iload_n C dX12_isReady_47 rfl 0 rfl ?_
        obtain ⟨b12, h⟩ := gd_some h
        refine fw_iald2 C (hG _ (List.mem_of_getElem? (i := 0) rfl)) (of12_1 _) (ca12_1 T ad _ _) b12 (Nat.le_of_ble_eq_true rfl) dX12_isReady_48 ?_
        refine fw_iconst C dX12_isReady_49 (v := 2) rfl ?_
        refine fw_icmp_eq C dX12_isReady_50 (tgt := 55) rfl (fun c13 => ?_) (fun c13 => ?_)
        · have h := ite_t c13 h
          refine fw_sub [1, 2, 3] (L' := [(2, .int l2), (0, .ref (ad 12 0 0)), (1, .int a1)]) rfl ?_
          exact w_X12_isReady_b55 C hrt hG  hl hX ih _ _ h
        · have h := ite_f c13 h
          refine fw_iconst C dX12_isReady_53 (v := 0) rfl ?_
          refine fw_xr (Nat.le_of_ble_eq_true rfl) (Nat.le_of_ble_eq_true rfl) ?_
          exact fw_zret C hrt (by decide) Y8 (Option.some.inj h) (fun t ht => ht) dX12_isReady_54
set_option maxRecDepth 100000 in
set_option maxHeartbeats 4000000 in
theorem w_X12_isReady {Y : Mem} {a1 : Int32} (C : Cx p s m [.ref (ad 12 0 0), .int a1].toArray meth c cX12_isReady 4 wsX12_isReady RX12 N0 T D gr ad) (hrt : meth.sig.returnType = (some .boolean)) (hG : ∀ q ∈ ([(12, 0), (0, 0), (1, 0)] ++ allG), q ∈ gr) (hl : l.stackTraces = false) (hX : ∀ x ∈ c.exceptionTable.toList, False) {res : (Nat × Mem) ⊕ (Int32 × Mem)} (h : X12_isReady Y a1 = some res) : FW p l e (Rx 8 50) s m [.ref (ad 12 0 0), .int a1].toArray below meth c 4 N0 T D gr ad 0 0 (vx_MQ below (va_Qi (fun r Y1 => Sum.inr (r, Y1) = res) (WB T D gr ad) (fun q => N0 ≤ q)) (vx_X (fun u => Sum.inl u = res) (XB T D gr ad) (fun q => N0 ≤ q)) [.ref (ad 12 0 0), .int a1].toArray s 50 300 (fun q => N0 ≤ q)) Y 0 [(0, .ref (ad 12 0 0)), (1, .int a1)] [] := by
  unfold X12_isReady at h
  refine fw_aload_n C dX12_isReady_0 rfl 0 rfl ?_
  refine fw_get C (ci := 12) (Cn := RX12) (Tc := TX12) (N := 12) (j := 3) ly_X12_isReady_12 rfl (hG _ (List.mem_of_getElem? (i := 0) rfl)) (of12_0 _) (ce12 T ad _ _) (by decide) (cx_ts C _ fl_X12_isReady_7) (fun _ h => h) (v := .ref (ad 12 0 1)) rfl dX12_isReady_1 ?_
  refine fw_iload_n C dX12_isReady_4 rfl 1 rfl ?_
  obtain ⟨b1, h⟩ := gd_some h
  refine fw_iald2 C (hG _ (List.mem_of_getElem? (i := 0) rfl)) (of12_1 _) (ca12_1 T ad _ _) b1 (Nat.le_of_ble_eq_true rfl) dX12_isReady_5 ?_
  refine fw_iconst C dX12_isReady_6 (v := 1) rfl ?_
  refine fw_icmp_eq C dX12_isReady_7 (tgt := 20) rfl (fun c2 => ?_) (fun c2 => ?_)
  · have h := ite_t c2 h
    refine fw_iconst C dX12_isReady_20 (v := 0) rfl ?_
    refine fw_xr (Nat.le_of_ble_eq_true rfl) (Nat.le_of_ble_eq_true rfl) ?_
    exact fw_zret C hrt (by decide) Y (Option.some.inj h) (fun t ht => ht) dX12_isReady_21
  · have h := ite_f c2 h
    refine fw_aload_n C dX12_isReady_10 rfl 0 rfl ?_
    refine fw_get C (ci := 12) (Cn := RX12) (Tc := TX12) (N := 12) (j := 3) ly_X12_isReady_12 rfl (hG _ (List.mem_of_getElem? (i := 0) rfl)) (of12_0 _) (ce12 T ad _ _) (by decide) (cx_ts C _ fl_X12_isReady_7) (fun _ h => h) (v := .ref (ad 12 0 1)) rfl dX12_isReady_11 ?_
    refine fw_iload_n C dX12_isReady_14 rfl 1 rfl ?_
    refine fw_iald2 C (hG _ (List.mem_of_getElem? (i := 0) rfl)) (of12_1 _) (ca12_1 T ad _ _) b1 (Nat.le_of_ble_eq_true rfl) dX12_isReady_15 ?_
    refine fw_iconst C dX12_isReady_16 (v := 2) rfl ?_
    refine fw_icmp_ne C dX12_isReady_17 (tgt := 22) rfl (fun c3 => ?_) (fun c3 => ?_)
    · have h := ite_f c3 h
      refine fw_iconst C dX12_isReady_22 (v := 0) rfl ?_
      refine fw_istore_n C dX12_isReady_23 rfl (by decide) (L' := [(2, .int 0), (0, .ref (ad 12 0 0)), (1, .int a1)]) rfl ?_
      exact w_X12_isReady_b24 C hrt hG  hl hX  _ _ _ h
    · have h := ite_t c3 h
      refine fw_iconst C dX12_isReady_20 (v := 0) rfl ?_
      refine fw_xr (Nat.le_of_ble_eq_true rfl) (Nat.le_of_ble_eq_true rfl) ?_
      exact fw_zret C hrt (by decide) Y (Option.some.inj h) (fun t ht => ht) dX12_isReady_21
end
set_option maxRecDepth 100000 in
set_option maxHeartbeats 4000000 in
theorem c_X12_isReady {l : Launch} {N0 : Nat} {T : Nat → ClassId} {D : va_G} {gr : List (Nat × Nat)} {ad : Nat → Nat → Nat → Nat} {Y : Mem} {a1 : Int32} {res : (Nat × Mem) ⊕ (Int32 × Mem)} (hl : l.stackTraces = false) (hG : ∀ q ∈ ([(12, 0), (0, 0), (1, 0)] ++ allG), q ∈ gr) (h : X12_isReady Y a1 = some res) : CXi l yX12_isReady wsX12_isReady (Rx 8 50) N0 T D gr ad Y [.ref (ad 12 0 0), .int a1] 50 res :=
  fw_xbody (by decide +kernel) rfl (Nat.le_of_ble_eq_true rfl) (fun p e s m below meth c C hrt hX => w_X12_isReady C hrt hG hl hX h)
