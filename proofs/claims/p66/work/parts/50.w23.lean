section
variable {p : Program} {l : Launch} {e : Env} {s : State} {m : MethodId} {below : List Frame} {meth : Method} {c : Code} {N0 : Nat} {T : Nat → ClassId} {D : va_G} {gr : List (Nat × Nat)} {ad : Nat → Nat → Nat → Nat}
set_option maxRecDepth 100000 in
set_option maxHeartbeats 4000000 in
theorem w_L_act_b180 {a1 : Int32} (C : Cx p s m [.ref (ad 0 0 0), .int a1].toArray meth c cL_act 3 wsL_act RL N0 T D gr ad) (hrt : meth.sig.returnType = none) (hG : ∀ q ∈ ([(1, 0), (0, 0), (2, 0), (9, 0)] ++ allG), q ∈ gr) (hl : l.stackTraces = false) (hX : ∀ x ∈ c.exceptionTable.toList, False) {res : (Nat × Mem) ⊕ Mem} (Y : Mem) (s0 : Int32) (h : L_act_b180 a1  Y s0 = some res) : FW p l e (Rx 8 4) s m [.ref (ad 0 0 0), .int a1].toArray below meth c 3 N0 T D gr ad 0 0 (vx_MQ below (va_Qv (fun Y1 => Sum.inr Y1 = res) (WB T D gr ad) (fun q => N0 ≤ q)) (vx_X (fun u => Sum.inl u = res) (XB T D gr ad) (fun q => N0 ≤ q)) [.ref (ad 0 0 0), .int a1].toArray s 4 24 (fun q => N0 ≤ q)) Y 180 [] [.int s0, .ref (ad 0 0 0)] := by
  unfold L_act_b180 at h
  rcases bdxi_some h with ⟨x67, q64, e68⟩ | ⟨r63, Y66, q64, h⟩
  · exact fw_callXVi_l C (ci := 11) (Cn := RX11) (Tc := TX11) (N := 11) (As := [.int s0]) (c_X11_addSalt hl (gac (hG _ (List.mem_of_getElem? (i := 1) rfl)) (gac (hG _ (List.mem_of_getElem? (i := 0) rfl)) (gac (hG _ (List.mem_of_getElem? (i := 2) rfl)) (gac (hG _ (List.mem_of_getElem? (i := 3) rfl)) (fun q hq => hG q (List.mem_append_right _ hq)))))) q64) (cwV 1 (cx_ts C) gL_act_X11_addSalt rfl rfl rfl (by decide +kernel) ⟨Nat.le_of_ble_eq_true rfl, Nat.le_of_ble_eq_true rfl⟩) rfl (hG _ (List.mem_of_getElem? (i := 1) rfl)) (of0_0 _) (ce0 T ad _ _) rfl (st := []) rfl (Nat.le_of_ble_eq_true rfl) ⟨Nat.le_of_ble_eq_true rfl, Nat.le_of_ble_eq_true rfl⟩ dL_act_180 hX e68 (Nat.le_of_ble_eq_true rfl) (Nat.le_of_ble_eq_true rfl)
  refine fw_callXVi_r C (ci := 11) (Cn := RX11) (Tc := TX11) (N := 11) (As := [.int s0]) (c_X11_addSalt hl (gac (hG _ (List.mem_of_getElem? (i := 1) rfl)) (gac (hG _ (List.mem_of_getElem? (i := 0) rfl)) (gac (hG _ (List.mem_of_getElem? (i := 2) rfl)) (gac (hG _ (List.mem_of_getElem? (i := 3) rfl)) (fun q hq => hG q (List.mem_append_right _ hq)))))) q64) (cwV 1 (cx_ts C) gL_act_X11_addSalt rfl rfl rfl (by decide +kernel) ⟨Nat.le_of_ble_eq_true rfl, Nat.le_of_ble_eq_true rfl⟩) rfl (hG _ (List.mem_of_getElem? (i := 1) rfl)) (of0_0 _) (ce0 T ad _ _) rfl (st := []) rfl (Nat.le_of_ble_eq_true rfl) ⟨Nat.le_of_ble_eq_true rfl, Nat.le_of_ble_eq_true rfl⟩ dL_act_180 ?_
  refine fw_pop C dL_act_183 rfl ?_
  refine fw_goto C dL_act_184 (tgt := 202) rfl ?_
  refine fw_xr (Nat.le_of_ble_eq_true rfl) (Nat.le_of_ble_eq_true rfl) ?_
  exact fw_vret C hrt Y66 (Option.some.inj h) (fun t ht => ht) dL_act_202
set_option maxRecDepth 100000 in
set_option maxHeartbeats 4000000 in
theorem w_L_act {Y : Mem} {a1 : Int32} (C : Cx p s m [.ref (ad 0 0 0), .int a1].toArray meth c cL_act 3 wsL_act RL N0 T D gr ad) (hrt : meth.sig.returnType = none) (hG : ∀ q ∈ ([(1, 0), (0, 0), (2, 0), (9, 0)] ++ allG), q ∈ gr) (hl : l.stackTraces = false) (hX : ∀ x ∈ c.exceptionTable.toList, False) {res : (Nat × Mem) ⊕ Mem} (h : L_act Y a1 = some res) : FW p l e (Rx 8 4) s m [.ref (ad 0 0 0), .int a1].toArray below meth c 3 N0 T D gr ad 0 0 (vx_MQ below (va_Qv (fun Y1 => Sum.inr Y1 = res) (WB T D gr ad) (fun q => N0 ≤ q)) (vx_X (fun u => Sum.inl u = res) (XB T D gr ad) (fun q => N0 ≤ q)) [.ref (ad 0 0 0), .int a1].toArray s 4 24 (fun q => N0 ≤ q)) Y 0 [(0, .ref (ad 0 0 0)), (1, .int a1)] [] := by
  unfold L_act at h
  refine fw_iload_n C dL_act_0 rfl 1 rfl ?_
  refine fw_bipush C dL_act_1 (v := 16) rfl ?_
  refine fw_idiv C dL_act_3 (by decide) ?_
  refine fw_aload_n C dL_act_4 rfl 0 rfl ?_
  obtain ⟨r1, q2, h⟩ := bd1_some h
  refine fw_callVi C (ci := 11) (Cn := RX11) (Tc := TX11) (N := 11) (As := []) (c_X11_stepCount (gac (hG _ (List.mem_of_getElem? (i := 1) rfl)) (gac (hG _ (List.mem_of_getElem? (i := 0) rfl)) (fun q hq => hG q (List.mem_append_right _ hq)))) q2) (cwV 0 (cx_ts C) gL_act_X11_stepCount rfl rfl rfl (by decide +kernel) ⟨Nat.le_of_ble_eq_true rfl, Nat.le_of_ble_eq_true rfl⟩) rfl (hG _ (List.mem_of_getElem? (i := 1) rfl)) (of0_0 _) (ce0 T ad _ _) rfl (st := [.int (a1 / 16)]) rfl (Nat.le_of_ble_eq_true rfl) ⟨Nat.le_of_ble_eq_true rfl, Nat.le_of_ble_eq_true rfl⟩ dL_act_5 (pp2 ?_)
  obtain ⟨b3, h⟩ := gd_some h
  refine fw_irem C dL_act_8 (of_decide_eq_true b3) ?_
  obtain ⟨v4, e5, h⟩ := lt_some h
  refine fw_top (v' := .int v4) (by rw [e5]) ?_
  refine fw_istore_n C dL_act_9 rfl (by decide) (L' := [(2, .int v4), (0, .ref (ad 0 0 0)), (1, .int a1)]) rfl ?_
  refine fw_iload_n C dL_act_10 rfl 2 rfl ?_
  refine fw_bipush C dL_act_11 (v := 8) rfl ?_
  refine fw_irem C dL_act_13 (by decide) ?_
  by_cases c6 : (a1 - a1 / 8 * 8) = 0
  · have h := ite_t c6 h
    refine fw_tableIn C dL_act_14 (by rw [c6]; decide +kernel) (by rw [c6]; decide +kernel) (off := 38) (by rw [c6]; decide +kernel) (tgt := 52) rfl ?_
    refine fw_aload_n C dL_act_52 rfl 1 rfl ?_
    refine fw_iload_n C dL_act_53 rfl 0 rfl ?_
    rcases bdxi_some h with ⟨x11, q8, e12⟩ | ⟨r7, Y10, q8, h⟩
    · exact fw_callXVi_l C (ci := 11) (Cn := RX11) (Tc := TX11) (N := 11) (As := [.int v4]) (c_X11_status hl (gac (hG _ (List.mem_of_getElem? (i := 0) rfl)) (gac (hG _ (List.mem_of_getElem? (i := 1) rfl)) (gac (hG _ (List.mem_of_getElem? (i := 2) rfl)) (fun q hq => hG q (List.mem_append_right _ hq))))) q8) (cwV 1 (cx_ts C) gL_act_X11_status rfl rfl rfl (by decide +kernel) ⟨Nat.le_of_ble_eq_true rfl, Nat.le_of_ble_eq_true rfl⟩) rfl (hG _ (List.mem_of_getElem? (i := 1) rfl)) (of0_0 _) (ce0 T ad _ _) rfl (st := []) rfl (Nat.le_of_ble_eq_true rfl) ⟨Nat.le_of_ble_eq_true rfl, Nat.le_of_ble_eq_true rfl⟩ dL_act_54 hX e12 (Nat.le_of_ble_eq_true rfl) (Nat.le_of_ble_eq_true rfl)
    refine fw_callXVi_r C (ci := 11) (Cn := RX11) (Tc := TX11) (N := 11) (As := [.int v4]) (c_X11_status hl (gac (hG _ (List.mem_of_getElem? (i := 0) rfl)) (gac (hG _ (List.mem_of_getElem? (i := 1) rfl)) (gac (hG _ (List.mem_of_getElem? (i := 2) rfl)) (fun q hq => hG q (List.mem_append_right _ hq))))) q8) (cwV 1 (cx_ts C) gL_act_X11_status rfl rfl rfl (by decide +kernel) ⟨Nat.le_of_ble_eq_true rfl, Nat.le_of_ble_eq_true rfl⟩) rfl (hG _ (List.mem_of_getElem? (i := 1) rfl)) (of0_0 _) (ce0 T ad _ _) rfl (st := []) rfl (Nat.le_of_ble_eq_true rfl) ⟨Nat.le_of_ble_eq_true rfl, Nat.le_of_ble_eq_true rfl⟩ dL_act_54 ?_
    refine fw_iconst C dL_act_57 (v := 1) rfl ?_
    refine fw_icmp_ne C dL_act_58 (tgt := 202) rfl (fun c13 => ?_) (fun c13 => ?_)
    · have h := ite_f c13 h
      refine fw_xr (Nat.le_of_ble_eq_true rfl) (Nat.le_of_ble_eq_true rfl) ?_
      exact fw_vret C hrt Y10 (Option.some.inj h) (fun t ht => ht) dL_act_202
    · have h := ite_t c13 h
      refine fw_aload_n C dL_act_61 rfl 1 rfl ?_
      refine fw_iload_n C dL_act_62 rfl 0 rfl ?_
      rcases bdxi_some h with ⟨x18, q15, e19⟩ | ⟨r14, Y17, q15, h⟩
      · exact fw_callXVi_l C (ci := 11) (Cn := RX11) (Tc := TX11) (N := 11) (As := [.int v4]) (c_X11_stop hl (gac (hG _ (List.mem_of_getElem? (i := 0) rfl)) (gac (hG _ (List.mem_of_getElem? (i := 1) rfl)) (gac (hG _ (List.mem_of_getElem? (i := 2) rfl)) (gac (hG _ (List.mem_of_getElem? (i := 3) rfl)) (fun q hq => hG q (List.mem_append_right _ hq)))))) q15) (cwV 1 (cx_ts C) gL_act_X11_stop rfl rfl rfl (by decide +kernel) ⟨Nat.le_of_ble_eq_true rfl, Nat.le_of_ble_eq_true rfl⟩) rfl (hG _ (List.mem_of_getElem? (i := 1) rfl)) (of0_0 _) (ce0 T ad _ _) rfl (st := []) rfl (Nat.le_of_ble_eq_true rfl) ⟨Nat.le_of_ble_eq_true rfl, Nat.le_of_ble_eq_true rfl⟩ dL_act_63 hX e19 (Nat.le_of_ble_eq_true rfl) (Nat.le_of_ble_eq_true rfl)
      refine fw_callXVi_r C (ci := 11) (Cn := RX11) (Tc := TX11) (N := 11) (As := [.int v4]) (c_X11_stop hl (gac (hG _ (List.mem_of_getElem? (i := 0) rfl)) (gac (hG _ (List.mem_of_getElem? (i := 1) rfl)) (gac (hG _ (List.mem_of_getElem? (i := 2) rfl)) (gac (hG _ (List.mem_of_getElem? (i := 3) rfl)) (fun q hq => hG q (List.mem_append_right _ hq)))))) q15) (cwV 1 (cx_ts C) gL_act_X11_stop rfl rfl rfl (by decide +kernel) ⟨Nat.le_of_ble_eq_true rfl, Nat.le_of_ble_eq_true rfl⟩) rfl (hG _ (List.mem_of_getElem? (i := 1) rfl)) (of0_0 _) (ce0 T ad _ _) rfl (st := []) rfl (Nat.le_of_ble_eq_true rfl) ⟨Nat.le_of_ble_eq_true rfl, Nat.le_of_ble_eq_true rfl⟩ dL_act_63 ?_
      refine fw_pop C dL_act_66 rfl ?_
      refine fw_goto C dL_act_67 (tgt := 202) rfl ?_
      refine fw_xr (Nat.le_of_ble_eq_true rfl) (Nat.le_of_ble_eq_true rfl) ?_
      exact fw_vret C hrt Y17 (Option.some.inj h) (fun t ht => ht) dL_act_202
  · have h := ite_f c6 h
    by_cases c20 : (a1 - a1 / 8 * 8) = 1
    · have h := ite_t c20 h
      refine fw_tableIn C dL_act_14 (by rw [c20]; decide +kernel) (by rw [c20]; decide +kernel) (off := 56) (by rw [c20]; decide +kernel) (tgt := 70) rfl ?_
      refine fw_aload_n C dL_act_70 rfl 1 rfl ?_
      refine fw_iload_n C dL_act_71 rfl 0 rfl ?_
      rcases bdxi_some h with ⟨x25, q22, e26⟩ | ⟨r21, Y24, q22, h⟩
      · exact fw_callXVi_l C (ci := 11) (Cn := RX11) (Tc := TX11) (N := 11) (As := [.int v4]) (c_X11_status hl (gac (hG _ (List.mem_of_getElem? (i := 0) rfl)) (gac (hG _ (List.mem_of_getElem? (i := 1) rfl)) (gac (hG _ (List.mem_of_getElem? (i := 2) rfl)) (fun q hq => hG q (List.mem_append_right _ hq))))) q22) (cwV 1 (cx_ts C) gL_act_X11_status rfl rfl rfl (by decide +kernel) ⟨Nat.le_of_ble_eq_true rfl, Nat.le_of_ble_eq_true rfl⟩) rfl (hG _ (List.mem_of_getElem? (i := 1) rfl)) (of0_0 _) (ce0 T ad _ _) rfl (st := []) rfl (Nat.le_of_ble_eq_true rfl) ⟨Nat.le_of_ble_eq_true rfl, Nat.le_of_ble_eq_true rfl⟩ dL_act_72 hX e26 (Nat.le_of_ble_eq_true rfl) (Nat.le_of_ble_eq_true rfl)
      refine fw_callXVi_r C (ci := 11) (Cn := RX11) (Tc := TX11) (N := 11) (As := [.int v4]) (c_X11_status hl (gac (hG _ (List.mem_of_getElem? (i := 0) rfl)) (gac (hG _ (List.mem_of_getElem? (i := 1) rfl)) (gac (hG _ (List.mem_of_getElem? (i := 2) rfl)) (fun q hq => hG q (List.mem_append_right _ hq))))) q22) (cwV 1 (cx_ts C) gL_act_X11_status rfl rfl rfl (by decide +kernel) ⟨Nat.le_of_ble_eq_true rfl, Nat.le_of_ble_eq_true rfl⟩) rfl (hG _ (List.mem_of_getElem? (i := 1) rfl)) (of0_0 _) (ce0 T ad _ _) rfl (st := []) rfl (Nat.le_of_ble_eq_true rfl) ⟨Nat.le_of_ble_eq_true rfl, Nat.le_of_ble_eq_true rfl⟩ dL_act_72 ?_
      refine fw_iconst C dL_act_75 (v := 2) rfl ?_
      refine fw_icmp_ne C dL_act_76 (tgt := 202) rfl (fun c27 => ?_) (fun c27 => ?_)
      · have h := ite_f c27 h
        refine fw_xr (Nat.le_of_ble_eq_true rfl) (Nat.le_of_ble_eq_true rfl) ?_
        exact fw_vret C hrt Y24 (Option.some.inj h) (fun t ht => ht) dL_act_202
      · have h := ite_t c27 h
        refine fw_aload_n C dL_act_79 rfl 1 rfl ?_
        refine fw_iload_n C dL_act_80 rfl 0 rfl ?_
        rcases bdxi_some h with ⟨x32, q29, e33⟩ | ⟨r28, Y31, q29, h⟩
        · exact fw_callXVi_l C (ci := 11) (Cn := RX11) (Tc := TX11) (N := 11) (As := [.int v4]) (c_X11_isTakenUp hl (gac (hG _ (List.mem_of_getElem? (i := 0) rfl)) (gac (hG _ (List.mem_of_getElem? (i := 1) rfl)) (gac (hG _ (List.mem_of_getElem? (i := 2) rfl)) (fun q hq => hG q (List.mem_append_right _ hq))))) q29) (cwV 1 (cx_ts C) gL_act_X11_isTakenUp rfl rfl rfl (by decide +kernel) ⟨Nat.le_of_ble_eq_true rfl, Nat.le_of_ble_eq_true rfl⟩) rfl (hG _ (List.mem_of_getElem? (i := 1) rfl)) (of0_0 _) (ce0 T ad _ _) rfl (st := []) rfl (Nat.le_of_ble_eq_true rfl) ⟨Nat.le_of_ble_eq_true rfl, Nat.le_of_ble_eq_true rfl⟩ dL_act_81 hX e33 (Nat.le_of_ble_eq_true rfl) (Nat.le_of_ble_eq_true rfl)
        refine fw_callXVi_r C (ci := 11) (Cn := RX11) (Tc := TX11) (N := 11) (As := [.int v4]) (c_X11_isTakenUp hl (gac (hG _ (List.mem_of_getElem? (i := 0) rfl)) (gac (hG _ (List.mem_of_getElem? (i := 1) rfl)) (gac (hG _ (List.mem_of_getElem? (i := 2) rfl)) (fun q hq => hG q (List.mem_append_right _ hq))))) q29) (cwV 1 (cx_ts C) gL_act_X11_isTakenUp rfl rfl rfl (by decide +kernel) ⟨Nat.le_of_ble_eq_true rfl, Nat.le_of_ble_eq_true rfl⟩) rfl (hG _ (List.mem_of_getElem? (i := 1) rfl)) (of0_0 _) (ce0 T ad _ _) rfl (st := []) rfl (Nat.le_of_ble_eq_true rfl) ⟨Nat.le_of_ble_eq_true rfl, Nat.le_of_ble_eq_true rfl⟩ dL_act_81 ?_
        refine fw_if_ne C dL_act_84 (tgt := 202) rfl (fun c34 => ?_) (fun c34 => ?_)
        · have h := ite_f c34 h
          refine fw_xr (Nat.le_of_ble_eq_true rfl) (Nat.le_of_ble_eq_true rfl) ?_
          exact fw_vret C hrt Y31 (Option.some.inj h) (fun t ht => ht) dL_act_202
        · have h := ite_t c34 h
          refine fw_aload_n C dL_act_87 rfl 1 rfl ?_
          obtain ⟨r35, q36, h⟩ := bd1_some h
          refine fw_callVi C (ci := 11) (Cn := RX11) (Tc := TX11) (N := 11) (As := []) (c_X11_whyNotServed (gac (hG _ (List.mem_of_getElem? (i := 1) rfl)) (gac (hG _ (List.mem_of_getElem? (i := 2) rfl)) (gac (hG _ (List.mem_of_getElem? (i := 0) rfl)) (fun q hq => hG q (List.mem_append_right _ hq))))) q36) (cwV 0 (cx_ts C) gL_act_X11_whyNotServed rfl rfl rfl (by decide +kernel) ⟨Nat.le_of_ble_eq_true rfl, Nat.le_of_ble_eq_true rfl⟩) rfl (hG _ (List.mem_of_getElem? (i := 1) rfl)) (of0_0 _) (ce0 T ad _ _) rfl (st := []) rfl (Nat.le_of_ble_eq_true rfl) ⟨Nat.le_of_ble_eq_true rfl, Nat.le_of_ble_eq_true rfl⟩ dL_act_88 (pp2 ?_)
          refine fw_iconst C dL_act_91 (v := 1) rfl ?_
          refine fw_icmp_eq C dL_act_92 (tgt := 202) rfl (fun c37 => ?_) (fun c37 => ?_)
          · have h := ite_t c37 h
            refine fw_xr (Nat.le_of_ble_eq_true rfl) (Nat.le_of_ble_eq_true rfl) ?_
            exact fw_vret C hrt Y31 (Option.some.inj h) (fun t ht => ht) dL_act_202
          · have h := ite_f c37 h
            refine fw_aload_n C dL_act_95 rfl 1 rfl ?_
            refine fw_iload_n C dL_act_96 rfl 0 rfl ?_
            rcases bdxi_some h with ⟨x42, q39, e43⟩ | ⟨r38, Y41, q39, h⟩
            · exact fw_callXVi_l C (ci := 11) (Cn := RX11) (Tc := TX11) (N := 11) (As := [.int v4]) (c_X11_redo hl (gac (hG _ (List.mem_of_getElem? (i := 0) rfl)) (gac (hG _ (List.mem_of_getElem? (i := 1) rfl)) (gac (hG _ (List.mem_of_getElem? (i := 2) rfl)) (gac (hG _ (List.mem_of_getElem? (i := 3) rfl)) (fun q hq => hG q (List.mem_append_right _ hq)))))) q39) (cwV 1 (cx_ts C) gL_act_X11_redo rfl rfl rfl (by decide +kernel) ⟨Nat.le_of_ble_eq_true rfl, Nat.le_of_ble_eq_true rfl⟩) rfl (hG _ (List.mem_of_getElem? (i := 1) rfl)) (of0_0 _) (ce0 T ad _ _) rfl (st := []) rfl (Nat.le_of_ble_eq_true rfl) ⟨Nat.le_of_ble_eq_true rfl, Nat.le_of_ble_eq_true rfl⟩ dL_act_97 hX e43 (Nat.le_of_ble_eq_true rfl) (Nat.le_of_ble_eq_true rfl)
            refine fw_callXVi_r C (ci := 11) (Cn := RX11) (Tc := TX11) (N := 11) (As := [.int v4]) (c_X11_redo hl (gac (hG _ (List.mem_of_getElem? (i := 0) rfl)) (gac (hG _ (List.mem_of_getElem? (i := 1) rfl)) (gac (hG _ (List.mem_of_getElem? (i := 2) rfl)) (gac (hG _ (List.mem_of_getElem? (i := 3) rfl)) (fun q hq => hG q (List.mem_append_right _ hq)))))) q39) (cwV 1 (cx_ts C) gL_act_X11_redo rfl rfl rfl (by decide +kernel) ⟨Nat.le_of_ble_eq_true rfl, Nat.le_of_ble_eq_true rfl⟩) rfl (hG _ (List.mem_of_getElem? (i := 1) rfl)) (of0_0 _) (ce0 T ad _ _) rfl (st := []) rfl (Nat.le_of_ble_eq_true rfl) ⟨Nat.le_of_ble_eq_true rfl, Nat.le_of_ble_eq_true rfl⟩ dL_act_97 ?_
            refine fw_pop C dL_act_100 rfl ?_
            refine fw_goto C dL_act_101 (tgt := 202) rfl ?_
            refine fw_xr (Nat.le_of_ble_eq_true rfl) (Nat.le_of_ble_eq_true rfl) ?_
            exact fw_vret C hrt Y41 (Option.some.inj h) (fun t ht => ht) dL_act_202
    · have h := ite_f c20 h
      by_cases c44 : (a1 - a1 / 8 * 8) = 2
      · have h := ite_t c44 h
        refine fw_tableIn C dL_act_14 (by rw [c44]; decide +kernel) (by rw [c44]; decide +kernel) (off := 90) (by rw [c44]; decide +kernel) (tgt := 104) rfl ?_
        refine fw_aload_n C dL_act_104 rfl 1 rfl ?_
        refine fw_iconst C dL_act_105 (v := 1) rfl ?_
        refine fw_iload_n C dL_act_106 rfl 2 rfl ?_
        refine fw_sipush C dL_act_107 (v := 256) rfl ?_
        refine fw_idiv C dL_act_110 (by decide) ?_
        refine fw_iconst C dL_act_111 (v := 4) rfl ?_
        refine fw_irem C dL_act_112 (by decide) ?_
        refine fw_iadd C dL_act_113 ?_
        rcases bdxi_some h with ⟨x49, q46, e50⟩ | ⟨r45, Y48, q46, h⟩
        · exact fw_callXVi_l C (ci := 11) (Cn := RX11) (Tc := TX11) (N := 11) (As := [.int (1 + ((a1 / 256) - (a1 / 256) / 4 * 4))]) (c_X11_setCooks hl (gac (hG _ (List.mem_of_getElem? (i := 1) rfl)) (gac (hG _ (List.mem_of_getElem? (i := 0) rfl)) (gac (hG _ (List.mem_of_getElem? (i := 2) rfl)) (gac (hG _ (List.mem_of_getElem? (i := 3) rfl)) (fun q hq => hG q (List.mem_append_right _ hq)))))) q46) (cwV 1 (cx_ts C) gL_act_X11_setCooks rfl rfl rfl (by decide +kernel) ⟨Nat.le_of_ble_eq_true rfl, Nat.le_of_ble_eq_true rfl⟩) rfl (hG _ (List.mem_of_getElem? (i := 1) rfl)) (of0_0 _) (ce0 T ad _ _) rfl (st := []) rfl (Nat.le_of_ble_eq_true rfl) ⟨Nat.le_of_ble_eq_true rfl, Nat.le_of_ble_eq_true rfl⟩ dL_act_114 hX e50 (Nat.le_of_ble_eq_true rfl) (Nat.le_of_ble_eq_true rfl)
        refine fw_callXVi_r C (ci := 11) (Cn := RX11) (Tc := TX11) (N := 11) (As := [.int (1 + ((a1 / 256) - (a1 / 256) / 4 * 4))]) (c_X11_setCooks hl (gac (hG _ (List.mem_of_getElem? (i := 1) rfl)) (gac (hG _ (List.mem_of_getElem? (i := 0) rfl)) (gac (hG _ (List.mem_of_getElem? (i := 2) rfl)) (gac (hG _ (List.mem_of_getElem? (i := 3) rfl)) (fun q hq => hG q (List.mem_append_right _ hq)))))) q46) (cwV 1 (cx_ts C) gL_act_X11_setCooks rfl rfl rfl (by decide +kernel) ⟨Nat.le_of_ble_eq_true rfl, Nat.le_of_ble_eq_true rfl⟩) rfl (hG _ (List.mem_of_getElem? (i := 1) rfl)) (of0_0 _) (ce0 T ad _ _) rfl (st := []) rfl (Nat.le_of_ble_eq_true rfl) ⟨Nat.le_of_ble_eq_true rfl, Nat.le_of_ble_eq_true rfl⟩ dL_act_114 ?_
        refine fw_pop C dL_act_117 rfl ?_
        refine fw_goto C dL_act_118 (tgt := 202) rfl ?_
        refine fw_xr (Nat.le_of_ble_eq_true rfl) (Nat.le_of_ble_eq_true rfl) ?_
        exact fw_vret C hrt Y48 (Option.some.inj h) (fun t ht => ht) dL_act_202
      · have h := ite_f c44 h
        by_cases c51 : (a1 - a1 / 8 * 8) = 3
        · have h := ite_t c51 h
          refine fw_tableIn C dL_act_14 (by rw [c51]; decide +kernel) (by rw [c51]; decide +kernel) (off := 107) (by rw [c51]; decide +kernel) (tgt := 121) rfl ?_
          refine fw_aload_n C dL_act_121 rfl 1 rfl ?_
          refine fw_iload_n C dL_act_122 rfl 0 rfl ?_
          refine fw_iconst C dL_act_123 (v := 1) rfl ?_
          refine fw_iload_n C dL_act_124 rfl 2 rfl ?_
          refine fw_sipush C dL_act_125 (v := 256) rfl ?_
          refine fw_idiv C dL_act_128 (by decide) ?_
          refine fw_bipush C dL_act_129 (v := 8) rfl ?_
          refine fw_irem C dL_act_131 (by decide) ?_
          refine fw_iadd C dL_act_132 ?_
          rcases bdxi_some h with ⟨x56, q53, e57⟩ | ⟨r52, Y55, q53, h⟩
          · exact fw_callXVi_l C (ci := 11) (Cn := RX11) (Tc := TX11) (N := 11) (As := [.int v4, .int (1 + ((a1 / 256) - (a1 / 256) / 8 * 8))]) (c_X11_setDuration hl (gac (hG _ (List.mem_of_getElem? (i := 0) rfl)) (gac (hG _ (List.mem_of_getElem? (i := 1) rfl)) (gac (hG _ (List.mem_of_getElem? (i := 2) rfl)) (gac (hG _ (List.mem_of_getElem? (i := 3) rfl)) (fun q hq => hG q (List.mem_append_right _ hq)))))) q53) (cwV 2 (cx_ts C) gL_act_X11_setDuration rfl rfl rfl (by decide +kernel) ⟨Nat.le_of_ble_eq_true rfl, Nat.le_of_ble_eq_true rfl⟩) rfl (hG _ (List.mem_of_getElem? (i := 1) rfl)) (of0_0 _) (ce0 T ad _ _) rfl (st := []) rfl (Nat.le_of_ble_eq_true rfl) ⟨Nat.le_of_ble_eq_true rfl, Nat.le_of_ble_eq_true rfl⟩ dL_act_133 hX e57 (Nat.le_of_ble_eq_true rfl) (Nat.le_of_ble_eq_true rfl)
          refine fw_callXVi_r C (ci := 11) (Cn := RX11) (Tc := TX11) (N := 11) (As := [.int v4, .int (1 + ((a1 / 256) - (a1 / 256) / 8 * 8))]) (c_X11_setDuration hl (gac (hG _ (List.mem_of_getElem? (i := 0) rfl)) (gac (hG _ (List.mem_of_getElem? (i := 1) rfl)) (gac (hG _ (List.mem_of_getElem? (i := 2) rfl)) (gac (hG _ (List.mem_of_getElem? (i := 3) rfl)) (fun q hq => hG q (List.mem_append_right _ hq)))))) q53) (cwV 2 (cx_ts C) gL_act_X11_setDuration rfl rfl rfl (by decide +kernel) ⟨Nat.le_of_ble_eq_true rfl, Nat.le_of_ble_eq_true rfl⟩) rfl (hG _ (List.mem_of_getElem? (i := 1) rfl)) (of0_0 _) (ce0 T ad _ _) rfl (st := []) rfl (Nat.le_of_ble_eq_true rfl) ⟨Nat.le_of_ble_eq_true rfl, Nat.le_of_ble_eq_true rfl⟩ dL_act_133 ?_
          refine fw_pop C dL_act_136 rfl ?_
          refine fw_goto C dL_act_137 (tgt := 202) rfl ?_
          refine fw_xr (Nat.le_of_ble_eq_true rfl) (Nat.le_of_ble_eq_true rfl) ?_
          exact fw_vret C hrt Y55 (Option.some.inj h) (fun t ht => ht) dL_act_202
        · have h := ite_f c51 h
          by_cases c58 : (a1 - a1 / 8 * 8) = 4
          · have h := ite_t c58 h
            refine fw_tableIn C dL_act_14 (by rw [c58]; decide +kernel) (by rw [c58]; decide +kernel) (off := 126) (by rw [c58]; decide +kernel) (tgt := 140) rfl ?_
            refine fw_aload_n C dL_act_140 rfl 1 rfl ?_
            obtain ⟨r59, q60, h⟩ := bd1_some h
            refine fw_callVi C (ci := 11) (Cn := RX11) (Tc := TX11) (N := 11) (As := []) (c_X11_whyNotServed (gac (hG _ (List.mem_of_getElem? (i := 1) rfl)) (gac (hG _ (List.mem_of_getElem? (i := 2) rfl)) (gac (hG _ (List.mem_of_getElem? (i := 0) rfl)) (fun q hq => hG q (List.mem_append_right _ hq))))) q60) (cwV 0 (cx_ts C) gL_act_X11_whyNotServed rfl rfl rfl (by decide +kernel) ⟨Nat.le_of_ble_eq_true rfl, Nat.le_of_ble_eq_true rfl⟩) rfl (hG _ (List.mem_of_getElem? (i := 1) rfl)) (of0_0 _) (ce0 T ad _ _) rfl (st := []) rfl (Nat.le_of_ble_eq_true rfl) ⟨Nat.le_of_ble_eq_true rfl, Nat.le_of_ble_eq_true rfl⟩ dL_act_141 (pp2 ?_)
            refine fw_iconst C dL_act_144 (v := 1) rfl ?_
            refine fw_icmp_eq C dL_act_145 (tgt := 202) rfl (fun c61 => ?_) (fun c61 => ?_)
            · have h := ite_t c61 h
              refine fw_xr (Nat.le_of_ble_eq_true rfl) (Nat.le_of_ble_eq_true rfl) ?_
              exact fw_vret C hrt Y (Option.some.inj h) (fun t ht => ht) dL_act_202
            · have h := ite_f c61 h
              refine fw_aload_n C dL_act_148 rfl 1 rfl ?_
              refine fw_iload_n C dL_act_149 rfl 2 rfl ?_
              refine fw_sipush C dL_act_150 (v := 256) rfl ?_
              refine fw_idiv C dL_act_153 (by decide) ?_
              refine fw_iconst C dL_act_154 (v := 2) rfl ?_
              refine fw_irem C dL_act_155 (by decide) ?_
              refine fw_if_ne C dL_act_156 (tgt := 171) rfl (fun c62 => ?_) (fun c62 => ?_)
              · have h := ite_f c62 h
                refine fw_iconst C dL_act_171 (v := (-1)) rfl ?_
                refine fw_iload_n C dL_act_172 rfl 2 rfl ?_
                refine fw_sipush C dL_act_173 (v := 512) rfl ?_
                refine fw_idiv C dL_act_176 (by decide) ?_
                refine fw_iconst C dL_act_177 (v := 5) rfl ?_
                refine fw_irem C dL_act_178 (by decide) ?_
                refine fw_isub C dL_act_179 ?_
                refine fw_sub [] (L' := []) rfl ?_
                exact w_L_act_b180 C hrt hG  hl hX  _ _ h
              · have h := ite_t c62 h
                refine fw_iconst C dL_act_159 (v := 1) rfl ?_
                refine fw_iload_n C dL_act_160 rfl 2 rfl ?_
                refine fw_sipush C dL_act_161 (v := 512) rfl ?_
                refine fw_idiv C dL_act_164 (by decide) ?_
                refine fw_iconst C dL_act_165 (v := 5) rfl ?_
                refine fw_irem C dL_act_166 (by decide) ?_
                refine fw_iadd C dL_act_167 ?_
                refine fw_goto C dL_act_168 (tgt := 180) rfl ?_
                refine fw_sub [] (L' := []) rfl ?_
                exact w_L_act_b180 C hrt hG  hl hX  _ _ h
          · have h := ite_f c58 h
            by_cases c69 : (a1 - a1 / 8 * 8) = 5
            · have h := ite_t c69 h
              refine fw_tableIn C dL_act_14 (by rw [c69]; decide +kernel) (by rw [c69]; decide +kernel) (off := 173) (by rw [c69]; decide +kernel) (tgt := 187) rfl ?_
              refine fw_aload_n C dL_act_187 rfl 1 rfl ?_
              obtain ⟨r70, q71, h⟩ := bd1_some h
              refine fw_callVi C (ci := 11) (Cn := RX11) (Tc := TX11) (N := 11) (As := []) (c_X11_whyNotServed (gac (hG _ (List.mem_of_getElem? (i := 1) rfl)) (gac (hG _ (List.mem_of_getElem? (i := 2) rfl)) (gac (hG _ (List.mem_of_getElem? (i := 0) rfl)) (fun q hq => hG q (List.mem_append_right _ hq))))) q71) (cwV 0 (cx_ts C) gL_act_X11_whyNotServed rfl rfl rfl (by decide +kernel) ⟨Nat.le_of_ble_eq_true rfl, Nat.le_of_ble_eq_true rfl⟩) rfl (hG _ (List.mem_of_getElem? (i := 1) rfl)) (of0_0 _) (ce0 T ad _ _) rfl (st := []) rfl (Nat.le_of_ble_eq_true rfl) ⟨Nat.le_of_ble_eq_true rfl, Nat.le_of_ble_eq_true rfl⟩ dL_act_188 (pp2 ?_)
              refine fw_if_ne C dL_act_191 (tgt := 202) rfl (fun c72 => ?_) (fun c72 => ?_)
              · have h := ite_f c72 h
                refine fw_xr (Nat.le_of_ble_eq_true rfl) (Nat.le_of_ble_eq_true rfl) ?_
                exact fw_vret C hrt Y (Option.some.inj h) (fun t ht => ht) dL_act_202
              · have h := ite_t c72 h
                refine fw_aload_n C dL_act_194 rfl 1 rfl ?_
                rcases bdxi_some h with ⟨x77, q74, e78⟩ | ⟨r73, Y76, q74, h⟩
                · exact fw_callXVi_l C (ci := 11) (Cn := RX11) (Tc := TX11) (N := 11) (As := []) (c_X11_serve hl (gac (hG _ (List.mem_of_getElem? (i := 1) rfl)) (gac (hG _ (List.mem_of_getElem? (i := 2) rfl)) (gac (hG _ (List.mem_of_getElem? (i := 0) rfl)) (gac (hG _ (List.mem_of_getElem? (i := 3) rfl)) (fun q hq => hG q (List.mem_append_right _ hq)))))) q74) (cwV 0 (cx_ts C) gL_act_X11_serve rfl rfl rfl (by decide +kernel) ⟨Nat.le_of_ble_eq_true rfl, Nat.le_of_ble_eq_true rfl⟩) rfl (hG _ (List.mem_of_getElem? (i := 1) rfl)) (of0_0 _) (ce0 T ad _ _) rfl (st := []) rfl (Nat.le_of_ble_eq_true rfl) ⟨Nat.le_of_ble_eq_true rfl, Nat.le_of_ble_eq_true rfl⟩ dL_act_195 hX e78 (Nat.le_of_ble_eq_true rfl) (Nat.le_of_ble_eq_true rfl)
                refine fw_callXVi_r C (ci := 11) (Cn := RX11) (Tc := TX11) (N := 11) (As := []) (c_X11_serve hl (gac (hG _ (List.mem_of_getElem? (i := 1) rfl)) (gac (hG _ (List.mem_of_getElem? (i := 2) rfl)) (gac (hG _ (List.mem_of_getElem? (i := 0) rfl)) (gac (hG _ (List.mem_of_getElem? (i := 3) rfl)) (fun q hq => hG q (List.mem_append_right _ hq)))))) q74) (cwV 0 (cx_ts C) gL_act_X11_serve rfl rfl rfl (by decide +kernel) ⟨Nat.le_of_ble_eq_true rfl, Nat.le_of_ble_eq_true rfl⟩) rfl (hG _ (List.mem_of_getElem? (i := 1) rfl)) (of0_0 _) (ce0 T ad _ _) rfl (st := []) rfl (Nat.le_of_ble_eq_true rfl) ⟨Nat.le_of_ble_eq_true rfl, Nat.le_of_ble_eq_true rfl⟩ dL_act_195 ?_
                refine fw_pop C dL_act_198 rfl ?_
                refine fw_goto C dL_act_199 (tgt := 202) rfl ?_
                refine fw_xr (Nat.le_of_ble_eq_true rfl) (Nat.le_of_ble_eq_true rfl) ?_
                exact fw_vret C hrt Y76 (Option.some.inj h) (fun t ht => ht) dL_act_202
            · have h := ite_f c69 h
              have c6 : ¬ ((a1 - a1 / 8 * 8)).toInt = 0 := fun q => c6 (Int32.toInt_inj.mp (by rw [q]; decide +kernel))
              have c20 : ¬ ((a1 - a1 / 8 * 8)).toInt = 1 := fun q => c20 (Int32.toInt_inj.mp (by rw [q]; decide +kernel))
              have c44 : ¬ ((a1 - a1 / 8 * 8)).toInt = 2 := fun q => c44 (Int32.toInt_inj.mp (by rw [q]; decide +kernel))
              have c51 : ¬ ((a1 - a1 / 8 * 8)).toInt = 3 := fun q => c51 (Int32.toInt_inj.mp (by rw [q]; decide +kernel))
              have c58 : ¬ ((a1 - a1 / 8 * 8)).toInt = 4 := fun q => c58 (Int32.toInt_inj.mp (by rw [q]; decide +kernel))
              have c69 : ¬ ((a1 - a1 / 8 * 8)).toInt = 5 := fun q => c69 (Int32.toInt_inj.mp (by rw [q]; decide +kernel))
              refine fw_tableOut C dL_act_14 (by omega) (tgt := 202) rfl ?_
              refine fw_xr (Nat.le_of_ble_eq_true rfl) (Nat.le_of_ble_eq_true rfl) ?_
              exact fw_vret C hrt Y (Option.some.inj h) (fun t ht => ht) dL_act_202
end
set_option maxRecDepth 100000 in
set_option maxHeartbeats 4000000 in
theorem c_L_act {l : Launch} {N0 : Nat} {T : Nat → ClassId} {D : va_G} {gr : List (Nat × Nat)} {ad : Nat → Nat → Nat → Nat} {Y : Mem} {a1 : Int32} {res : (Nat × Mem) ⊕ Mem} (hl : l.stackTraces = false) (hG : ∀ q ∈ ([(1, 0), (0, 0), (2, 0), (9, 0)] ++ allG), q ∈ gr) (h : L_act Y a1 = some res) : CXv l yL_act wsL_act (Rx 8 4) N0 T D gr ad Y [.ref (ad 0 0 0), .int a1] 4 res :=
  fw_xbody (by decide +kernel) rfl (Nat.le_of_ble_eq_true rfl) (fun p e s m below meth c C hrt hX => w_L_act C hrt hG hl hX h)
