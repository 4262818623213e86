section
variable {p : Program} {l : Launch} {e : Env} {s : State} {m : MethodId} {below : List Frame} {meth : Method} {c : Code} {N0 : Nat} {T : Nat → ClassId} {D : va_G} {gr : List (Nat × Nat)} {ad : Nat → Nat → Nat → Nat}
set_option maxRecDepth 100000 in
set_option maxHeartbeats 4000000 in
theorem w_L_act_b180 {a1 : Int32} (C : Cx p s m [.ref (ad 0 0 0), .int a1].toArray meth c cL_act 3 wsL_act RL N0 T D gr ad) (hrt : meth.sig.returnType = none) (hG : ∀ q ∈ ([(1, 0), (0, 0), (2, 0), (9, 0)] ++ allG), q ∈ gr) {res : Mem} (Y : Mem) (s0 : Int32) (h : L_act_b180 a1  Y s0 = some res) : FW p l e (Rm 4) s m [.ref (ad 0 0 0), .int a1].toArray below meth c 3 N0 T D gr ad 0 0 (MQ below (va_Qv (fun Y1 => Y1 = res) (WB T D gr ad) (fun q => N0 ≤ q)) [.ref (ad 0 0 0), .int a1].toArray s 0 0 (fun q => N0 ≤ q)) Y 180 [] [.int s0, .ref (ad 0 0 0)] := by
  unfold L_act_b180 at h
  obtain ⟨r39, Y41, q40, h⟩ := bd2_some h
  refine fw_callVi C (ci := 11) (Cn := RX11) (Tc := TX11) (N := 11) (As := [.int s0]) (c_X11_addSalt (gac (hG _ (List.mem_of_getElem? (i := 1) rfl)) (gac (hG _ (List.mem_of_getElem? (i := 0) rfl)) (gac (hG _ (List.mem_of_getElem? (i := 2) rfl)) (gac (hG _ (List.mem_of_getElem? (i := 3) rfl)) (fun q hq => hG q (List.mem_append_right _ hq)))))) q40) (cwV 1 (cx_ts C) gL_act_X11_addSalt rfl rfl rfl (by decide +kernel) ⟨Nat.le_of_ble_eq_true rfl, Nat.le_of_ble_eq_true rfl⟩) rfl (hG _ (List.mem_of_getElem? (i := 1) rfl)) (of0_0 _) (ce0 T ad _ _) rfl (st := []) rfl (Nat.le_of_ble_eq_true rfl) ⟨Nat.le_refl 0, Nat.le_refl 0⟩ dL_act_180 (ppw ?_)
  refine fw_pop C dL_act_183 rfl ?_
  refine fw_goto C dL_act_184 (tgt := 202) rfl ?_
  exact fw_vret C hrt Y41 (Option.some.inj h) (fun t ht => ht) dL_act_202
set_option maxRecDepth 100000 in
set_option maxHeartbeats 4000000 in
theorem w_L_act {Y : Mem} {a1 : Int32} (C : Cx p s m [.ref (ad 0 0 0), .int a1].toArray meth c cL_act 3 wsL_act RL N0 T D gr ad) (hrt : meth.sig.returnType = none) (hG : ∀ q ∈ ([(1, 0), (0, 0), (2, 0), (9, 0)] ++ allG), q ∈ gr) {res : Mem} (h : L_act Y a1 = some res) : FW p l e (Rm 4) s m [.ref (ad 0 0 0), .int a1].toArray below meth c 3 N0 T D gr ad 0 0 (MQ below (va_Qv (fun Y1 => Y1 = res) (WB T D gr ad) (fun q => N0 ≤ q)) [.ref (ad 0 0 0), .int a1].toArray s 0 0 (fun q => N0 ≤ q)) Y 0 [(0, .ref (ad 0 0 0)), (1, .int a1)] [] := by
  unfold L_act at h
  refine fw_iload_n C dL_act_0 rfl 1 rfl ?_
  refine fw_bipush C dL_act_1 (v := 16) rfl ?_
  refine fw_idiv C dL_act_3 (by decide) ?_
  refine fw_aload_n C dL_act_4 rfl 0 rfl ?_
  obtain ⟨r1, q2, h⟩ := bd1_some h
  refine fw_callVi C (ci := 11) (Cn := RX11) (Tc := TX11) (N := 11) (As := []) (c_X11_stepCount (gac (hG _ (List.mem_of_getElem? (i := 1) rfl)) (gac (hG _ (List.mem_of_getElem? (i := 0) rfl)) (fun q hq => hG q (List.mem_append_right _ hq)))) q2) (cwV 0 (cx_ts C) gL_act_X11_stepCount rfl rfl rfl (by decide +kernel) ⟨Nat.le_of_ble_eq_true rfl, Nat.le_of_ble_eq_true rfl⟩) rfl (hG _ (List.mem_of_getElem? (i := 1) rfl)) (of0_0 _) (ce0 T ad _ _) rfl (st := [.int (a1 / 16)]) rfl (Nat.le_of_ble_eq_true rfl) ⟨Nat.le_refl 0, Nat.le_refl 0⟩ dL_act_5 (pp2 ?_)
  obtain ⟨b3, h⟩ := gd_some h
  refine fw_irem C dL_act_8 (of_decide_eq_true b3) ?_
  obtain ⟨v4, e5, h⟩ := lt_some h
  refine fw_top (v' := .int v4) (by rw [e5]) ?_
  refine fw_istore_n C dL_act_9 rfl (by decide) (L' := [(2, .int v4), (0, .ref (ad 0 0 0)), (1, .int a1)]) rfl ?_
  refine fw_iload_n C dL_act_10 rfl 2 rfl ?_
  refine fw_bipush C dL_act_11 (v := 8) rfl ?_
  refine fw_irem C dL_act_13 (by decide) ?_
  by_cases c6 : (a1 - a1 / 8 * 8) = 0
  · have h := ite_t c6 h
    refine fw_tableIn C dL_act_14 (by rw [c6]; decide +kernel) (by rw [c6]; decide +kernel) (off := 38) (by rw [c6]; decide +kernel) (tgt := 52) rfl ?_
    refine fw_aload_n C dL_act_52 rfl 1 rfl ?_
    refine fw_iload_n C dL_act_53 rfl 0 rfl ?_
    obtain ⟨r7, q8, h⟩ := bd1_some h
    refine fw_callVi C (ci := 11) (Cn := RX11) (Tc := TX11) (N := 11) (As := [.int v4]) (c_X11_status (gac (hG _ (List.mem_of_getElem? (i := 0) rfl)) (gac (hG _ (List.mem_of_getElem? (i := 1) rfl)) (gac (hG _ (List.mem_of_getElem? (i := 2) rfl)) (fun q hq => hG q (List.mem_append_right _ hq))))) q8) (cwV 1 (cx_ts C) gL_act_X11_status rfl rfl rfl (by decide +kernel) ⟨Nat.le_of_ble_eq_true rfl, Nat.le_of_ble_eq_true rfl⟩) rfl (hG _ (List.mem_of_getElem? (i := 1) rfl)) (of0_0 _) (ce0 T ad _ _) rfl (st := []) rfl (Nat.le_of_ble_eq_true rfl) ⟨Nat.le_refl 0, Nat.le_refl 0⟩ dL_act_54 (pp2 ?_)
    refine fw_iconst C dL_act_57 (v := 1) rfl ?_
    refine fw_icmp_ne C dL_act_58 (tgt := 202) rfl (fun c9 => ?_) (fun c9 => ?_)
    · have h := ite_f c9 h
      exact fw_vret C hrt Y (Option.some.inj h) (fun t ht => ht) dL_act_202
    · have h := ite_t c9 h
      refine fw_aload_n C dL_act_61 rfl 1 rfl ?_
      refine fw_iload_n C dL_act_62 rfl 0 rfl ?_
      obtain ⟨r10, Y12, q11, h⟩ := bd2_some h
      refine fw_callVi C (ci := 11) (Cn := RX11) (Tc := TX11) (N := 11) (As := [.int v4]) (c_X11_stop (gac (hG _ (List.mem_of_getElem? (i := 0) rfl)) (gac (hG _ (List.mem_of_getElem? (i := 1) rfl)) (gac (hG _ (List.mem_of_getElem? (i := 2) rfl)) (gac (hG _ (List.mem_of_getElem? (i := 3) rfl)) (fun q hq => hG q (List.mem_append_right _ hq)))))) q11) (cwV 1 (cx_ts C) gL_act_X11_stop rfl rfl rfl (by decide +kernel) ⟨Nat.le_of_ble_eq_true rfl, Nat.le_of_ble_eq_true rfl⟩) rfl (hG _ (List.mem_of_getElem? (i := 1) rfl)) (of0_0 _) (ce0 T ad _ _) rfl (st := []) rfl (Nat.le_of_ble_eq_true rfl) ⟨Nat.le_refl 0, Nat.le_refl 0⟩ dL_act_63 (ppw ?_)
      refine fw_pop C dL_act_66 rfl ?_
      refine fw_goto C dL_act_67 (tgt := 202) rfl ?_
      exact fw_vret C hrt Y12 (Option.some.inj h) (fun t ht => ht) dL_act_202
  · have h := ite_f c6 h
    by_cases c13 : (a1 - a1 / 8 * 8) = 1
    · have h := ite_t c13 h
      refine fw_tableIn C dL_act_14 (by rw [c13]; decide +kernel) (by rw [c13]; decide +kernel) (off := 56) (by rw [c13]; decide +kernel) (tgt := 70) rfl ?_
      refine fw_aload_n C dL_act_70 rfl 1 rfl ?_
      refine fw_iload_n C dL_act_71 rfl 0 rfl ?_
      obtain ⟨r14, q15, h⟩ := bd1_some h
      refine fw_callVi C (ci := 11) (Cn := RX11) (Tc := TX11) (N := 11) (As := [.int v4]) (c_X11_status (gac (hG _ (List.mem_of_getElem? (i := 0) rfl)) (gac (hG _ (List.mem_of_getElem? (i := 1) rfl)) (gac (hG _ (List.mem_of_getElem? (i := 2) rfl)) (fun q hq => hG q (List.mem_append_right _ hq))))) q15) (cwV 1 (cx_ts C) gL_act_X11_status rfl rfl rfl (by decide +kernel) ⟨Nat.le_of_ble_eq_true rfl, Nat.le_of_ble_eq_true rfl⟩) rfl (hG _ (List.mem_of_getElem? (i := 1) rfl)) (of0_0 _) (ce0 T ad _ _) rfl (st := []) rfl (Nat.le_of_ble_eq_true rfl) ⟨Nat.le_refl 0, Nat.le_refl 0⟩ dL_act_72 (pp2 ?_)
      refine fw_iconst C dL_act_75 (v := 2) rfl ?_
      refine fw_icmp_ne C dL_act_76 (tgt := 202) rfl (fun c16 => ?_) (fun c16 => ?_)
      · have h := ite_f c16 h
        exact fw_vret C hrt Y (Option.some.inj h) (fun t ht => ht) dL_act_202
      · have h := ite_t c16 h
        refine fw_aload_n C dL_act_79 rfl 1 rfl ?_
        refine fw_iload_n C dL_act_80 rfl 0 rfl ?_
        obtain ⟨r17, q18, h⟩ := bd1_some h
        refine fw_callVi C (ci := 11) (Cn := RX11) (Tc := TX11) (N := 11) (As := [.int v4]) (c_X11_isTakenUp (gac (hG _ (List.mem_of_getElem? (i := 0) rfl)) (gac (hG _ (List.mem_of_getElem? (i := 1) rfl)) (gac (hG _ (List.mem_of_getElem? (i := 2) rfl)) (fun q hq => hG q (List.mem_append_right _ hq))))) q18) (cwV 1 (cx_ts C) gL_act_X11_isTakenUp rfl rfl rfl (by decide +kernel) ⟨Nat.le_of_ble_eq_true rfl, Nat.le_of_ble_eq_true rfl⟩) rfl (hG _ (List.mem_of_getElem? (i := 1) rfl)) (of0_0 _) (ce0 T ad _ _) rfl (st := []) rfl (Nat.le_of_ble_eq_true rfl) ⟨Nat.le_refl 0, Nat.le_refl 0⟩ dL_act_81 (pp2 ?_)
        refine fw_if_ne C dL_act_84 (tgt := 202) rfl (fun c19 => ?_) (fun c19 => ?_)
        · have h := ite_f c19 h
          exact fw_vret C hrt Y (Option.some.inj h) (fun t ht => ht) dL_act_202
        · have h := ite_t c19 h
          refine fw_aload_n C dL_act_87 rfl 1 rfl ?_
          obtain ⟨r20, q21, h⟩ := bd1_some h
          refine fw_callVi C (ci := 11) (Cn := RX11) (Tc := TX11) (N := 11) (As := []) (c_X11_whyNotServed (gac (hG _ (List.mem_of_getElem? (i := 1) rfl)) (gac (hG _ (List.mem_of_getElem? (i := 2) rfl)) (gac (hG _ (List.mem_of_getElem? (i := 0) rfl)) (fun q hq => hG q (List.mem_append_right _ hq))))) q21) (cwV 0 (cx_ts C) gL_act_X11_whyNotServed rfl rfl rfl (by decide +kernel) ⟨Nat.le_of_ble_eq_true rfl, Nat.le_of_ble_eq_true rfl⟩) rfl (hG _ (List.mem_of_getElem? (i := 1) rfl)) (of0_0 _) (ce0 T ad _ _) rfl (st := []) rfl (Nat.le_of_ble_eq_true rfl) ⟨Nat.le_refl 0, Nat.le_refl 0⟩ dL_act_88 (pp2 ?_)
          refine fw_iconst C dL_act_91 (v := 1) rfl ?_
          refine fw_icmp_eq C dL_act_92 (tgt := 202) rfl (fun c22 => ?_) (fun c22 => ?_)
          · have h := ite_t c22 h
            exact fw_vret C hrt Y (Option.some.inj h) (fun t ht => ht) dL_act_202
          · have h := ite_f c22 h
            refine fw_aload_n C dL_act_95 rfl 1 rfl ?_
            refine fw_iload_n C dL_act_96 rfl 0 rfl ?_
            obtain ⟨r23, Y25, q24, h⟩ := bd2_some h
            refine fw_callVi C (ci := 11) (Cn := RX11) (Tc := TX11) (N := 11) (As := [.int v4]) (c_X11_redo (gac (hG _ (List.mem_of_getElem? (i := 0) rfl)) (gac (hG _ (List.mem_of_getElem? (i := 1) rfl)) (gac (hG _ (List.mem_of_getElem? (i := 2) rfl)) (gac (hG _ (List.mem_of_getElem? (i := 3) rfl)) (fun q hq => hG q (List.mem_append_right _ hq)))))) q24) (cwV 1 (cx_ts C) gL_act_X11_redo rfl rfl rfl (by decide +kernel) ⟨Nat.le_of_ble_eq_true rfl, Nat.le_of_ble_eq_true rfl⟩) rfl (hG _ (List.mem_of_getElem? (i := 1) rfl)) (of0_0 _) (ce0 T ad _ _) rfl (st := []) rfl (Nat.le_of_ble_eq_true rfl) ⟨Nat.le_refl 0, Nat.le_refl 0⟩ dL_act_97 (ppw ?_)
            refine fw_pop C dL_act_100 rfl ?_
            refine fw_goto C dL_act_101 (tgt := 202) rfl ?_
            exact fw_vret C hrt Y25 (Option.some.inj h) (fun t ht => ht) dL_act_202
    · have h := ite_f c13 h
      by_cases c26 : (a1 - a1 / 8 * 8) = 2
      · have h := ite_t c26 h
        refine fw_tableIn C dL_act_14 (by rw [c26]; decide +kernel) (by rw [c26]; decide +kernel) (off := 90) (by rw [c26]; decide +kernel) (tgt := 104) rfl ?_
        refine fw_aload_n C dL_act_104 rfl 1 rfl ?_
        refine fw_iconst C dL_act_105 (v := 1) rfl ?_
        refine fw_iload_n C dL_act_106 rfl 2 rfl ?_
        refine fw_sipush C dL_act_107 (v := 256) rfl ?_
        refine fw_idiv C dL_act_110 (by decide) ?_
        refine fw_iconst C dL_act_111 (v := 4) rfl ?_
        refine fw_irem C dL_act_112 (by decide) ?_
        refine fw_iadd C dL_act_113 ?_
        obtain ⟨r27, Y29, q28, h⟩ := bd2_some h
        refine fw_callVi C (ci := 11) (Cn := RX11) (Tc := TX11) (N := 11) (As := [.int (1 + ((a1 / 256) - (a1 / 256) / 4 * 4))]) (c_X11_setCooks (gac (hG _ (List.mem_of_getElem? (i := 1) rfl)) (gac (hG _ (List.mem_of_getElem? (i := 0) rfl)) (gac (hG _ (List.mem_of_getElem? (i := 2) rfl)) (gac (hG _ (List.mem_of_getElem? (i := 3) rfl)) (fun q hq => hG q (List.mem_append_right _ hq)))))) q28) (cwV 1 (cx_ts C) gL_act_X11_setCooks rfl rfl rfl (by decide +kernel) ⟨Nat.le_of_ble_eq_true rfl, Nat.le_of_ble_eq_true rfl⟩) rfl (hG _ (List.mem_of_getElem? (i := 1) rfl)) (of0_0 _) (ce0 T ad _ _) rfl (st := []) rfl (Nat.le_of_ble_eq_true rfl) ⟨Nat.le_refl 0, Nat.le_refl 0⟩ dL_act_114 (ppw ?_)
        refine fw_pop C dL_act_117 rfl ?_
        refine fw_goto C dL_act_118 (tgt := 202) rfl ?_
        exact fw_vret C hrt Y29 (Option.some.inj h) (fun t ht => ht) dL_act_202
      · have h := ite_f c26 h
        by_cases c30 : (a1 - a1 / 8 * 8) = 3
        · have h := ite_t c30 h
          refine fw_tableIn C dL_act_14 (by rw [c30]; decide +kernel) (by rw [c30]; decide +kernel) (off := 107) (by rw [c30]; decide +kernel) (tgt := 121) rfl ?_
          refine fw_aload_n C dL_act_121 rfl 1 rfl ?_
          refine fw_iload_n C dL_act_122 rfl 0 rfl ?_
          refine fw_iconst C dL_act_123 (v := 1) rfl ?_
          refine fw_iload_n C dL_act_124 rfl 2 rfl ?_
          refine fw_sipush C dL_act_125 (v := 256) rfl ?_
          refine fw_idiv C dL_act_128 (by decide) ?_
          refine fw_bipush C dL_act_129 (v := 8) rfl ?_
          refine fw_irem C dL_act_131 (by decide) ?_
          refine fw_iadd C dL_act_132 ?_
          obtain ⟨r31, Y33, q32, h⟩ := bd2_some h
          refine fw_callVi C (ci := 11) (Cn := RX11) (Tc := TX11) (N := 11) (As := [.int v4, .int (1 + ((a1 / 256) - (a1 / 256) / 8 * 8))]) (c_X11_setDuration (gac (hG _ (List.mem_of_getElem? (i := 0) rfl)) (gac (hG _ (List.mem_of_getElem? (i := 1) rfl)) (gac (hG _ (List.mem_of_getElem? (i := 2) rfl)) (gac (hG _ (List.mem_of_getElem? (i := 3) rfl)) (fun q hq => hG q (List.mem_append_right _ hq)))))) q32) (cwV 2 (cx_ts C) gL_act_X11_setDuration rfl rfl rfl (by decide +kernel) ⟨Nat.le_of_ble_eq_true rfl, Nat.le_of_ble_eq_true rfl⟩) rfl (hG _ (List.mem_of_getElem? (i := 1) rfl)) (of0_0 _) (ce0 T ad _ _) rfl (st := []) rfl (Nat.le_of_ble_eq_true rfl) ⟨Nat.le_refl 0, Nat.le_refl 0⟩ dL_act_133 (ppw ?_)
          refine fw_pop C dL_act_136 rfl ?_
          refine fw_goto C dL_act_137 (tgt := 202) rfl ?_
          exact fw_vret C hrt Y33 (Option.some.inj h) (fun t ht => ht) dL_act_202
        · have h := ite_f c30 h
          by_cases c34 : (a1 - a1 / 8 * 8) = 4
          · have h := ite_t c34 h
            refine fw_tableIn C dL_act_14 (by rw [c34]; decide +kernel) (by rw [c34]; decide +kernel) (off := 126) (by rw [c34]; decide +kernel) (tgt := 140) rfl ?_
            refine fw_aload_n C dL_act_140 rfl 1 rfl ?_
            obtain ⟨r35, q36, h⟩ := bd1_some h
            refine fw_callVi C (ci := 11) (Cn := RX11) (Tc := TX11) (N := 11) (As := []) (c_X11_whyNotServed (gac (hG _ (List.mem_of_getElem? (i := 1) rfl)) (gac (hG _ (List.mem_of_getElem? (i := 2) rfl)) (gac (hG _ (List.mem_of_getElem? (i := 0) rfl)) (fun q hq => hG q (List.mem_append_right _ hq))))) q36) (cwV 0 (cx_ts C) gL_act_X11_whyNotServed rfl rfl rfl (by decide +kernel) ⟨Nat.le_of_ble_eq_true rfl, Nat.le_of_ble_eq_true rfl⟩) rfl (hG _ (List.mem_of_getElem? (i := 1) rfl)) (of0_0 _) (ce0 T ad _ _) rfl (st := []) rfl (Nat.le_of_ble_eq_true rfl) ⟨Nat.le_refl 0, Nat.le_refl 0⟩ dL_act_141 (pp2 ?_)
            refine fw_iconst C dL_act_144 (v := 1) rfl ?_
            refine fw_icmp_eq C dL_act_145 (tgt := 202) rfl (fun c37 => ?_) (fun c37 => ?_)
            · have h := ite_t c37 h
              exact fw_vret C hrt Y (Option.some.inj h) (fun t ht => ht) dL_act_202
            · have h := ite_f c37 h
              refine fw_aload_n C dL_act_148 rfl 1 rfl ?_
              refine fw_iload_n C dL_act_149 rfl 2 rfl ?_
              refine fw_sipush C dL_act_150 (v := 256) rfl ?_
              refine fw_idiv C dL_act_153 (by decide) ?_
              refine fw_iconst C dL_act_154 (v := 2) rfl ?_
              refine fw_irem C dL_act_155 (by decide) ?_
              refine fw_if_ne C dL_act_156 (tgt := 171) rfl (fun c38 => ?_) (fun c38 => ?_)
              · have h := ite_f c38 h
                refine fw_iconst C dL_act_171 (v := (-1)) rfl ?_
                refine fw_iload_n C dL_act_172 rfl 2 rfl ?_
                refine fw_sipush C dL_act_173 (v := 512) rfl ?_
                refine fw_idiv C dL_act_176 (by decide) ?_
                refine fw_iconst C dL_act_177 (v := 5) rfl ?_
                refine fw_irem C dL_act_178 (by decide) ?_
                refine fw_isub C dL_act_179 ?_
                refine fw_sub [] (L' := []) rfl ?_
                exact w_L_act_b180 C hrt hG   _ _ h
              · have h := ite_t c38 h
                refine fw_iconst C dL_act_159 (v := 1) rfl ?_
                refine fw_iload_n C dL_act_160 rfl 2 rfl ?_
                refine fw_sipush C dL_act_161 (v := 512) rfl ?_
                refine fw_idiv C dL_act_164 (by decide) ?_
                refine fw_iconst C dL_act_165 (v := 5) rfl ?_
                refine fw_irem C dL_act_166 (by decide) ?_
                refine fw_iadd C dL_act_167 ?_
                refine fw_goto C dL_act_168 (tgt := 180) rfl ?_
                refine fw_sub [] (L' := []) rfl ?_
                exact w_L_act_b180 C hrt hG   _ _ h
          · have h := ite_f c34 h
            by_cases c42 : (a1 - a1 / 8 * 8) = 5
            · have h := ite_t c42 h
              refine fw_tableIn C dL_act_14 (by rw [c42]; decide +kernel) (by rw [c42]; decide +kernel) (off := 173) (by rw [c42]; decide +kernel) (tgt := 187) rfl ?_
              refine fw_aload_n C dL_act_187 rfl 1 rfl ?_
              obtain ⟨r43, q44, h⟩ := bd1_some h
              refine fw_callVi C (ci := 11) (Cn := RX11) (Tc := TX11) (N := 11) (As := []) (c_X11_whyNotServed (gac (hG _ (List.mem_of_getElem? (i := 1) rfl)) (gac (hG _ (List.mem_of_getElem? (i := 2) rfl)) (gac (hG _ (List.mem_of_getElem? (i := 0) rfl)) (fun q hq => hG q (List.mem_append_right _ hq))))) q44) (cwV 0 (cx_ts C) gL_act_X11_whyNotServed rfl rfl rfl (by decide +kernel) ⟨Nat.le_of_ble_eq_true rfl, Nat.le_of_ble_eq_true rfl⟩) rfl (hG _ (List.mem_of_getElem? (i := 1) rfl)) (of0_0 _) (ce0 T ad _ _) rfl (st := []) rfl (Nat.le_of_ble_eq_true rfl) ⟨Nat.le_refl 0, Nat.le_refl 0⟩ dL_act_188 (pp2 ?_)
              refine fw_if_ne C dL_act_191 (tgt := 202) rfl (fun c45 => ?_) (fun c45 => ?_)
              · have h := ite_f c45 h
                exact fw_vret C hrt Y (Option.some.inj h) (fun t ht => ht) dL_act_202
              · have h := ite_t c45 h
                refine fw_aload_n C dL_act_194 rfl 1 rfl ?_
                obtain ⟨r46, Y48, q47, h⟩ := bd2_some h
                refine fw_callVi C (ci := 11) (Cn := RX11) (Tc := TX11) (N := 11) (As := []) (c_X11_serve (gac (hG _ (List.mem_of_getElem? (i := 1) rfl)) (gac (hG _ (List.mem_of_getElem? (i := 2) rfl)) (gac (hG _ (List.mem_of_getElem? (i := 0) rfl)) (gac (hG _ (List.mem_of_getElem? (i := 3) rfl)) (fun q hq => hG q (List.mem_append_right _ hq)))))) q47) (cwV 0 (cx_ts C) gL_act_X11_serve rfl rfl rfl (by decide +kernel) ⟨Nat.le_of_ble_eq_true rfl, Nat.le_of_ble_eq_true rfl⟩) rfl (hG _ (List.mem_of_getElem? (i := 1) rfl)) (of0_0 _) (ce0 T ad _ _) rfl (st := []) rfl (Nat.le_of_ble_eq_true rfl) ⟨Nat.le_refl 0, Nat.le_refl 0⟩ dL_act_195 (ppw ?_)
                refine fw_pop C dL_act_198 rfl ?_
                refine fw_goto C dL_act_199 (tgt := 202) rfl ?_
                exact fw_vret C hrt Y48 (Option.some.inj h) (fun t ht => ht) dL_act_202
            · have h := ite_f c42 h
              have c6 : ¬ ((a1 - a1 / 8 * 8)).toInt = 0 := fun q => c6 (Int32.toInt_inj.mp (by rw [q]; decide +kernel))
              have c13 : ¬ ((a1 - a1 / 8 * 8)).toInt = 1 := fun q => c13 (Int32.toInt_inj.mp (by rw [q]; decide +kernel))
              have c26 : ¬ ((a1 - a1 / 8 * 8)).toInt = 2 := fun q => c26 (Int32.toInt_inj.mp (by rw [q]; decide +kernel))
              have c30 : ¬ ((a1 - a1 / 8 * 8)).toInt = 3 := fun q => c30 (Int32.toInt_inj.mp (by rw [q]; decide +kernel))
              have c34 : ¬ ((a1 - a1 / 8 * 8)).toInt = 4 := fun q => c34 (Int32.toInt_inj.mp (by rw [q]; decide +kernel))
              have c42 : ¬ ((a1 - a1 / 8 * 8)).toInt = 5 := fun q => c42 (Int32.toInt_inj.mp (by rw [q]; decide +kernel))
              refine fw_tableOut C dL_act_14 (by omega) (tgt := 202) rfl ?_
              exact fw_vret C hrt Y (Option.some.inj h) (fun t ht => ht) dL_act_202
end
set_option maxRecDepth 100000 in
set_option maxHeartbeats 4000000 in
theorem c_L_act {l : Launch} {N0 : Nat} {T : Nat → ClassId} {D : va_G} {gr : List (Nat × Nat)} {ad : Nat → Nat → Nat → Nat} {Y : Mem} {a1 : Int32} {res : Mem} (hG : ∀ q ∈ ([(1, 0), (0, 0), (2, 0), (9, 0)] ++ allG), q ∈ gr) (h : L_act Y a1 = some res) : CV l yL_act wsL_act (Rm 4) N0 T D gr ad Y [.ref (ad 0 0 0), .int a1] (fun Y1 => Y1 = res) :=
  fw_body (by decide +kernel) rfl (Nat.le_of_ble_eq_true rfl) (fun p e s m below meth c C hrt => w_L_act C hrt hG  h)
