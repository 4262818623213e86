/-! THE LAW: its rounds -/
section
variable {p : Program} {l : Launch} {e : Env} {s : State} {m : MethodId} {below : List Frame} {meth : Method} {c : Code} {T : Nat → ClassId} {D : va_G} {ad : Nat → Nat → Nat → Nat} {b sl : Nat} {sf : Nat → Int32} {nv : Int32}
/-- the law's kitchen, minute by minute -/
theorem law_pass (C : Chw p s m #[.ref b] meth c code 10 wsL_law RL s.heap.size T D ad) {Y : Mem} {bf z iv : Int32} {mn : Nat} (hI : Inv Y) (h6 : Y 10 0 1 6 = 0) (h5 : mn ≤ 5) (cb sb : Nat) (hcb : cb + 10 ≤ 600086) (hsb : sb + 140 ≤ 7301442)
    (K : ∀ (Z : Mem) (cells slots : Nat), PS Y Z mn → cells ≤ cb + 2 * mn → slots ≤ sb + 28 * mn → HW p l e room_1 s m #[.ref b] below meth c 10 s.heap.size D cells slots (lw_Z below #[.ref b] s) (wC T gr2 ad Z) 156 [(9, .int (nI mn)), (8, .int 0), (7, .int bf), (6, .int (nI mn)), (5, .int z), (4, .int iv), (3, .ref (ad 12 0 0)), (2, .int nv), (1, .ref (ad 0 0 0)), (0, .ref b)] []) :
    ∀ (d t : Nat) (Z : Mem) (cells slots : Nat), t + d = mn → PS Y Z t → cells ≤ cb + 2 * t → slots ≤ sb + 28 * t → HW p l e room_1 s m #[.ref b] below meth c 10 s.heap.size D cells slots (lw_Z below #[.ref b] s) (wC T gr2 ad Z) 134 [(9, .int (nI t)), (8, .int 0), (7, .int bf), (6, .int (nI mn)), (5, .int z), (4, .int iv), (3, .ref (ad 12 0 0)), (2, .int nv), (1, .ref (ad 0 0 0)), (0, .ref b)] [] := by
  obtain ⟨qk, hqk⟩ := k2_at
  intro d
  induction d with
  | zero =>
    intro t Z cells slots ht hP hc hs
    have e1 : t = mn := by omega
    subst e1
    refine hw_iload C dL_law_134 0 rfl ?_
    refine hw_iload C dL_law_136 3 rfl ?_
    refine hw_icmp_ge C dL_law_138 (tgt := 156) rfl (fun _ => ?_) (fun h9 => absurd (nI_le (Nat.le_refl _) (by omega)) h9)
    exact K Z cells slots hP hc hs
  | succ d ih =>
    intro t Z cells slots ht hP hc hs
    obtain ⟨Z', q1, q2⟩ := PS_step hI (by omega) h6 hP
    refine hw_iload C dL_law_134 0 rfl ?_
    refine hw_iload C dL_law_136 3 rfl ?_
    refine hw_icmp_ge C dL_law_138 (tgt := 156) rfl (fun h9 => absurd h9 (nI_ge (by omega) (by omega))) (fun _ => ?_)
    refine hw_iload C dL_law_141 1 rfl ?_
    refine hw_if_ne C dL_law_143 (tgt := 156) rfl (fun h9 => absurd rfl h9) (fun _ => ?_)
    refine hw_aload_n C dL_law_146 rfl 6 rfl ?_
    refine hw_callWv C qk (ci := 12) (Cn := RX12) (Tc := TX12) (N := 12) (As := []) (CVn_HV (c_X12_pass (g2 (by decide +kernel)) n2_13 n2_14 q1)) (cwV 0 (hx_ts C) gL_law_X12_pass rfl rfl rfl (by decide +kernel) ⟨Nat.le_of_ble_eq_true rfl, Nat.le_of_ble_eq_true rfl⟩) rfl (k2_cell hqk Z) rfl (st := []) rfl (Nat.le_of_ble_eq_true rfl) ⟨by show cells + 2 ≤ 600086; omega, by show slots + 28 ≤ 7301442; omega⟩ dL_law_147 (fun w1 h1 => ?_)
    obtain ⟨Y1, rfl, rfl⟩ := h1
    refine hw_iinc C dL_law_150 (kk := 0) (v := nI (t + 1)) rfl (by rw [show Int32.ofInt 1 = nI 1 by decide, nI_add]) (by decide) rfl ?_
    refine hw_goto C dL_law_153 (tgt := 134) rfl ?_
    exact ih (t + 1) _ _ _ (by omega) q2 (by omega) (by omega)
/-- from the class's pass to the end of the round -/
theorem law_tail (C : Chw p s m #[.ref b] meth c code 10 wsL_law RL s.heap.size T D ad) {Y Z : Mem} {T0 mn i cells slots : Nat} {tv sv z : Int32} (hL : LI Y T0) (hP : PS Y Z mn) (hT : T0 + mn ≤ 9999) (h1 : 1 ≤ mn) (h2 : mn ≤ 200) (hc : cells ≤ 600086) (hs : slots ≤ 7301442)
    (K : ∀ Y' : Mem, LI Y' (T0 + mn) → HW p l e room_1 s m #[.ref b] below meth c 10 s.heap.size D cells slots (lw_Z below #[.ref b] s) (wC T gr2 ad Y') 59 [(4, .int (nI (i + 1))), (3, .ref (ad 12 0 0)), (2, .int nv), (1, .ref (ad 0 0 0)), (0, .ref b)] []) :
    HW p l e room_1 s m #[.ref b] below meth c 10 s.heap.size D cells slots (lw_Z below #[.ref b] s) (wC T gr2 ad Z) 172 [(9, .int tv), (8, .int sv), (7, .int (Y 10 0 1 8)), (6, .int (nI mn)), (5, .int z), (4, .int (nI i)), (3, .ref (ad 12 0 0)), (2, .int nv), (1, .ref (ad 0 0 0)), (0, .ref b)] [] := by
  obtain ⟨qk, hqk⟩ := k2_at
  obtain ⟨qx, hx⟩ := wC_x (T := T) (ad := ad) (gr := gr2) (by decide +kernel)
  obtain ⟨r, Yc, Ym, q1, q2, q3, q4, q5⟩ := it_pass hL hT h1 h2 hP
  obtain ⟨fs, hfs⟩ := hx Z
  refine hw_aload_n C dL_law_172 rfl 8 rfl ?_
  refine hw_iload C dL_law_173 3 rfl ?_
  refine hw_callWi C qx (ci := 11) (Cn := RX11) (Tc := TX11) (N := 11) (As := [.int (nI mn)]) (CI_HI (c_X11_pass (g2 (by decide +kernel)) q1)) (cwV 1 (hx_ts C) gL_law_X11_pass rfl rfl rfl (by decide +kernel) ⟨Nat.le_of_ble_eq_true rfl, Nat.le_of_ble_eq_true rfl⟩) rfl hfs rfl (st := []) rfl (Nat.le_of_ble_eq_true rfl) ⟨hc, hs⟩ dL_law_175 (fun r1 w1 h3 => ?_)
  obtain ⟨Y1, e1, rfl⟩ := h3
  obtain ⟨e2, e3⟩ := Prod.mk.inj e1
  subst e2
  subst e3
  refine hw_aload_n C dL_law_178 rfl 6 rfl ?_
  refine hw_get C qk (ci := 12) (Cn := RX12) (Tc := TX12) (N := 12) (j := 9) (v := .int (Y1 12 0 0 9)) (k2_cell hqk Y1) jl_law_12 rfl (by decide) (hx_ts C _ jw_law_f147) (fun _ h => h) rfl dL_law_179 ?_
  refine hw_iload C dL_law_182 2 rfl ?_
  refine hw_isub C dL_law_184 ?_
  refine hw_icmp_ne C dL_law_185 (tgt := 195) rfl (fun h9 => absurd q2 h9) (fun _ => ?_)
  refine hw_world (wC_k10 q3 n2_10) ?_
  refine hw_aload_n C dL_law_188 rfl 6 rfl ?_
  refine hw_callWi C qk (ci := 12) (Cn := RX12) (Tc := TX12) (N := 12) (As := []) (CI_HI (c_X12_agrees (g2 (by decide +kernel)) q5)) (cwV 0 (hx_ts C) gL_law_X12_agrees rfl rfl rfl (by decide +kernel) ⟨Nat.le_of_ble_eq_true rfl, Nat.le_of_ble_eq_true rfl⟩) rfl (k2_cell hqk Ym) rfl (st := []) rfl (Nat.le_of_ble_eq_true rfl) ⟨hc, hs⟩ dL_law_189 (fun r2 w2 h4 => ?_)
  obtain ⟨Y2, ⟨rfl, rfl⟩, rfl⟩ := h4
  refine hw_if_ne C dL_law_192 (tgt := 197) rfl (fun _ => ?_) (fun h9 => absurd h9 (by decide))
  refine hw_iinc C dL_law_197 (kk := 5) (v := nI (i + 1)) rfl (by rw [show Int32.ofInt 1 = nI 1 by decide, nI_add]) (by decide) rfl ?_
  refine hw_goto C dL_law_200 (tgt := 59) rfl ?_
  exact hw_sub [0, 6, 7, 8, 9] rfl (K _ q4)
/-- one round -/
theorem law_iter (C : Chw p s m #[.ref b] meth c code 10 wsL_law RL s.heap.size T D ad) (hX : HwX s.heap.size b sl sf s) {i : Nat} (hi : i < 18) {Y : Mem} {T0 : Nat} (hL : LI Y T0) (hT : T0 ≤ 5 * i) {cells slots : Nat} (hc : cells ≤ 1000 + 10 * i) (hs : slots ≤ 500000 + 140 * i)
    (K : ∀ (Y' : Mem) (T' cells' slots' : Nat), LI Y' T' → T' ≤ 5 * (i + 1) → cells' ≤ 1000 + 10 * (i + 1) → slots' ≤ 500000 + 140 * (i + 1) → HW p l e room_1 s m #[.ref b] below meth c 10 s.heap.size D cells' slots' (lw_Z below #[.ref b] s) (wC T gr2 ad Y') 59 [(4, .int (nI (i + 1))), (3, .ref (ad 12 0 0)), (2, .int nv), (1, .ref (ad 0 0 0)), (0, .ref b)] []) :
    HW p l e room_1 s m #[.ref b] below meth c 10 s.heap.size D cells slots (lw_Z below #[.ref b] s) (wC T gr2 ad Y) 59 [(4, .int (nI i)), (3, .ref (ad 12 0 0)), (2, .int nv), (1, .ref (ad 0 0 0)), (0, .ref b)] [] := by
  obtain ⟨qk, hqk⟩ := k2_at
  obtain ⟨qx, hx⟩ := wC_x (T := T) (ad := ad) (gr := gr2) (by decide +kernel)
  have hz : pick sf sl (18 + i) 16777216 < 16777216 := pick_lt (by decide)
  refine hw_iload C dL_law_59 0 rfl ?_
  refine hw_bipush C dL_law_61 (v := nI 18) (by decide) ?_
  refine hw_icmp_ge C dL_law_63 (tgt := 203) rfl (fun h9 => absurd h9 (nI_ge hi (by decide))) (fun _ => ?_)
  refine hw_aload_n C dL_law_66 rfl 4 rfl ?_
  refine hw_bipush C dL_law_67 (v := nI 18) (by decide) ?_
  refine hw_iload C dL_law_69 0 rfl ?_
  refine hw_iadd C dL_law_71 ?_
  refine hw_topi (v' := nI (18 + i)) (nI_add _ _) ?_
  refine hw_ldc C (v := 16777216) (hx_ts C _ jw_law_c124) dL_law_72 ?_
  refine hw_topi (v' := nI 16777216) (by decide) ?_
  refine hw_callSx C hX (As := [.ref b, .int (nI (18 + i)), .int (nI 16777216)]) (h_pick (kk := 18 + i) (n := 16777216) (by omega) (by decide) (by decide)) (va_cwS 3 (hx_ts C) gL_law_L_pick rfl rfl rfl (by decide +kernel) ⟨Nat.le_of_ble_eq_true rfl, Nat.le_of_ble_eq_true rfl⟩) rfl (st := []) rfl (Nat.le_of_ble_eq_true rfl) ⟨by show cells + 0 ≤ 600086; omega, by show slots + 0 ≤ 7301442; omega⟩ dL_law_74 (fun r w1 h1 => ?_)
  obtain ⟨rfl, rfl⟩ := h1
  generalize pick sf sl (18 + i) 16777216 = z at hz ⊢
  refine hw_istore C dL_law_77 (by decide) rfl ?_
  obtain ⟨Yc, Ym, a1, a2, a3, a4, a5, a6, a7⟩ := act_ok hL.1 hL.2.1 (z := z) (by omega)
  have hL1 : LI Ym T0 := LI_gh hL (by rw [a2 12 (by decide), a3 12 (by decide) (by decide) (by decide) (by decide)]) a4 a5 a6 a7
  refine hw_aload_n C dL_law_79 rfl 4 rfl ?_
  refine hw_iload C dL_law_80 0 rfl ?_
  refine hw_callSv C (As := [.ref (ad 0 0 0), .int (nI z)]) (CV_HV (c_L_act (g2 (by decide +kernel)) a1)) (va_cwS 2 (hx_ts C) gL_law_L_act rfl rfl rfl (by decide +kernel) ⟨Nat.le_of_ble_eq_true rfl, Nat.le_of_ble_eq_true rfl⟩) rfl (st := []) rfl (Nat.le_of_ble_eq_true rfl) ⟨by show cells + 0 + 0 ≤ 600086; omega, by show slots + 0 + 0 ≤ 7301442; omega⟩ dL_law_82 (fun w1 h1 => ?_)
  obtain ⟨Y1, e1, rfl⟩ := h1
  subst e1
  refine hw_world (wC_k10 a2 n2_10) ?_
  obtain ⟨h', b1, hL2, b2, b3⟩ := it_read hL1
  refine hw_aload_n C dL_law_85 rfl 2 rfl ?_
  refine hw_callWv C qk (ci := 12) (Cn := RX12) (Tc := TX12) (N := 12) (As := []) (CV_HV (c_X12_read (g2 (by decide +kernel)) b1)) (cwV 0 (hx_ts C) gL_law_X12_read rfl rfl rfl (by decide +kernel) ⟨Nat.le_of_ble_eq_true rfl, Nat.le_of_ble_eq_true rfl⟩) rfl (k2_cell hqk Ym) rfl (st := []) rfl (Nat.le_of_ble_eq_true rfl) ⟨by show cells + 0 + 0 + 0 ≤ 600086; omega, by show slots + 0 + 0 + 0 ≤ 7301442; omega⟩ dL_law_86 (fun w1 h1 => ?_)
  obtain ⟨Y2, e2, rfl⟩ := h1
  rw [← e2] at hL2 b2 b3
  refine hw_aload_n C dL_law_89 rfl 2 rfl ?_
  refine hw_callWi C qk (ci := 12) (Cn := RX12) (Tc := TX12) (N := 12) (As := []) (CI_HI (c_X12_agrees (g2 (by decide +kernel)) b3)) (cwV 0 (hx_ts C) gL_law_X12_agrees rfl rfl rfl (by decide +kernel) ⟨Nat.le_of_ble_eq_true rfl, Nat.le_of_ble_eq_true rfl⟩) rfl (k2_cell hqk Y2) rfl (st := []) rfl (Nat.le_of_ble_eq_true rfl) ⟨by show cells + 0 + 0 + 0 + 0 ≤ 600086; omega, by show slots + 0 + 0 + 0 + 0 ≤ 7301442; omega⟩ dL_law_90 (fun r w1 h1 => ?_)
  obtain ⟨Y3, ⟨rfl, e3⟩, rfl⟩ := h1
  subst e3
  refine hw_if_ne C dL_law_93 (tgt := 98) rfl (fun _ => ?_) (fun h9 => absurd h9 (by decide))
  refine hw_iconst C dL_law_98 (v := nI 1) (by decide) ?_
  refine hw_iload C dL_law_99 0 rfl ?_
  refine hw_sipush C dL_law_101 (v := nI 8192) (by decide) ?_
  refine hw_idiv C dL_law_104 (nI_ne0 (by decide) (by decide)) ?_
  refine hw_topi (v' := nI (z / 8192)) (pk_div (by omega) (by decide) (by decide)) ?_
  refine hw_iconst C dL_law_105 (v := nI 5) (by decide) ?_
  refine hw_irem C dL_law_106 (nI_ne0 (by decide) (by decide)) ?_
  refine hw_topi (v' := nI (z / 8192 % 5)) (pk_rem (by omega) (by decide) (by decide)) ?_
  refine hw_iadd C dL_law_107 ?_
  refine hw_topi (v' := nI (1 + z / 8192 % 5)) (nI_add _ _) ?_
  have hm1 : 1 ≤ 1 + z / 8192 % 5 := by omega
  have hm5 : 1 + z / 8192 % 5 ≤ 5 := by omega
  generalize 1 + z / 8192 % 5 = mn at hm1 hm5 ⊢
  refine hw_istore C dL_law_108 (by decide) rfl ?_
  obtain ⟨fs, hfs⟩ := hx Y3
  refine hw_aload_n C dL_law_110 rfl 5 rfl ?_
  refine hw_callWi C qx (ci := 11) (Cn := RX11) (Tc := TX11) (N := 11) (As := []) (CI_HI (c_X11_completions (g2 (by decide +kernel)) (v_completions hL2.1))) (cwV 0 (hx_ts C) gL_law_X11_completions rfl rfl rfl (by decide +kernel) ⟨Nat.le_of_ble_eq_true rfl, Nat.le_of_ble_eq_true rfl⟩) rfl hfs rfl (st := []) rfl (Nat.le_of_ble_eq_true rfl) ⟨by show cells + 0 + 0 + 0 + 0 + 0 ≤ 600086; omega, by show slots + 0 + 0 + 0 + 0 + 0 ≤ 7301442; omega⟩ dL_law_111 (fun r w1 h1 => ?_)
  obtain ⟨Y4, ⟨rfl, e4⟩, rfl⟩ := h1
  subst e4
  refine hw_istore C dL_law_114 (by decide) rfl ?_
  refine hw_aload_n C dL_law_116 rfl 6 rfl ?_
  refine hw_callWi C qx (ci := 11) (Cn := RX11) (Tc := TX11) (N := 11) (As := []) (CI_HI (c_X11_whyNotServed (g2 (by decide +kernel)) (v_whyNotServed hL2.1))) (cwV 0 (hx_ts C) gL_law_X11_whyNotServed rfl rfl rfl (by decide +kernel) ⟨Nat.le_of_ble_eq_true rfl, Nat.le_of_ble_eq_true rfl⟩) rfl hfs rfl (st := []) rfl (Nat.le_of_ble_eq_true rfl) ⟨by show cells + 0 + 0 + 0 + 0 + 0 + 0 ≤ 600086; omega, by show slots + 0 + 0 + 0 + 0 + 0 + 0 ≤ 7301442; omega⟩ dL_law_117 (fun r w1 h1 => ?_)
  obtain ⟨Y5, ⟨rfl, e5⟩, rfl⟩ := h1
  subst e5
  refine hw_iconst C dL_law_120 (v := 1) rfl ?_
  refine hw_icmp_ne C dL_law_121 (tgt := 128) rfl (fun h9 => ?_) (fun h9 => ?_)
  · have h6 : Y5 10 0 1 6 = 0 := (Inv_6 hL2.1).resolve_right fun q => h9 (srv_1.mpr q)
    refine hw_iconst C dL_law_128 (v := 0) rfl ?_
    refine hw_istore C dL_law_129 (by decide) rfl ?_
    refine hw_iconst C dL_law_131 (v := nI 0) (by decide) ?_
    refine hw_istore C dL_law_132 (by decide) rfl ?_
    refine law_pass C hL2.1 h6 hm5 cells slots (by omega) (by omega) (fun Z cells' slots' hP hc' hs' => ?_) mn 0 Y5 _ _ (Nat.zero_add _) (PS_0 b2 hL2.2.2.2.1) (by omega) (by omega)
    refine hw_iload C dL_law_156 1 rfl ?_
    refine hw_if_eq C dL_law_158 (tgt := 172) rfl (fun _ => ?_) (fun h8 => absurd rfl h8)
    exact law_tail C hL2 hP (by omega) hm1 (by omega) (by omega) (by omega) (fun Y' hL' => K Y' _ _ _ hL' (by omega) (by omega) (by omega))
  · have h6 : Y5 10 0 1 6 = 1 := srv_1.mp h9
    have hP := PS_srv (t := mn) hL2.1 (by omega) h6 b2 hL2.2.2.2.1
    refine hw_iconst C dL_law_124 (v := 1) rfl ?_
    refine hw_goto C dL_law_125 (tgt := 129) rfl ?_
    refine hw_istore C dL_law_129 (by decide) rfl ?_
    refine hw_iconst C dL_law_131 (v := nI 0) (by decide) ?_
    refine hw_istore C dL_law_132 (by decide) rfl ?_
    refine hw_iload C dL_law_134 0 rfl ?_
    refine hw_iload C dL_law_136 3 rfl ?_
    refine hw_icmp_ge C dL_law_138 (tgt := 156) rfl (fun h8 => absurd h8 (nI_ge (by omega) (by omega))) (fun _ => ?_)
    refine hw_iload C dL_law_141 1 rfl ?_
    refine hw_if_ne C dL_law_143 (tgt := 156) rfl (fun _ => ?_) (fun h8 => absurd h8 (by decide))
    refine hw_iload C dL_law_156 1 rfl ?_
    refine hw_if_eq C dL_law_158 (tgt := 172) rfl (fun h8 => absurd h8 (by decide)) (fun _ => ?_)
    refine hw_aload_n C dL_law_161 rfl 6 rfl ?_
    refine hw_dup C dL_law_162 rfl ?_
    refine hw_get C qk (ci := 12) (Cn := RX12) (Tc := TX12) (N := 12) (j := 7) (v := .int (Y5 12 0 0 7)) (k2_cell hqk Y5) jl_law_12 rfl (by decide) (hx_ts C _ jw_law_f141) (fun _ h => h) rfl dL_law_163 ?_
    refine hw_iload C dL_law_166 3 rfl ?_
    refine hw_iadd C dL_law_168 ?_
    intro H locs ls hP0 hD hS hl1
    refine hw_put C qk (ci := 12) (Cn := RX12) (Tc := TX12) (N := 12) (j := 7) (tyc := tyX12) (ty := tyX12 7) (w' := wC T gr2 ad (up Y5 12 0 0 7 (Y5 12 0 0 7 + nI mn))) (k2_cell hqk Y5) jl_law_12 rfl tyX12_ok nmX12 (by decide) (hx_ts C _ jw_law_f141) (fun _ h => h) rfl (by decide +kernel) rfl rfl (Nat.le_of_ble_eq_true rfl) ?_ dL_law_169 ?_ H locs ls hP0 hD hS hl1
    · have e9 := wC_set hD hqk (T := T) (ad := ad) (Y := Y5) (upd (Y5 12 0 0) 7 (Y5 12 0 0 7 + nI mn))
      rw [← up_eq] at e9
      exact e9
    · exact law_tail C hL2 hP (by omega) hm1 (by omega) (by omega) (by omega) (fun Y' hL' => K Y' _ _ _ hL' (by omega) (by omega) (by omega))
/-- all rounds -/
theorem law_loop (C : Chw p s m #[.ref b] meth c code 10 wsL_law RL s.heap.size T D ad) (hX : HwX s.heap.size b sl sf s) (hr : meth.sig.returnType = ret) : ∀ (d i : Nat) (Y : Mem) (T0 cells slots : Nat), i + d = 18 → LI Y T0 → T0 ≤ 5 * i → cells ≤ 1000 + 10 * i → slots ≤ 500000 + 140 * i → HW p l e room_1 s m #[.ref b] below meth c 10 s.heap.size D cells slots (lw_Z below #[.ref b] s) (wC T gr2 ad Y) 59 [(4, .int (nI i)), (3, .ref (ad 12 0 0)), (2, .int nv), (1, .ref (ad 0 0 0)), (0, .ref b)] [] := by
  intro d
  induction d with
  | zero =>
    intro i Y T0 cells slots hi hL hT hc hs
    have e1 : i = 18 := by omega
    subst e1
    refine hw_iload C dL_law_59 0 rfl ?_
    refine hw_bipush C dL_law_61 (v := nI 18) (by decide) ?_
    refine hw_icmp_ge C dL_law_63 (tgt := 203) rfl (fun _ => ?_) (fun h9 => absurd (nI_le (Nat.le_refl _) (by decide)) h9)
    exact hw_law_end C hr (by omega) (by omega)
  | succ d ih =>
    intro i Y T0 cells slots hi hL hT hc hs
    exact law_iter C hX (by omega) hL hT hc hs (fun Y' T' cells' slots' hL' hT' hc' hs' => ih (i + 1) Y' T' cells' slots' (by omega) hL' hT' hc' hs')
end
