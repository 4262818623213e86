section
/-! CHANGES: the calls -/
def Ch (Yp Yc : Mem) : Prop := (∀ k, k ≠ 1 → k ≠ 2 → Yc k = Yp k) ∧ Yc 1 0 0 = Yp 1 0 0 ∧ ∀ g, 2 ≤ g → Yc 2 g = Yp 2 g
theorem Ch_wS (Yp : Mem) (σ : Nat → Nat → Int32) : Ch Yp (wS Yp 0 σ) :=
  ⟨fun k h1 h2 => wS_k h2, by rw [wS_k (by omega)], fun g hg => by funext o; exact wS_o (by omega)⟩
theorem Ch_run (Yp : Mem) (p q : Nat → Int32) (σ : Nat → Nat → Int32) : Ch Yp (wS (upR (upR Yp 1 0 1 p) 1 0 2 q) 0 σ) :=
  ⟨fun k h1 h2 => by rw [wS_k h2]; funext g o; rw [upR_o (by omega), upR_o (by omega)], by rw [wS_k (by omega), upR_o (by omega), upR_o (by omega)], fun g hg => by funext o; rw [wS_o (by omega), upR_o (by omega), upR_o (by omega)]⟩
theorem Pu_k {Y Yp : Mem} {n c : Nat} (hp : PuF Y Yp n c) {k : Nat} (h2 : k ≠ 2) (h9 : k ≠ 9) : Yp k = Y k := hp.2.1 k h2 h9
theorem Pu_0 {Y Yp : Mem} {n c : Nat} (hp : PuF Y Yp n c) : Yp 2 0 = Y 2 0 := hp.2.2.1 0 (by omega)
theorem Ch_10 {Y Yp Yc : Mem} {n c : Nat} (hp : PuF Y Yp n c) (hc : Ch Yp Yc) : Yc 10 = Y 10 := by rw [hc.1 10 (by omega) (by omega), Pu_k hp (by omega) (by omega)]
def remZ (Yc : Mem) (c : Nat) (M : Nat → Int32) : Mem := upR (up (up Yc 10 0 0 9 0) 10 0 0 2 (nI (min (c + 1) 6))) 10 0 1 M
theorem rem_x {Yc : Mem} {c : Nat} {M : Nat → Int32} : (remZ Yc c M) 10 0 1 = M := upR_at _ _ _ _ _
theorem rem_o {Yc : Mem} {c : Nat} {M : Nat → Int32} {k g o : Nat} (h : ¬ (k = 10 ∧ g = 0 ∧ o = 1)) : (remZ Yc c M) k g o = (up (up Yc 10 0 0 9 0) 10 0 0 2 (nI (min (c + 1) 6))) k g o := upR_o h
theorem rem_u {Yc : Mem} {c : Nat} {M f : Nat → Int32} : upR (remZ Yc c M) 10 0 1 f = remZ Yc c f := upR_upR _ _ _ _ _ _
theorem mut_rem {Y Yp Yc : Mem} {n c : Nat} (hp : PuF Y Yp n c) (hc : Ch Yp Yc) : ∃ M, X12_remember (up Yc 10 0 0 9 0) 0 = some (remZ Yc c M) ∧ ReF (Y 10 0 1) M c := by
  obtain ⟨⟨c1, c2, c3, c4, c5, c6⟩, -⟩ := id hp
  have e10 := Ch_10 hp hc
  obtain ⟨M, h1, h2⟩ := rem_ok (up Yc 10 0 0 9 0) (c := c) c2 (by rw [up9_x _ _ (by omega), e10]; exact c5)
  rw [up9_m, e10] at h2
  exact ⟨M, h1, h2⟩
theorem mut_end {Y Yp Yc Ym : Mem} {n c : Nat} {M b' : Nat → Int32} (hI : Inv Y) (hp : PuF Y Yp n c) (hc : Ch Yp Yc) (hM : ReF (Y 10 0 1) M c) (hN : QN (remZ Yc c M) Ym) (hm : ∀ x, 382 ≤ x → Ym 10 0 1 x = M x) (hb : ∀ x, x < 382 → Ym 10 0 1 x = b' x) (hK : KS (Yc 2 0) (Y 10 0 1) b') : Ym 10 0 0 9 = 0 ∧ Inv Ym := by
  have e10 := Ch_10 hp hc
  have ek : ∀ k, k ≠ 10 → Ym k = Yc k := fun k hk => by
    funext g o
    rw [hN k g o (by omega), rem_o (by omega), up_eq, upR_o (by omega), up_eq, upR_o (by omega)]
  have eo : ∀ o, o ≠ 0 → o ≠ 1 → o ≠ 5 → o ≠ 8 → Ym 10 0 o = Y 10 0 o := fun o h0 h1 h5 h8 => by
    rw [hN 10 0 o (by omega), rem_o (by omega), up_eq, upR_o (by omega), up_eq, upR_o (by omega), e10]
  have e0 : ∀ x, x ≠ 2 → x ≠ 9 → Ym 10 0 0 x = Y 10 0 0 x := fun x h2 h9 => by
    rw [hN 10 0 0 (by omega), rem_o (by omega), up_at, pk_un h2, up9_x _ _ h9, e10]
  have e2 : Ym 10 0 0 2 = nI (min (c + 1) 6) := by rw [hN 10 0 0 (by omega), rem_o (by omega), up_at, pk_us]
  have e9 : Ym 10 0 0 9 = 0 := by rw [hN 10 0 0 (by omega), rem_o (by omega), up_at, pk_un (by omega), up9_9]
  have ec : ∀ k, k ≠ 1 → k ≠ 2 → k ≠ 9 → k ≠ 10 → Ym k = Y k := fun k h1 h2 h9 h10 => by rw [ek k h10, hc.1 k h1 h2, Pu_k hp h2 h9]
  refine ⟨e9, ?_⟩
  have hK2 : KS (Ym 2 0) (Y 10 0 1) (Ym 10 0 1) := by
    rw [ek 2 (by omega)]
    exact KS_cg hK (KS_nS hK hI.1) (fun x _ => rfl) hb
  obtain ⟨-, -, -, -, -, -, hT, hE, hO, -, -⟩ := id hI
  refine mut_fin hI hp hM (by rw [ek 1 (by omega), hc.2.1, Pu_k hp (by omega) (by omega)]) (ec 0 (by omega) (by omega) (by omega) (by omega)) (by rw [ek 9 (by omega), hc.1 9 (by omega) (by omega)]) (ec 3 (by omega) (by omega) (by omega) (by omega)) (ec 4 (by omega) (by omega) (by omega) (by omega)) (fun g hg => by rw [ek 2 (by omega), hc.2.2 g hg]) e2 (eo 2 (by omega) (by omega) (by omega) (by omega)) (fun x h1 _ => hm x h1) hK2 ?_ ?_ ?_
  · unfold TX TXn at hT ⊢
    rw [ec 5 (by omega) (by omega) (by omega) (by omega), e0 4 (by omega) (by omega), eo 3 (by omega) (by omega) (by omega) (by omega)]; exact hT
  · unfold ER at hE ⊢
    rw [ec 6 (by omega) (by omega) (by omega) (by omega), e0 5 (by omega) (by omega), e0 6 (by omega) (by omega)]; exact hE
  · unfold OU at hO ⊢
    rw [ec 5 (by omega) (by omega) (by omega) (by omega), e0 8 (by omega) (by omega), eo 4 (by omega) (by omega) (by omega) (by omega)]; exact hO
theorem Inv_KS {Y : Mem} (hI : Inv Y) : KS (Y 2 0) (Y 10 0 1) (Y 10 0 1) := hI.2.2.2.1
theorem tst_cg {a b : Nat → Int32} (hn : nS b ≤ 14) (h : ∀ x, x < 382 → a x = b x) : tst a = tst b := by
  have e : nS a = nS b := by unfold nS; rw [h 13 (by omega)]
  unfold tst
  rw [e, h 5 (by omega)]
  exact sm_congr (fun i hi => by
    rw [show fld a i 17 = fld b i 17 from h _ (by omega), show fld a i 8 = fld b i 8 from h _ (by omega)])
/-- the taste in a state after a change -/
theorem taste_KS {Y Yc : Mem} {b : Nat → Int32} (hI : Inv Y) (h1 : Yc 1 0 0 = Y 1 0 0) (h3 : Yc 3 = Y 3) (h4 : Yc 4 = Y 4) (hK : KS (Yc 2 0) (Y 10 0 1) b) : X3_dishTaste Yc 0 = some (tst b) := by
  obtain ⟨hre, ⟨B, -, -, hst, -⟩, -⟩ := hK
  have hR : RR Yc (rg Yc 0) b := by
    have : rg Yc 0 = rg Y 0 := by unfold rg; rw [h1]
    rw [this]
    exact RR_re hI.1 hre (RR_mem h3 h4 (Inv_R hI))
  exact taste_ok Yc (re_WF hre hI.1) hR hst.2.1 hst.1.2.2.1
def c21 (n : Nat) : Int32 := if n = 2 then 1 else if n = 1 then 2 else 0
def c31 (n : Nat) : Int32 := if n = 3 then 1 else if n = 1 then 2 else 0
def c1_ (n : Nat) : Int32 := if n = 1 then 1 else 0
theorem R1l {Y : Mem} (hI : Inv Y) {c : Option ((Nat × Mem) ⊕ (Int32 × Mem))} {mo : Mem → Option (Int32 × Mem)} {code : Nat → Int32} (n : Nat) (v : Int32) (h0 : v ≠ 0) (hc : code n = v) (h1 : c = some (.inl (n, Y))) (h2 : mo Y = some (0, up Y 10 0 0 9 v)) : R1 c mo code :=
  Or.inl ⟨n, Y, h1, by rw [hc]; exact h0, 0, _, h2, by rw [up9_9, hc], Inv_QM hI (QM_9 _ _)⟩
theorem q_addSalt {Y : Mem} (hI : Inv Y) (a : Int32) : R1 (X11_addSalt Y a) (fun Y => X12_addSalt Y a) c21 := by
  have bad : X12_addSalt_b21 a Y 1 = some (0, up Y 10 0 0 9 1) := by
    unfold X12_addSalt_b21 X12_addSalt_b37
    rw [show inb 6 4202 = true from inb_n (j := 6) (by omega) (by omega), gd_t rfl, fails_1, fails_1, ite_self, bd2_e, if_neg (by decide)]
  by_cases c0 : a = 0
  · refine R1l hI 2 1 (by decide) (by decide) ?_ ?_
    · unfold X11_addSalt X11_isSaltAmount
      rw [if_pos c0, bd1_e, if_pos rfl]
    · show X12_addSalt Y a = _
      unfold X12_addSalt X12_addSalt_b16
      rw [in_ok, bd1_e, if_pos c0, ite_self]
      exact bad
  · by_cases h : decide ((-9 : Int32) ≤ a ∧ a ≤ 9) = true
    · have e6 : Y 2 0 0 5 = Y 10 0 1 6 := (Inv_StS hI).2.2.2.2
      rcases Inv_6 hI with s6 | s6
      · -- allowed
        obtain ⟨n, c, Yp, p1, hp⟩ := push_ok hI
        have hc := Ch_wS Yp (uo (Yp 2 0) 0 2 (Yp 2 0 0 2 + a))
        obtain ⟨M, m1, hM⟩ := mut_rem hp hc
        have e5 : Yp 2 0 0 2 = Y 10 0 1 5 := by rw [Pu_0 hp]; exact (Inv_StS hI).2.2.1
        have hK : KS ((wS Yp 0 (uo (Yp 2 0) 0 2 (Yp 2 0 0 2 + a))) 2 0) (Y 10 0 1) (upd (Y 10 0 1) 5 (Y 10 0 1 5 + a)) := by
          rw [wS_2, Pu_0 hp, show Y 2 0 0 2 = Y 10 0 1 5 from (Inv_StS hI).2.2.1]
          exact KS_salt _ (Inv_KS hI)
        have hb : ∀ x, x < 382 → (upd M 5 (M 5 + a)) x = (upd (Y 10 0 1) 5 (Y 10 0 1 5 + a)) x := fun x hx => by
          by_cases q : x = 5
          · subst q; rw [pk_us, pk_us, hM.1 5 (by omega)]
          · rw [pk_un q, pk_un q]; exact hM.1 x hx
        have hn : nS (upd (Y 10 0 1) 5 (Y 10 0 1 5 + a)) ≤ 14 := by rw [re_nS (lo3_re _ _ (by omega))]; exact nS_le hI
        have W2 : WF ((upR (remZ (wS Yp 0 (uo (Yp 2 0) 0 2 (Yp 2 0 0 2 + a))) c M) 10 0 1 (upd M 5 (M 5 + a))) 10 0 1) := by
          rw [upR_at]
          exact re_WF (re_agree hb) (re_WF (lo3_re _ _ (by omega)) hI.1)
        have fe := mut_end (Ym := upR (remZ (wS Yp 0 (uo (Yp 2 0) 0 2 (Yp 2 0 0 2 + a))) c M) 10 0 1 (upd M 5 (M 5 + a))) hI hp hc hM (QN_upR _ _) (fun x hx => by rw [upR_at, pk_un (by omega)]) (fun x hx => by rw [upR_at]; exact hb x hx) hK
        right
        refine ⟨tst (upd (Y 10 0 1) 5 (Y 10 0 1 5 + a)), wS Yp 0 (uo (Yp 2 0) 0 2 (Yp 2 0 0 2 + a)), ?_, _, ?_, fe.1, fe.2⟩
        · unfold X11_addSalt X11_isSaltAmount
          rw [if_neg c0, within_ok, bd1_e, h, bI_t, if_neg (by decide), bd1_e, if_neg (by decide), e6, if_pos s6, p1, bd1_e, up_self, lt_e, taste_KS hI (by rw [hc.2.1, Pu_k hp (by omega) (by omega)]) (by rw [hc.1 3 (by omega) (by omega), Pu_k hp (by omega) (by omega)]) (by rw [hc.1 4 (by omega) (by omega), Pu_k hp (by omega) (by omega)]) hK, bd1_e]
        · show X12_addSalt (wS Yp 0 (uo (Yp 2 0) 0 2 (Yp 2 0 0 2 + a))) a = _
          unfold X12_addSalt X12_addSalt_b21 X12_addSalt_b37
          have e10 := Ch_10 hp hc
          have g6 : inb 6 4202 = true := inb_n (j := 6) (by omega) (by omega)
          have g5 : inb 5 4202 = true := inb_n (j := 5) (by omega) (by omega)
          rw [in_ok, bd1_e, h, bI_t, if_neg (by decide), if_neg c0, gd_t g6, e10, show ix 6 = 6 from ix_n (j := 6) (by omega), s6, if_neg (by decide), fails_000, bd2_e, if_pos rfl, m1, bd1_e, gd_t g5, show ix 5 = 5 from ix_n (j := 5) (by omega), rem_x, up_upR, lt_e, tst_ok _ W2, bd1_e, upR_at, tst_cg hn hb]
          rw [rem_u]
      · refine R1l hI 1 2 (by decide) (by decide) ?_ ?_
        · unfold X11_addSalt X11_isSaltAmount
          rw [if_neg c0, within_ok, bd1_e, h, bI_t, if_neg (by decide), bd1_e, if_neg (by decide), e6, s6, if_neg (by decide)]
        · show X12_addSalt Y a = _
          unfold X12_addSalt X12_addSalt_b21 X12_addSalt_b37
          have g6 : inb 6 4202 = true := inb_n (j := 6) (by omega) (by omega)
          rw [in_ok, bd1_e, h, bI_t, if_neg (by decide), if_neg c0, gd_t g6, show ix 6 = 6 from ix_n (j := 6) (by omega), s6, if_pos rfl, fails_2, bd2_e, if_neg (by decide)]
    · rw [Bool.not_eq_true] at h
      refine R1l hI 2 1 (by decide) (by decide) ?_ ?_
      · unfold X11_addSalt X11_isSaltAmount
        rw [if_neg c0, within_ok, bd1_e, h, bI_f, if_pos rfl, bd1_e, if_pos rfl]
      · show X12_addSalt Y a = _
        unfold X12_addSalt X12_addSalt_b16
        rw [in_ok, bd1_e, h, bI_f, if_pos rfl]
        exact bad
theorem q_setCooks {Y : Mem} (hI : Inv Y) (a : Int32) : R1 (X11_setCooks Y a) (fun Y => X12_setCooks Y a) c2_ := by
  by_cases h : decide ((1 : Int32) ≤ a ∧ a ≤ 4) = true
  · obtain ⟨n, c, Yp, p1, hp⟩ := push_ok hI
    have hc := Ch_wS Yp (uo (Yp 2 0) 0 0 a)
    obtain ⟨M, m1, hM⟩ := mut_rem hp hc
    have hK : KS ((wS Yp 0 (uo (Yp 2 0) 0 0 a)) 2 0) (Y 10 0 1) (upd (Y 10 0 1) 0 a) := by
      rw [wS_2, Pu_0 hp]
      exact KS_cooks _ (Inv_KS hI)
    have fe := mut_end (Ym := upR (remZ (wS Yp 0 (uo (Yp 2 0) 0 0 a)) c M) 10 0 1 (upd M 0 a)) hI hp hc hM (QN_upR _ _) (fun x hx => by rw [upR_at, pk_un (by omega)]) (fun x hx => by
      rw [upR_at]
      by_cases q : x = 0
      · subst q; rw [pk_us, pk_us]
      · rw [pk_un q, pk_un q]; exact hM.1 x hx) hK
    right
    refine ⟨Y 10 0 1 0, wS Yp 0 (uo (Yp 2 0) 0 0 a), ?_, _, ?_, fe.1, fe.2⟩
    · unfold X11_setCooks X11_requireCooks X11_isCookCount
      rw [within_ok, bd1_e, gd_t (bI_01 _), bd1_e, h, bI_t, if_neg (by decide), bdxv_r, p1, bd1_e, lt_e, up_self, lt_e, Pu_0 hp, (Inv_StS hI).1]
    · show X12_setCooks (wS Yp 0 (uo (Yp 2 0) 0 0 a)) a = _
      unfold X12_setCooks X12_setCooks_b15
      have g0 : inb 0 4202 = true := inb_n (j := 0) (by omega) (by omega)
      rw [in_ok, bd1_e, h, bI_t, if_neg (by decide), fails_000, bd2_e, if_pos rfl, m1, bd1_e, gd_t g0, show ix 0 = 0 from ix_n (j := 0) (by omega), rem_x, hM.1 0 (by omega), lt_e, up_upR, lt_e]
      rw [rem_u]
  · rw [Bool.not_eq_true] at h
    refine R1l hI 2 1 (by decide) (by decide) ?_ ?_
    · unfold X11_setCooks X11_requireCooks X11_isCookCount
      rw [within_ok, bd1_e, gd_t (bI_01 _), bd1_e, h, bI_f, if_pos rfl, bdxv_l]
    · show X12_setCooks Y a = _
      unfold X12_setCooks X12_setCooks_b15
      rw [in_ok, bd1_e, h, bI_f, if_pos rfl, fails_1, bd2_e, if_neg (by decide)]
end
