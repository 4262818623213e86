section
/-! WHAT THE CHANGES DO, over the invariant; the ghost goes along -/
def StpK (Y : Mem) (c : Option (Int32 × Mem)) (P : Int32 → (Nat → Int32) → Prop) : Prop :=
  ∃ r Yc Ym f, c = some (r, Yc) ∧ (∀ k, k ≠ 10 → Ym k = Yc k) ∧ (∀ k, k ≠ 1 → k ≠ 2 → k ≠ 9 → Yc k = Y k) ∧ Inv Ym ∧ (∀ x, x < 382 → Ym 10 0 1 x = f x) ∧ P r f
theorem mut_go2 {Y : Mem} (hI : Inv Y) : ∃ Yp, X2_push Y 0 = some Yp ∧ CK Y Yp (Y 10 0 1) ∧ Yp 2 0 = Y 2 0 ∧ (∀ k, k ≠ 2 → k ≠ 9 → Yp k = Y k) ∧ ∀ Yc f', Ch Yp Yc → KS (Yc 2 0) (Y 10 0 1) f' → ∃ Ym, (∀ k, k ≠ 10 → Ym k = Yc k) ∧ (∀ x, x < 382 → Ym 10 0 1 x = f' x) ∧ Inv Ym := by
  obtain ⟨n, c, hH⟩ := hI.2.2.2.2.2.2.2.2.2.1
  obtain ⟨Yp, p1, hp, hpk⟩ := push_ok hH (Inv_5 hI)
  have hM := (rem_ok Y hH.2.1 hH.2.2.2.2.1).2
  have e2 : Yp 2 0 = Y 2 0 := hp.2.1 0 (by omega)
  refine ⟨Yp, p1, ⟨by rw [hpk 1 (by omega) (by omega)], hpk 3 (by omega) (by omega), hpk 4 (by omega) (by omega), ?_⟩, e2, hpk, fun Yc f' hc hK => ?_⟩
  · rw [e2]
    exact Inv_KS hI
  · have hnS : nS f' ≤ 14 := KS_nS hK hI.1
    have hK2 : KS (Yc 2 0) (Y 10 0 1) (fun x => if x < 382 then f' x else remA (Y 10 0 1) c x) := KS_cg hK hnS (fun _ _ => rfl) (fun x hx => if_pos hx)
    refine ⟨upR (upR (up (up Yc 10 0 0 9 0) 10 0 0 2 (nI (min (c + 1) 6))) 10 0 1 (remA (Y 10 0 1) c)) 10 0 1 (fun x => if x < 382 then f' x else remA (Y 10 0 1) c x), fun k hk => ?_, fun x hx => ?_, (mut_end hI hp hpk hc hM (QN_upR _ _) (fun x hx => ?_) (upR_at _ _ _ _ _) hK2).2⟩
    · funext g o
      rw [upR_o (by omega), upR_o (by omega), up_eq, upR_o (by omega), up_eq, upR_o (by omega)]
    · rw [upR_at]; exact if_pos hx
    · rw [upR_at]; exact if_neg (by omega)
theorem ch_fr {Y Yp Yc : Mem} (hpk : ∀ k, k ≠ 2 → k ≠ 9 → Yp k = Y k) (hc : Ch Yp Yc) : ∀ k, k ≠ 1 → k ≠ 2 → k ≠ 9 → Yc k = Y k := fun k h1 h2 h9 => (hc.1 k h1 h2).trans (hpk k h2 h9)
theorem s_stop {Y : Mem} (hI : Inv Y) {s : Nat} (hs : s < nS (Y 10 0 1)) (h17 : fld (Y 10 0 1) s 17 = 1) : StpK Y (X11_stop Y (nI s)) (fun _ f => f = mHalt (Y 10 0 1) s) := by
  have h14 := nS_le hI
  have hb : bt (Y 2 0 0 6) s = (fld (Y 10 0 1) s 17 == 1) := by rw [(Inv_SB hI s (by omega)).1, stB_in hs]
  obtain ⟨Yp, p1, ck, e2, hpk, fin⟩ := mut_go2 hI
  obtain ⟨B, b1, b2, k, bu, hn⟩ := CK_KR hI ck
  obtain ⟨Yc, c1, c2, c3, c4, c5⟩ := op_halt hI ck (s := s) (by omega) h17
  obtain ⟨Ym, z1, z2, z3⟩ := fin Yc _ c2 c3
  refine ⟨fld (Y 10 0 1) s 18, Yc, Ym, _, ?_, z1, ch_fr hpk c2, z3, z2, rfl⟩
  unfold X11_stop
  rw [nS_in hI hs, bd1_e, contains_ok Y _ (by omega), bd1_e, hb, h17, show bI ((1 : Int32) == 1) = 1 from rfl, if_neg (by decide), p1, bd1_e, c1, bd2_e]
theorem s_redo {Y : Mem} (hI : Inv Y) {s : Nat} (hs : s < nS (Y 10 0 1)) (hc : canRedo (Y 10 0 1) s = true) : StpK Y (X11_redo Y (nI s)) (fun _ f => f = mDisc (Y 10 0 1) s) := by
  have h14 := nS_le hI
  obtain ⟨B0, -, -, k0, -⟩ := KR_of hI
  have hr := redo_ok k0 hs
  rw [hc, bI_t] at hr
  have h17 : fld (Y 10 0 1) s 17 = 2 := by
    unfold canRedo at hc
    rw [Bool.and_eq_true, Bool.and_eq_true, beq_iff_eq] at hc
    exact hc.1.1
  obtain ⟨Yp, p1, ck, e2, hpk, fin⟩ := mut_go2 hI
  obtain ⟨B, b1, b2, k, bu, hn⟩ := CK_KR hI ck
  obtain ⟨Yc, c1, c2, c3, c4, c5⟩ := op_disc hI ck (s := s) (by omega) h17
  obtain ⟨Ym, z1, z2, z3⟩ := fin Yc _ c2 c3
  refine ⟨fld (Y 10 0 1) s 19, Yc, Ym, _, ?_, z1, ch_fr hpk c2, z3, z2, rfl⟩
  unfold X11_redo
  rw [nS_in hI hs, bd1_e, hr, bd1_e, if_neg (by decide), p1, bd1_e, c1, bd2_e]
theorem s_setCooks {Y : Mem} (hI : Inv Y) {a : Int32} (h : decide ((1 : Int32) ≤ a ∧ a ≤ 4) = true) : StpK Y (X11_setCooks Y a) (fun _ f => f = upd (Y 10 0 1) 0 a) := by
  obtain ⟨Yp, p1, ck, e2, hpk, fin⟩ := mut_go2 hI
  have c2 := Ch_wS Yp (uo (Yp 2 0) 0 0 a)
  have c3 : KS ((wS Yp 0 (uo (Yp 2 0) 0 0 a)) 2 0) (Y 10 0 1) (upd (Y 10 0 1) 0 a) := by
    rw [wS_2]
    exact KS_cooks _ ck.2.2.2
  obtain ⟨Ym, z1, z2, z3⟩ := fin _ _ c2 c3
  refine ⟨Y 10 0 1 0, wS Yp 0 (uo (Yp 2 0) 0 0 a), Ym, _, ?_, z1, ch_fr hpk c2, z3, z2, rfl⟩
  unfold X11_setCooks X11_requireCooks X11_isCookCount
  rw [within_ok, bd1_e, gd_t (bI_01 _), bd1_e, h, bI_t, if_neg (by decide), bd1_e, p1, bd1_e, lt_e, up_self, lt_e, e2, (Inv_StS hI).1]
theorem s_setDuration {Y : Mem} (hI : Inv Y) {s t : Nat} (hs : s < nS (Y 10 0 1)) (t1 : 1 ≤ t) (t2 : t ≤ 60) : StpK Y (X11_setDuration Y (nI s) (nI t)) (fun _ f => f = upd (Y 10 0 1) (46 + s * 24 + 7) (nI t)) := by
  have h14 := nS_le hI
  have hd : decide ((1 : Int32) ≤ nI t ∧ nI t ≤ 60) = true := decide_eq_true ⟨(nI_leI (a := 1) (b := t) (by omega) (by omega)).mpr t1, (nI_leI (a := t) (b := 60) (by omega) (by omega)).mpr t2⟩
  obtain ⟨Yp, p1, ck, e2, hpk, fin⟩ := mut_go2 hI
  obtain ⟨B, b1, b2, k, bu, hn⟩ := CK_KR hI ck
  have c2 := Ch_wS Yp (uo (Yp 2 0) 1 s (nI t))
  have c3 : KS ((wS Yp 0 (uo (Yp 2 0) 1 s (nI t))) 2 0) (Y 10 0 1) (upd (Y 10 0 1) (46 + s * 24 + 7) (nI t)) := by
    rw [wS_2]
    exact KS_dur ⟨t1, t2⟩ ck.2.2.2
  obtain ⟨Ym, z1, z2, z3⟩ := fin _ _ c2 c3
  refine ⟨fld (Y 10 0 1) s 7, wS Yp 0 (uo (Yp 2 0) 1 s (nI t)), Ym, _, ?_, z1, ch_fr hpk c2, z3, z2, rfl⟩
  unfold X11_setDuration X11_isDuration
  rw [nS_in hI hs, bd1_e, within_ok, bd1_e, gd_t (bI_01 _), bd1_e, hd, bI_t, if_neg (by decide), p1, bd1_e, gdi (show s < 14 by omega), lt_e, ix_n (by omega), up_self, lt_e, (k.2.2.1.2.2.1 s (by omega)).1]
theorem s_addSalt {Y : Mem} (hI : Inv Y) {a : Int32} (c0 : ¬ a = 0) (h : decide ((-9 : Int32) ≤ a ∧ a ≤ 9) = true) (s6 : Y 10 0 1 6 = 0) : StpK Y (X11_addSalt Y a) (fun _ f => f = upd (Y 10 0 1) 5 (Y 10 0 1 5 + a)) := by
  have e6 : Y 2 0 0 5 = Y 10 0 1 6 := (Inv_StS hI).2.2.2.2
  obtain ⟨Yp, p1, ck, e2, hpk, fin⟩ := mut_go2 hI
  have e5 : Yp 2 0 0 2 = Y 10 0 1 5 := by rw [e2]; exact (Inv_StS hI).2.2.1
  have c2 := Ch_wS Yp (uo (Yp 2 0) 0 2 (Yp 2 0 0 2 + a))
  have c3 : KS ((wS Yp 0 (uo (Yp 2 0) 0 2 (Yp 2 0 0 2 + a))) 2 0) (Y 10 0 1) (upd (Y 10 0 1) 5 (Y 10 0 1 5 + a)) := by
    rw [wS_2, e5]
    exact KS_salt _ ck.2.2.2
  obtain ⟨Ym, z1, z2, z3⟩ := fin _ _ c2 c3
  obtain ⟨B, -, -, k, -, -⟩ := CK_KR hI (CK_Ch ck c2 c3)
  have ht := taste_ok _ k.1 k.2.1 k.2.2.1.2.1 k.2.2.1.1.2.2.1
  refine ⟨tst (upd (Y 10 0 1) 5 (Y 10 0 1 5 + a)), wS Yp 0 (uo (Yp 2 0) 0 2 (Yp 2 0 0 2 + a)), Ym, _, ?_, z1, ch_fr hpk c2, z3, z2, rfl⟩
  unfold X11_addSalt X11_isSaltAmount
  rw [if_neg c0, within_ok, bd1_e, h, bI_t, if_neg (by decide), bd1_e, if_neg (by decide), e6, if_pos s6, p1, bd1_e, up_self, lt_e, ht, bd1_e]
theorem s_serve {Y : Mem} (hI : Inv Y) (h : srv (Y 10 0 1) = 0) : StpK Y (X11_serve Y) (fun _ f => f = upd (Y 10 0 1) 6 1) := by
  obtain ⟨Yp, p1, ck, e2, hpk, fin⟩ := mut_go2 hI
  have c2 := Ch_wS Yp (uo (Yp 2 0) 0 5 1)
  have c3 : KS ((wS Yp 0 (uo (Yp 2 0) 0 5 1)) 2 0) (Y 10 0 1) (upd (Y 10 0 1) 6 1) := by
    rw [wS_2]
    exact KS_serve ck.2.2.2
  obtain ⟨Ym, z1, z2, z3⟩ := fin _ _ c2 c3
  obtain ⟨B, -, -, k, -, -⟩ := CK_KR hI (CK_Ch ck c2 c3)
  have ht := taste_ok _ k.1 k.2.1 k.2.2.1.2.1 k.2.2.1.1.2.2.1
  refine ⟨tst (upd (Y 10 0 1) 6 1), wS Yp 0 (uo (Yp 2 0) 0 5 1), Ym, _, ?_, z1, ch_fr hpk c2, z3, z2, rfl⟩
  unfold X11_serve
  rw [serv_ok hI, bd1_e, if_pos h, p1, bd1_e, up_self, lt_e, ht, bd1_e]
theorem s_pass {Y : Mem} (hI : Inv Y) {t : Nat} (t1 : 1 ≤ t) (t2 : t ≤ 200) (hB : ¬ (9999 : Int32) < Y 10 0 1 4 + nI t) : StpK Y (X11_pass Y (nI t)) (fun r f => r = mins (Y 10 0 1) t 8 - Y 10 0 1 8 ∧ f = mins (Y 10 0 1) t) := by
  have h : decide ((1 : Int32) ≤ nI t ∧ nI t ≤ 200) = true := decide_eq_true ⟨(nI_leI (a := 1) (b := t) (by omega) (by omega)).mpr t1, (nI_leI (a := t) (b := 200) (by omega) (by omega)).mpr t2⟩
  have e4 : Y 2 0 0 1 = Y 10 0 1 4 := (Inv_StS hI).2.1
  obtain ⟨Yp, p1, ck, e2, hpk, fin⟩ := mut_go2 hI
  obtain ⟨Yc, c1, c2, c3, c4, c5⟩ := op_pass hI ck t2 hB
  obtain ⟨Ym, z1, z2, z3⟩ := fin Yc _ c2 c3
  refine ⟨mins (Y 10 0 1) t 8 - Y 10 0 1 8, Yc, Ym, _, ?_, z1, ch_fr hpk c2, z3, z2, rfl, rfl⟩
  unfold X11_pass X11_isPassLength X11_fitsClock
  rw [within_ok, bd1_e, gd_t (bI_01 _), bd1_e, h, bI_t, if_neg (by decide), e4, if_neg hB, bd1_e, if_neg (by decide), p1, bd1_e, c1, bd2_e]
end
