section
theorem q_pass {Y : Mem} (hI : Inv Y) (a : Int32) : R1 (T11_pass Y a) (fun Y => M12_pass Y a) c21 := by
  by_cases h : decide ((1 : Int32) ≤ a ∧ a ≤ 200) = true
  · obtain ⟨t, t1, t2, rfl⟩ := rng_n (a := a) (lo := 1) (hi := 200) (by omega) (of_decide_eq_true h) (by omega)
    have e4 : Y 2 0 0 1 = Y 10 0 1 4 := (Inv_StS hI).2.1
    have g4 : inb 4 4202 = true := inb_n (j := 4) (by omega) (by omega)
    have i4 : ix 4 = 4 := ix_n (j := 4) (by omega)
    by_cases hB : (9999 : Int32) < Y 10 0 1 4 + nI t
    · refine R1l hI 1 2 (by decide) (by decide) ?_ ?_
      · unfold T11_pass X11_isPassLength X11_fitsClock
        rw [within_ok, bd1_e, gd_t (bI_01 _), bd1_e, h, bI_t, if_neg (by decide), e4, if_pos hB, bd1_e, if_pos rfl]
      · show M12_pass Y (nI t) = _
        unfold M12_pass M12_pass_b19 M12_pass_b42
        rw [in_ok, bd1_e, h, bI_t, if_neg (by decide), if_neg (by decide), gd_t g4, i4, if_neg (Int32.not_le.mpr hB), fails_2, bd2_e, if_neg (by decide)]
    · obtain ⟨Yp, f, p1, ck, ag, e2, fin⟩ := mut_go hI
      obtain ⟨Yc, c1, c2, c3, c4, c5⟩ := op_pass hI ck t2 (by rw [ag 4 (by omega)]; exact hB)
      obtain ⟨e10, Z0, z1, z2, z3⟩ := fin Yc _ c2 c3 c4
      obtain ⟨Z', m1, m2, m3⟩ := c5 Z0 z2
      obtain ⟨g1, g2⟩ := z3 Z' m3 m2
      right
      refine ⟨mins f t 8 - f 8, Yc, ?_, Z', ?_, g1, g2⟩
      · unfold T11_pass X11_isPassLength X11_fitsClock
        rw [within_ok, bd1_e, gd_t (bI_01 _), bd1_e, h, bI_t, if_neg (by decide), e4, if_neg hB, bd1_e, if_neg (by decide), p1, bd1_e, c1, bd2_e]
      · show M12_pass Yc (nI t) = _
        unfold M12_pass M12_pass_b19 M12_pass_b41 M12_pass_b42
        rw [in_ok, bd1_e, h, bI_t, if_neg (by decide), if_neg (by decide), gd_t g4, i4, e10, if_pos (Int32.not_lt.mp hB), fails_000, bd2_e, if_pos rfl, z1, bd1_e, m1, bd2_e]
  · rw [Bool.not_eq_true] at h
    refine R1l hI 2 1 (by decide) (by decide) ?_ ?_
    · unfold T11_pass X11_isPassLength
      rw [within_ok, bd1_e, gd_t (bI_01 _), bd1_e, h, bI_f, if_pos rfl]
    · show M12_pass Y a = _
      unfold M12_pass M12_pass_b19 M12_pass_b41 M12_pass_b42
      rw [in_ok, bd1_e, h, bI_f, if_pos rfl, if_pos rfl, fails_1, bd2_e, if_neg (by decide)]
theorem q_addSalt {Y : Mem} (hI : Inv Y) (a : Int32) : R1 (T11_addSalt Y a) (fun Y => M12_addSalt Y a) c21 := by
  have g6 : inb 6 4202 = true := inb_n (j := 6) (by omega) (by omega)
  have g5 : inb 5 4202 = true := inb_n (j := 5) (by omega) (by omega)
  have i6 : ix 6 = 6 := ix_n (j := 6) (by omega)
  have i5 : ix 5 = 5 := ix_n (j := 5) (by omega)
  have bad : M12_addSalt_b21 a Y 1 = some (0, up Y 10 0 0 9 1) := by
    unfold M12_addSalt_b21 M12_addSalt_b37
    rw [gd_t g6, fails_1, fails_1, ite_self, bd2_e, if_neg (by decide)]
  by_cases c0 : a = 0
  · refine R1l hI 2 1 (by decide) (by decide) ?_ ?_
    · unfold T11_addSalt X11_isSaltAmount
      rw [if_pos c0, bd1_e, if_pos rfl]
    · show M12_addSalt Y a = _
      unfold M12_addSalt M12_addSalt_b16
      rw [in_ok, bd1_e, if_pos c0, ite_self]
      exact bad
  · by_cases h : decide ((-9 : Int32) ≤ a ∧ a ≤ 9) = true
    · have e6 : Y 2 0 0 5 = Y 10 0 1 6 := (Inv_StS hI).2.2.2.2
      rcases Inv_6 hI with s6 | s6
      · obtain ⟨Yp, f, p1, ck, ag, e2, fin⟩ := mut_go hI
        have e5 : Yp 2 0 0 2 = f 5 := by rw [e2, ag 5 (by omega)]; exact (Inv_StS hI).2.2.1
        have c2 := Ch_wS Yp (uo (Yp 2 0) 0 2 (Yp 2 0 0 2 + a))
        have c3 : KS ((wS Yp 0 (uo (Yp 2 0) 0 2 (Yp 2 0 0 2 + a))) 2 0) (Y 10 0 1) (upd f 5 (f 5 + a)) := by
          rw [wS_2, e5]
          exact KS_salt _ ck.2.2.2
        obtain ⟨e10, Z0, z1, z2, z3⟩ := fin _ _ c2 c3 (hi_u f _ (by omega))
        obtain ⟨B, -, -, k, -, -⟩ := CK_KR hI (CK_Ch ck c2 c3)
        obtain ⟨g1, g2⟩ := z3 (upR Z0 10 0 1 (upd f 5 (f 5 + a))) (QN_upR _ _) (upR_at _ _ _ _ _)
        have ht := taste_ok _ k.1 k.2.1 k.2.2.1.2.1 k.2.2.1.1.2.2.1
        right
        refine ⟨tst (upd f 5 (f 5 + a)), wS Yp 0 (uo (Yp 2 0) 0 2 (Yp 2 0 0 2 + a)), ?_, _, ?_, g1, g2⟩
        · unfold T11_addSalt X11_isSaltAmount
          rw [if_neg c0, within_ok, bd1_e, h, bI_t, if_neg (by decide), bd1_e, if_neg (by decide), e6, if_pos s6, p1, bd1_e, up_self, lt_e, ht, bd1_e]
        · show M12_addSalt (wS Yp 0 (uo (Yp 2 0) 0 2 (Yp 2 0 0 2 + a))) a = _
          unfold M12_addSalt M12_addSalt_b21 M12_addSalt_b37
          rw [in_ok, bd1_e, h, bI_t, if_neg (by decide), if_neg c0, gd_t g6, e10, i6, s6, if_neg (by decide), fails_000, bd2_e, if_pos rfl, z1, bd1_e, gd_t g5, i5, z2, up_eq, z2, lt_e, tst_ok _ (by rw [upR_at]; exact k.1), bd1_e, upR_at]
      · refine R1l hI 1 2 (by decide) (by decide) ?_ ?_
        · unfold T11_addSalt X11_isSaltAmount
          rw [if_neg c0, within_ok, bd1_e, h, bI_t, if_neg (by decide), bd1_e, if_neg (by decide), e6, s6, if_neg (by decide)]
        · show M12_addSalt Y a = _
          unfold M12_addSalt M12_addSalt_b21 M12_addSalt_b37
          rw [in_ok, bd1_e, h, bI_t, if_neg (by decide), if_neg c0, gd_t g6, i6, s6, if_pos rfl, fails_2, bd2_e, if_neg (by decide)]
    · rw [Bool.not_eq_true] at h
      refine R1l hI 2 1 (by decide) (by decide) ?_ ?_
      · unfold T11_addSalt X11_isSaltAmount
        rw [if_neg c0, within_ok, bd1_e, h, bI_f, if_pos rfl, bd1_e, if_pos rfl]
      · show M12_addSalt Y a = _
        unfold M12_addSalt M12_addSalt_b16
        rw [in_ok, bd1_e, h, bI_f, if_pos rfl]
        exact bad
theorem q_setCooks {Y : Mem} (hI : Inv Y) (a : Int32) : R1 (T11_setCooks Y a) (fun Y => M12_setCooks Y a) c2_ := by
  by_cases h : decide ((1 : Int32) ≤ a ∧ a ≤ 4) = true
  · obtain ⟨Yp, f, p1, ck, ag, e2, fin⟩ := mut_go hI
    have c2 := Ch_wS Yp (uo (Yp 2 0) 0 0 a)
    have c3 : KS ((wS Yp 0 (uo (Yp 2 0) 0 0 a)) 2 0) (Y 10 0 1) (upd f 0 a) := by
      rw [wS_2]
      exact KS_cooks _ ck.2.2.2
    obtain ⟨e10, Z0, z1, z2, z3⟩ := fin _ _ c2 c3 (hi_u f _ (by omega))
    obtain ⟨g1, g2⟩ := z3 (upR Z0 10 0 1 (upd f 0 a)) (QN_upR _ _) (upR_at _ _ _ _ _)
    right
    refine ⟨Y 10 0 1 0, wS Yp 0 (uo (Yp 2 0) 0 0 a), ?_, _, ?_, g1, g2⟩
    · unfold T11_setCooks T11_requireCooks X11_isCookCount
      rw [within_ok, bd1_e, gd_t (bI_01 _), bd1_e, h, bI_t, if_neg (by decide), bdxv_r, p1, bd1_e, lt_e, up_self, lt_e, e2, (Inv_StS hI).1]
    · show M12_setCooks (wS Yp 0 (uo (Yp 2 0) 0 0 a)) a = _
      unfold M12_setCooks M12_setCooks_b15
      have g0 : inb 0 4202 = true := inb_n (j := 0) (by omega) (by omega)
      rw [in_ok, bd1_e, h, bI_t, if_neg (by decide), fails_000, bd2_e, if_pos rfl, z1, bd1_e, gd_t g0, show ix 0 = 0 from ix_n (j := 0) (by omega), z2, ag 0 (by omega), lt_e, up_eq, z2, lt_e]
  · rw [Bool.not_eq_true] at h
    refine R1l hI 2 1 (by decide) (by decide) ?_ ?_
    · unfold T11_setCooks T11_requireCooks X11_isCookCount
      rw [within_ok, bd1_e, gd_t (bI_01 _), bd1_e, h, bI_f, if_pos rfl, bdxv_l]
    · show M12_setCooks Y a = _
      unfold M12_setCooks M12_setCooks_b15
      rw [in_ok, bd1_e, h, bI_f, if_pos rfl, fails_1, bd2_e, if_neg (by decide)]
theorem q_stop {Y : Mem} (hI : Inv Y) (a : Int32) : R1 (T11_stop Y a) (fun Y => M12_stop Y a) c31 := by
  have h14 := nS_le hI
  cases h : inb a (nS (Y 10 0 1))
  · refine R1l hI 3 1 (by decide) (by decide) ?_ ?_
    · unfold T11_stop; rw [rS_out hI h, bdxv_l]
    · show M12_stop Y a = _
      unfold M12_stop M12_stop_b16 M12_stop_b35 M12_stop_b36
      rw [sS_out hI h, bd1_e, if_pos rfl, if_pos rfl, fails_1, bd2_e, if_neg (by decide)]
  · obtain ⟨s, hs, rfl⟩ := inb_dec a h
    have hb : bt (Y 2 0 0 6) s = (fld (Y 10 0 1) s 17 == 1) := by rw [(Inv_SB hI s (by omega)).1, stB_in hs]
    by_cases h17 : fld (Y 10 0 1) s 17 = 1
    · obtain ⟨Yp, f, p1, ck, ag, e2, fin⟩ := mut_go hI
      obtain ⟨B, b1, b2, k, bu, hn⟩ := CK_KR hI ck
      obtain ⟨Yc, c1, c2, c3, c4, c5⟩ := op_halt hI ck (s := s) (by omega) ((ag _ (by omega)).trans h17)
      obtain ⟨e10, Z0, z1, z2, z3⟩ := fin Yc _ c2 c3 c4
      have m1 := c5 Z0 z2
      obtain ⟨g1, g2⟩ := z3 _ (QN_upR _ _) (upR_at Z0 10 0 1 (mHalt f s))
      right
      refine ⟨fld f s 18, Yc, ?_, _, ?_, g1, g2⟩
      · unfold T11_stop
        rw [rS_in hI hs, bdxv_r, contains_ok Y _ (by omega), bd1_e, hb, h17, show bI ((1 : Int32) == 1) = 1 from rfl, if_neg (by decide), p1, bd1_e, c1, bd2_e]
      · show M12_stop Yc (nI s) = _
        unfold M12_stop M12_stop_b16 M12_stop_b35 M12_stop_b36
        have hw : M12_isStep Yc (nI s) = some 1 := by
          have := isStep_ok Yc (nI s) (by rw [e10]; exact hI.1)
          rw [this, e10, h]; rfl
        have ho : M12_of Yc (nI s) 17 = some (fld (Y 10 0 1) s 17) := by
          have := of_ok Yc (s := s) (w := 17) (by omega)
          rw [e10] at this
          exact this
        rw [hw, bd1_e, if_neg (by decide), if_neg (by decide), ho, bd1_e, if_pos h17, fails_000, bd2_e, if_pos rfl, z1, bd1_e, m1, bd2_e]
    · refine R1l hI 1 2 (by decide) (by decide) ?_ ?_
      · unfold T11_stop
        rw [rS_in hI hs, bdxv_r, contains_ok Y _ (by omega), bd1_e, hb, beq_eq_false_iff_ne.mpr h17, bI_f, if_pos rfl]
      · show M12_stop Y (nI s) = _
        unfold M12_stop M12_stop_b16 M12_stop_b36
        have ho : M12_of Y (nI s) 17 = some (fld (Y 10 0 1) s 17) := of_ok Y (s := s) (w := 17) (by omega)
        rw [sS_in hI hs, bd1_e, if_neg (by decide), if_neg (by decide), ho, bd1_e, if_neg h17, fails_2, bd2_e, if_neg (by decide)]
theorem canRedo_cg {a b : Nat → Int32} {s : Nat} (W : WF b) (hs : s < nS b) (h : ∀ x, x < 382 → a x = b x) : canRedo a s = canRedo b s := by
  have h14 := W.2.1
  have hre := re_agree h
  unfold canRedo isTaken hasSucc
  rw [show fld a s 17 = fld b s 17 from h _ (by omega), h 6 (by omega), re_nS hre]
  rw [anyB_congr (n := nS b) (fun k hk => by rw [re_isPred hre (by omega) (W.2.2.2.2.1 k hk).2 s, show fld a k 17 = fld b k 17 from h _ (by omega)])]
theorem q_redo {Y : Mem} (hI : Inv Y) (a : Int32) : R1 (T11_redo Y a) (fun Y => M12_redo Y a) c31 := by
  have h14 := nS_le hI
  cases h : inb a (nS (Y 10 0 1))
  · refine R1l hI 3 1 (by decide) (by decide) ?_ ?_
    · unfold T11_redo; rw [rS_out hI h, bdxv_l]
    · show M12_redo Y a = _
      unfold M12_redo M12_redo_b16 M12_redo_b32 M12_redo_b33
      rw [sS_out hI h, bd1_e, if_pos rfl, if_pos rfl, fails_1, bd2_e, if_neg (by decide)]
  · obtain ⟨s, hs, rfl⟩ := inb_dec a h
    obtain ⟨B0, -, -, k0, -⟩ := KR_of hI
    have hr := redo_ok k0 hs
    cases hc : canRedo (Y 10 0 1) s
    · rw [hc, bI_f] at hr
      refine R1l hI 1 2 (by decide) (by decide) ?_ ?_
      · unfold T11_redo
        rw [rS_in hI hs, bdxv_r, hr, bd1_e, if_pos rfl]
      · show M12_redo Y (nI s) = _
        unfold M12_redo M12_redo_b16 M12_redo_b33
        rw [sS_in hI hs, bd1_e, if_neg (by decide), if_neg (by decide), canRedo_ok Y hI.1 hs, bd1_e, hc, bI_f, if_pos rfl, fails_2, bd2_e, if_neg (by decide)]
    · rw [hc, bI_t] at hr
      have h17 : fld (Y 10 0 1) s 17 = 2 := by
        unfold canRedo at hc
        rw [Bool.and_eq_true, Bool.and_eq_true, beq_iff_eq] at hc
        exact hc.1.1
      obtain ⟨Yp, f, p1, ck, ag, e2, fin⟩ := mut_go hI
      obtain ⟨B, b1, b2, k, bu, hn⟩ := CK_KR hI ck
      obtain ⟨Yc, c1, c2, c3, c4, c5⟩ := op_disc hI ck (s := s) (by omega) ((ag _ (by omega)).trans h17)
      obtain ⟨e10, Z0, z1, z2, z3⟩ := fin Yc _ c2 c3 c4
      have m1 := c5 Z0 z2
      obtain ⟨g1, g2⟩ := z3 _ (QN_upR _ _) (upR_at Z0 10 0 1 (mDisc f s))
      right
      refine ⟨fld f s 19, Yc, ?_, _, ?_, g1, g2⟩
      · unfold T11_redo
        rw [rS_in hI hs, bdxv_r, hr, bd1_e, if_neg (by decide), p1, bd1_e, c1, bd2_e]
      · show M12_redo Yc (nI s) = _
        unfold M12_redo M12_redo_b16 M12_redo_b32 M12_redo_b33
        have hw : M12_isStep Yc (nI s) = some 1 := by
          have := isStep_ok Yc (nI s) (by rw [e10]; exact hI.1)
          rw [this, e10, h]; rfl
        have ho : M12_canRedo Yc (nI s) = some 1 := by
          have := canRedo_ok Yc (s := s) (by rw [e10]; exact hI.1) (by rw [e10]; exact hs)
          rw [this, e10, hc]; rfl
        rw [hw, bd1_e, if_neg (by decide), if_neg (by decide), ho, bd1_e, if_neg (by decide), fails_000, bd2_e, if_pos rfl, z1, bd1_e, m1, bd2_e]
theorem q_setDuration {Y : Mem} (hI : Inv Y) (a d : Int32) : R1 (T11_setDuration Y a d) (fun Y => M12_setDuration Y a d) c32 := by
  have h14 := nS_le hI
  cases h : inb a (nS (Y 10 0 1))
  · refine R1l hI 3 1 (by decide) (by decide) ?_ ?_
    · unfold T11_setDuration; rw [rS_out hI h, bdxv_l]
    · show M12_setDuration Y a d = _
      unfold M12_setDuration M12_setDuration_b14 M12_setDuration_b29
      rw [sS_out hI h, bd1_e, if_pos rfl, in_ok, bd1_e, fails_1, fails_1, ite_self, bd2_e, if_neg (by decide)]
  · obtain ⟨s, hs, rfl⟩ := inb_dec a h
    by_cases hd : decide ((1 : Int32) ≤ d ∧ d ≤ 60) = true
    · obtain ⟨t, t1, t2, rfl⟩ := rng_n (a := d) (lo := 1) (hi := 60) (by omega) (of_decide_eq_true hd) (by omega)
      obtain ⟨Yp, f, p1, ck, ag, e2, fin⟩ := mut_go hI
      obtain ⟨B, b1, b2, k, bu, hn⟩ := CK_KR hI ck
      have c2 := Ch_wS Yp (uo (Yp 2 0) 1 s (nI t))
      have c3 : KS ((wS Yp 0 (uo (Yp 2 0) 1 s (nI t))) 2 0) (Y 10 0 1) (upd f (46 + s * 24 + 7) (nI t)) := by
        rw [wS_2]
        exact KS_dur ⟨t1, t2⟩ ck.2.2.2
      obtain ⟨e10, Z0, z1, z2, z3⟩ := fin _ _ c2 c3 (hi_u f _ (by omega))
      obtain ⟨g1, g2⟩ := z3 _ (QN_upR _ _) (upR_at Z0 10 0 1 (upd f (46 + s * 24 + 7) (nI t)))
      right
      refine ⟨fld f s 7, wS Yp 0 (uo (Yp 2 0) 1 s (nI t)), ?_, _, ?_, g1, g2⟩
      · unfold T11_setDuration X11_isDuration
        rw [rS_in hI hs, bdxv_r, within_ok, bd1_e, gd_t (bI_01 _), bd1_e, hd, bI_t, if_neg (by decide), p1, bd1_e, gdi (show s < 14 by omega), lt_e, ix_n (by omega), up_self, lt_e, (k.2.2.1.2.2.1 s (by omega)).1]
      · show M12_setDuration (wS Yp 0 (uo (Yp 2 0) 1 s (nI t))) (nI s) (nI t) = _
        unfold M12_setDuration M12_setDuration_b14 M12_setDuration_b29
        generalize wS Yp 0 (uo (Yp 2 0) 1 s (nI t)) = Yc at e10 z1
        have hw : M12_isStep Yc (nI s) = some 1 := by
          have := isStep_ok Yc (nI s) (by rw [e10]; exact hI.1)
          rw [this, e10, h]; rfl
        have ho : M12_of Z0 (nI s) 7 = some (fld f s 7) := by
          have := of_ok Z0 (s := s) (w := 7) (by omega)
          rw [z2] at this
          exact this
        have hse : M12_set Z0 (nI s) 7 (nI t) = some (upR Z0 10 0 1 (upd f (46 + s * 24 + 7) (nI t))) := by
          have := set_ok Z0 (s := s) (w := 7) (nI t) (by omega)
          rw [z2] at this
          exact this
        rw [hw, bd1_e, if_neg (by decide), in_ok, bd1_e, hd, bI_t, if_neg (by decide), fails_000, bd2_e, if_pos rfl, z1, bd1_e, ho, bd1_e, hse, bd1_e]
    · rw [Bool.not_eq_true] at hd
      refine R1l hI 2 2 (by decide) (by decide) ?_ ?_
      · unfold T11_setDuration X11_isDuration
        rw [rS_in hI hs, bdxv_r, within_ok, bd1_e, gd_t (bI_01 _), bd1_e, hd, bI_f, if_pos rfl]
      · show M12_setDuration Y (nI s) d = _
        unfold M12_setDuration M12_setDuration_b14 M12_setDuration_b29
        rw [sS_in hI hs, bd1_e, if_neg (by decide), in_ok, bd1_e, hd, bI_f, if_pos rfl, fails_2, bd2_e, if_neg (by decide)]
theorem q_serve {Y : Mem} (hI : Inv Y) : R1 (T11_serve Y) M12_serve c1_ := by
  have g6 : inb 6 4202 = true := inb_n (j := 6) (by omega) (by omega)
  have i6 : ix 6 = 6 := ix_n (j := 6) (by omega)
  by_cases h : srv (Y 10 0 1) = 0
  · obtain ⟨Yp, f, p1, ck, ag, e2, fin⟩ := mut_go hI
    have c2 := Ch_wS Yp (uo (Yp 2 0) 0 5 1)
    have c3 : KS ((wS Yp 0 (uo (Yp 2 0) 0 5 1)) 2 0) (Y 10 0 1) (upd f 6 1) := by
      rw [wS_2]
      exact KS_serve ck.2.2.2
    obtain ⟨e10, Z0, z1, z2, z3⟩ := fin _ _ c2 c3 (hi_u f _ (by omega))
    obtain ⟨B, -, -, k, -, -⟩ := CK_KR hI (CK_Ch ck c2 c3)
    obtain ⟨g1, g2⟩ := z3 _ (QN_upR _ _) (upR_at Z0 10 0 1 (upd f 6 1))
    have ht := taste_ok _ k.1 k.2.1 k.2.2.1.2.1 k.2.2.1.1.2.2.1
    right
    refine ⟨tst (upd f 6 1), wS Yp 0 (uo (Yp 2 0) 0 5 1), ?_, _, ?_, g1, g2⟩
    · unfold T11_serve
      rw [serv_ok hI, bd1_e, if_pos h, p1, bd1_e, up_self, lt_e, ht, bd1_e]
    · generalize wS Yp 0 (uo (Yp 2 0) 0 5 1) = Yc at e10 z1
      unfold M12_serve M12_serve_b13
      rw [srv_ok Yc (by rw [e10]; exact hI.1), bd1_e, e10, if_pos h, fails_000, bd2_e, if_pos rfl, z1, bd1_e, gd_t g6, i6, up_eq, z2, lt_e, tst_ok _ (by rw [upR_at]; exact k.1), bd1_e, upR_at]
  · refine R1l hI 1 1 (by decide) (by decide) ?_ ?_
    · unfold T11_serve
      rw [serv_ok hI, bd1_e, if_neg h]
    · show M12_serve Y = _
      unfold M12_serve M12_serve_b13
      rw [srv_ok Y hI.1, bd1_e, if_neg h, fails_1, bd2_e, if_neg (by decide)]
end
