section
/-! ONE ROUND OF THE LAW'S LOOP -/
theorem LK_cg {h : Nat → Nat → Int32} {m m' : Nat → Int32} (W : WF m) (hL : LK h m) (hf : ∀ x, x < 382 → m' x = m x) : LK h m' := by
  have h14 := W.2.1
  have hn : nS m' = nS m := re_nS (re_agree hf)
  have ep : ∀ k, pth m' k = pth m k := fun k => by
    unfold pth
    rw [hn]
    exact pa_eq W (re_agree hf) (fun s hs => hf _ (by omega)) _ (Nat.le_refl _) k
  obtain ⟨a1, a2, a3, a4, a5, a6, a7⟩ := hL
  refine ⟨by rw [hn]; exact a1, fun s hs => ?_, by rw [hf 4 (by omega)]; exact a3, by rw [hf 7 (by omega)]; exact a4, by rw [hf 8 (by omega)]; exact a5, by rw [hf 9 (by omega)]; exact a6, by rw [hf 10 (by omega)]; exact a7⟩
  rw [hn] at hs
  rw [show fld m' s 17 = fld m s 17 from hf _ (by omega), show fld m' s 18 = fld m s 18 from hf _ (by omega), show fld m' s 19 = fld m s 19 from hf _ (by omega), ep]
  exact a2 s hs
theorem mWorks_6 : ∀ d i (m : Nat → Int32), mWorks m i d 6 = m 6 := by
  intro d
  induction d with
  | zero => intro i m; rfl
  | succ d ih => intro i m; exact (ih (i + 1) (mWork m i)).trans (mWork_0 m i (by omega) (by omega) (by omega))
theorem mCools_6 : ∀ d i (m : Nat → Int32), mCools m i d 6 = m 6 := by
  intro d
  induction d with
  | zero => intro i m; rfl
  | succ d ih => intro i m; exact (ih (i + 1) (mCool m i)).trans (mCool_lo m i (by omega) (by omega))
theorem mMin_6 (m : Nat → Int32) : mMin m 6 = m 6 := by
  unfold mMin
  split
  · rw [show mTick (mMinB (mMinA m)) 6 = mMinB (mMinA m) 6 from pk_un (by decide)]
    unfold mMinB
    rw [mStarts_lo _ _ (by omega) (by omega)]
    unfold mMinA
    rw [mCools_6, mWorks_6]
  · exact pk_un (by decide)
theorem mins_6 (m : Nat → Int32) : ∀ t, mins m t 6 = m 6 := by
  intro t
  induction t with
  | zero => rfl
  | succ t ih => rw [mins_s, mMin_6, ih]
theorem mins_MI {Y : Mem} (hI : Inv Y) {t : Nat} (ht : t < 5000) : WF (mins (Y 10 0 1) t) ∧ MI (mins (Y 10 0 1) t) := by
  obtain ⟨B, -, -, k, -⟩ := KR_of hI
  obtain ⟨p, q, σ, -, c2⟩ := runC_ok ht k
  exact ⟨c2.1, c2.2.2.1.2.2.2.2.2.1⟩
theorem mins_JJ {Y : Mem} (hI : Inv Y) (hJ : JJ (Y 10 0 1)) : ∀ t, t < 5000 → JJ (mins (Y 10 0 1) t) := by
  intro t
  induction t with
  | zero => intro _; exact hJ
  | succ t ih =>
    intro ht
    obtain ⟨w1, w2⟩ := mins_MI hI (t := t) (by omega)
    rw [mins_s]
    exact JJ_min w1 w2 (ih (by omega))
/-- the law's kitchen went t minutes on; the class did not -/
def PS (Y Z : Mem) (t : Nat) : Prop := (∀ k, k ≤ 10 → Z k = Y k) ∧ LK (Z 12 0) (mins (Y 10 0 1) t) ∧ Z 12 0 0 2 = Y 10 0 1 1 ∧ RcE (Y 10 0 1) (mins (Y 10 0 1) t)
theorem PS_0 {Y : Mem} (hL : LK (Y 12 0) (Y 10 0 1)) (h2 : Y 12 0 0 2 = Y 10 0 1 1) : PS Y Y 0 := ⟨fun _ _ => rfl, hL, h2, re_refl _, fun _ _ => rfl, rfl⟩
theorem PS_step {Y Z : Mem} {t : Nat} (hI : Inv Y) (ht : t < 5000) (h6 : Y 10 0 1 6 = 0) (h : PS Y Z t) : ∃ Z', X12_pass Z = some Z' ∧ PS Y Z' (t + 1) := by
  obtain ⟨p1, p2, p3, p4⟩ := h
  have em : Z 10 0 1 = Y 10 0 1 := by rw [p1 10 (by omega)]
  obtain ⟨w1, w2⟩ := mins_MI hI ht
  obtain ⟨Z', q1, q2, q3, q4, q5⟩ := pass_ok (Inv_fr p1 hI) (μ := mins (Y 10 0 1) t) (by rw [em]; exact p4) w1 w2 (by rw [mins_6]; exact h6) p2 (by rw [em]; exact p3)
  rw [em] at q4 q5
  exact ⟨Z', q1, fun k hk => (q2 k hk).trans (p1 k hk), q3, q4, q5⟩
theorem mins_srv {m : Nat → Int32} (h6 : m 6 = 1) : ∀ t x, mins m t x = if x = 4 then m 4 + nI t else m x := by
  intro t
  induction t with
  | zero =>
    intro x
    by_cases e : x = 4
    · subst e; rw [if_pos rfl]; exact (Int32.add_zero _).symm
    · rw [if_neg e]; rfl
  | succ t ih =>
    intro x
    have e6 : mins m t 6 = 1 := by rw [mins_6]; exact h6
    rw [mins_s]
    unfold mMin
    rw [e6, if_neg (by decide)]
    unfold mTick
    by_cases e : x = 4
    · subst e
      rw [pk_us, if_pos rfl, ih, if_pos rfl, Int32.add_assoc, nI_1]
    · rw [pk_un e, ih, if_neg e, if_neg e]
theorem pth_mins {Y : Mem} (hI : Inv Y) (k : Nat) : ∀ t, t < 5000 → pth (mins (Y 10 0 1) t) k = pth (Y 10 0 1) k := by
  intro t
  induction t with
  | zero => intro _; rfl
  | succ t ih =>
    intro ht
    rw [mins_s, pth_min (mins_MI hI (t := t) (by omega)).1, ih (by omega)]
theorem PS_srv {Y : Mem} {t : Nat} (hI : Inv Y) (ht : t < 5000) (h6 : Y 10 0 1 6 = 1) (hL : LK (Y 12 0) (Y 10 0 1)) (h2 : Y 12 0 0 2 = Y 10 0 1 1) : PS Y (up Y 12 0 0 7 (Y 12 0 0 7 + nI t)) t := by
  have e := mins_srv h6 t
  have h14 := nS_le hI
  have hr : RecEq (Y 10 0 1) (mins (Y 10 0 1) t) := mins_re _ t
  have ef : ∀ s w, fld (mins (Y 10 0 1) t) s w = fld (Y 10 0 1) s w := fun s w => by unfold fld; rw [e, if_neg (by omega)]
  have hk : up Y 12 0 0 7 (Y 12 0 0 7 + nI t) = k12 Y (uo (Y 12 0) 0 7 (Y 12 0 0 7 + nI t)) := by
    have := up_k12 Y (Y 12 0) 0 7 (Y 12 0 0 7 + nI t)
    rw [k12_self] at this
    exact this
  rw [hk]
  have e12 : k12 Y (uo (Y 12 0) 0 7 (Y 12 0 0 7 + nI t)) 12 0 = uo (Y 12 0) 0 7 (Y 12 0 0 7 + nI t) := funext fun o => k12_at _ _ _
  obtain ⟨a1, a2, a3, a4, a5, a6, a7⟩ := hL
  refine ⟨fun k hk9 => k12_k (by omega), ?_, ?_, hr, fun s _ => ef s 7, by rw [e, if_neg (by omega)]⟩
  · rw [e12]
    refine ⟨by rw [uo_o (by omega), re_nS hr]; exact a1, fun s hs => ?_, by rw [uo_s, a3, e, if_pos rfl], by rw [uo_o (by omega), e, if_neg (by omega)]; exact a4, by rw [uo_o (by omega), e, if_neg (by omega)]; exact a5, by rw [uo_o (by omega), e, if_neg (by omega)]; exact a6, by rw [uo_o (by omega), e, if_neg (by omega)]; exact a7⟩
    rw [re_nS hr] at hs
    rw [ef, ef, ef, pth_mins hI s t ht, uo_f (by decide), uo_f (by decide), uo_f (by decide), uo_f (by decide)]
    exact a2 s hs
  · rw [k12_at, uo_o (by omega)]; exact h2
/-- what stands between two rounds; T minutes at most have gone -/
def LI (Y : Mem) (T : Nat) : Prop := Inv Y ∧ JJ (Y 10 0 1) ∧ Y 12 0 0 1 = nI (nS (Y 10 0 1)) ∧ Y 12 0 0 2 = Y 10 0 1 1 ∧ ∃ t, t ≤ T ∧ Y 10 0 1 4 = nI t
theorem LI_gh {Y Ym : Mem} {T : Nat} (hY : LI Y T) (h12 : Ym 12 = Y 12) (hI : Inv Ym) (hJ : JJ (Ym 10 0 1)) (hr : RecEq (Y 10 0 1) (Ym 10 0 1)) (h4 : Ym 10 0 1 4 = Y 10 0 1 4) : LI Ym T := by
  obtain ⟨-, -, l1, l2, t, t1, t2⟩ := hY
  exact ⟨hI, hJ, by rw [h12, re_nS hr]; exact l1, by rw [h12, re_w hr 1 (by omega) (by decide)]; exact l2, t, t1, h4.trans t2⟩
/-- reading, and agreeing -/
theorem it_read {Y : Mem} {T : Nat} (h : LI Y T) : ∃ h', X12_read Y = some (k12 Y h') ∧ LI (k12 Y h') T ∧ LK (k12 Y h' 12 0) (k12 Y h' 10 0 1) ∧ X12_agrees (k12 Y h') = some 1 := by
  obtain ⟨hI, hJ, l1, l2, lt⟩ := h
  obtain ⟨h', r1, r2, r3⟩ := read_ok hI l1
  have e12 : k12 Y h' 12 0 = h' := funext fun o => k12_at _ _ _
  have em := k12_m Y h'
  have hL : LK (k12 Y h' 12 0) (k12 Y h' 10 0 1) := by rw [e12, em]; exact r2
  refine ⟨h', r1, ⟨Inv_k12 h' hI, by rw [em]; exact hJ, by rw [em]; exact hL.1, by rw [k12_at, em, r3]; exact l2, by rw [em]; exact lt⟩, hL, ?_⟩
  exact agrees_ok (Inv_k12 h' hI) hL (by rw [em]; exact JJ_inc hJ) (by rw [em]; exact hJ.2.2.2)
/-- passing t minutes, and agreeing -/
theorem it_pass {Y Z : Mem} {T t : Nat} (h : LI Y T) (hT : T + t ≤ 9999) (t1 : 1 ≤ t) (t2 : t ≤ 200) (hp : PS Y Z t) : ∃ r Yc Ym, X11_pass Z (nI t) = some (r, Yc) ∧ r = Yc 12 0 0 9 - Y 10 0 1 8 ∧ (∀ k, k ≠ 10 → Ym k = Yc k) ∧ LI Ym (T + t) ∧ X12_agrees Ym = some 1 := by
  obtain ⟨hI, hJ, l1, l2, t0, t3, t4⟩ := h
  obtain ⟨p1, p2, p3, p4⟩ := hp
  have em : Z 10 0 1 = Y 10 0 1 := by rw [p1 10 (by omega)]
  have hZ := Inv_fr p1 hI
  obtain ⟨r, Yc, Ym, f, q1, q2, q3, q4, q5, q6, q7⟩ := s_pass hZ t1 t2 (by
    rw [em, t4, nI_add, show (9999 : Int32) = nI 9999 from rfl, nI_ltI (by omega) (by omega)]; omega)
  rw [em] at q6 q7
  subst q7
  obtain ⟨w1, w2⟩ := mins_MI hI (t := t) (by omega)
  have hc : Yc 12 = Z 12 := q3 12 (by decide) (by decide) (by decide)
  have hm : Ym 12 = Z 12 := (q2 12 (by decide)).trans hc
  have hr : RecEq (Y 10 0 1) (Ym 10 0 1) := re_trans (mins_re _ t) (re_agree q5)
  have hL : LK (Ym 12 0) (Ym 10 0 1) := by rw [hm]; exact LK_cg w1 p2 q5
  have hJ2 : JJ (Ym 10 0 1) := JJ_cg w1 (mins_JJ hI hJ t (by omega)) q5
  have e4 : Ym 10 0 1 4 = nI (t0 + t) := by
    have := (q4.2.2.2.1.2.1)
    rw [q5 4 (by omega)]
    have h4 : ∀ j, mins (Y 10 0 1) j 4 = Y 10 0 1 4 + nI j := by
      intro j
      induction j with
      | zero => exact (Int32.add_zero _).symm
      | succ j ih =>
        rw [mins_s]
        have e9 : mMin (mins (Y 10 0 1) j) 4 = mins (Y 10 0 1) j 4 + 1 := by
          unfold mMin
          split
          · unfold mTick
            rw [pk_us]
            unfold mMinB
            rw [mStarts_lo _ _ (by omega) (by omega)]
            unfold mMinA
            have a : ∀ d i (m : Nat → Int32), mWorks m i d 4 = m 4 := by
              intro d
              induction d with
              | zero => intro i m; rfl
              | succ d ih => intro i m; exact (ih (i + 1) (mWork m i)).trans (mWork_0 m i (by omega) (by omega) (by omega))
            have b : ∀ d i (m : Nat → Int32), mCools m i d 4 = m 4 := by
              intro d
              induction d with
              | zero => intro i m; rfl
              | succ d ih => intro i m; exact (ih (i + 1) (mCool m i)).trans (mCool_lo m i (by omega) (by omega))
            rw [b, a]
          · exact pk_us
        rw [e9, ih, Int32.add_assoc, nI_1]
    rw [h4, t4, nI_add]
  refine ⟨r, Yc, Ym, q1, ?_, q2, ⟨q4, hJ2, by rw [hL.1], ?_, t0 + t, by omega, e4⟩, ?_⟩
  · rw [q6, hc, p2.2.2.2.2.1]
  · rw [hm, p3]; exact (re_w hr 1 (by omega) (by decide)).symm
  · exact agrees_ok q4 hL (JJ_inc hJ2) hJ2.2.2.2
end
