section
/-! what a minute does to the clock and to the burns -/
theorem mWork_lo (m : Nat → Int32) (i : Nat) {x : Nat} (hx : x < 46) (h8 : x ≠ 8) (h10 : x ≠ 10) : mWork m i x = m x := by
  unfold mWork
  split
  · split
    · rw [mW2_lo _ hx, if_neg h8, mW1_lo _ hx, if_neg h10]
    · rw [mW1_lo _ hx, if_neg h10]
  · exact lo_upd _ _ hx
theorem mWork_w (m : Nat → Int32) (i k : Nat) {w : Nat} (hw : w = 20 ∨ w = 22) : fld (mWork m i) k w = fld m k w := by
  unfold mWork
  split
  · split
    · rw [mW2_fld _ (by omega), if_neg (by omega), if_neg (by omega), if_neg (by omega), mW1_fld _ (by omega), if_neg (by omega), if_neg (by omega)]
    · rw [mW1_fld _ (by omega), if_neg (by omega), if_neg (by omega)]
  · rw [fr_fld _ _ (by omega), if_neg (by omega)]
theorem mCool_lo (m : Nat → Int32) (i : Nat) {x : Nat} (hx : x < 46) (h9 : x ≠ 9) : mCool m i x = m x := by
  unfold mCool
  split
  · rfl
  · split
    · split
      · rfl
      · split
        · rfl
        · split
          · rw [mC2_lo _ hx, if_neg h9, mC1_lo _ hx]
          · rw [mC1_lo _ hx]
    · rfl
theorem mCool_22 (m : Nat → Int32) (i k : Nat) : fld (mCool m i) k 22 = fld m k 22 ∨ (k = i ∧ fld (mCool m i) k 22 = fld m k 22 + 1) := by
  unfold mCool
  split
  · exact Or.inl rfl
  · split
    · split
      · exact Or.inl rfl
      · split
        · exact Or.inl rfl
        · split
          · have e1 : ∀ k, fld (mC1 m i) k 22 = fld m k 22 := fun k => by rw [mC1_fld m (by omega), if_neg (by omega)]
            rw [mC2_fld _ (by omega), if_neg (by omega), if_neg (by omega), e1, e1]
            by_cases e : k = i
            · subst e
              rw [if_pos (by omega)]
              exact Or.inr ⟨rfl, rfl⟩
            · rw [if_neg (by omega)]; exact Or.inl rfl
          · rw [mC1_fld m (by omega), if_neg (by omega)]; exact Or.inl rfl
    · exact Or.inl rfl
theorem mWorks_lo {x : Nat} (hx : x < 46) (h8 : x ≠ 8) (h10 : x ≠ 10) : ∀ (d i : Nat) (m : Nat → Int32), mWorks m i d x = m x := by
  intro d
  induction d with
  | zero => intro i m; rfl
  | succ d ih => intro i m; exact (ih (i + 1) (mWork m i)).trans (mWork_lo m i hx h8 h10)
theorem mWorks_22 : ∀ (d i : Nat) (m : Nat → Int32) (k : Nat), fld (mWorks m i d) k 22 = fld m k 22 := by
  intro d
  induction d with
  | zero => intro i m k; rfl
  | succ d ih => intro i m k; exact (ih (i + 1) (mWork m i) k).trans (mWork_w m i k (Or.inr rfl))
theorem mCools_lo {x : Nat} (hx : x < 46) (h9 : x ≠ 9) : ∀ (d i : Nat) (m : Nat → Int32), mCools m i d x = m x := by
  intro d
  induction d with
  | zero => intro i m; rfl
  | succ d ih => intro i m; exact (ih (i + 1) (mCool m i)).trans (mCool_lo m i hx h9)
theorem mCools_22 : ∀ (d i : Nat) (m : Nat → Int32) (k : Nat), (k < i → fld (mCools m i d) k 22 = fld m k 22) ∧ (fld (mCools m i d) k 22 = fld m k 22 ∨ fld (mCools m i d) k 22 = fld m k 22 + 1) := by
  intro d
  induction d with
  | zero => intro i m k; exact ⟨fun _ => rfl, Or.inl rfl⟩
  | succ d ih =>
    intro i m k
    have q := ih (i + 1) (mCool m i) k
    have e : mCools m i (d + 1) = mCools (mCool m i) (i + 1) d := rfl
    rw [e]
    rcases mCool_22 m i k with c | ⟨c1, c2⟩
    · rw [c] at q
      exact ⟨fun h => q.1 (by omega), q.2⟩
    · have q1 := q.1 (by omega)
      rw [c2] at q1
      exact ⟨fun h => by omega, Or.inr q1⟩
theorem mStart_22 (m : Nat → Int32) (s k : Nat) : fld (mStart m s) k 22 = fld m k 22 := by
  unfold mStart
  split
  · split
    · rw [mSt1_fld _ (by omega), if_neg (by omega), if_neg (by omega), if_neg (by omega)]
    · rfl
  · rfl
theorem mStarts_22 : ∀ (l : List Nat) (m : Nat → Int32) (k : Nat), fld (mStarts m l) k 22 = fld m k 22 := by
  intro l
  induction l with
  | nil => intro m k; rfl
  | cons s l ih => intro m k; rw [mStarts_c, ih, mStart_22]
theorem mMin_4 (m : Nat → Int32) : mMin m 4 = m 4 + 1 := by
  unfold mMin
  have e : ∀ c : Nat → Int32, mTick c 4 = c 4 + 1 := fun c => pk_us
  split
  · rw [e]
    unfold mMinB mMinA
    rw [mStarts_lo _ _ (by omega) (by omega), mCools_lo (by omega) (by omega), mWorks_lo (by omega) (by omega) (by omega)]
  · exact e m
theorem mMin_22 (m : Nat → Int32) (k : Nat) : fld (mMin m) k 22 = fld m k 22 ∨ fld (mMin m) k 22 = fld m k 22 + 1 := by
  unfold mMin
  have e : ∀ c : Nat → Int32, fld (mTick c) k 22 = fld c k 22 := fun c => fld_upd_lo c _ (by omega)
  split
  · rw [e]
    unfold mMinB
    rw [mStarts_22]
    unfold mMinA
    have q := (mCools_22 (nS m) 0 (mWorks m 0 (nS m)) k).2
    rw [mWorks_22] at q
    exact q
  · exact Or.inl (e m)
theorem mins_4 (m : Nat → Int32) {a : Nat} (h : m 4 = nI a) : ∀ j, mins m j 4 = nI (a + j) := by
  intro j
  induction j with
  | zero => exact h
  | succ j ih => rw [mins_s, mMin_4, ih, nI_1]; rfl
theorem BU_mins {m : Nat → Int32} {B : Nat} (h : BU m B) : ∀ j, BU (mins m j) (B + j) := by
  intro j
  induction j with
  | zero => exact h
  | succ j ih =>
    intro s hs
    have hn : nS (mins m (j + 1)) = nS (mins m j) := re_nS (mMin_re (mins m j))
    rw [hn] at hs
    obtain ⟨b, b1, b2⟩ := ih s hs
    rw [mins_s]
    rcases mMin_22 (mins m j) s with q | q
    · exact ⟨b, q.trans b1, by omega⟩
    · exact ⟨b + 1, by rw [q, b1, nI_1], by omega⟩
/-- the number of minutes until a step burns -/
def brnR (m : Nat → Int32) (s : Nat) (b : Int32) : Nat → Nat → Int32
  | _, 0 => -1
  | i, d + 1 => if fld (mins m (i + 1)) s 22 = b then brnR m s b (i + 1) d else nI (i + 1)
theorem brnR_s (m : Nat → Int32) (s : Nat) (b : Int32) (i d : Nat) : brnR m s b i (d + 1) = if fld (mins m (i + 1)) s 22 = b then brnR m s b (i + 1) d else nI (i + 1) := rfl
theorem brn_cmp {m : Nat → Int32} {s b i : Nat} (hb : b < 20000) (h : fld (mins m i) s 22 = nI b) : (fld (mins m (i + 1)) s 22 ≤ nI b ↔ fld (mins m (i + 1)) s 22 = nI b) := by
  rcases mMin_22 (mins m i) s with q | q
  · rw [mins_s, q, h]; exact ⟨fun _ => rfl, fun _ => Int32.le_refl _⟩
  · rw [mins_s, q, h, nI_1, nI_leI (by omega) (by omega), nI_eq (by omega) (by omega)]; omega
theorem brnC_b {Y : Mem} {g B s b : Nat} {m : Nat → Int32} (hs : s < nS m) (hb : b < 20000) (h : KR Y g m B) (hO : KO Y g m) : ∀ d i σ f, i + d = 500 → d < f → fld (mins m i) s 22 = nI b → KR (wS Y g σ) g (mins m i) (B + i) → KO (wS Y g σ) g (mins m i) → ∃ σ', X3_runToBurn_b16 g (nI s) f (wS Y g σ) (nI (i + 1)) (nI b) = some (brnR m s (nI b) i d, wS Y g σ') := by
  have h14 := h.1.2.1
  intro d
  induction d with
  | zero =>
    intro i σ f hi f_h hb2 h1 h2
    obtain ⟨f, rfl⟩ := fuel_s f_h
    have : i = 500 := by omega
    subst this
    unfold X3_runToBurn_b16
    rw [if_pos (by decide)]
    exact ⟨σ, rfl⟩
  | succ d ih =>
    intro i σ f hi f_h hb2 h1 h2
    obtain ⟨f, rfl⟩ := fuel_s f_h
    unfold X3_runToBurn_b16
    obtain ⟨τ, q1, q2, q3, -⟩ := KR_min h1 h2
    rw [wS_wS] at q1 q2 q3
    have hs2 : s < nS (mins m (i + 1)) := by rw [re_nS (mins_re m (i + 1))]; exact hs
    have e22 : (wS Y g τ) 2 g 6 s = fld (mins m (i + 1)) s 22 := (q2.2.2.1.2.2.1 s hs2).2.2.2.2
    rw [if_neg (by show ¬ nI 500 < nI (i + 1); rw [nI_ltI (by omega) (by omega)]; omega), q1, bd2_e, gdi (show s < 14 by omega), ix_n (by omega), e22, brnR_s]
    by_cases c : fld (mins m (i + 1)) s 22 = nI b
    · rw [if_pos ((brn_cmp hb hb2).mpr c), if_pos c, nI_1]
      obtain ⟨σ', r⟩ := ih (i + 1) τ f (by omega) (by omega) c q2 q3
      exact ⟨σ', r⟩
    · rw [if_neg (fun q => c ((brn_cmp hb hb2).mp q)), if_neg c]
      exact ⟨τ, rfl⟩
theorem brnM_69 (Z : Mem) {s b i : Nat} {m : Nat → Int32} (hs : s < 14) (hz : Z 10 0 1 = mins m i) : M12_minutesToBurn_b69 (nI s) Z (nI i) (nI b) = if fld (mins m i) s 22 ≤ nI b then M12_minutesToBurn_b85 (nI s) Z (nI i) 0 else M12_minutesToBurn_b85 (nI s) Z (nI i) 1 := by
  unfold M12_minutesToBurn_b69
  simp only [litI]
  rw [of_ok Z (by omega), bd1_e, hz]
theorem b85_0 (a : Int32) (Z : Mem) (l : Int32) : M12_minutesToBurn_b85 a Z l 0 = bd1 (M12_copyBlock Z 9 0) fun Y => some (-1, Y) := by
  unfold M12_minutesToBurn_b85
  congr 1
theorem b85_1 (a : Int32) (Z : Mem) (l : Int32) : M12_minutesToBurn_b85 a Z l 1 = bd1 (M12_copyBlock Z 9 0) fun Y => some (l, Y) := by
  unfold M12_minutesToBurn_b85
  congr 1
theorem brnM_b {s b : Nat} {m : Nat → Int32} (hs : s < 14) (hb : b < 20000) (hm : ∀ j, WF (mins m j) ∧ ((mins m j) 6 = 0 → MI (mMinA (mins m j)))) : ∀ d i Z f, i + d = 500 → d < f → fld (mins m i) s 22 = nI b → Z 10 0 1 = mins m i → ∃ Z' e, M12_minutesToBurn_b41 (nI s) f Z (nI i) (nI b) = (bd1 (M12_copyBlock Z' 9 0) fun Y19 => some (brnR m s (nI b) i d, Y19)) ∧ Z' 10 0 1 = mins m e ∧ QN Z Z' := by
  intro d
  induction d with
  | zero =>
    intro i Z f hi f_h h22 hz
    obtain ⟨f, rfl⟩ := fuel_s f_h
    have : i = 500 := by omega
    subst this
    unfold M12_minutesToBurn_b41
    rw [if_pos (by decide), brnM_69 Z hs hz, if_pos (by rw [h22]; exact Int32.le_refl _)]
    exact ⟨Z, 500, b85_0 _ _ _, hz, fun _ _ _ _ => rfl⟩
  | succ d ih =>
    intro i Z f hi f_h h22 hz
    obtain ⟨f, rfl⟩ := fuel_s f_h
    unfold M12_minutesToBurn_b41
    obtain ⟨Z', q1, q2, q3⟩ := minuteM Z (by rw [hz]; exact (hm i).1) (by rw [hz]; exact (hm i).2)
    have o22 : M12_of Z (nI s) 22 = some (fld (mins m i) s 22) := by
      have := of_ok Z (s := s) (w := 22) (by omega)
      rw [hz] at this; exact this
    rw [if_neg (by show ¬ nI 500 ≤ nI i; rw [nI_leI (by omega) (by omega)]; omega), o22, bd1_e, if_pos h22, q1, bd1_e, nI_1, brnR_s]
    have hz' : Z' 10 0 1 = mins m (i + 1) := by rw [q2, hz]; rfl
    by_cases c : fld (mins m (i + 1)) s 22 = nI b
    · rw [if_pos c]
      obtain ⟨Z2, e, r1, r2, r3⟩ := ih (i + 1) Z' f (by omega) (by omega) c hz'
      exact ⟨Z2, e, r1, r2, QN_trans q3 r3⟩
    · rw [if_neg c]
      obtain ⟨f, rfl⟩ := fuel_s (show 0 < f by omega)
      unfold M12_minutesToBurn_b41
      have o2 : M12_of Z' (nI s) 22 = some (fld (mins m (i + 1)) s 22) := by
        have := of_ok Z' (s := s) (w := 22) (by omega)
        rw [hz'] at this; exact this
      rw [o2, bd1_e, if_neg c, brnM_69 Z' hs hz', if_neg (fun q => c ((brn_cmp hb h22).mp q))]
      refine ⟨Z', i + 1, ?_, hz', q3⟩
      rw [ite_self]
      exact b85_1 _ _ _
end
