section
/-! NOTHING IS INCONSISTENT: an invariant of the kitchens -/
def JJ (m : Nat → Int32) : Prop :=
  m 7 = m 8 + nI (wSt m 1) + m 11 ∧ (∀ s, s < nS m → fld m s 17 = 2 → fld m s 21 = 1) ∧ (∀ s, s < nS m → fld m s 17 = 1 → ∀ k, k < np m s → fld m (pr m s k) 21 = 1) ∧ (∀ s, s < nS m → ¬ fld m s 17 = 1 → fld m s 18 = 0)
theorem cnt_one {p q : Nat → Bool} {i : Nat} : ∀ {n : Nat}, i < n → (∀ k, k ≠ i → q k = p k) → cnt q n + (if p i = true then 1 else 0) = cnt p n + (if q i = true then 1 else 0) := by
  intro n
  induction n with
  | zero => intro h; omega
  | succ n ih =>
    intro hi h
    rw [cnt_s, cnt_s]
    rcases (by omega : i = n ∨ i < n) with rfl | hlt
    · have e : cnt q i = cnt p i := cnt_congr fun k hk => h k (by omega)
      rw [e]; omega
    · have := ih hlt h
      rw [h n (by omega)]
      omega
theorem cnt_none {p : Nat → Bool} : ∀ {n : Nat}, (∀ k, k < n → p k = false) → cnt p n = 0 := by
  intro n
  induction n with
  | zero => intro _; rfl
  | succ n ih =>
    intro h
    rw [cnt_s, ih (fun k hk => h k (by omega)), h n (by omega), if_neg (by decide)]
theorem JJ_inc {m : Nat → Int32} (h : JJ m) : inc m = 0 := by
  obtain ⟨j1, j2, j3, j4⟩ := h
  have e : cnt (oddS m) (nS m) = 0 := cnt_none fun s hs => by
    unfold oddS
    by_cases c : fld m s 17 = 1
    · rw [c, show anyB (oddP m s) (np m s) = false from anyB_f.mpr fun k hk => by
        unfold oddP
        rw [j3 s hs c k hk]; decide]
      decide
    · rw [beq_eq_false_iff_ne.mpr c, Bool.false_and]
  unfold inc
  rw [e, j1]
  have : ∀ a b c : Int32, a + b + c - a - b - c + nI 0 = 0 := fun a b c => by
    rw [show (nI 0 : Int32) = 0 from rfl, Int32.add_zero]
    rw [show a + b + c - a = b + c by rw [Int32.add_assoc, Int32.add_comm a, Int32.add_sub_cancel], show b + c - b = c by rw [Int32.add_comm, Int32.add_sub_cancel], Int32.sub_self]
  exact this _ _ _
/-- a step to another state of the same recipe -/
theorem JJ_gen {m m' : Nat → Int32} (W : WF m) (hr : RecEq m m') (h : JJ m) (d1 : m' 7 = m' 8 + nI (wSt m' 1) + m' 11) (h21 : ∀ s, s < nS m → fld m s 21 = 1 → fld m' s 21 = 1) (c2 : ∀ s, s < nS m → fld m' s 17 = 2 → fld m' s 21 = 1) (c3 : ∀ s, s < nS m → fld m' s 17 = 1 → fld m s 17 = 1 ∨ ∀ k, k < np m s → fld m (pr m s k) 21 = 1) (c4 : ∀ s, s < nS m → ¬ fld m' s 17 = 1 → fld m' s 18 = 0) : JJ m' := by
  have hn : nS m' = nS m := re_nS hr
  have h14 := W.2.1
  obtain ⟨j1, j2, j3, j4⟩ := h
  refine ⟨d1, fun s hs => c2 s (by omega), fun s hs h17 k hk => ?_, fun s hs => c4 s (by omega)⟩
  rw [hn] at hs
  have hnp := (W.2.2.2.2.1 s hs).2
  rw [re_np hr (by omega)] at hk
  rw [re_pr hr (by omega) (by omega)]
  have hl := (W.2.2.2.2.2.1 s hs k hk).2
  refine h21 _ (by omega) ?_
  rcases c3 s hs h17 with q | q
  · exact j3 s hs q k hk
  · exact q k hk
/-- a step of none of the words that count -/
theorem JJ_same {m m' : Nat → Int32} (W : WF m) (hr : RecEq m m') (h : JJ m) (h7 : m' 7 = m 7) (h8 : m' 8 = m 8) (h11 : m' 11 = m 11) (hf : ∀ s, s < nS m → fld m' s 17 = fld m s 17 ∧ fld m' s 18 = fld m s 18 ∧ fld m' s 21 = fld m s 21) : JJ m' := by
  have hn : nS m' = nS m := re_nS hr
  have ew : wSt m' 1 = wSt m 1 := by
    unfold wSt
    rw [hn]
    exact cnt_congr fun s hs => by rw [(hf s hs).1]
  refine JJ_gen W hr h (by rw [h7, h8, h11, ew]; exact h.1) (fun s hs q => by rw [(hf s hs).2.2]; exact q) (fun s hs q => ?_) (fun s hs q => Or.inl (by rw [← (hf s hs).1]; exact q)) (fun s hs q => ?_)
  · rw [(hf s hs).1] at q
    rw [(hf s hs).2.2]; exact h.2.1 s hs q
  · rw [(hf s hs).1] at q
    rw [(hf s hs).2.1]; exact h.2.2.2 s hs q
theorem wSt_off {m m' : Nat → Int32} {i : Nat} (hn : nS m' = nS m) (hi : i < nS m) (h1 : fld m i 17 = 1) (h2 : ¬ fld m' i 17 = 1) (ho : ∀ k, k ≠ i → fld m' k 17 = fld m k 17) : wSt m 1 = wSt m' 1 + 1 := by
  have := cnt_one (p := fun s => fld m s 17 == 1) (q := fun s => fld m' s 17 == 1) hi (fun k hk => by rw [ho k hk])
  unfold wSt
  rw [hn]
  rw [show (fld m i 17 == 1) = true from beq_iff_eq.mpr h1, show (fld m' i 17 == 1) = false from beq_eq_false_iff_ne.mpr h2, if_pos rfl, if_neg (by decide)] at this
  omega
theorem JJ_halt {m : Nat → Int32} {i : Nat} (W : WF m) (h : JJ m) (hi : i < nS m) (h17 : fld m i 17 = 1) : JJ (mHalt m i) := by
  have ho : ∀ k, k ≠ i → fld (mHalt m i) k 17 = fld m k 17 := fun k hk => by rw [mHalt_fld _ (by omega), if_neg (by omega)]
  have e21 : ∀ k, fld (mHalt m i) k 21 = fld m k 21 := fun k => by rw [mHalt_fld _ (by omega), if_neg (by omega)]
  have ei : fld (mHalt m i) i 17 = 0 := by rw [mHalt_fld _ (by omega), if_pos ⟨rfl, Or.inl rfl⟩]
  have ew := wSt_off (m' := mHalt m i) (re_nS (mHalt_re m i)) hi h17 (by rw [ei]; decide) ho
  refine JJ_gen W (mHalt_re m i) h ?_ (fun s _ q => by rw [e21]; exact q) (fun s hs q => ?_) (fun s hs q => ?_) (fun s hs q => ?_)
  · rw [mHalt_lo _ (by omega), if_neg (by omega), mHalt_lo _ (by omega), if_neg (by omega), mHalt_lo _ (by omega), if_pos rfl, h.1, ew, ← nI_1]
    rw [Int32.add_assoc (m 8), Int32.add_assoc (m 8), Int32.add_assoc (nI _), Int32.add_comm 1]
  · by_cases e : s = i
    · subst e; rw [ei] at q; exact absurd q (by decide)
    · rw [ho s e] at q
      rw [e21]; exact h.2.1 s hs q
  · by_cases e : s = i
    · subst e; exact Or.inl h17
    · rw [ho s e] at q; exact Or.inl q
  · by_cases e : s = i
    · subst e; rw [mHalt_fld _ (by omega), if_pos ⟨rfl, Or.inr rfl⟩]
    · rw [ho s e] at q
      rw [mHalt_fld _ (by omega), if_neg (by omega)]
      exact h.2.2.2 s hs q
theorem JJ_disc {m : Nat → Int32} {i : Nat} (W : WF m) (h : JJ m) (hi : i < nS m) (h17 : fld m i 17 = 2) : JJ (mDisc m i) := by
  have ho : ∀ k, k ≠ i → fld (mDisc m i) k 17 = fld m k 17 := fun k hk => by rw [mDisc_fld _ (by omega), if_neg (by omega)]
  have e21 : ∀ k, fld (mDisc m i) k 21 = fld m k 21 := fun k => by rw [mDisc_fld _ (by omega), if_neg (by omega)]
  have e18 : ∀ k, fld (mDisc m i) k 18 = fld m k 18 := fun k => by rw [mDisc_fld _ (by omega), if_neg (by omega)]
  have ei : fld (mDisc m i) i 17 = 0 := by rw [mDisc_fld _ (by omega), if_pos ⟨rfl, Or.inl rfl⟩]
  have ew : wSt (mDisc m i) 1 = wSt m 1 := by
    unfold wSt
    rw [re_nS (mDisc_re m i)]
    refine cnt_congr fun s hs => ?_
    by_cases e : s = i
    · subst e; rw [ei, h17]; decide
    · rw [ho s e]
  refine JJ_gen W (mDisc_re m i) h ?_ (fun s _ q => by rw [e21]; exact q) (fun s hs q => ?_) (fun s hs q => ?_) (fun s hs q => ?_)
  · rw [mDisc_lo _ (by omega), mDisc_lo _ (by omega), mDisc_lo _ (by omega), ew]; exact h.1
  · by_cases e : s = i
    · subst e; rw [ei] at q; exact absurd q (by decide)
    · rw [ho s e] at q
      rw [e21]; exact h.2.1 s hs q
  · by_cases e : s = i
    · subst e; rw [ei] at q; exact absurd q (by decide)
    · rw [ho s e] at q; exact Or.inl q
  · rw [e18]
    by_cases e : s = i
    · subst e; exact h.2.2.2 s hs (by rw [h17]; decide)
    · rw [ho s e] at q
      exact h.2.2.2 s hs q
theorem JJ_low {m : Nat → Int32} (W : WF m) (h : JJ m) {w : Nat} (v : Int32) (hw : w = 0 ∨ w = 5 ∨ w = 6) : JJ (upd m w v) :=
  JJ_same W (lo3_re m v hw) h (pk_un (by omega)) (pk_un (by omega)) (pk_un (by omega)) (fun s hs => ⟨pk_un (by omega), pk_un (by omega), pk_un (by omega)⟩)
theorem JJ_dur {m : Nat → Int32} (W : WF m) (h : JJ m) {i : Nat} (v : Int32) : JJ (upd m (46 + i * 24 + 7) v) :=
  JJ_same W (re_up v (Or.inl rfl)) h (pk_un (by omega)) (pk_un (by omega)) (pk_un (by omega)) (fun s hs => ⟨pk_un (by omega), pk_un (by omega), pk_un (by omega)⟩)
theorem JJ_work {m : Nat → Int32} {i : Nat} (W : WF m) (h : JJ m) (hi : i < nS m) (hr : fld m i 17 = 1 → ∃ r, fld m i 18 = nI r ∧ 1 ≤ r ∧ r ≤ 60) : JJ (mWork m i) := by
  by_cases h17 : fld m i 17 = 1
  · obtain ⟨r, r1, r2, r3⟩ := hr h17
    have hre := mWork_re m i
    rw [mWork_run h17 r1 r2 r3] at hre ⊢
    by_cases e1 : r = 1
    · rw [if_pos e1] at hre ⊢
      have ho : ∀ k w, w < 24 → k ≠ i → fld (mW2 (mW1 m i) i) k w = fld m k w := fun k w hw hk => by rw [mW2_fld _ hw, if_neg (by omega), if_neg (by omega), if_neg (by omega), mW1_fld _ hw, if_neg (by omega), if_neg (by omega)]
      have ei : fld (mW2 (mW1 m i) i) i 17 = 2 := by rw [mW2_fld _ (by omega), if_pos ⟨rfl, rfl⟩]
      have e21 : fld (mW2 (mW1 m i) i) i 21 = 1 := by rw [mW2_fld _ (by omega), if_neg (by omega), if_neg (by omega), if_pos ⟨rfl, Or.inl rfl⟩]
      have e18 : fld (mW2 (mW1 m i) i) i 18 = 0 := by
        rw [mW2_fld _ (by omega), if_neg (by omega), if_neg (by omega), if_neg (by omega), mW1_fld _ (by omega), if_neg (by omega), if_pos ⟨rfl, rfl⟩, r1, e1]; decide
      have ew := wSt_off (m' := mW2 (mW1 m i) i) (re_nS hre) hi h17 (by rw [ei]; decide) (fun k hk => ho k 17 (by omega) hk)
      refine JJ_gen W hre h ?_ (fun s hs q => ?_) (fun s hs q => ?_) (fun s hs q => ?_) (fun s hs q => ?_)
      · rw [mW2_lo _ (by omega), if_neg (by omega), mW1_lo _ (by omega), if_neg (by omega), mW2_lo _ (by omega), if_pos rfl, mW1_lo _ (by omega), if_neg (by omega), mW2_lo _ (by omega), if_neg (by omega), mW1_lo _ (by omega), if_neg (by omega), h.1, ew, ← nI_1]
        rw [Int32.add_assoc (m 8) 1, Int32.add_comm 1]
      · by_cases e : s = i
        · subst e; exact e21
        · rw [ho s 21 (by omega) e]; exact q
      · by_cases e : s = i
        · subst e; exact e21
        · rw [ho s 17 (by omega) e] at q
          rw [ho s 21 (by omega) e]; exact h.2.1 s hs q
      · by_cases e : s = i
        · subst e; exact Or.inl h17
        · rw [ho s 17 (by omega) e] at q; exact Or.inl q
      · by_cases e : s = i
        · subst e; exact e18
        · rw [ho s 17 (by omega) e] at q
          rw [ho s 18 (by omega) e]; exact h.2.2.2 s hs q
    · rw [if_neg e1] at hre ⊢
      have e17 : ∀ k, fld (mW1 m i) k 17 = fld m k 17 := fun k => by rw [mW1_fld _ (by omega), if_neg (by omega), if_neg (by omega)]
      have e21 : ∀ k, fld (mW1 m i) k 21 = fld m k 21 := fun k => by rw [mW1_fld _ (by omega), if_neg (by omega), if_neg (by omega)]
      have ew : wSt (mW1 m i) 1 = wSt m 1 := by
        unfold wSt
        rw [re_nS hre]
        exact cnt_congr fun s hs => by rw [e17]
      refine JJ_gen W hre h ?_ (fun s hs q => by rw [e21]; exact q) (fun s hs q => ?_) (fun s hs q => Or.inl (by rw [← e17]; exact q)) (fun s hs q => ?_)
      · rw [mW1_lo _ (by omega), if_neg (by omega), mW1_lo _ (by omega), if_neg (by omega), mW1_lo _ (by omega), if_neg (by omega), ew]; exact h.1
      · rw [e17] at q
        rw [e21]; exact h.2.1 s hs q
      · rw [e17] at q
        have hne : s ≠ i := fun e => q (by rw [e]; exact h17)
        rw [mW1_fld _ (by omega), if_neg (by omega), if_neg (by omega)]; exact h.2.2.2 s hs q
  · rw [mWork_fr h17]
    exact JJ_same W (re_up _ (by omega)) h (lo_upd _ _ (by omega)) (lo_upd _ _ (by omega)) (lo_upd _ _ (by omega)) (fun s hs => ⟨by rw [fr_fld _ _ (by omega), if_neg (by omega)], by rw [fr_fld _ _ (by omega), if_neg (by omega)], by rw [fr_fld _ _ (by omega), if_neg (by omega)]⟩)
theorem JJ_works {n : Nat} : ∀ d i (m : Nat → Int32), i + d = n → nS m = n → WF m → JJ m → (∀ s, i ≤ s → s < n → fld m s 17 = 1 → ∃ r, fld m s 18 = nI r ∧ 1 ≤ r ∧ r ≤ 60) → JJ (mWorks m i d) := by
  intro d
  induction d with
  | zero => intro i m _ _ _ h _; exact h
  | succ d ih =>
    intro i m hid hn W h hr
    have hre := mWork_re m i
    refine ih (i + 1) (mWork m i) (by omega) ((re_nS hre).trans hn) (re_WF hre W) (JJ_work W h (by omega) (hr i (Nat.le_refl _) (by omega))) (fun s h1 h2 => ?_)
    have e : ∀ w, w < 24 → fld (mWork m i) s w = fld m s w := fun w hw => by
      unfold mWork
      split
      · split
        · rw [mW2_fld _ hw, if_neg (by omega), if_neg (by omega), if_neg (by omega), mW1_fld _ hw, if_neg (by omega), if_neg (by omega)]
        · rw [mW1_fld _ hw, if_neg (by omega), if_neg (by omega)]
      · rw [fr_fld _ _ hw, if_neg (by omega)]
    rw [e 17 (by omega), e 18 (by omega)]
    exact hr s (by omega) h2
theorem JJ_age {m : Nat → Int32} {i : Nat} (W : WF m) (h : JJ m) : JJ (mC1 m i) :=
  JJ_same W (mC1_re m i) h (mC1_lo _ (by omega)) (mC1_lo _ (by omega)) (mC1_lo _ (by omega)) (fun s hs => ⟨by rw [mC1_fld _ (by omega), if_neg (by omega)], by rw [mC1_fld _ (by omega), if_neg (by omega)], by rw [mC1_fld _ (by omega), if_neg (by omega)]⟩)
theorem JJ_burn {m : Nat → Int32} {i : Nat} (W : WF m) (h : JJ m) (hi : i < nS m) (h17 : fld m i 17 = 2) : JJ (mC2 m i) := by
  have ho : ∀ k, k ≠ i → fld (mC2 m i) k 17 = fld m k 17 := fun k hk => by rw [mC2_fld _ (by omega), if_neg (by omega), if_neg (by omega), if_neg (by omega)]
  have e21 : ∀ k, fld (mC2 m i) k 21 = fld m k 21 := fun k => by rw [mC2_fld _ (by omega), if_neg (by omega), if_neg (by omega), if_neg (by omega)]
  have e18 : ∀ k, fld (mC2 m i) k 18 = fld m k 18 := fun k => by rw [mC2_fld _ (by omega), if_neg (by omega), if_neg (by omega), if_neg (by omega)]
  have ei : fld (mC2 m i) i 17 = 3 := by rw [mC2_fld _ (by omega), if_pos ⟨rfl, rfl⟩]
  have ew : wSt (mC2 m i) 1 = wSt m 1 := by
    unfold wSt
    rw [re_nS (mC2_re m i)]
    refine cnt_congr fun s hs => ?_
    by_cases e : s = i
    · subst e; rw [ei, h17]; decide
    · rw [ho s e]
  refine JJ_gen W (mC2_re m i) h ?_ (fun s _ q => by rw [e21]; exact q) (fun s hs q => ?_) (fun s hs q => ?_) (fun s hs q => ?_)
  · rw [mC2_lo _ (by omega), if_neg (by omega), mC2_lo _ (by omega), if_neg (by omega), mC2_lo _ (by omega), if_neg (by omega), ew]; exact h.1
  · by_cases e : s = i
    · subst e; rw [ei] at q; exact absurd q (by decide)
    · rw [ho s e] at q
      rw [e21]; exact h.2.1 s hs q
  · by_cases e : s = i
    · subst e; rw [ei] at q; exact absurd q (by decide)
    · rw [ho s e] at q; exact Or.inl q
  · rw [e18]
    by_cases e : s = i
    · subst e; exact h.2.2.2 s hs (by rw [h17]; decide)
    · rw [ho s e] at q
      exact h.2.2.2 s hs q
theorem JJ_cool {m : Nat → Int32} {i : Nat} (W : WF m) (h : JJ m) (hi : i < nS m) : JJ (mCool m i) := by
  unfold mCool
  split
  · exact h
  · split
    · split
      · exact h
      · split
        · exact h
        · split
          · exact JJ_burn (re_WF (mC1_re m i) W) (JJ_age W h) (by rw [re_nS (mC1_re m i)]; exact hi) (by rw [mC1_fld _ (by omega), if_neg (by omega)]; assumption)
          · exact JJ_age W h
    · exact h
theorem JJ_cools {n : Nat} : ∀ d i (m : Nat → Int32), i + d = n → nS m = n → WF m → JJ m → JJ (mCools m i d) := by
  intro d
  induction d with
  | zero => intro i m _ _ _ h; exact h
  | succ d ih =>
    intro i m hid hn W h
    exact ih (i + 1) (mCool m i) (by omega) ((re_nS (mCool_re m i)).trans hn) (re_WF (mCool_re m i) W) (JJ_cool W h (by omega))
theorem JJ_st1 {m : Nat → Int32} {i : Nat} (W : WF m) (h : JJ m) (hi : i < nS m) (h17 : ¬ fld m i 17 = 1) (hp : ∀ k, k < np m i → fld m (pr m i k) 21 = 1) : JJ (mSt1 m i) := by
  have ho : ∀ k w, w < 24 → k ≠ i → fld (mSt1 m i) k w = fld m k w := fun k w hw hk => by rw [mSt1_fld _ hw, if_neg (by omega), if_neg (by omega), if_neg (by omega)]
  have e21 : ∀ k, fld (mSt1 m i) k 21 = fld m k 21 := fun k => by rw [mSt1_fld _ (by omega), if_neg (by omega), if_neg (by omega), if_neg (by omega)]
  have ei : fld (mSt1 m i) i 17 = 1 := by rw [mSt1_fld _ (by omega), if_pos ⟨rfl, rfl⟩]
  have ew := wSt_off (m := mSt1 m i) (m' := m) (i := i) (re_nS (mSt1_re m i)).symm (by rw [re_nS (mSt1_re m i)]; exact hi) ei h17 (fun k hk => (ho k 17 (by omega) hk).symm)
  refine JJ_gen W (mSt1_re m i) h ?_ (fun s _ q => by rw [e21]; exact q) (fun s hs q => ?_) (fun s hs q => ?_) (fun s hs q => ?_)
  · rw [mSt1_lo _ (by omega), if_pos rfl, mSt1_lo _ (by omega), if_neg (by omega), mSt1_lo _ (by omega), if_neg (by omega), ew, ← nI_1, h.1]
    rw [Int32.add_assoc, Int32.add_comm (m 11), ← Int32.add_assoc, ← Int32.add_assoc]
  · by_cases e : s = i
    · subst e; rw [ei] at q; exact absurd q (by decide)
    · rw [ho s 17 (by omega) e] at q
      rw [e21]; exact h.2.1 s hs q
  · by_cases e : s = i
    · subst e; exact Or.inr hp
    · rw [ho s 17 (by omega) e] at q; exact Or.inl q
  · by_cases e : s = i
    · subst e; exact absurd ei q
    · rw [ho s 17 (by omega) e] at q
      rw [ho s 18 (by omega) e]; exact h.2.2.2 s hs q
theorem JJ_starts : ∀ (L : List Nat) (m : Nat → Int32), L.Nodup → WF m → JJ m → (∀ s ∈ L, s < nS m ∧ ¬ fld m s 17 = 1 ∧ ∀ k, k < np m s → fld m (pr m s k) 21 = 1) → JJ (mStarts m L) := by
  intro L
  induction L with
  | nil => intro m _ _ h _; exact h
  | cons x xs ih =>
    intro m hnd W h hL
    obtain ⟨n1, n2⟩ := List.nodup_cons.mp hnd
    obtain ⟨x1, x2, x3⟩ := hL x List.mem_cons_self
    rw [mStarts_c]
    have hre := mStart_re m x
    have h14 := W.2.1
    have hJ : JJ (mStart m x) := by
      unfold mStart
      split
      · split
        · exact JJ_st1 W h x1 x2 x3
        · exact h
      · exact h
    have e21 : ∀ k, fld (mStart m x) k 21 = fld m k 21 := fun k => by
      unfold mStart
      split
      · split
        · rw [mSt1_fld _ (by omega), if_neg (by omega), if_neg (by omega), if_neg (by omega)]
        · rfl
      · rfl
    refine ih (mStart m x) n2 (re_WF hre W) hJ (fun s hs => ?_)
    obtain ⟨s1, s2, s3⟩ := hL s (List.mem_cons_of_mem _ hs)
    have hne : s ≠ x := fun e => n1 (by rw [← e]; exact hs)
    have e17 : fld (mStart m x) s 17 = fld m s 17 := by
      unfold mStart
      split
      · split
        · rw [mSt1_fld _ (by omega), if_neg (by omega), if_neg (by omega), if_neg (by omega)]
        · rfl
      · rfl
    have hnp := (W.2.2.2.2.1 s s1).2
    refine ⟨by rw [re_nS hre]; exact s1, by rw [e17]; exact s2, fun k hk => ?_⟩
    rw [re_np hre (by omega)] at hk
    rw [re_pr hre (by omega) (by omega), e21]
    exact s3 k hk
theorem fOpen_done {m : Nat → Int32} {s : Nat} (h : isReady m s = true) : ¬ fld m s 17 = 1 ∧ ∀ k, k < np m s → fld m (pr m s k) 17 = 2 := by
  unfold isReady at h
  obtain ⟨h1, h3⟩ := Bool.and_eq_true_iff.mp h
  obtain ⟨h1, h2⟩ := Bool.and_eq_true_iff.mp h1
  refine ⟨fun e => by rw [e] at h1; exact absurd h1 (by decide), fun k hk => ?_⟩
  have h4 : fst1 (fun k => !(fld m (pr m s k) 17 == 2)) (np m s) = none := by
    unfold fOpen at h3
    cases e : fst1 (fun k => !(fld m (pr m s k) 17 == 2)) (np m s) with
    | none => rfl
    | some j => rw [e] at h3; cases h3
  have := fst1_none.mp h4 k hk
  exact beq_iff_eq.mp (by simpa using this)
theorem JJ_min {m : Nat → Int32} (W : WF m) (hM : MI m) (h : JJ m) : JJ (mMin m) := by
  have htick : ∀ {c : Nat → Int32}, WF c → JJ c → JJ (mTick c) := fun {c} Wc hc => JJ_same Wc (mTick_re c) hc (pk_un (by decide)) (pk_un (by decide)) (pk_un (by decide)) (fun s _ => ⟨by unfold mTick fld; exact pk_un (by omega), by unfold mTick fld; exact pk_un (by omega), by unfold mTick fld; exact pk_un (by omega)⟩)
  unfold mMin
  split
  · have hw := JJ_works (n := nS m) (nS m) 0 m (by omega) rfl W h (fun s _ hs h17 => (hM s hs).1 h17)
    have Ww := re_WF (mWorks_re (nS m) 0 m) W
    have hA : JJ (mMinA m) := JJ_cools (n := nS m) (nS m) 0 _ (by omega) (re_nS (mWorks_re (nS m) 0 m)) Ww hw
    have WA : WF (mMinA m) := re_WF (mMinA_re m) W
    refine htick (re_WF (mMinB_re _) WA) ?_
    unfold mMinB
    refine JJ_starts _ _ ?_ WA hA (fun s hs => ?_)
    · refine List.pairwise_reverse.mpr (List.Pairwise.imp (S := fun a b => b ≠ a) (R := fun a b : Nat => a ≠ b) (fun h => Ne.symm h) ?_)
      rw [qR_eq]
      exact (ordR_nd _ _).filter _
    · obtain ⟨q1, q2⟩ := qR_mem.mp (List.mem_reverse.mp hs)
      obtain ⟨r1, r2⟩ := fOpen_done q2
      refine ⟨q1, r1, fun k hk => ?_⟩
      have hl := (WA.2.2.2.2.2.1 s q1 k hk).2
      exact hA.2.1 _ (by omega) (r2 k hk)
  · exact htick W h
end
