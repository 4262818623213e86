/-! AGE, BURN, START: a State's content and a block -/
abbrev St7 (σ : Nat → Nat → Int32) (m : Nat → Int32) (B : Nat → Nat) : Prop := StS σ m ∧ StB σ m ∧ StA σ m ∧ StC σ m B ∧ StT σ m ∧ MI m ∧ S4 m
theorem mC1_fld (m : Nat → Int32) {s k w : Nat} (hw : w < 24) : fld (mC1 m s) k w = if k = s ∧ w = 19 then fld m s 19 + 1 else fld m k w := by
  unfold mC1
  by_cases h1 : k = s ∧ w = 19
  · obtain ⟨rfl, rfl⟩ := h1
    rw [if_pos ⟨rfl, rfl⟩, fld_upd_same]
  · rw [if_neg h1]
    simp (disch := omega) only [fld_upd_o]
theorem mC1_lo (m : Nat → Int32) {s x : Nat} (hx : x < 46) : mC1 m s x = m x := lo_upd m _ hx
theorem mC2_fld (m : Nat → Int32) {s k w : Nat} (hw : w < 24) : fld (mC2 m s) k w = if k = s ∧ w = 17 then 3 else if k = s ∧ w = 19 then 0 else if k = s ∧ w = 22 then fld m s 22 + 1 else fld m k w := by
  unfold mC2
  by_cases h1 : k = s ∧ w = 17
  · obtain ⟨rfl, rfl⟩ := h1
    rw [if_pos ⟨rfl, rfl⟩]
    simp (disch := omega) only [fld_upd_same, fld_upd_o, fld_upd_lo]
  · rw [if_neg h1]
    by_cases h2 : k = s ∧ w = 19
    · obtain ⟨rfl, rfl⟩ := h2
      rw [if_pos ⟨rfl, rfl⟩]
      simp (disch := omega) only [fld_upd_same, fld_upd_o, fld_upd_lo]
    · rw [if_neg h2]
      by_cases h3 : k = s ∧ w = 22
      · obtain ⟨rfl, rfl⟩ := h3
        rw [if_pos ⟨rfl, rfl⟩]
        simp (disch := omega) only [fld_upd_same, fld_upd_o, fld_upd_lo]
      · rw [if_neg h3]
        simp (disch := omega) only [fld_upd_same, fld_upd_o, fld_upd_lo]
theorem mC2_lo (m : Nat → Int32) {s x : Nat} (hx : x < 46) : mC2 m s x = if x = 9 then m 9 + 1 else m x := by
  unfold mC2
  by_cases h : x = 9
  · subst h
    rw [if_pos rfl]
    simp (disch := omega) only [lo_upd, pk_us]
  · rw [if_neg h]
    simp (disch := omega) only [lo_upd, pk_un]
theorem mC1_re (m : Nat → Int32) (s : Nat) : RecEq m (mC1 m s) := re_up _ (by omega)
theorem mC2_re (m : Nat → Int32) (s : Nat) : RecEq m (mC2 m s) := by
  unfold mC2
  exact re_upd (re_upd (re_upd (re_upd (re_refl m) (recW_st (by omega))) (recW_st (by omega))) (recW_st (by omega))) (by decide)
theorem mSt1_fld (m : Nat → Int32) {s k w : Nat} (hw : w < 24) : fld (mSt1 m s) k w = if k = s ∧ w = 17 then 1 else if k = s ∧ w = 18 then fld m s 7 else if k = s ∧ w = 20 then fld m s 20 + 1 else fld m k w := by
  unfold mSt1
  by_cases h1 : k = s ∧ w = 17
  · obtain ⟨rfl, rfl⟩ := h1
    rw [if_pos ⟨rfl, rfl⟩]
    simp (disch := omega) only [fld_upd_same, fld_upd_o, fld_upd_lo]
  · rw [if_neg h1]
    by_cases h2 : k = s ∧ w = 18
    · obtain ⟨rfl, rfl⟩ := h2
      rw [if_pos ⟨rfl, rfl⟩]
      simp (disch := omega) only [fld_upd_same, fld_upd_o, fld_upd_lo]
    · rw [if_neg h2]
      by_cases h3 : k = s ∧ w = 20
      · obtain ⟨rfl, rfl⟩ := h3
        rw [if_pos ⟨rfl, rfl⟩]
        simp (disch := omega) only [fld_upd_same, fld_upd_o, fld_upd_lo]
      · rw [if_neg h3]
        simp (disch := omega) only [fld_upd_same, fld_upd_o, fld_upd_lo]
theorem mSt1_lo (m : Nat → Int32) {s x : Nat} (hx : x < 46) : mSt1 m s x = if x = 7 then m 7 + 1 else m x := by
  unfold mSt1
  by_cases h : x = 7
  · subst h
    rw [if_pos rfl]
    simp (disch := omega) only [lo_upd, pk_us]
  · rw [if_neg h]
    simp (disch := omega) only [lo_upd, pk_un]
theorem mSt1_re (m : Nat → Int32) (s : Nat) : RecEq m (mSt1 m s) := by
  unfold mSt1
  exact re_upd (re_upd (re_upd (re_upd (re_refl m) (recW_st (by omega))) (recW_st (by omega))) (recW_st (by omega))) (by decide)
theorem St_age {σ : Nat → Nat → Int32} {m : Nat → Int32} {B : Nat → Nat} {i : Nat} (h : St7 σ m B) (hi : i < nS m) (h17 : fld m i 17 = 2) : St7 (uo σ 3 i (σ 3 i + 1)) (mC1 m i) B := by
  obtain ⟨⟨a1, a2, a3, a4, a5⟩, hB, hA, hC, ⟨t1, t2, t3⟩, hMI, hS4⟩ := h
  have hn2 := re_nS (mC1_re m i)
  have f1 : ∀ k w, w < 24 → ¬ (k = i ∧ w = 19) → fld (mC1 m i) k w = fld m k w := fun k w hw h3 => by rw [mC1_fld m hw, if_neg h3]
  have lo : ∀ x, x < 46 → mC1 m i x = m x := fun x h1 => mC1_lo m h1
  refine ⟨⟨?_, ?_, ?_, ?_, ?_⟩, ?_, ?_, ?_, ⟨?_, ?_, ?_⟩, ?_, ?_⟩
  · rw [uo_f (by omega), lo 0 (by omega)]; exact a1
  · rw [uo_f (by omega), lo 4 (by omega)]; exact a2
  · rw [uo_f (by omega), lo 5 (by omega)]; exact a3
  · rw [uo_f (by omega), lo 11 (by omega)]; exact a4
  · rw [uo_f (by omega), lo 6 (by omega)]; exact a5
  · intro k hk2
    have e : ∀ u, stB (mC1 m i) u k = stB m u k := fun u => stB_eq hn2 (fun q => f1 k 17 (by omega) (by omega))
    rw [e, e, e, uo_f (by omega)]; exact hB k hk2
  · intro s hs
    rw [hn2] at hs
    have q := hA s hs
    rw [f1 s 7 (by omega) (by omega), f1 s 18 (by omega) (by omega), f1 s 20 (by omega) (by omega), f1 s 22 (by omega) (by omega), uo_f (show ¬ 1 = 3 by omega), uo_f (show ¬ 2 = 3 by omega), uo_f (show ¬ 4 = 3 by omega), uo_f (show ¬ 6 = 3 by omega)]
    refine ⟨q.1, q.2.1, ?_, q.2.2.2⟩
    by_cases e : s = i
    · subst e
      rw [uo_s, mC1_fld m (by omega), if_pos ⟨rfl, rfl⟩, q.2.2.1]
    · rw [uo_o (by omega), f1 s 19 (by omega) (by omega)]; exact q.2.2.1
  · intro s hs
    rw [hn2] at hs
    obtain ⟨c, c1, c2, c3⟩ := hC s hs
    exact ⟨c, by rw [uo_f (by omega)]; exact c1, c2, by rw [f1 s 21 (by omega) (by omega)]; exact c3⟩
  · rw [hn2, lo 7 (by omega), uo_f (by omega)]; exact t1
  · rw [hn2, lo 8 (by omega), uo_f (by omega)]; exact t2
  · rw [hn2, lo 9 (by omega), uo_f (by omega)]; exact t3
  · intro s hs
    rw [hn2] at hs
    have q := hMI s hs
    rw [f1 s 17 (by omega) (by omega), f1 s 18 (by omega) (by omega), f1 s 7 (by omega) (by omega)]
    refine ⟨q.1, fun h => ?_, q.2.2⟩
    by_cases e : s = i
    · subst e; exact absurd h17 h
    · rw [f1 s 19 (by omega) (by omega)]; exact q.2.1 h
  · intro s hs
    rw [hn2] at hs
    rw [f1 s 17 (by omega) (by omega)]; exact hS4 s hs
theorem sBurn_0 (σ : Nat → Nat → Int32) (s : Nat) : sBurn σ s 0 7 = (σ 0 7 &&& (sBit s ^^^ (-1))) ∧ sBurn σ s 0 8 = (σ 0 8 ||| sBit s) ∧ (∀ x, x ≠ 7 → x ≠ 8 → sBurn σ s 0 x = σ 0 x) := by
  unfold sBurn
  refine ⟨?_, ?_, fun x h1 h2 => ?_⟩
  · simp (disch := omega) only [uo_s, uo_o]
  · simp (disch := omega) only [uo_s, uo_o]
  · simp (disch := omega) only [uo_o]
theorem sBurn_o (σ : Nat → Nat → Int32) (s : Nat) : (∀ o, o ≠ 0 → o ≠ 3 → o ≠ 6 → sBurn σ s o = σ o) ∧ sBurn σ s 3 = upd (σ 3) s 0 ∧ sBurn σ s 6 = upd (σ 6) s (σ 6 s + 1) := by
  unfold sBurn
  refine ⟨fun o h1 h2 h3 => ?_, ?_, ?_⟩
  · rw [uo_f h3, uo_f h2, uo_f h1, uo_f h1]
  · rw [uo_f (by omega), uo_u, uo_f (by omega), uo_f (by omega)]
  · rw [uo_u, uo_f (by omega), uo_f (by omega), uo_f (by omega)]
theorem St_burn {σ : Nat → Nat → Int32} {m : Nat → Int32} {B : Nat → Nat} {i : Nat} (h14 : nS m ≤ 14) (h : St7 σ m B) (hi : i < nS m) (h17 : fld m i 17 = 2) : St7 (sBurn σ i) (mC2 m i) B := by
  obtain ⟨⟨a1, a2, a3, a4, a5⟩, hB, hA, hC, ⟨t1, t2, t3⟩, hMI, hS4⟩ := h
  have hn2 := re_nS (mC2_re m i)
  have c0 := sBurn_0 σ i
  have co := sBurn_o σ i
  have f1 : ∀ k w, w < 24 → ¬ (k = i ∧ (w = 17 ∨ w = 19 ∨ w = 22)) → fld (mC2 m i) k w = fld m k w := fun k w hw h3 => by rw [mC2_fld m hw, if_neg (by omega), if_neg (by omega), if_neg (by omega)]
  have g17 : fld (mC2 m i) i 17 = 3 := by rw [mC2_fld m (by omega), if_pos ⟨rfl, rfl⟩]
  have g19 : fld (mC2 m i) i 19 = 0 := by rw [mC2_fld m (by omega), if_neg (by omega), if_pos ⟨rfl, rfl⟩]
  have g22 : fld (mC2 m i) i 22 = fld m i 22 + 1 := by rw [mC2_fld m (by omega), if_neg (by omega), if_neg (by omega), if_pos ⟨rfl, rfl⟩]
  have lo : ∀ x, x < 46 → x ≠ 9 → mC2 m i x = m x := fun x h1 h2 => by rw [mC2_lo m h1, if_neg h2]
  have lo9 : mC2 m i 9 = m 9 + 1 := by rw [mC2_lo m (by omega), if_pos rfl]
  refine ⟨⟨?_, ?_, ?_, ?_, ?_⟩, ?_, ?_, ?_, ⟨?_, ?_, ?_⟩, ?_, ?_⟩
  · rw [c0.2.2 0 (by omega) (by omega), lo 0 (by omega) (by omega)]; exact a1
  · rw [c0.2.2 1 (by omega) (by omega), lo 4 (by omega) (by omega)]; exact a2
  · rw [c0.2.2 2 (by omega) (by omega), lo 5 (by omega) (by omega)]; exact a3
  · rw [c0.2.2 4 (by omega) (by omega), lo 11 (by omega) (by omega)]; exact a4
  · rw [c0.2.2 5 (by omega) (by omega), lo 6 (by omega) (by omega)]; exact a5
  · intro k hk2
    have q := hB k hk2
    rw [c0.1, c0.2.1, c0.2.2 6 (by omega) (by omega), b_and, b_or, b_not _ hk2, b_bit (by omega) hk2, q.1, q.2.1, q.2.2]
    by_cases e : k = i
    · subst e
      have s1 : ∀ u, stB (mC2 m k) u k = (3 == u) := fun u => by rw [stB_in (by omega), g17]
      rw [s1, s1, s1, decide_eq_true rfl, stB_in (by omega), stB_in (by omega), stB_in (by omega), h17]
      exact ⟨rfl, rfl, rfl⟩
    · have s1 : ∀ u, stB (mC2 m i) u k = stB m u k := fun u => stB_eq hn2 (fun q => f1 k 17 (by omega) (by omega))
      rw [s1, s1, s1, decide_eq_false e]
      exact ⟨rfl, by simp, by simp⟩
  · intro s hs
    rw [hn2] at hs
    have q := hA s hs
    rw [co.1 1 (by omega) (by omega) (by omega), co.1 2 (by omega) (by omega) (by omega), co.1 4 (by omega) (by omega) (by omega), co.2.1, co.2.2]
    by_cases e : s = i
    · subst e
      rw [pk_us, pk_us, f1 s 7 (by omega) (by omega), f1 s 18 (by omega) (by omega), g19, f1 s 20 (by omega) (by omega), g22, q.2.2.2.2]
      exact ⟨q.1, q.2.1, rfl, q.2.2.2.1, rfl⟩
    · rw [pk_un e, pk_un e, f1 s 7 (by omega) (by omega), f1 s 18 (by omega) (by omega), f1 s 19 (by omega) (by omega), f1 s 20 (by omega) (by omega), f1 s 22 (by omega) (by omega)]
      exact q
  · intro s hs
    rw [hn2] at hs
    obtain ⟨c, c1, c2, c3⟩ := hC s hs
    exact ⟨c, by rw [co.1 5 (by omega) (by omega) (by omega)]; exact c1, c2, by rw [f1 s 21 (by omega) (by omega)]; exact c3⟩
  · rw [hn2, lo 7 (by omega) (by omega), co.1 4 (by omega) (by omega) (by omega)]; exact t1
  · rw [hn2, lo 8 (by omega) (by omega), co.1 5 (by omega) (by omega) (by omega)]; exact t2
  · rw [hn2, lo9, co.2.2, sm_inc _ _ _ hi, t3]
  · intro s hs
    rw [hn2] at hs
    have q := hMI s hs
    by_cases e : s = i
    · subst e
      refine ⟨fun h => ?_, fun h => g19, ?_⟩
      · rw [g17] at h; exact absurd h (by decide)
      · rw [f1 s 7 (by omega) (by omega)]; exact q.2.2
    · rw [f1 s 17 (by omega) (by omega), f1 s 18 (by omega) (by omega), f1 s 19 (by omega) (by omega), f1 s 7 (by omega) (by omega)]
      exact q
  · intro s hs
    rw [hn2] at hs
    by_cases e : s = i
    · subst e; rw [g17]; exact Or.inr (Or.inr (Or.inr rfl))
    · rw [f1 s 17 (by omega) (by omega)]; exact hS4 s hs
theorem sStart_0 (σ : Nat → Nat → Int32) (s : Nat) : sStart σ s 0 8 = (σ 0 8 &&& (sBit s ^^^ (-1))) ∧ sStart σ s 0 6 = (σ 0 6 ||| sBit s) ∧ (∀ x, x ≠ 6 → x ≠ 8 → sStart σ s 0 x = σ 0 x) := by
  unfold sStart
  refine ⟨?_, ?_, fun x h1 h2 => ?_⟩
  · simp (disch := omega) only [uo_s, uo_o]
  · simp (disch := omega) only [uo_s, uo_o]
  · simp (disch := omega) only [uo_o]
theorem sStart_o (σ : Nat → Nat → Int32) (s : Nat) : (∀ o, o ≠ 0 → o ≠ 2 → o ≠ 4 → sStart σ s o = σ o) ∧ sStart σ s 2 = upd (σ 2) s (σ 1 s) ∧ sStart σ s 4 = upd (σ 4) s (σ 4 s + 1) := by
  unfold sStart
  refine ⟨fun o h1 h2 h3 => ?_, ?_, ?_⟩
  · rw [uo_f h3, uo_f h2, uo_f h1, uo_f h1]
  · rw [uo_f (by omega), uo_u, uo_f (by omega), uo_f (by omega)]
  · rw [uo_u, uo_f (by omega), uo_f (by omega), uo_f (by omega)]
theorem St_start {σ : Nat → Nat → Int32} {m : Nat → Int32} {B : Nat → Nat} {i : Nat} (h14 : nS m ≤ 14) (h : St7 σ m B) (hi : i < nS m) (h17 : ¬ fld m i 17 = 1) (h17b : ¬ fld m i 17 = 2) : St7 (sStart σ i) (mSt1 m i) B := by
  obtain ⟨⟨a1, a2, a3, a4, a5⟩, hB, hA, hC, ⟨t1, t2, t3⟩, hMI, hS4⟩ := h
  have hn2 := re_nS (mSt1_re m i)
  have c0 := sStart_0 σ i
  have co := sStart_o σ i
  have f1 : ∀ k w, w < 24 → ¬ (k = i ∧ (w = 17 ∨ w = 18 ∨ w = 20)) → fld (mSt1 m i) k w = fld m k w := fun k w hw h3 => by rw [mSt1_fld m hw, if_neg (by omega), if_neg (by omega), if_neg (by omega)]
  have g17 : fld (mSt1 m i) i 17 = 1 := by rw [mSt1_fld m (by omega), if_pos ⟨rfl, rfl⟩]
  have g18 : fld (mSt1 m i) i 18 = fld m i 7 := by rw [mSt1_fld m (by omega), if_neg (by omega), if_pos ⟨rfl, rfl⟩]
  have g20 : fld (mSt1 m i) i 20 = fld m i 20 + 1 := by rw [mSt1_fld m (by omega), if_neg (by omega), if_neg (by omega), if_pos ⟨rfl, rfl⟩]
  have lo : ∀ x, x < 46 → x ≠ 7 → mSt1 m i x = m x := fun x h1 h2 => by rw [mSt1_lo m h1, if_neg h2]
  have lo7 : mSt1 m i 7 = m 7 + 1 := by rw [mSt1_lo m (by omega), if_pos rfl]
  have n1 : (fld m i 17 == 1) = false := beq_eq_false_iff_ne.mpr h17
  have n2 : (fld m i 17 == 2) = false := beq_eq_false_iff_ne.mpr h17b
  refine ⟨⟨?_, ?_, ?_, ?_, ?_⟩, ?_, ?_, ?_, ⟨?_, ?_, ?_⟩, ?_, ?_⟩
  · rw [c0.2.2 0 (by omega) (by omega), lo 0 (by omega) (by omega)]; exact a1
  · rw [c0.2.2 1 (by omega) (by omega), lo 4 (by omega) (by omega)]; exact a2
  · rw [c0.2.2 2 (by omega) (by omega), lo 5 (by omega) (by omega)]; exact a3
  · rw [c0.2.2 4 (by omega) (by omega), lo 11 (by omega) (by omega)]; exact a4
  · rw [c0.2.2 5 (by omega) (by omega), lo 6 (by omega) (by omega)]; exact a5
  · intro k hk2
    have q := hB k hk2
    rw [c0.1, c0.2.1, c0.2.2 7 (by omega) (by omega), b_and, b_or, b_not _ hk2, b_bit (by omega) hk2, q.1, q.2.1, q.2.2]
    by_cases e : k = i
    · subst e
      have s1 : ∀ u, stB (mSt1 m k) u k = (1 == u) := fun u => by rw [stB_in (by omega), g17]
      rw [s1, s1, s1, decide_eq_true rfl, stB_in (by omega), stB_in (by omega), stB_in (by omega), n1, n2]
      exact ⟨rfl, rfl, by simp⟩
    · have s1 : ∀ u, stB (mSt1 m i) u k = stB m u k := fun u => stB_eq hn2 (fun q => f1 k 17 (by omega) (by omega))
      rw [s1, s1, s1, decide_eq_false e]
      exact ⟨by simp, rfl, by simp⟩
  · intro s hs
    rw [hn2] at hs
    have q := hA s hs
    rw [co.1 1 (by omega) (by omega) (by omega), co.1 3 (by omega) (by omega) (by omega), co.1 6 (by omega) (by omega) (by omega), co.2.1, co.2.2]
    by_cases e : s = i
    · subst e
      rw [pk_us, pk_us, f1 s 7 (by omega) (by omega), g18, f1 s 19 (by omega) (by omega), g20, f1 s 22 (by omega) (by omega), q.2.2.2.1]
      exact ⟨q.1, q.1, q.2.2.1, rfl, q.2.2.2.2⟩
    · rw [pk_un e, pk_un e, f1 s 7 (by omega) (by omega), f1 s 18 (by omega) (by omega), f1 s 19 (by omega) (by omega), f1 s 20 (by omega) (by omega), f1 s 22 (by omega) (by omega)]
      exact q
  · intro s hs
    rw [hn2] at hs
    obtain ⟨c, c1, c2, c3⟩ := hC s hs
    exact ⟨c, by rw [co.1 5 (by omega) (by omega) (by omega)]; exact c1, c2, by rw [f1 s 21 (by omega) (by omega)]; exact c3⟩
  · rw [hn2, lo7, co.2.2, sm_inc _ _ _ hi, t1]
  · rw [hn2, lo 8 (by omega) (by omega), co.1 5 (by omega) (by omega) (by omega)]; exact t2
  · rw [hn2, lo 9 (by omega) (by omega), co.1 6 (by omega) (by omega) (by omega)]; exact t3
  · intro s hs
    rw [hn2] at hs
    have q := hMI s hs
    by_cases e : s = i
    · subst e
      obtain ⟨dd, d1, d2, d3⟩ := q.2.2
      refine ⟨fun _ => ⟨dd, by rw [g18]; exact d1, d2, d3⟩, fun _ => ?_, ?_⟩
      · rw [f1 s 19 (by omega) (by omega)]; exact q.2.1 h17b
      · rw [f1 s 7 (by omega) (by omega)]; exact q.2.2
    · rw [f1 s 17 (by omega) (by omega), f1 s 18 (by omega) (by omega), f1 s 19 (by omega) (by omega), f1 s 7 (by omega) (by omega)]
      exact q
  · intro s hs
    rw [hn2] at hs
    by_cases e : s = i
    · subst e; rw [g17]; exact Or.inr (Or.inl rfl)
    · rw [f1 s 17 (by omega) (by omega)]; exact hS4 s hs
