/-! THE CLASS WORKS AS THE MODEL DOES -/
theorem stB_eq {m m' : Nat → Int32} (hn : nS m' = nS m) {u : Int32} {k : Nat} (h : k < nS m → fld m' k 17 = fld m k 17) : stB m' u k = stB m u k := by
  unfold stB
  rw [hn]
  by_cases hk : k < nS m
  · rw [h hk]
  · rw [decide_eq_false hk]; rfl
theorem St_cg {σ : Nat → Nat → Int32} {m m' : Nat → Int32} {B : Nat → Nat} (hn : nS m' = nS m) (hf : ∀ k, k < nS m → ∀ w, w < 24 → w ≠ 23 → fld m' k w = fld m k w) (hl : ∀ x, x < 46 → m' x = m x)
    (h : StS σ m ∧ StB σ m ∧ StA σ m ∧ StC σ m B ∧ StT σ m ∧ MI m ∧ S4 m) : StS σ m' ∧ StB σ m' ∧ StA σ m' ∧ StC σ m' B ∧ StT σ m' ∧ MI m' ∧ S4 m' := by
  obtain ⟨⟨a1, a2, a3, a4, a5⟩, h2, h3, h4, ⟨t1, t2, t3⟩, h6, h7⟩ := h
  refine ⟨⟨by rw [hl 0 (by omega)]; exact a1, by rw [hl 4 (by omega)]; exact a2, by rw [hl 5 (by omega)]; exact a3, by rw [hl 11 (by omega)]; exact a4, by rw [hl 6 (by omega)]; exact a5⟩, ?_, ?_, ?_, ⟨by rw [hn, hl 7 (by omega)]; exact t1, by rw [hn, hl 8 (by omega)]; exact t2, by rw [hn, hl 9 (by omega)]; exact t3⟩, ?_, ?_⟩
  · intro k hk
    have e : ∀ u, stB m' u k = stB m u k := fun u => stB_eq hn (fun q => hf k q 17 (by omega) (by omega))
    rw [e, e, e]; exact h2 k hk
  · intro s hs
    rw [hn] at hs
    rw [hf s hs 7 (by omega) (by omega), hf s hs 18 (by omega) (by omega), hf s hs 19 (by omega) (by omega), hf s hs 20 (by omega) (by omega), hf s hs 22 (by omega) (by omega)]
    exact h3 s hs
  · intro s hs
    rw [hn] at hs
    rw [hf s hs 21 (by omega) (by omega)]
    exact h4 s hs
  · intro s hs
    rw [hn] at hs
    rw [hf s hs 17 (by omega) (by omega), hf s hs 18 (by omega) (by omega), hf s hs 19 (by omega) (by omega), hf s hs 7 (by omega) (by omega)]
    exact h6 s hs
  · intro s hs
    rw [hn] at hs
    rw [hf s hs 17 (by omega) (by omega)]
    exact h7 s hs
def WI (m0 : Nat → Int32) (B i : Nat) (σ : Nat → Nat → Int32) (m : Nat → Int32) (l1 : Int32) : Prop :=
  RecEq m0 m ∧ (StS σ m ∧ StB σ m ∧ StA σ m ∧ StC σ m (fun s => if s < i then B + 1 else B) ∧ StT σ m ∧ MI m ∧ S4 m) ∧
  (∀ k, i ≤ k → k < nS m0 → ∀ w, w < 24 → fld m k w = fld m0 k w) ∧
  (∀ k, k < 32 → bt l1 k = (decide (k < i) && (fld m k 23 == 1))) ∧
  m 10 = m0 10 + nI (cnt (cooked m0) i) ∧ (∀ x, x < 46 → x ≠ 10 → x ≠ 8 → m x = m0 x)
theorem fresh_keep {m m' : Nat → Int32} {i : Nat} {l1 : Int32} (h : ∀ k, k < 32 → bt l1 k = (decide (k < i) && (fld m k 23 == 1))) (hf : ∀ k, fld m' k 23 = if k = i then 0 else fld m k 23) : ∀ k, k < 32 → bt l1 k = (decide (k < i + 1) && (fld m' k 23 == 1)) := by
  intro k hk
  rw [h k hk, hf k]
  by_cases e : k = i
  · subst e
    rw [if_pos rfl, decide_eq_false (Nat.lt_irrefl k)]
    rw [decide_eq_true (Nat.lt_succ_self k)]; rfl
  · have : decide (k < i + 1) = decide (k < i) := decide_eq_decide.mpr (by omega)
    rw [if_neg e, this]
theorem StC_mono {σ : Nat → Nat → Int32} {m : Nat → Int32} {B C : Nat → Nat} (h : StC σ m B) (hb : ∀ s, s < nS m → B s ≤ C s) : StC σ m C := by
  intro s hs
  obtain ⟨c, h1, h2, h3⟩ := h s hs
  exact ⟨c, h1, Nat.le_trans h2 (hb s hs), h3⟩
theorem WI_fr {m0 : Nat → Int32} {B i : Nat} {σ : Nat → Nat → Int32} {m : Nat → Int32} {l1 : Int32} (h : WI m0 B i σ m l1) (hi : i < nS m0) (hn : ¬ fld m i 17 = 1) : WI m0 B (i + 1) σ (upd m (46 + i * 24 + 23) 0) l1 := by
  obtain ⟨hre, hst, hk, hl, h10, hx⟩ := h
  have hnS := re_nS hre
  have hre2 : RecEq m (upd m (46 + i * 24 + 23) 0) := re_up 0 (by omega)
  have hst2 := St_cg (m' := upd m (46 + i * 24 + 23) 0) (re_nS hre2) (fun k hk w hw hw2 => by rw [fr_fld m 0 hw, if_neg (by omega)]) (fun x hx => lo_upd m 0 hx) hst
  refine ⟨re_trans hre hre2, ⟨hst2.1, hst2.2.1, hst2.2.2.1, StC_mono hst2.2.2.2.1 (fun s _ => ?_), hst2.2.2.2.2⟩, ?_, ?_, ?_, ?_⟩
  · split <;> split <;> omega
  · intro k h1 h2 w hw
    rw [fr_fld m 0 hw, if_neg (by omega)]
    exact hk k (by omega) h2 w hw
  · exact fresh_keep hl (fun k => by rw [fr_fld m 0 (by omega)]; by_cases e : k = i <;> simp [e])
  · rw [lo_upd m 0 (by omega), h10, cnt_s]
    have : cooked m0 i = false := by
      unfold cooked
      rw [← hk i (Nat.le_refl i) hi 17 (by omega), beq_eq_false_iff_ne.mpr hn]; rfl
    rw [this]; rfl
  · intro x h1 h2 h3
    rw [lo_upd m 0 h1]
    exact hx x h1 h2 h3
theorem WI_run {m0 : Nat → Int32} {B i r : Nat} {σ : Nat → Nat → Int32} {m : Nat → Int32} {l1 : Int32} (h : WI m0 B i σ m l1) (hi : i < nS m0) (hr : fld m i 17 = 1) (h18 : fld m i 18 = nI r) (h1r : 1 < r) (h60 : r ≤ 60) (h11 : fld m0 i 11 = 0 ∨ fld m0 i 11 = 1) : WI m0 B (i + 1) (uo σ 2 i (σ 2 i - 1)) (mW1 m i) l1 := by
  obtain ⟨hre, ⟨⟨a1, a2, a3, a4, a5⟩, hB, hA, hC, ⟨t1, t2, t3⟩, hMI, hS4⟩, hk, hl, h10, hx⟩ := h
  have hnS := re_nS hre
  have hre2 := mW1_re m i
  have hn2 := re_nS hre2
  have f1 : ∀ k w, w < 24 → w ≠ 23 → ¬ (k = i ∧ w = 18) → fld (mW1 m i) k w = fld m k w := fun k w hw h2 h3 => by rw [mW1_fld m hw, if_neg (by omega), if_neg h3]
  have lo : ∀ x, x < 46 → x ≠ 10 → mW1 m i x = m x := fun x h1 h2 => by rw [mW1_lo m h1, if_neg h2]
  refine ⟨re_trans hre hre2, ⟨⟨?_, ?_, ?_, ?_, ?_⟩, ?_, ?_, ?_, ⟨?_, ?_, ?_⟩, ?_, ?_⟩, ?_, ?_, ?_, ?_⟩
  · rw [uo_f (by omega), lo 0 (by omega) (by omega)]; exact a1
  · rw [uo_f (by omega), lo 4 (by omega) (by omega)]; exact a2
  · rw [uo_f (by omega), lo 5 (by omega) (by omega)]; exact a3
  · rw [uo_f (by omega), lo 11 (by omega) (by omega)]; exact a4
  · rw [uo_f (by omega), lo 6 (by omega) (by omega)]; exact a5
  · intro k hk2
    have e : ∀ u, stB (mW1 m i) u k = stB m u k := fun u => stB_eq hn2 (fun q => f1 k 17 (by omega) (by omega) (by omega))
    rw [e, e, e, uo_f (by omega)]; exact hB k hk2
  · intro s hs
    rw [hn2] at hs
    have q := hA s hs
    rw [f1 s 7 (by omega) (by omega) (by omega), f1 s 19 (by omega) (by omega) (by omega), f1 s 20 (by omega) (by omega) (by omega), f1 s 22 (by omega) (by omega) (by omega), uo_f (show ¬ 1 = 2 by omega), uo_f (show ¬ 3 = 2 by omega), uo_f (show ¬ 4 = 2 by omega), uo_f (show ¬ 6 = 2 by omega)]
    refine ⟨q.1, ?_, q.2.2⟩
    by_cases e : s = i
    · subst e
      rw [uo_s, mW1_fld m (by omega), if_neg (by omega), if_pos ⟨rfl, rfl⟩, q.2.1]
    · rw [uo_o (by omega), f1 s 18 (by omega) (by omega) (by omega)]; exact q.2.1
  · intro s hs
    rw [hn2] at hs
    obtain ⟨c, c1, c2, c3⟩ := hC s hs
    refine ⟨c, by rw [uo_f (by omega)]; exact c1, Nat.le_trans c2 ?_, by rw [f1 s 21 (by omega) (by omega) (by omega)]; exact c3⟩
    show (if s < i then B + 1 else B) ≤ (if s < i + 1 then B + 1 else B)
    split <;> split <;> omega
  · rw [hn2, lo 7 (by omega) (by omega), uo_f (by omega)]; exact t1
  · rw [hn2, lo 8 (by omega) (by omega), uo_f (by omega)]; exact t2
  · rw [hn2, lo 9 (by omega) (by omega), uo_f (by omega)]; exact t3
  · intro s hs
    rw [hn2] at hs
    have q := hMI s hs
    rw [f1 s 17 (by omega) (by omega) (by omega), f1 s 19 (by omega) (by omega) (by omega), f1 s 7 (by omega) (by omega) (by omega)]
    refine ⟨fun h17 => ?_, q.2⟩
    by_cases e : s = i
    · subst e
      refine ⟨r - 1, ?_, by omega, by omega⟩
      rw [mW1_fld m (by omega), if_neg (by omega), if_pos ⟨rfl, rfl⟩, h18]
      exact pk_sub (a := r) (b := 1) (by omega)
    · rw [f1 s 18 (by omega) (by omega) (by omega)]
      exact q.1 h17
  · intro s hs
    rw [hn2] at hs
    rw [f1 s 17 (by omega) (by omega) (by omega)]; exact hS4 s hs
  · intro k h1 h2 w hw
    rw [mW1_fld m hw, if_neg (by omega), if_neg (by omega)]
    exact hk k (by omega) h2 w hw
  · exact fresh_keep hl (fun k => by rw [mW1_fld m (by omega)]; by_cases e : k = i <;> simp [e])
  · rw [mW1_lo m (by omega), if_pos rfl, h10, cnt_s]
    have e17 : fld m0 i 17 = 1 := by rw [← hk i (Nat.le_refl i) hi 17 (by omega)]; exact hr
    have e11 : fld m i 11 = fld m0 i 11 := hk i (Nat.le_refl i) hi 11 (by omega)
    unfold cooked
    rw [e17, e11]
    rcases h11 with e | e
    · rw [e]
      show m0 10 + nI (cnt (cooked m0) i) + (1 - 0) = m0 10 + nI (cnt (cooked m0) i + 1)
      rw [← nI_1, Int32.add_assoc]; rfl
    · rw [e]
      show m0 10 + nI (cnt (cooked m0) i) + (1 - 1) = m0 10 + nI (cnt (cooked m0) i + 0)
      rw [Nat.add_zero]
      show m0 10 + nI (cnt (cooked m0) i) + 0 = _
      rw [Int32.add_zero]
  · intro x h1 h2 h3
    rw [lo x h1 h2]
    exact hx x h1 h2 h3
theorem sComplete_0 (σ : Nat → Nat → Int32) (s : Nat) : sComplete σ s 0 6 = (σ 0 6 &&& (sBit s ^^^ (-1))) ∧ sComplete σ s 0 7 = (σ 0 7 ||| sBit s) ∧ (∀ x, x ≠ 6 → x ≠ 7 → sComplete σ s 0 x = σ 0 x) := by
  unfold sComplete
  refine ⟨?_, ?_, fun x h1 h2 => ?_⟩
  · simp (disch := omega) only [uo_s, uo_o]
  · simp (disch := omega) only [uo_s, uo_o]
  · simp (disch := omega) only [uo_o]
theorem sComplete_o (σ : Nat → Nat → Int32) (s : Nat) : (∀ o, o ≠ 0 → o ≠ 5 → sComplete σ s o = σ o) ∧ sComplete σ s 5 = upd (σ 5) s (σ 5 s + 1) := by
  unfold sComplete
  refine ⟨fun o h1 h2 => ?_, ?_⟩
  · rw [uo_f h2, uo_f h1, uo_f h1]
  · rw [uo_u, uo_f (by omega), uo_f (by omega)]
theorem b_bit {s k : Nat} (hs : s < 32) (hk : k < 32) : bt (sBit s) k = decide (k = s) := b_one s hs hk
theorem nI_inc (c : Nat) : nI c + 1 = nI (c + 1) := nI_1 c
theorem WI_fin {m0 : Nat → Int32} {B i : Nat} {σ : Nat → Nat → Int32} {m : Nat → Int32} {l1 : Int32} (h14 : nS m0 ≤ 14) (h : WI m0 B i σ m l1) (hi : i < nS m0) (hr : fld m i 17 = 1) (h18 : fld m i 18 = 1) (h11 : fld m0 i 11 = 0 ∨ fld m0 i 11 = 1) : WI m0 B (i + 1) (sComplete (uo σ 2 i (σ 2 i - 1)) i) (mW2 (mW1 m i) i) (l1 ||| sBit i) := by
  obtain ⟨hre, ⟨⟨a1, a2, a3, a4, a5⟩, hB, hA, hC, ⟨t1, t2, t3⟩, hMI, hS4⟩, hk, hl, h10, hx⟩ := h
  have hnS := re_nS hre
  have hre2 := re_trans (mW1_re m i) (mW2_re (mW1 m i) i)
  have hn2 := re_nS hre2
  generalize hσ1 : uo σ 2 i (σ 2 i - 1) = σ1
  have u0 : ∀ o, o ≠ 2 → σ1 o = σ o := fun o ho => by rw [← hσ1]; exact uo_f ho
  have u2 : σ1 2 = upd (σ 2) i (σ 2 i - 1) := by rw [← hσ1]; exact uo_u _ _ _ _
  have c0 := sComplete_0 σ1 i
  have co := sComplete_o σ1 i
  have f1 : ∀ k w, w < 24 → w ≠ 23 → ¬ (k = i ∧ (w = 17 ∨ w = 18 ∨ w = 19 ∨ w = 21)) → fld (mW2 (mW1 m i) i) k w = fld m k w := fun k w hw h2 h3 => by
    rw [mW2_fld _ hw, if_neg (by omega), if_neg (by omega), if_neg (by omega), mW1_fld m hw, if_neg (by omega), if_neg (by omega)]
  have g17 : fld (mW2 (mW1 m i) i) i 17 = 2 := by rw [mW2_fld _ (by omega), if_pos ⟨rfl, rfl⟩]
  have g18 : fld (mW2 (mW1 m i) i) i 18 = 0 := by
    rw [mW2_fld _ (by omega), if_neg (by omega), if_neg (by omega), if_neg (by omega), mW1_fld m (by omega), if_neg (by omega), if_pos ⟨rfl, rfl⟩, h18]; rfl
  have g19 : fld (mW2 (mW1 m i) i) i 19 = 0 := by rw [mW2_fld _ (by omega), if_neg (by omega), if_pos ⟨rfl, rfl⟩]
  have g21 : fld (mW2 (mW1 m i) i) i 21 = 1 := by rw [mW2_fld _ (by omega), if_neg (by omega), if_neg (by omega), if_pos ⟨rfl, Or.inl rfl⟩]
  have g23 : ∀ k, fld (mW2 (mW1 m i) i) k 23 = if k = i then 1 else fld m k 23 := fun k => by
    by_cases e : k = i
    · subst e
      rw [mW2_fld _ (by omega), if_neg (by omega), if_neg (by omega), if_pos ⟨rfl, Or.inr rfl⟩, if_pos rfl]
    · rw [mW2_fld _ (by omega), if_neg (by omega), if_neg (by omega), if_neg (by omega), mW1_fld m (by omega), if_neg (by omega), if_neg (by omega), if_neg e]
  have lo : ∀ x, x < 46 → x ≠ 10 → x ≠ 8 → mW2 (mW1 m i) i x = m x := fun x h1 h2 h3 => by rw [mW2_lo _ h1, if_neg h3, mW1_lo m h1, if_neg h2]
  have lo8 : mW2 (mW1 m i) i 8 = m 8 + 1 := by rw [mW2_lo _ (by omega), if_pos rfl, mW1_lo m (by omega), if_neg (by omega)]
  have him : i < nS m := by omega
  have age0 : fld m i 19 = 0 := (hMI i him).2.1 (by rw [hr]; decide)
  refine ⟨re_trans hre hre2, ⟨⟨?_, ?_, ?_, ?_, ?_⟩, ?_, ?_, ?_, ⟨?_, ?_, ?_⟩, ?_, ?_⟩, ?_, ?_, ?_, ?_⟩
  · rw [c0.2.2 0 (by omega) (by omega), u0 0 (by omega), lo 0 (by omega) (by omega) (by omega)]; exact a1
  · rw [c0.2.2 1 (by omega) (by omega), u0 0 (by omega), lo 4 (by omega) (by omega) (by omega)]; exact a2
  · rw [c0.2.2 2 (by omega) (by omega), u0 0 (by omega), lo 5 (by omega) (by omega) (by omega)]; exact a3
  · rw [c0.2.2 4 (by omega) (by omega), u0 0 (by omega), lo 11 (by omega) (by omega) (by omega)]; exact a4
  · rw [c0.2.2 5 (by omega) (by omega), u0 0 (by omega), lo 6 (by omega) (by omega) (by omega)]; exact a5
  · intro k hk2
    have q := hB k hk2
    rw [c0.1, c0.2.1, c0.2.2 8 (by omega) (by omega), u0 0 (by omega), b_and, b_or, b_not _ hk2, b_bit (by omega) hk2, q.1, q.2.1, q.2.2]
    by_cases e : k = i
    · subst e
      have s1 : ∀ u, stB (mW2 (mW1 m k) k) u k = (2 == u) := fun u => by rw [stB_in (by omega), g17]
      rw [s1, s1, s1, decide_eq_true rfl, stB_in (by omega), stB_in (by omega), stB_in (by omega), hr]
      exact ⟨rfl, rfl, rfl⟩
    · have s1 : ∀ u, stB (mW2 (mW1 m i) i) u k = stB m u k := fun u => stB_eq hn2 (fun q => f1 k 17 (by omega) (by omega) (by omega))
      rw [s1, s1, s1, decide_eq_false e]
      exact ⟨by simp, by simp, rfl⟩
  · intro s hs
    rw [hn2] at hs
    have q := hA s hs
    rw [co.1 1 (by omega) (by omega), co.1 2 (by omega) (by omega), co.1 3 (by omega) (by omega), co.1 4 (by omega) (by omega), co.1 6 (by omega) (by omega), u0 1 (by omega), u0 3 (by omega), u0 4 (by omega), u0 6 (by omega), u2]
    by_cases e : s = i
    · subst e
      rw [pk_us, f1 s 7 (by omega) (by omega) (by omega), g18, g19, f1 s 20 (by omega) (by omega) (by omega), f1 s 22 (by omega) (by omega) (by omega), q.2.1, h18, q.2.2.1, age0]
      exact ⟨q.1, rfl, rfl, q.2.2.2⟩
    · rw [pk_un e, f1 s 7 (by omega) (by omega) (by omega), f1 s 18 (by omega) (by omega) (by omega), f1 s 19 (by omega) (by omega) (by omega), f1 s 20 (by omega) (by omega) (by omega), f1 s 22 (by omega) (by omega) (by omega)]
      exact q
  · intro s hs
    rw [hn2] at hs
    obtain ⟨c, c1, c2, c3⟩ := hC s hs
    rw [co.2, u0 5 (by omega)]
    by_cases e : s = i
    · subst e
      refine ⟨c + 1, by rw [pk_us, c1]; exact nI_inc c, ?_, by rw [g21, if_neg (by omega)]⟩
      have c2' : c ≤ (if s < s then B + 1 else B) := c2
      show c + 1 ≤ (if s < s + 1 then B + 1 else B)
      rw [if_neg (Nat.lt_irrefl s)] at c2'
      rw [if_pos (Nat.lt_succ_self s)]
      omega
    · refine ⟨c, by rw [pk_un e]; exact c1, Nat.le_trans c2 ?_, by rw [f1 s 21 (by omega) (by omega) (by omega)]; exact c3⟩
      show (if s < i then B + 1 else B) ≤ (if s < i + 1 then B + 1 else B)
      split <;> split <;> omega
  · rw [hn2, lo 7 (by omega) (by omega) (by omega), co.1 4 (by omega) (by omega), u0 4 (by omega)]; exact t1
  · rw [hn2, lo8, co.2, u0 5 (by omega), sm_inc _ _ _ him, t2]
  · rw [hn2, lo 9 (by omega) (by omega) (by omega), co.1 6 (by omega) (by omega), u0 6 (by omega)]; exact t3
  · intro s hs
    rw [hn2] at hs
    have q := hMI s hs
    by_cases e : s = i
    · subst e
      refine ⟨fun h => ?_, fun h => g19, ?_⟩
      · rw [g17] at h; exact absurd h (by decide)
      · rw [f1 s 7 (by omega) (by omega) (by omega)]; exact q.2.2
    · rw [f1 s 17 (by omega) (by omega) (by omega), f1 s 18 (by omega) (by omega) (by omega), f1 s 19 (by omega) (by omega) (by omega), f1 s 7 (by omega) (by omega) (by omega)]
      exact q
  · intro s hs
    rw [hn2] at hs
    by_cases e : s = i
    · subst e; rw [g17]; exact Or.inr (Or.inr (Or.inl rfl))
    · rw [f1 s 17 (by omega) (by omega) (by omega)]; exact hS4 s hs
  · intro k h1 h2 w hw
    rw [mW2_fld _ hw, if_neg (by omega), if_neg (by omega), if_neg (by omega), mW1_fld m hw, if_neg (by omega), if_neg (by omega)]
    exact hk k (by omega) h2 w hw
  · intro k hk2
    rw [b_or, hl k hk2, b_bit (by omega) hk2, g23 k]
    by_cases e : k = i
    · subst e
      rw [if_pos rfl, decide_eq_true rfl, decide_eq_true (Nat.lt_succ_self k), Bool.or_true]; rfl
    · have : decide (k < i + 1) = decide (k < i) := decide_eq_decide.mpr (by omega)
      rw [if_neg e, decide_eq_false e, this, Bool.or_false]
  · rw [mW2_lo _ (by omega), if_neg (by omega), mW1_lo m (by omega), if_pos rfl, h10, cnt_s]
    have e17 : fld m0 i 17 = 1 := by rw [← hk i (Nat.le_refl i) hi 17 (by omega)]; exact hr
    have e11 : fld m i 11 = fld m0 i 11 := hk i (Nat.le_refl i) hi 11 (by omega)
    unfold cooked
    rw [e17, e11]
    rcases h11 with e | e
    · rw [e]
      show m0 10 + nI (cnt (cooked m0) i) + (1 - 0) = m0 10 + nI (cnt (cooked m0) i + 1)
      rw [← nI_1, Int32.add_assoc]; rfl
    · rw [e]
      show m0 10 + nI (cnt (cooked m0) i) + (1 - 1) = m0 10 + nI (cnt (cooked m0) i + 0)
      rw [Nat.add_zero]
      show m0 10 + nI (cnt (cooked m0) i) + 0 = _
      rw [Int32.add_zero]
  · intro x h1 h2 h3
    rw [lo x h1 h2 h3]
    exact hx x h1 h2 h3
theorem mWork_fr {m : Nat → Int32} {i : Nat} (h : ¬ fld m i 17 = 1) : mWork m i = upd m (46 + i * 24 + 23) 0 := by
  unfold mWork
  rw [if_neg]
  rw [fr_fld m 0 (by omega), if_neg (by omega)]; exact h
theorem mWork_run {m : Nat → Int32} {i r : Nat} (h : fld m i 17 = 1) (hr : fld m i 18 = nI r) (h1 : 1 ≤ r) (h60 : r ≤ 60) : mWork m i = if r = 1 then mW2 (mW1 m i) i else mW1 m i := by
  unfold mWork
  rw [if_pos (by rw [fr_fld m 0 (by omega), if_neg (by omega)]; exact h)]
  have e : fld (mW1 m i) i 18 = nI (r - 1) := by
    rw [mW1_fld m (by omega), if_neg (by omega), if_pos ⟨rfl, rfl⟩, hr]
    exact pk_sub (a := r) (b := 1) (by omega)
  rw [e]
  by_cases q : r = 1
  · subst q; rw [if_pos rfl, if_pos (by decide)]
  · rw [if_neg q, if_neg (nI_nle (by omega) (by omega))]
theorem workC_b {Y : Mem} {g B : Nat} {m0 : Nat → Int32} {v2 : Int32} (h14 : nS m0 ≤ 14) (hr2 : rg Y g < 2) (hcnt : Y 4 (2 * rg Y g + 1) 0 2 = nI (nS m0)) (h11 : ∀ s, s < nS m0 → fld m0 s 11 = 0 ∨ fld m0 s 11 = 1) (hv2 : ∀ k, k < 32 → bt v2 k = stB m0 1 k) :
    ∀ d i σ m l1 f, i + d = nS m0 → d < f → WI m0 B i σ m l1 → ∃ σ' x, X3_work_b38 g f (wS Y g σ) (nI i) v2 l1 = some (x, wS Y g σ') ∧ WI m0 B (nS m0) σ' (mWorks m i d) x ∧ σ' 0 3 = σ 0 3 := by
  intro d
  have hrg : ∀ σ, rg (wS Y g σ) g = rg Y g := fun σ => by unfold rg; rw [wS_o (by omega)]
  have hr3 : ∀ σ, rg (wS Y g σ) g < 2 := fun σ => by rw [hrg]; exact hr2
  have hcn : ∀ σ, (wS Y g σ) 4 (2 * rg (wS Y g σ) g + 1) 0 2 = nI (nS m0) := fun σ => by rw [hrg, wS_o (by omega)]; exact hcnt
  induction d with
  | zero =>
    intro i σ m l1 f hi f_h hw
    obtain ⟨f, rfl⟩ := fuel_s f_h
    have : i = nS m0 := by omega
    subst this
    unfold X3_work_b38
    rw [gd2 (hr3 σ), gd2 (hr3 σ), hcn, if_pos (Int32.le_refl _)]
    exact ⟨σ, l1, rfl, hw, rfl⟩
  | succ d ih =>
    intro i σ m l1 f hi f_h hw
    obtain ⟨f, rfl⟩ := fuel_s f_h
    unfold X3_work_b38
    have hin : i < nS m0 := by omega
    rw [gd2 (hr3 σ), gd2 (hr3 σ), hcn, if_neg (by rw [nI_leI (by omega) (by omega)]; omega), contains_ok _ _ (by omega), bd1_e, bI_ne, hv2 i (by omega), stB_in hin]
    have hj : ∀ Y1 z, X3_work_b99 g (X3_work_b38 g f) Y1 (nI i) v2 z = X3_work_b38 g f Y1 (nI (i + 1)) v2 z := by
      intro Y1 z
      unfold X3_work_b99
      rw [litI, nI_add]
    have e17 : fld m i 17 = fld m0 i 17 := hw.2.2.1 i (Nat.le_refl i) hin 17 (by omega)
    by_cases c : fld m0 i 17 = 1
    · rw [beq_iff_eq.mpr c, if_pos rfl, gdi (show i < 14 by omega), ix_n (by omega), lt_e, wS_at, up_wS, wS_at, uo_s]
      have hnS := re_nS hw.1
      obtain ⟨r, hr, h1r, h60⟩ := (hw.2.1.2.2.2.2.2.1 i (by omega)).1 (by rw [e17]; exact c)
      have hs2 : σ 2 i = nI r := by rw [(hw.2.1.2.2.1 i (by omega)).2.1]; exact hr
      have hm : σ 2 i - 1 = nI (r - 1) := by rw [hs2]; exact pk_sub (a := r) (b := 1) (by omega)
      have hmw := mWork_run (m := m) (i := i) (by rw [e17]; exact c) hr h1r h60
      by_cases q : r = 1
      · subst q
        rw [if_pos (by rw [hm]; decide), complete_ok Y g _ (by omega), bd1_e, lt_e, hj]
        have hw2 := WI_fin h14 hw hin (by rw [e17]; exact c) hr (h11 i hin)
        obtain ⟨σ', x, q1, q2, q3⟩ := ih (i + 1) _ _ _ f (by omega) (by omega) hw2
        refine ⟨σ', x, q1, ?_, ?_⟩
        · show WI m0 B (nS m0) σ' (mWorks (mWork m i) (i + 1) d) x
          rw [hmw, if_pos rfl]; exact q2
        · rw [q3, (sComplete_0 _ i).2.2 3 (by omega) (by omega), uo_f (by omega)]
      · rw [if_neg (by rw [hm]; exact nI_ne0 (by omega) (by omega)), hj]
        have hw2 := WI_run hw hin (by rw [e17]; exact c) hr (by omega) h60 (h11 i hin)
        obtain ⟨σ', x, q1, q2, q3⟩ := ih (i + 1) _ _ _ f (by omega) (by omega) hw2
        refine ⟨σ', x, q1, ?_, ?_⟩
        · show WI m0 B (nS m0) σ' (mWorks (mWork m i) (i + 1) d) x
          rw [hmw, if_neg q]; exact q2
        · rw [q3, uo_f (by omega)]
    · rw [beq_eq_false_iff_ne.mpr c, if_neg (by decide), hj]
      have hn1 : ¬ fld m i 17 = 1 := by rw [e17]; exact c
      have hw2 := WI_fr hw hin hn1
      obtain ⟨σ', x, q1, q2, q3⟩ := ih (i + 1) _ _ _ f (by omega) (by omega) hw2
      refine ⟨σ', x, q1, ?_, q3⟩
      show WI m0 B (nS m0) σ' (mWorks (mWork m i) (i + 1) d) x
      rw [mWork_fr hn1]; exact q2
