section
/-! TOKENS -/
theorem u6 (Y : Mem) (f : Nat → Int32) : (upR Y 6 0 0 f) 6 0 0 = f := upR_at _ _ _ _ _
theorem u6o (Y : Mem) (f : Nat → Int32) {k : Nat} (hk : k ≠ 6) : (upR Y 6 0 0 f) k = Y k := by funext g o; exact upR_o (by omega)
theorem u10 (Z : Mem) (f : Nat → Int32) : (upR Z 10 0 0 f) 10 0 0 = f := upR_at _ _ _ _ _
theorem u10o (Z : Mem) (f : Nat → Int32) {o : Nat} (ho : o ≠ 0) : (upR Z 10 0 0 f) 10 0 o = Z 10 0 o := upR_o (by omega)
def gapE (b : Nat → Nat) : Nat → Nat → Nat
  | 0, p => p
  | d + 1, p => if b p = 32 ∨ b p = 10 then gapE b d (p + 1) else p
def runE (b : Nat → Nat) (lo hi : Nat) : Nat → Nat → Nat
  | 0, p => p
  | d + 1, p => if lo ≤ b p ∧ b p ≤ hi then runE b lo hi d (p + 1) else p
def numV (b : Nat → Nat) (s : Nat) : Nat → Nat
  | 0 => 0
  | i + 1 => numV b s i * 10 + b (s + i) - 48
theorem gapE_rng (b : Nat → Nat) : ∀ d p, p ≤ gapE b d p ∧ gapE b d p ≤ p + d := by
  intro d
  induction d with
  | zero => intro p; exact ⟨Nat.le_refl _, Nat.le_refl _⟩
  | succ d ih =>
    intro p
    unfold gapE
    split
    · have := ih (p + 1); omega
    · omega
theorem runE_rng (b : Nat → Nat) (lo hi : Nat) : ∀ d p, p ≤ runE b lo hi d p ∧ runE b lo hi d p ≤ p + d ∧ ∀ j, p ≤ j → j < runE b lo hi d p → lo ≤ b j ∧ b j ≤ hi := by
  intro d
  induction d with
  | zero => intro p; exact ⟨Nat.le_refl _, Nat.le_refl _, fun j h1 h2 => absurd h2 (by unfold runE; omega)⟩
  | succ d ih =>
    intro p
    unfold runE
    split
    · rename_i h
      obtain ⟨q1, q2, q3⟩ := ih (p + 1)
      refine ⟨by omega, by omega, fun j h1 h2 => ?_⟩
      by_cases e : j = p
      · subst e; exact h
      · exact q3 j (by omega) h2
    · exact ⟨Nat.le_refl _, by omega, fun j h1 h2 => by omega⟩
theorem runE_pos (b : Nat → Nat) {lo hi d p : Nat} (h : lo ≤ b p ∧ b p ≤ hi) : p < runE b lo hi (d + 1) p := by
  unfold runE
  rw [if_pos h]
  have := (runE_rng b lo hi d (p + 1)).1
  omega
theorem numV_lt {b : Nat → Nat} {s e : Nat} (h : ∀ j, s ≤ j → j < e → 48 ≤ b j ∧ b j ≤ 57) : ∀ i, s + i ≤ e → i ≤ 3 → numV b s i < 10 ^ i := by
  intro i
  induction i with
  | zero => intro _ _; exact Nat.one_pos
  | succ i ih =>
    intro h1 h3
    have q := ih (by omega) (by omega)
    have q2 := h (s + i) (by omega) (by omega)
    unfold numV
    rw [Nat.pow_succ]
    omega
/-- the text, in class and model -/
def TT (Y Z : Mem) (b : Nat → Nat) (n : Nat) : Prop := n ≤ 700 ∧ (∀ j, j < n → b j < 256 ∧ Z 10 0 3 j = nI (b j) ∧ Y 5 0 1 j = byt (b j)) ∧ Y 5 0 0 1 = nI n ∧ Z 10 0 0 4 = nI n
def TW (b : Nat → Nat) (n k s e : Nat) : Prop := s ≤ e ∧ e ≤ n ∧ k ≤ 4 ∧ (k = 1 → s < e ∧ e ≤ s + 8 ∧ ∀ j, s ≤ j → j < e → 97 ≤ b j ∧ b j ≤ 122) ∧ (k = 2 → s < e ∧ e ≤ s + 3 ∧ ∀ j, s ≤ j → j < e → 48 ≤ b j ∧ b j ≤ 57)
def TK (Y Z : Mem) (b : Nat → Nat) (n k s e : Nat) : Prop := TT Y Z b n ∧ TW b n k s e ∧ (Y 6 0 0 1 = nI k ∧ Y 6 0 0 2 = nI s ∧ Y 6 0 0 3 = nI e) ∧ Z 10 0 0 15 = nI k ∧ Z 10 0 0 16 = nI s ∧ Z 10 0 0 14 = nI e ∧ (k = 2 → Z 10 0 0 17 = nI (numV b s (e - s)))
theorem byt_s : ∀ b, b < 256 → (decide ((97 : Int32) ≤ byt b ∧ byt b ≤ 122) = decide (97 ≤ b ∧ b ≤ 122)) ∧ (decide ((48 : Int32) ≤ byt b ∧ byt b ≤ 57) = decide (48 ≤ b ∧ b ≤ 57)) ∧ decide (byt b = 32) = decide (b = 32) ∧ decide (byt b = 10) = decide (b = 10) ∧ decide (byt b = 59) = decide (b = 59) := by decide +kernel
theorem byt_r : ∀ b, b < 256 → decide (byt b < 97 ∨ (122 : Int32) < byt b) = !decide (97 ≤ b ∧ b ≤ 122) ∧ decide (byt b < 48 ∨ (57 : Int32) < byt b) = !decide (48 ≤ b ∧ b ≤ 57) := by decide +kernel
theorem byt_255 : ∀ a, a < 256 → byt a &&& 255 = nI a := by decide +kernel
theorem byt_eq (a : Nat) (ha : a < 256) (b : Nat) (hb : b < 256) (h : byt a = byt b) : a = b := by
  have e := byt_255 a ha
  rw [h, byt_255 b hb] at e
  exact ((nI_eq (by omega) (by omega)).mp e).symm
/-! the class -/
theorem gapC (Y : Mem) {b : Nat → Nat} {n : Nat} (h7 : n ≤ 700) (h5 : Y 5 0 0 1 = nI n) (hb : ∀ j, j < n → b j < 256 ∧ Y 5 0 1 j = byt (b j)) : ∀ d p f0 fu, p + d = n → d < fu → f0 2 = nI p → ∃ f', X10_advance_b8 fu (upR Y 6 0 0 f0) = X10_advance_b53 (upR Y 6 0 0 f') ∧ f' 2 = nI (gapE b d p) ∧ ∀ x, x ≠ 2 → f' x = f0 x := by
  intro d
  induction d with
  | zero =>
    intro p f0 fu hp fu_h h2
    obtain ⟨fu, rfl⟩ := fuel_s fu_h
    refine ⟨f0, ?_, h2, fun _ _ => rfl⟩
    unfold X10_advance_b8
    rw [u6o _ _ (by omega), u6, h5, h2, if_pos (by rw [nI_leI (by omega) (by omega)]; omega)]
  | succ d ih =>
    intro p f0 fu hp fu_h h2
    obtain ⟨fu, rfl⟩ := fuel_s fu_h
    unfold X10_advance_b8
    obtain ⟨b1, b2⟩ := hb p (by omega)
    obtain ⟨-, -, c1, c2, -⟩ := byt_s _ b1
    rw [u6o _ _ (by omega), u6, h5, h2, if_neg (by rw [nI_leI (by omega) (by omega)]; omega), gd_t (inb_n (n := tcap 0) (by show p < 700; omega) (by decide)), ix_n (by omega), b2]
    unfold X10_isGap X10_isGap_b12
    unfold gapE
    by_cases e1 : b p = 32
    · have g1 : byt (b p) = 32 := of_decide_eq_true (by rw [c1, decide_eq_true e1])
      rw [if_pos g1, bd1_e, if_neg (by decide), up_upR, nI_1, lt_e, if_pos (Or.inl e1)]
      obtain ⟨f', q1, q2, q3⟩ := ih (p + 1) (upd f0 2 (nI (p + 1))) fu (by omega) (by omega) pk_us
      exact ⟨f', q1, q2, fun x hx => by rw [q3 x hx, pk_un hx]⟩
    · have g1 : ¬ byt (b p) = 32 := of_decide_eq_false (by rw [c1, decide_eq_false e1])
      rw [if_neg g1]
      by_cases e2 : b p = 10
      · have g2 : byt (b p) = 10 := of_decide_eq_true (by rw [c2, decide_eq_true e2])
        rw [if_pos g2, bd1_e, if_neg (by decide), up_upR, nI_1, lt_e, if_pos (Or.inr e2)]
        obtain ⟨f', q1, q2, q3⟩ := ih (p + 1) (upd f0 2 (nI (p + 1))) fu (by omega) (by omega) pk_us
        exact ⟨f', q1, q2, fun x hx => by rw [q3 x hx, pk_un hx]⟩
      · have g2 : ¬ byt (b p) = 10 := of_decide_eq_false (by rw [c2, decide_eq_false e2])
        rw [if_neg g2, bd1_e, if_pos rfl, if_neg (by omega)]
        exact ⟨f0, rfl, h2, fun _ _ => rfl⟩
theorem runC (Y : Mem) {b : Nat → Nat} {n lo hi : Nat} (h7 : n ≤ 700) (h5 : Y 5 0 0 1 = nI n) (hb : ∀ j, j < n → b j < 256 ∧ Y 5 0 1 j = byt (b j)) (hc : ∀ v, v < 256 → decide (byt v < nI lo ∨ nI hi < byt v) = !decide (lo ≤ v ∧ v ≤ hi)) : ∀ d p f0 fu, p + d = n → d < fu → f0 3 = nI p → ∃ f', X10_passRun_b0 (nI lo) (nI hi) fu (upR Y 6 0 0 f0) = some (upR Y 6 0 0 f') ∧ f' 3 = nI (runE b lo hi d p) ∧ ∀ x, x ≠ 3 → f' x = f0 x := by
  intro d
  induction d with
  | zero =>
    intro p f0 fu hp fu_h h2
    obtain ⟨fu, rfl⟩ := fuel_s fu_h
    refine ⟨f0, ?_, h2, fun _ _ => rfl⟩
    unfold X10_passRun_b0
    rw [u6o _ _ (by omega), u6, h5, h2, if_pos (by rw [nI_leI (by omega) (by omega)]; omega)]
  | succ d ih =>
    intro p f0 fu hp fu_h h2
    obtain ⟨fu, rfl⟩ := fuel_s fu_h
    unfold X10_passRun_b0
    obtain ⟨b1, b2⟩ := hb p (by omega)
    have c1 := hc _ b1
    rw [u6o _ _ (by omega), u6, h5, h2, if_neg (by rw [nI_leI (by omega) (by omega)]; omega), gd_t (inb_n (n := tcap 0) (by show p < 700; omega) (by decide)), ix_n (by omega), b2]
    unfold runE
    by_cases e1 : lo ≤ b p ∧ b p ≤ hi
    · rw [decide_eq_true e1, Bool.not_true] at c1
      have c2 := of_decide_eq_false c1
      rw [if_neg (fun q => c2 (Or.inl q)), if_neg (fun q => c2 (Or.inr q)), up_upR, nI_1, lt_e, if_pos e1]
      obtain ⟨f', q1, q2, q3⟩ := ih (p + 1) (upd f0 3 (nI (p + 1))) fu (by omega) (by omega) pk_us
      exact ⟨f', q1, q2, fun x hx => by rw [q3 x hx, pk_un hx]⟩
    · rw [decide_eq_false e1, Bool.not_false] at c1
      have c2 := of_decide_eq_true c1
      refine ⟨f0, ?_, by rw [if_neg e1]; exact h2, fun _ _ => rfl⟩
      by_cases q : byt (b p) < nI lo
      · rw [if_pos q]
      · rw [if_neg q, if_pos (c2.resolve_left q)]
/-! the model -/
theorem gapM (Z : Mem) {b : Nat → Nat} {n : Nat} (h7 : n ≤ 700) (hb : ∀ j, j < n → b j < 256 ∧ Z 10 0 3 j = nI (b j)) : ∀ d p f0 fu, p + d = n → d < fu → f0 14 = nI p → f0 4 = nI n → ∃ f', M12_token_b0 fu (upR Z 10 0 0 f0) = M12_token_b52 (upR Z 10 0 0 f') ∧ f' 14 = nI (gapE b d p) ∧ ∀ x, x ≠ 14 → f' x = f0 x := by
  intro d
  induction d with
  | zero =>
    intro p f0 fu hp fu_h h2 h4
    obtain ⟨fu, rfl⟩ := fuel_s fu_h
    refine ⟨f0, ?_, h2, fun _ _ => rfl⟩
    unfold M12_token_b0
    rw [u10, h4, h2, if_pos (by rw [nI_leI (by omega) (by omega)]; omega)]
  | succ d ih =>
    intro p f0 fu hp fu_h h2 h4
    obtain ⟨fu, rfl⟩ := fuel_s fu_h
    unfold M12_token_b0
    obtain ⟨b1, b2⟩ := hb p (by omega)
    rw [u10, h4, h2, if_neg (by rw [nI_leI (by omega) (by omega)]; omega), gdi (show p < 700 by omega), ix_n (by omega), u10o _ _ (by omega), b2]
    unfold M12_token_b39
    unfold gapE
    have key : ∃ f', M12_token_b0 fu (upR Z 10 0 0 (upd f0 14 (nI (p + 1)))) = M12_token_b52 (upR Z 10 0 0 f') ∧ f' 14 = nI (gapE b d (p + 1)) ∧ ∀ x, x ≠ 14 → f' x = f0 x := by
      obtain ⟨f', q1, q2, q3⟩ := ih (p + 1) (upd f0 14 (nI (p + 1))) fu (by omega) (by omega) pk_us (by rw [pk_un (by omega)]; exact h4)
      exact ⟨f', q1, q2, fun x hx => by rw [q3 x hx, pk_un hx]⟩
    by_cases e1 : b p = 32
    · rw [if_pos (show nI (b p) = 32 by rw [e1]; rfl), u10, h2, up_upR, nI_1, lt_e, if_pos (Or.inl e1)]
      exact key
    · rw [if_neg (show ¬ nI (b p) = 32 from by show ¬ nI (b p) = nI 32; rw [nI_eq (by omega) (by omega)]; exact e1)]
      by_cases e2 : b p = 10
      · rw [if_pos (show nI (b p) = 10 by rw [e2]; rfl), u10, h2, up_upR, nI_1, lt_e, if_pos (Or.inr e2)]
        exact key
      · rw [if_neg (show ¬ nI (b p) = 10 from by show ¬ nI (b p) = nI 10; rw [nI_eq (by omega) (by omega)]; exact e2), if_neg (by omega)]
        exact ⟨f0, rfl, h2, fun _ _ => rfl⟩
theorem small_ok (Z : Mem) {v : Nat} (h : v < 256) : M12_isSmall Z (nI v) = some (bI (decide (97 ≤ v ∧ v ≤ 122))) := by
  unfold M12_isSmall
  by_cases e : v < 97
  · rw [if_pos (by exact (nI_ltI (b := 97) (by omega) (by omega)).mpr e), decide_eq_false (by omega)]; rfl
  · rw [if_neg (by exact fun q => e ((nI_ltI (b := 97) (by omega) (by omega)).mp q))]
    by_cases e2 : 122 < v
    · rw [if_pos (by exact (nI_ltI (a := 122) (by omega) (by omega)).mpr e2), decide_eq_false (by omega)]; rfl
    · rw [if_neg (by exact fun q => e2 ((nI_ltI (a := 122) (by omega) (by omega)).mp q)), decide_eq_true (by omega)]; rfl
theorem digit_ok (Z : Mem) {v : Nat} (h : v < 256) : M12_isDigit Z (nI v) = some (bI (decide (48 ≤ v ∧ v ≤ 57))) := by
  unfold M12_isDigit
  by_cases e : v < 48
  · rw [if_pos (by exact (nI_ltI (b := 48) (by omega) (by omega)).mpr e), decide_eq_false (by omega)]; rfl
  · rw [if_neg (by exact fun q => e ((nI_ltI (b := 48) (by omega) (by omega)).mp q))]
    by_cases e2 : 57 < v
    · rw [if_pos (by exact (nI_ltI (a := 57) (by omega) (by omega)).mpr e2), decide_eq_false (by omega)]; rfl
    · rw [if_neg (by exact fun q => e2 ((nI_ltI (a := 57) (by omega) (by omega)).mp q)), decide_eq_true (by omega)]; rfl
theorem letM (Z : Mem) {b : Nat → Nat} {n : Nat} (h7 : n ≤ 700) (hb : ∀ j, j < n → b j < 256 ∧ Z 10 0 3 j = nI (b j)) : ∀ d p f0 fu, p + d = n → d < fu → f0 14 = nI p → f0 4 = nI n → ∃ f', M12_token_b92 fu (upR Z 10 0 0 f0) = M12_token_b131 (upR Z 10 0 0 f') ∧ f' 14 = nI (runE b 97 122 d p) ∧ ∀ x, x ≠ 14 → f' x = f0 x := by
  intro d
  induction d with
  | zero =>
    intro p f0 fu hp fu_h h2 h4
    obtain ⟨fu, rfl⟩ := fuel_s fu_h
    refine ⟨f0, ?_, h2, fun _ _ => rfl⟩
    unfold M12_token_b92
    rw [u10, h4, h2, if_pos (by rw [nI_leI (by omega) (by omega)]; omega)]
  | succ d ih =>
    intro p f0 fu hp fu_h h2 h4
    obtain ⟨fu, rfl⟩ := fuel_s fu_h
    unfold M12_token_b92
    obtain ⟨b1, b2⟩ := hb p (by omega)
    rw [u10, h4, h2, if_neg (by rw [nI_leI (by omega) (by omega)]; omega), gdi (show p < 700 by omega), ix_n (by omega), u10o _ _ (by omega), b2, small_ok _ b1, bd1_e, bI_ne]
    unfold runE
    by_cases e : 97 ≤ b p ∧ b p ≤ 122
    · rw [decide_eq_true e, if_pos rfl, up_upR, nI_1, lt_e, if_pos e]
      obtain ⟨f', q1, q2, q3⟩ := ih (p + 1) (upd f0 14 (nI (p + 1))) fu (by omega) (by omega) pk_us (by rw [pk_un (by omega)]; exact h4)
      exact ⟨f', q1, q2, fun x hx => by rw [q3 x hx, pk_un hx]⟩
    · rw [decide_eq_false e, if_neg (by decide), if_neg e]
      exact ⟨f0, rfl, h2, fun _ _ => rfl⟩
theorem numV_s (b : Nat → Nat) (s i : Nat) : numV b s (i + 1) = numV b s i * 10 + b (s + i) - 48 := rfl
theorem num_step {b : Nat → Nat} {s i v : Nat} (hv : v < 1000) (h1 : 48 ≤ b (s + i) ∧ b (s + i) ≤ 57) (he : v = numV b s i) : nI v * 10 + nI (b (s + i)) - 48 = nI (numV b s (i + 1)) := by
  rw [numV_s, ← he]
  show nI v * nI 10 + nI (b (s + i)) - nI 48 = _
  rw [pk_mul, nI_add, pk_sub (by omega)]
theorem digM (Z : Mem) {b : Nat → Nat} {n s : Nat} (h7 : n ≤ 700) (hb : ∀ j, j < n → b j < 256 ∧ Z 10 0 3 j = nI (b j)) : ∀ d p f0 fu, p + d = n → d < fu → s ≤ p → (∀ j, s ≤ j → j < p → 48 ≤ b j ∧ b j ≤ 57) → f0 14 = nI p → f0 4 = nI n → f0 16 = nI s → f0 17 = nI (numV b s (min (p - s) 3)) → ∃ f', M12_token_b175 fu (upR Z 10 0 0 f0) = M12_token_b251 (upR Z 10 0 0 f') ∧ f' 14 = nI (runE b 48 57 d p) ∧ f' 17 = nI (numV b s (min (runE b 48 57 d p - s) 3)) ∧ ∀ x, x ≠ 14 → x ≠ 17 → f' x = f0 x := by
  intro d
  induction d with
  | zero =>
    intro p f0 fu hp fu_h hs hd h2 h4 h16 h17
    obtain ⟨fu, rfl⟩ := fuel_s fu_h
    refine ⟨f0, ?_, h2, h17, fun _ _ _ => rfl⟩
    unfold M12_token_b175
    rw [u10, h4, h2, if_pos (by rw [nI_leI (by omega) (by omega)]; omega)]
  | succ d ih =>
    intro p f0 fu hp fu_h hs hd h2 h4 h16 h17
    obtain ⟨fu, rfl⟩ := fuel_s fu_h
    unfold M12_token_b175
    obtain ⟨b1, b2⟩ := hb p (by omega)
    have h3 : (3 : Int32) ≤ nI (p - s) ↔ 3 ≤ p - s := nI_leI (a := 3) (by omega) (by omega)
    rw [u10, h4, h2, if_neg (by rw [nI_leI (by omega) (by omega)]; omega), gdi (show p < 700 by omega), ix_n (by omega), u10o _ _ (by omega), b2, digit_ok _ b1, bd1_e, bI_ne, h16, pk_sub hs, h17]
    unfold runE
    by_cases e : 48 ≤ b p ∧ b p ≤ 57
    · have hd' : ∀ j, s ≤ j → j < p + 1 → 48 ≤ b j ∧ b j ≤ 57 := fun j j1 j2 => by
        by_cases ej : j = p
        · subst ej; exact e
        · exact hd j j1 (by omega)
      rw [decide_eq_true e, if_pos rfl, if_pos e]
      unfold M12_token_b238
      by_cases q : 3 ≤ p - s
      · rw [if_pos (h3.mpr q), u10, h2, up_upR, nI_1, lt_e]
        obtain ⟨f', q1, q2, q3, q4⟩ := ih (p + 1) (upd f0 14 (nI (p + 1))) fu (by omega) (by omega) (by omega) hd' pk_us (by rw [pk_un (by omega)]; exact h4) (by rw [pk_un (by omega)]; exact h16) (by rw [pk_un (by omega), h17, show min (p - s) 3 = min (p + 1 - s) 3 by omega])
        exact ⟨f', q1, q2, q3, fun x hx hx2 => by rw [q4 x hx hx2, pk_un hx]⟩
      · have em : min (p - s) 3 = p - s := by omega
        have hlt := numV_lt (b := b) (s := s) (e := p) hd (p - s) (by omega) (by omega)
        have hp10 : 10 ^ (p - s) ≤ 1000 := Nat.le_trans (Nat.pow_le_pow_right (by omega) (show p - s ≤ 3 by omega)) (by decide)
        have hn := num_step (b := b) (s := s) (i := p - s) (v := numV b s (p - s)) (by omega) (by rw [show s + (p - s) = p by omega]; exact e) rfl
        rw [show s + (p - s) = p by omega] at hn
        rw [if_neg (fun w => q (h3.mp w)), em, hn, up_upR, lt_e, u10, pk_un (by omega), h2, up_upR, nI_1, lt_e]
        obtain ⟨f', q1, q2, q3, q4⟩ := ih (p + 1) (upd (upd f0 17 (nI (numV b s (p - s + 1)))) 14 (nI (p + 1))) fu (by omega) (by omega) (by omega) hd' pk_us (by rw [pk_un (by omega), pk_un (by omega)]; exact h4) (by rw [pk_un (by omega), pk_un (by omega)]; exact h16) (by rw [pk_un (by omega), pk_us, show min (p + 1 - s) 3 = p - s + 1 by omega])
        exact ⟨f', q1, q2, q3, fun x hx hx2 => by rw [q4 x hx hx2, pk_un hx, pk_un hx2]⟩
    · rw [decide_eq_false e, if_neg (by decide), if_neg e]
      exact ⟨f0, rfl, h2, h17, fun _ _ _ => rfl⟩
/-- both pass to the next token -/
theorem adv_ok {Y Z : Mem} {b : Nat → Nat} {n e : Nat} (hT : TT Y Z b n) (he : e ≤ n) (h3 : Y 6 0 0 3 = nI e) (h14 : Z 10 0 0 14 = nI e) : ∃ f' h' k' s' e', X10_advance Y = some (upR Y 6 0 0 f') ∧ (∀ x, x ≠ 1 → x ≠ 2 → x ≠ 3 → f' x = Y 6 0 0 x) ∧ M12_token Z = some (upR Z 10 0 0 h') ∧ (∀ x, x ≠ 14 → x ≠ 15 → x ≠ 16 → x ≠ 17 → h' x = Z 10 0 0 x) ∧ TK (upR Y 6 0 0 f') (upR Z 10 0 0 h') b n k' s' e' := by
  obtain ⟨h7, hb, h5, h4⟩ := id hT
  have hbc : ∀ j, j < n → b j < 256 ∧ Y 5 0 1 j = byt (b j) := fun j hj => ⟨(hb j hj).1, (hb j hj).2.2⟩
  have hbm : ∀ j, j < n → b j < 256 ∧ Z 10 0 3 j = nI (b j) := fun j hj => ⟨(hb j hj).1, (hb j hj).2.1⟩
  obtain ⟨d, hd⟩ : ∃ d, e + d = n := ⟨n - e, by omega⟩
  obtain ⟨g1, a1, a2, a3⟩ := gapC Y h7 h5 hbc d e (upd (Y 6 0 0) 2 (nI e)) FU hd (by have := FU_big; omega) pk_us
  obtain ⟨m1, c1, c2, c3⟩ := gapM Z h7 hbm d e (Z 10 0 0) FU hd (by have := FU_big; omega) h14 h4
  rw [upR_self] at c1
  have hr := gapE_rng b d e
  generalize hst : gapE b d e = st at a2 c2 hr
  have hC : X10_advance Y = X10_advance_b53 (upR Y 6 0 0 g1) := by
    unfold X10_advance
    rw [h3, up_eq, lt_e]
    exact a1
  have hM : M12_token Z = M12_token_b52 (upR Z 10 0 0 m1) := c1
  have hT' : ∀ f h, h 4 = nI n → TT (upR Y 6 0 0 f) (upR Z 10 0 0 h) b n := fun f h q => ⟨h7, fun j hj => by rw [u6o _ _ (by omega), u10o _ _ (by omega)]; exact hb j hj, by rw [u6o _ _ (by omega)]; exact h5, by rw [u10]; exact q⟩
  have m14 : m1 4 = nI n := by rw [c3 4 (by omega)]; exact h4
  have g0 : ∀ x, x ≠ 1 → x ≠ 2 → x ≠ 3 → g1 x = Y 6 0 0 x := fun x h1 h2 h3 => by rw [a3 x h2, pk_un h2]
  by_cases hend : st = n
  · refine ⟨upd (upd g1 3 (nI n)) 1 (nI 0), upd (upd m1 16 (nI n)) 15 (nI 0), 0, n, n, ?_, fun x h1 h2 h3 => by rw [pk_un h1, pk_un h3, g0 x h1 h2 h3], ?_, fun x h1 h2 h3 h4 => by rw [pk_un h2, pk_un h3, c3 x h1], hT' _ _ (by rw [pk_un (by omega), pk_un (by omega)]; exact m14), ⟨Nat.le_refl _, Nat.le_refl _, by omega, fun q => by omega, fun q => by omega⟩, ?_, ?_⟩
    · rw [hC]
      unfold X10_advance_b53
      rw [u6, a2, hend, up_upR, lt_e, u6, pk_un (by omega), a2, hend, u6o _ _ (by omega), h5, if_neg Int32.lt_irrefl, up_upR, lt_e]
      rfl
    · rw [hM]
      unfold M12_token_b52
      rw [u10, c2, hend, up_upR, lt_e, u10, pk_un (by omega), pk_un (by omega), c2, hend, m14, if_pos rfl, up_upR, lt_e]
      rfl
    · rw [u6]
      exact ⟨pk_us, by rw [pk_un (by omega), pk_un (by omega), a2, hend], by rw [pk_un (by omega), pk_us]⟩
    · rw [u10]
      exact ⟨pk_us, by rw [pk_un (by omega), pk_us], by rw [pk_un (by omega), pk_un (by omega), c2, hend], fun q => by omega⟩
  · have hlt : st < n := by omega
    obtain ⟨v1, v2, v3⟩ := hb st hlt
    obtain ⟨w1, w2, -, -, w5⟩ := byt_s _ v1
    have hC2 : X10_advance Y = X10_advance_b53 (upR Y 6 0 0 g1) := hC
    unfold X10_advance_b53 at hC2
    have d1 : nI st < nI n := (nI_ltI (by omega) (by omega)).mpr hlt
    rw [u6, a2, up_upR, lt_e, u6, pk_un (show (2 : Nat) ≠ 3 by omega), a2, u6o _ _ (show (5 : Nat) ≠ 6 by omega), h5, if_pos d1, gd_t (inb_n (n := tcap 0) (show st < 700 by omega) (by decide)), ix_n (by omega), v3, within_ok, w1, bd1_e, bI_ne] at hC2
    have hM2 := hM
    unfold M12_token_b52 at hM2
    rw [u10, c2, up_upR, lt_e, u10, pk_un (show (14 : Nat) ≠ 16 by omega), pk_un (show (4 : Nat) ≠ 16 by omega), c2, m14, if_neg (show ¬ nI st = nI n by rw [nI_eq (by omega) (by omega)]; exact hend), gdi (show st < 700 by omega), ix_n (by omega), u10o _ _ (show (3 : Nat) ≠ 0 by omega), v2, small_ok _ v1, bd1_e, bI_ne] at hM2
    obtain ⟨d', hd'⟩ : ∃ d', st + (d' + 1) = n := ⟨n - st - 1, by omega⟩
    by_cases hs : 97 ≤ b st ∧ b st ≤ 122
    · rw [decide_eq_true hs, if_pos rfl] at hC2 hM2
      obtain ⟨f2, p1, p2, p3⟩ := runC Y (lo := 97) (hi := 122) h7 h5 hbc (fun v hv => (byt_r v hv).1) (d' + 1) st (upd g1 3 (nI st)) FU hd' (by have := FU_big; omega) pk_us
      obtain ⟨h2, q1, q2, q3⟩ := letM Z h7 hbm (d' + 1) st (upd m1 16 (nI st)) FU hd' (by have := FU_big; omega) (by rw [pk_un (by omega)]; exact c2) (by rw [pk_un (by omega)]; exact m14)
      have hr2 := runE_rng b 97 122 (d' + 1) st
      have hr3 := runE_pos b (d := d') hs
      generalize runE b 97 122 (d' + 1) st = en at p2 q2 hr2 hr3
      have f22 : f2 2 = nI st := by rw [p3 2 (by omega), pk_un (by omega), a2]
      have h216 : h2 16 = nI st := by rw [q3 16 (by omega), pk_us]
      unfold X10_passRun at hC2
      rw [show X10_passRun_b0 97 122 FU (upR Y 6 0 0 (upd g1 3 (nI st))) = _ from p1, bd1_e, u6, p2, f22, pk_sub (by omega)] at hC2
      unfold X10_advance_b133 at hC2
      rw [q1] at hM2
      unfold M12_token_b131 at hM2
      rw [u10, q2, h216, pk_sub (by omega)] at hM2
      unfold M12_token_b151 at hM2
      have l8 : (8 : Int32) < nI (en - st) ↔ 8 < en - st := nI_ltI (a := 8) (by omega) (by omega)
      have l8' : nI (en - st) ≤ 8 ↔ en - st ≤ 8 := nI_leI (b := 8) (by omega) (by omega)
      have fin : ∀ k, k ≤ 4 → (k = 1 → en ≤ st + 8) → k ≠ 2 → TK (upR Y 6 0 0 (upd f2 1 (nI k))) (upR Z 10 0 0 (upd h2 15 (nI k))) b n k st en := fun k hk h8 hk2 => by
        refine ⟨hT' _ _ (by rw [pk_un (by omega), q3 4 (by omega), pk_un (by omega)]; exact m14), ⟨by omega, by omega, hk, fun e1 => ⟨hr3, h8 e1, hr2.2.2⟩, fun e2 => absurd e2 hk2⟩, ?_, ?_⟩
        · rw [u6]
          exact ⟨pk_us, by rw [pk_un (by omega)]; exact f22, by rw [pk_un (by omega)]; exact p2⟩
        · rw [u10]
          exact ⟨pk_us, by rw [pk_un (by omega)]; exact h216, by rw [pk_un (by omega)]; exact q2, fun e2 => absurd e2 hk2⟩
      have xf : ∀ k : Int32, ∀ x, x ≠ 1 → x ≠ 2 → x ≠ 3 → (upd f2 1 k) x = Y 6 0 0 x := fun k x h1 h2 h3 => by rw [pk_un h1, p3 x h3, pk_un h3, g0 x h1 h2 h3]
      have xh : ∀ k : Int32, ∀ x, x ≠ 14 → x ≠ 15 → x ≠ 16 → x ≠ 17 → (upd h2 15 k) x = Z 10 0 0 x := fun k x h1 h2 h3 h4 => by rw [pk_un h2, q3 x h1, pk_un h3, c3 x h1]
      by_cases h8 : 8 < en - st
      · rw [if_pos (l8.mpr h8), up_upR, lt_e] at hC2
        rw [if_neg (fun w => by have := l8'.mp w; omega), up_upR, lt_e] at hM2
        exact ⟨_, _, 4, st, en, hC2, xf _, hM2, xh _, fin 4 (by omega) (by omega) (by omega)⟩
      · rw [if_neg (fun w => h8 (l8.mp w)), up_upR, lt_e] at hC2
        rw [if_pos (l8'.mpr (by omega)), up_upR, lt_e] at hM2
        exact ⟨_, _, 1, st, en, hC2, xf _, hM2, xh _, fin 1 (by omega) (by omega) (by omega)⟩
    · rw [decide_eq_false hs, if_neg (by decide), within_ok, w2, bd1_e, bI_ne] at hC2
      rw [decide_eq_false hs, if_neg (by decide), digit_ok _ v1, bd1_e, bI_ne] at hM2
      by_cases hg : 48 ≤ b st ∧ b st ≤ 57
      · rw [decide_eq_true hg, if_pos rfl] at hC2 hM2
        rw [up_upR, lt_e] at hM2
        obtain ⟨f2, p1, p2, p3⟩ := runC Y (lo := 48) (hi := 57) h7 h5 hbc (fun v hv => (byt_r v hv).2) (d' + 1) st (upd g1 3 (nI st)) FU hd' (by have := FU_big; omega) pk_us
        obtain ⟨h2, q1, q2, q2', q3⟩ := digM Z (s := st) h7 hbm (d' + 1) st (upd (upd m1 16 (nI st)) 17 0) FU hd' (by have := FU_big; omega) (Nat.le_refl _) (fun j j1 j2 => by omega) (by rw [pk_un (by omega), pk_un (by omega)]; exact c2) (by rw [pk_un (by omega), pk_un (by omega)]; exact m14) (by rw [pk_un (by omega), pk_us]) (by rw [pk_us, show min (st - st) 3 = 0 by omega]; rfl)
        have hr2 := runE_rng b 48 57 (d' + 1) st
        have hr3 := runE_pos b (d := d') hg
        generalize runE b 48 57 (d' + 1) st = en at p2 q2 q2' hr2 hr3
        have f22 : f2 2 = nI st := by rw [p3 2 (by omega), pk_un (by omega), a2]
        have h216 : h2 16 = nI st := by rw [q3 16 (by omega) (by omega), pk_un (by omega), pk_us]
        unfold X10_passRun at hC2
        rw [show X10_passRun_b0 48 57 FU (upR Y 6 0 0 (upd g1 3 (nI st))) = _ from p1, bd1_e, u6, p2, f22, pk_sub (by omega)] at hC2
        unfold X10_advance_b188 at hC2
        rw [q1] at hM2
        unfold M12_token_b251 at hM2
        rw [u10, q2, h216, pk_sub (by omega)] at hM2
        unfold M12_token_b270 at hM2
        have l8 : (3 : Int32) < nI (en - st) ↔ 3 < en - st := nI_ltI (a := 3) (by omega) (by omega)
        have l8' : nI (en - st) ≤ 3 ↔ en - st ≤ 3 := nI_leI (b := 3) (by omega) (by omega)
        have fin : ∀ k, k ≤ 4 → (k = 2 → en ≤ st + 3) → k ≠ 1 → TK (upR Y 6 0 0 (upd f2 1 (nI k))) (upR Z 10 0 0 (upd h2 15 (nI k))) b n k st en := fun k hk h8 hk2 => by
          refine ⟨hT' _ _ (by rw [pk_un (by omega), q3 4 (by omega) (by omega), pk_un (by omega), pk_un (by omega)]; exact m14), ⟨by omega, by omega, hk, fun e2 => absurd e2 hk2, fun e1 => ⟨hr3, h8 e1, hr2.2.2⟩⟩, ?_, ?_⟩
          · rw [u6]
            exact ⟨pk_us, by rw [pk_un (by omega)]; exact f22, by rw [pk_un (by omega)]; exact p2⟩
          · rw [u10]
            refine ⟨pk_us, by rw [pk_un (by omega)]; exact h216, by rw [pk_un (by omega)]; exact q2, fun e2 => ?_⟩
            rw [pk_un (by omega), q2', show min (en - st) 3 = en - st by have := h8 e2; omega]
        have xf : ∀ k : Int32, ∀ x, x ≠ 1 → x ≠ 2 → x ≠ 3 → (upd f2 1 k) x = Y 6 0 0 x := fun k x h1 h2 h3 => by rw [pk_un h1, p3 x h3, pk_un h3, g0 x h1 h2 h3]
        have xh : ∀ k : Int32, ∀ x, x ≠ 14 → x ≠ 15 → x ≠ 16 → x ≠ 17 → (upd h2 15 k) x = Z 10 0 0 x := fun k x h1 h2 h3 h4 => by rw [pk_un h2, q3 x h1 h4, pk_un h4, pk_un h3, c3 x h1]
        by_cases h8 : 3 < en - st
        · rw [if_pos (l8.mpr h8), up_upR, lt_e] at hC2
          rw [if_neg (fun w => by have := l8'.mp w; omega), up_upR, lt_e] at hM2
          exact ⟨_, _, 4, st, en, hC2, xf _, hM2, xh _, fin 4 (by omega) (by omega) (by omega)⟩
        · rw [if_neg (fun w => h8 (l8.mp w)), up_upR, lt_e] at hC2
          rw [if_pos (l8'.mpr (by omega)), up_upR, lt_e] at hM2
          exact ⟨_, _, 2, st, en, hC2, xf _, hM2, xh _, fin 2 (by omega) (by omega) (by omega)⟩
      · rw [decide_eq_false hg, if_neg (by decide)] at hC2 hM2
        unfold X10_advance_b217 at hC2
        unfold M12_token_b294 at hM2
        have hC3 : ∀ k : Int32, (lt_ (up (upR Y 6 0 0 (upd g1 3 (nI st))) 6 0 0 1 k) fun Y15 => lt_ (up Y15 6 0 0 3 (Y15 6 0 0 2 + 1)) fun Y17 => some Y17) = some (upR Y 6 0 0 (upd (upd (upd g1 3 (nI st)) 1 k) 3 (nI (st + 1)))) := fun k => by
          rw [up_upR, lt_e, u6, pk_un (show (2 : Nat) ≠ 1 by omega), pk_un (show (2 : Nat) ≠ 3 by omega), a2, nI_1, up_upR, lt_e]
        have hM3 : ∀ k : Int32, (lt_ (up (upR Z 10 0 0 (upd m1 16 (nI st))) 10 0 0 15 k) fun Y13 => lt_ (up Y13 10 0 0 14 (Y13 10 0 0 14 + 1)) fun Y15 => some Y15) = some (upR Z 10 0 0 (upd (upd (upd m1 16 (nI st)) 15 k) 14 (nI (st + 1)))) := fun k => by
          rw [up_upR, lt_e, u10, pk_un (show (14 : Nat) ≠ 15 by omega), pk_un (show (14 : Nat) ≠ 16 by omega), c2, nI_1, up_upR, lt_e]
        have fin : ∀ k, k ≤ 4 → k ≠ 1 → k ≠ 2 → TK (upR Y 6 0 0 (upd (upd (upd g1 3 (nI st)) 1 (nI k)) 3 (nI (st + 1)))) (upR Z 10 0 0 (upd (upd (upd m1 16 (nI st)) 15 (nI k)) 14 (nI (st + 1)))) b n k st (st + 1) := fun k hk h1 h2 => by
          refine ⟨hT' _ _ (by rw [pk_un (by omega), pk_un (by omega), pk_un (by omega)]; exact m14), ⟨by omega, by omega, hk, fun e => absurd e h1, fun e => absurd e h2⟩, ?_, ?_⟩
          · rw [u6]
            exact ⟨by rw [pk_un (by omega), pk_us], by rw [pk_un (by omega), pk_un (by omega), pk_un (by omega)]; exact a2, pk_us⟩
          · rw [u10]
            exact ⟨by rw [pk_un (by omega), pk_us], by rw [pk_un (by omega), pk_un (by omega), pk_us], pk_us, fun e => absurd e h2⟩
        have xf : ∀ k : Int32, ∀ x, x ≠ 1 → x ≠ 2 → x ≠ 3 → (upd (upd (upd g1 3 (nI st)) 1 k) 3 (nI (st + 1))) x = Y 6 0 0 x := fun k x h1 h2 h3 => by rw [pk_un h3, pk_un h1, pk_un h3, g0 x h1 h2 h3]
        have xh : ∀ k : Int32, ∀ x, x ≠ 14 → x ≠ 15 → x ≠ 16 → x ≠ 17 → (upd (upd (upd m1 16 (nI st)) 15 k) 14 (nI (st + 1))) x = Z 10 0 0 x := fun k x h1 h2 h3 h4 => by rw [pk_un h1, pk_un h2, pk_un h3, c3 x h1]
        by_cases hsc : b st = 59
        · have g59 : byt (b st) = 59 := of_decide_eq_true (by rw [w5, decide_eq_true hsc])
          rw [if_pos g59, hC3] at hC2
          rw [if_pos (show nI (b st) = 59 by rw [hsc]; rfl), hM3] at hM2
          exact ⟨_, _, 3, st, st + 1, hC2, xf _, hM2, xh _, fin 3 (by omega) (by omega) (by omega)⟩
        · have g59 : ¬ byt (b st) = 59 := of_decide_eq_false (by rw [w5, decide_eq_false hsc])
          rw [if_neg g59, hC3] at hC2
          rw [if_neg (show ¬ nI (b st) = 59 from by show ¬ nI (b st) = nI 59; rw [nI_eq (by omega) (by omega)]; exact hsc), hM3] at hM2
          exact ⟨_, _, 4, st, st + 1, hC2, xf _, hM2, xh _, fin 4 (by omega) (by omega) (by omega)⟩
end
