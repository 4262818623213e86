/-! A STATE AND A BLOCK -/
def StS (σ : Nat → Nat → Int32) (m : Nat → Int32) : Prop := σ 0 0 = m 0 ∧ σ 0 1 = m 4 ∧ σ 0 2 = m 5 ∧ σ 0 4 = m 11 ∧ σ 0 5 = m 6
def StB (σ : Nat → Nat → Int32) (m : Nat → Int32) : Prop := ∀ k, k < 32 → bt (σ 0 6) k = stB m 1 k ∧ bt (σ 0 7) k = stB m 2 k ∧ bt (σ 0 8) k = stB m 3 k
def StA (σ : Nat → Nat → Int32) (m : Nat → Int32) : Prop := ∀ s, s < nS m → σ 1 s = fld m s 7 ∧ σ 2 s = fld m s 18 ∧ σ 3 s = fld m s 19 ∧ σ 4 s = fld m s 20 ∧ σ 6 s = fld m s 22
def StC (σ : Nat → Nat → Int32) (m : Nat → Int32) (B : Nat → Nat) : Prop := ∀ s, s < nS m → ∃ c, σ 5 s = nI c ∧ c ≤ B s ∧ fld m s 21 = (if c = 0 then 0 else 1)
def StT (σ : Nat → Nat → Int32) (m : Nat → Int32) : Prop := sm 0 (σ 4) (nS m) = m 7 ∧ sm 0 (σ 5) (nS m) = m 8 ∧ sm 0 (σ 6) (nS m) = m 9
def MI (m : Nat → Int32) : Prop := ∀ s, s < nS m → (fld m s 17 = 1 → ∃ r, fld m s 18 = nI r ∧ 1 ≤ r ∧ r ≤ 60) ∧ (¬ fld m s 17 = 2 → fld m s 19 = 0) ∧ (∃ d, fld m s 7 = nI d ∧ 1 ≤ d ∧ d ≤ 60)
theorem sm_congr {a : Int32} {f h : Nat → Int32} : ∀ {n : Nat}, (∀ i, i < n → f i = h i) → sm a f n = sm a h n := by
  intro n
  induction n with
  | zero => intro _; rfl
  | succ n ih => intro q; unfold sm; rw [ih (fun i hi => q i (by omega)), q n (by omega)]
theorem sm_inc (a : Int32) (f : Nat → Int32) {s : Nat} (v : Int32) : ∀ {n : Nat}, s < n → sm a (upd f s (f s + v)) n = sm a f n + v := by
  intro n
  induction n with
  | zero => intro h; omega
  | succ n ih =>
    intro h
    unfold sm
    by_cases e : s = n
    · subst e
      rw [pk_us, sm_congr (f := upd f s (f s + v)) (h := f) (fun i hi => pk_un (by omega)), Int32.add_assoc]
    · rw [ih (by omega), pk_un (by omega : n ≠ s), Int32.add_assoc, Int32.add_assoc, Int32.add_comm v]
theorem lo_upd (m : Nat → Int32) {s w x : Nat} (v : Int32) (hx : x < 46) : upd m (46 + s * 24 + w) v x = m x := pk_un (by omega)
theorem mW1_fld (m : Nat → Int32) {s k w : Nat} (hw : w < 24) : fld (mW1 m s) k w = if k = s ∧ w = 23 then 0 else if k = s ∧ w = 18 then fld m s 18 - 1 else fld m k w := by
  unfold mW1
  by_cases h1 : k = s ∧ w = 23
  · obtain ⟨rfl, rfl⟩ := h1
    rw [if_pos ⟨rfl, rfl⟩]
    simp (disch := omega) only [fld_upd_same, fld_upd_o, fld_upd_lo]
  · rw [if_neg h1]
    by_cases h2 : k = s ∧ w = 18
    · obtain ⟨rfl, rfl⟩ := h2
      rw [if_pos ⟨rfl, rfl⟩]
      simp (disch := omega) only [fld_upd_same, fld_upd_o, fld_upd_lo]
    · rw [if_neg h2]
      simp (disch := omega) only [fld_upd_same, fld_upd_o, fld_upd_lo]
theorem mW1_lo (m : Nat → Int32) {s x : Nat} (hx : x < 46) : mW1 m s x = if x = 10 then m 10 + (1 - fld m s 11) else m x := by
  unfold mW1
  by_cases h : x = 10
  · subst h
    rw [if_pos rfl]
    simp (disch := omega) only [lo_upd, pk_us, fld_upd_o]
  · rw [if_neg h]
    simp (disch := omega) only [lo_upd, pk_un]
theorem mW2_fld (m : Nat → Int32) {s k w : Nat} (hw : w < 24) : fld (mW2 m s) k w = if k = s ∧ w = 17 then 2 else if k = s ∧ w = 19 then 0 else if k = s ∧ (w = 21 ∨ w = 23) then 1 else fld m k w := by
  unfold mW2
  by_cases h1 : k = s ∧ w = 17
  · obtain ⟨rfl, rfl⟩ := h1
    rw [if_pos ⟨rfl, rfl⟩]
    simp (disch := omega) only [fld_upd_same, fld_upd_o, fld_upd_lo]
  · rw [if_neg h1]
    by_cases h2 : k = s ∧ w = 19
    · obtain ⟨rfl, rfl⟩ := h2
      rw [if_pos ⟨rfl, rfl⟩]
      simp (disch := omega) only [fld_upd_same, fld_upd_o, fld_upd_lo]
    · rw [if_neg h2]
      by_cases h3 : k = s ∧ (w = 21 ∨ w = 23)
      · rw [if_pos h3]
        obtain ⟨rfl, h3⟩ := h3
        rcases h3 with rfl | rfl <;> simp (disch := omega) only [fld_upd_same, fld_upd_o, fld_upd_lo]
      · rw [if_neg h3]
        simp (disch := omega) only [fld_upd_same, fld_upd_o, fld_upd_lo]
theorem mW2_lo (m : Nat → Int32) {s x : Nat} (hx : x < 46) : mW2 m s x = if x = 8 then m 8 + 1 else m x := by
  unfold mW2
  by_cases h : x = 8
  · subst h
    rw [if_pos rfl]
    simp (disch := omega) only [lo_upd, pk_us]
  · rw [if_neg h]
    simp (disch := omega) only [lo_upd, pk_un]
theorem fr_fld (m : Nat → Int32) (v : Int32) {s k w : Nat} (hw : w < 24) : fld (upd m (46 + s * 24 + 23) v) k w = if k = s ∧ w = 23 then v else fld m k w := by
  by_cases h1 : k = s ∧ w = 23
  · obtain ⟨rfl, rfl⟩ := h1
    rw [if_pos ⟨rfl, rfl⟩, fld_upd_same]
  · rw [if_neg h1]
    simp (disch := omega) only [fld_upd_o]
theorem re_up {m : Nat → Int32} {s w : Nat} (v : Int32) (h : w = 7 ∨ (17 ≤ w ∧ w < 24)) : RecEq m (upd m (46 + s * 24 + w) v) := re_upd (re_refl m) (recW_st h)
theorem mW1_re (m : Nat → Int32) (s : Nat) : RecEq m (mW1 m s) := by
  unfold mW1
  exact re_upd (re_upd (re_upd (re_refl m) (recW_st (by omega))) (by decide)) (recW_st (by omega))
theorem mW2_re (m : Nat → Int32) (s : Nat) : RecEq m (mW2 m s) := by
  unfold mW2
  exact re_upd (re_upd (re_upd (re_upd (re_upd (re_refl m) (recW_st (by omega))) (recW_st (by omega))) (recW_st (by omega))) (recW_st (by omega))) (by decide)
theorem mWork_re (m : Nat → Int32) (s : Nat) : RecEq m (mWork m s) := by
  unfold mWork
  split
  · split
    · exact re_trans (mW1_re m s) (mW2_re _ s)
    · exact mW1_re m s
  · exact re_up _ (by omega)
def mWorks (m : Nat → Int32) : Nat → Nat → (Nat → Int32)
  | _, 0 => m
  | i, d + 1 => mWorks (mWork m i) (i + 1) d
theorem mWorks_re : ∀ (d i : Nat) (m : Nat → Int32), RecEq m (mWorks m i d) := by
  intro d
  induction d with
  | zero => intro i m; exact re_refl m
  | succ d ih => intro i m; exact re_trans (mWork_re m i) (ih (i + 1) (mWork m i))
