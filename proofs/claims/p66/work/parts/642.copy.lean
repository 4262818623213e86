/-! COPIES: a block onto a block, a State onto a State -/
def cpN (m : Nat → Int32) (a b k : Nat) : Nat → Int32 := fun x => if b * 382 ≤ x ∧ x < b * 382 + k then m (a * 382 + (x - b * 382)) else m x
def cpB (m : Nat → Int32) (a b : Nat) : Nat → Int32 := cpN m a b 382
theorem cpN_s (m : Nat → Int32) {a b k : Nat} (hab : a ≠ b) (hk : k < 382) : upd (cpN m a b k) (b * 382 + k) (cpN m a b k (a * 382 + k)) = cpN m a b (k + 1) := by
  have h0 : ¬ (b * 382 ≤ a * 382 + k ∧ a * 382 + k < b * 382 + k) := by
    rcases Nat.lt_or_gt_of_ne hab with h | h <;> omega
  have h1 : cpN m a b k (a * 382 + k) = m (a * 382 + k) := if_neg h0
  rw [h1]
  funext x
  by_cases e : x = b * 382 + k
  · subst e
    rw [pk_us]
    unfold cpN
    rw [if_pos (by omega)]
    congr 1
    omega
  · rw [pk_un e]
    unfold cpN
    by_cases c : b * 382 ≤ x ∧ x < b * 382 + k
    · rw [if_pos c, if_pos (by omega)]
    · rw [if_neg c, if_neg (by omega)]
theorem copy_b (Y : Mem) {m : Nat → Int32} {a b : Nat} (ha : a < 11) (hb : b < 11) (hab : a ≠ b) : ∀ k, k ≤ 382 → ∀ f, 382 - k < f → M12_copyBlock_b2 (nI a) (nI b) f (upR Y 10 0 1 (cpN m a b k)) (nI k) = some (upR Y 10 0 1 (cpB m a b)) := by
  refine upl ?_ ?_
  · intro f f_h
    obtain ⟨f, rfl⟩ := fuel_s f_h
    unfold M12_copyBlock_b2
    rw [if_pos (by decide)]
    rfl
  · intro k hk ih f f_h
    obtain ⟨f, rfl⟩ := fuel_s f_h
    unfold M12_copyBlock_b2
    simp (disch := omega) only [litI, pk_mul, nI_add, gdi, ix_n, lt_e, upR_at, up_upR]
    rw [if_neg (by rw [nI_leI (by omega) (by omega)]; omega), cpN_s m hab hk]
    exact ih f (by omega)
theorem copy_ok (Y : Mem) {a b : Nat} (ha : a < 11) (hb : b < 11) (hab : a ≠ b) : M12_copyBlock Y (nI a) (nI b) = some (upR Y 10 0 1 (cpB (Y 10 0 1) a b)) := by
  unfold M12_copyBlock
  have h := copy_b Y (m := Y 10 0 1) ha hb hab 0 (Nat.zero_le _) FU (by have := FU_big; omega)
  have e : cpN (Y 10 0 1) a b 0 = Y 10 0 1 := by
    funext x
    unfold cpN
    rw [if_neg (by omega)]
  rw [e, upR_self] at h
  exact h
theorem cpB_in (m : Nat → Int32) {a b w : Nat} (hw : w < 382) : cpB m a b (b * 382 + w) = m (a * 382 + w) := by
  unfold cpB cpN
  rw [if_pos (by omega)]
  congr 1
  omega
theorem cpB_out (m : Nat → Int32) {a b x : Nat} (h : x < b * 382 ∨ b * 382 + 382 ≤ x) : cpB m a b x = m x := by
  unfold cpB cpN
  rw [if_neg (by omega)]
def uf (σ : Nat → Nat → Int32) (o : Nat) (f : Nat → Int32) : Nat → Nat → Int32 := fun o' => if o' = o then f else σ o'
theorem upR_wS (Y : Mem) (g : Nat) (σ : Nat → Nat → Int32) (o : Nat) (f : Nat → Int32) : upR (wS Y g σ) 2 g o f = wS Y g (uf σ o f) := by
  funext k' g' o'
  unfold upR wS uf
  by_cases e : k' = 2 ∧ g' = g
  · obtain ⟨rfl, rfl⟩ := e
    by_cases e2 : o' = o
    · rw [if_pos ⟨rfl, rfl, e2⟩, if_pos ⟨rfl, rfl⟩, if_pos e2]
    · rw [if_neg (fun q => e2 q.2.2), if_pos ⟨rfl, rfl⟩, if_neg e2, if_pos ⟨rfl, rfl⟩]
  · rw [if_neg (fun q => e ⟨q.1, q.2.1⟩), if_neg e, if_neg e]
theorem uf_s (σ : Nat → Nat → Int32) (o : Nat) (f : Nat → Int32) : uf σ o f o = f := if_pos rfl
theorem uf_o {σ : Nat → Nat → Int32} {o o' : Nat} {f : Nat → Int32} (h : o' ≠ o) : uf σ o f o' = σ o' := if_neg h
def sCopy (σ τ : Nat → Nat → Int32) : Nat → Nat → Int32 :=
  let a := uo (uo (uo (uo (uo (uo (uo (uo (uo σ 0 0 (τ 0 0)) 0 1 (τ 0 1)) 0 2 (τ 0 2)) 0 3 (τ 0 3)) 0 4 (τ 0 4)) 0 5 (τ 0 5)) 0 6 (τ 0 6)) 0 7 (τ 0 7)) 0 8 (τ 0 8)
  uf (uf (uf (uf (uf (uf a 1 (va_cpy (τ 1) (σ 1) 0 0 14)) 2 (va_cpy (τ 2) (σ 2) 0 0 14)) 3 (va_cpy (τ 3) (σ 3) 0 0 14)) 4 (va_cpy (τ 4) (σ 4) 0 0 14)) 5 (va_cpy (τ 5) (σ 5) 0 0 14)) 6 (va_cpy (τ 6) (σ 6) 0 0 14)
theorem copyFrom_ok (Y : Mem) {g h : Nat} (σ : Nat → Nat → Int32) (hgh : h ≠ g) (h5 : Y 2 h 0 5 = 0 ∨ Y 2 h 0 5 = 1) : X8_copyFrom (wS Y g σ) g h = some (wS Y g (sCopy σ (Y 2 h))) := by
  unfold X8_copyFrom
  have e : ∀ τ o, (wS Y g τ) 2 h o = Y 2 h o := fun τ o => wS_o (fun q => hgh q.2)
  simp (disch := omega) only [lt_e, e, up_wS, upR_wS, wS_at, uf_o, uo_f]
  rw [gd_t (decide_eq_true h5)]
  rfl
theorem va_cpy_in (f h : Nat → Int32) {j : Nat} (hj : j < 14) : va_cpy f h 0 0 14 j = f j := by
  rw [pk_cpy_in (Nat.zero_le _) (by omega)]
  congr 1
  omega
theorem sCopy_0 (σ τ : Nat → Nat → Int32) {x : Nat} (hx : x ≤ 8) : sCopy σ τ 0 x = τ 0 x := by
  unfold sCopy
  rw [uf_o (by omega), uf_o (by omega), uf_o (by omega), uf_o (by omega), uf_o (by omega), uf_o (by omega)]
  rcases (show x = 0 ∨ x = 1 ∨ x = 2 ∨ x = 3 ∨ x = 4 ∨ x = 5 ∨ x = 6 ∨ x = 7 ∨ x = 8 by omega) with h | h | h | h | h | h | h | h | h <;> subst h <;> simp (disch := omega) only [uo_s, uo_o]
theorem sCopy_o (σ τ : Nat → Nat → Int32) {o j : Nat} (h1 : 1 ≤ o) (h6 : o ≤ 6) (hj : j < 14) : sCopy σ τ o j = τ o j := by
  unfold sCopy
  rcases (show o = 1 ∨ o = 2 ∨ o = 3 ∨ o = 4 ∨ o = 5 ∨ o = 6 by omega) with h | h | h | h | h | h <;> subst h <;> simp (disch := omega) only [uf_s, uf_o, va_cpy_in]
theorem St_agree {σ τ : Nat → Nat → Int32} {m : Nat → Int32} {B : Nat → Nat} (h14 : nS m ≤ 14) (h0 : ∀ x, x ≤ 8 → σ 0 x = τ 0 x) (ho : ∀ o, 1 ≤ o → o ≤ 6 → ∀ j, j < 14 → σ o j = τ o j) (h : St7 τ m B) : St7 σ m B := by
  obtain ⟨⟨a1, a2, a3, a4, a5⟩, hB, hA, hC, ⟨t1, t2, t3⟩, hMI, hS4⟩ := h
  refine ⟨⟨(h0 0 (by omega)).trans a1, (h0 1 (by omega)).trans a2, (h0 2 (by omega)).trans a3, (h0 4 (by omega)).trans a4, (h0 5 (by omega)).trans a5⟩, ?_, ?_, ?_, ⟨?_, ?_, ?_⟩, hMI, hS4⟩
  · intro k hk
    rw [h0 6 (by omega), h0 7 (by omega), h0 8 (by omega)]; exact hB k hk
  · intro s hs
    rw [ho 1 (by omega) (by omega) s (by omega), ho 2 (by omega) (by omega) s (by omega), ho 3 (by omega) (by omega) s (by omega), ho 4 (by omega) (by omega) s (by omega), ho 6 (by omega) (by omega) s (by omega)]
    exact hA s hs
  · intro s hs
    rw [ho 5 (by omega) (by omega) s (by omega)]; exact hC s hs
  · rw [← t1]; exact sm_congr fun i hi => ho 4 (by omega) (by omega) i (by omega)
  · rw [← t2]; exact sm_congr fun i hi => ho 5 (by omega) (by omega) i (by omega)
  · rw [← t3]; exact sm_congr fun i hi => ho 6 (by omega) (by omega) i (by omega)
theorem St_copy {σ τ : Nat → Nat → Int32} {m : Nat → Int32} {B : Nat → Nat} (h14 : nS m ≤ 14) (h : St7 τ m B) : St7 (sCopy σ τ) m B := St_agree h14 (fun _ hx => sCopy_0 σ τ hx) (fun _ h1 h6 _ hj => sCopy_o σ τ h1 h6 hj) h
