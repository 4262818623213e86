/-! RECIPE WORDS, STATE WORDS of a block -/
def recW (w : Nat) : Bool := w == 1 || w == 2 || w == 3 || w == 12 || w == 13 || (decide (14 ≤ w) && decide (w < 46)) || (decide (46 ≤ w) && !((w - 46) % 24 == 7) && decide ((w - 46) % 24 < 17))
def RecEq (m m' : Nat → Int32) : Prop := ∀ w, w < 382 → recW w = true → m' w = m w
theorem re_refl (m : Nat → Int32) : RecEq m m := fun _ _ _ => rfl
theorem re_trans {a b c : Nat → Int32} (h1 : RecEq a b) (h2 : RecEq b c) : RecEq a c := fun w h r => (h2 w h r).trans (h1 w h r)
theorem re_symm {a b : Nat → Int32} (h : RecEq a b) : RecEq b a := fun w hw r => (h w hw r).symm
theorem re_upd {m m' : Nat → Int32} {w : Nat} {v : Int32} (h : RecEq m m') (hw : recW w = false) : RecEq m (upd m' w v) := by
  intro x hx hr
  have : x ≠ w := by rintro rfl; rw [hw] at hr; cases hr
  rw [pk_un this]
  exact h x hx hr
theorem recW_st {s w : Nat} (h : w = 7 ∨ (17 ≤ w ∧ w < 24)) : recW (46 + s * 24 + w) = false := by
  have e : (46 + s * 24 + w - 46) % 24 = w := by omega
  unfold recW
  rw [e]
  have h1 : ¬ (46 + s * 24 + w = 1) := by omega
  have h2 : ¬ (46 + s * 24 + w = 2) := by omega
  have h3 : ¬ (46 + s * 24 + w = 3) := by omega
  have h4 : ¬ (46 + s * 24 + w = 12) := by omega
  have h5 : ¬ (46 + s * 24 + w = 13) := by omega
  have h6 : ¬ (46 + s * 24 + w < 46) := by omega
  simp only [beq_eq_false_iff_ne.mpr h1, beq_eq_false_iff_ne.mpr h2, beq_eq_false_iff_ne.mpr h3, beq_eq_false_iff_ne.mpr h4, beq_eq_false_iff_ne.mpr h5, decide_eq_false h6, Bool.false_or, Bool.and_false]
  rcases h with h | ⟨ha, hb⟩
  · subst h; simp
  · have : ¬ w < 17 := by omega
    simp [this]
theorem recW_fld {s w : Nat} (h : w < 17) (h7 : w ≠ 7) : recW (46 + s * 24 + w) = true := by
  have e : (46 + s * 24 + w - 46) % 24 = w := by omega
  unfold recW
  rw [e]
  have : 46 ≤ 46 + s * 24 + w := by omega
  simp [this, h, h7]
theorem re_fld {m m' : Nat → Int32} (h : RecEq m m') {s w : Nat} (hs : s < 14) (hw : w < 17) (h7 : w ≠ 7) : fld m' s w = fld m s w := h _ (by omega) (recW_fld hw h7)
theorem re_nS {m m' : Nat → Int32} (h : RecEq m m') : nS m' = nS m := by unfold nS; rw [h 13 (by omega) (by decide)]
theorem re_w {m m' : Nat → Int32} (h : RecEq m m') (w : Nat) (hw : w < 382) (hr : recW w = true) : m' w = m w := h w hw hr
theorem re_nP {m m' : Nat → Int32} (h : RecEq m m') : nP m' = nP m := by unfold nP; rw [h 12 (by omega) (by decide)]
theorem re_np {m m' : Nat → Int32} (h : RecEq m m') {s : Nat} (hs : s < 14) : np m' s = np m s := by unfold np; rw [re_fld h hs (by omega) (by omega)]
theorem re_pr {m m' : Nat → Int32} (h : RecEq m m') {s k : Nat} (hs : s < 14) (hk : k < 4) : pr m' s k = pr m s k := by unfold pr; rw [re_fld h hs (by omega) (by omega)]
theorem anyB_congr {p q : Nat → Bool} : ∀ {n : Nat}, (∀ i, i < n → p i = q i) → anyB p n = anyB q n := by
  intro n
  induction n with
  | zero => intro _; rfl
  | succ n ih => intro h; rw [anyB_s, anyB_s, ih (fun i hi => h i (by omega)), h n (by omega)]
theorem cnt_congr {p q : Nat → Bool} : ∀ {n : Nat}, (∀ i, i < n → p i = q i) → cnt p n = cnt q n := by
  intro n
  induction n with
  | zero => intro _; rfl
  | succ n ih => intro h; rw [cnt_s, cnt_s, ih (fun i hi => h i (by omega)), h n (by omega)]
theorem re_isPred {m m' : Nat → Int32} (h : RecEq m m') {s : Nat} (hs : s < 14) (hn : np m s ≤ 4) (p : Nat) : isPred m' p s = isPred m p s := by
  unfold isPred
  rw [re_np h hs]
  exact anyB_congr fun i hi => by rw [re_pr h hs (by omega)]
theorem re_WF {m m' : Nat → Int32} (h : RecEq m m') (W : WF m) : WF m' := by
  obtain ⟨h1, h2, h3, h4, h5, h6, h7⟩ := W
  have hn := re_nS h
  have hp := re_nP h
  refine ⟨by rw [h 13 (by omega) (by decide), hn]; exact h1, by rw [hn]; exact h2, by rw [h 12 (by omega) (by decide), hp]; exact h3, by rw [hp]; exact h4, ?_, ?_, ?_⟩
  · intro s hs
    rw [hn] at hs
    rw [re_fld h (by omega) (by omega) (by omega), re_np h (by omega)]
    exact h5 s hs
  · intro s hs k hk
    rw [hn] at hs
    rw [re_np h (by omega)] at hk
    have := (h5 s hs).2
    rw [re_fld h (by omega) (by omega) (by omega), re_pr h (by omega) (by omega)]
    exact h6 s hs k hk
  · intro s hs
    rw [hn] at hs
    rw [re_fld h (by omega) (by omega) (by omega), hp]
    exact h7 s hs
theorem fld_upd_same (m : Nat → Int32) (s w : Nat) (v : Int32) : fld (upd m (46 + s * 24 + w) v) s w = v := pk_us
theorem fld_upd_o (m : Nat → Int32) {s w s' w' : Nat} (v : Int32) (hw : w < 24) (hw' : w' < 24) (h : ¬ (s' = s ∧ w' = w)) : fld (upd m (46 + s * 24 + w) v) s' w' = fld m s' w' := pk_un (by omega)
theorem fld_upd_lo (m : Nat → Int32) {x s w : Nat} (v : Int32) (hx : x < 46) : fld (upd m x v) s w = fld m s w := pk_un (by omega)
