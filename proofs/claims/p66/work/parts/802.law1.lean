section
/-! THE LAW'S KITCHEN: its questions -/
/-- the class's recipe m and the law's kitchen μ agree but for the state -/
def RcE (m μ : Nat → Int32) : Prop := RecEq m μ ∧ (∀ s, s < nS m → fld μ s 7 = fld m s 7) ∧ μ 0 = m 0
/-- the statuses that the law holds -/
def LSt (Y : Mem) (μ : Nat → Int32) : Prop := Y 12 0 0 1 = nI (nS μ) ∧ ∀ s, s < nS μ → Y 12 0 1 s = fld μ s 17
theorem anyB_cut {p : Nat → Bool} {n c : Nat} (h : n ≤ c) : anyB (fun j => decide (j < n) && p j) c = anyB p n := by
  cases e : anyB p n
  · rw [anyB_f] at e ⊢
    intro i hi
    by_cases q : i < n
    · rw [e i q, Bool.and_false]
    · rw [decide_eq_false q, Bool.false_and]
  · rw [anyB_iff] at e ⊢
    obtain ⟨i, i1, i2⟩ := e
    exact ⟨i, by omega, by rw [decide_eq_true i1, i2]; rfl⟩
theorem isAfter_b {Y : Mem} (hI : Inv Y) {k s : Nat} (hk : k < nS (Y 10 0 1)) (hs : s < nS (Y 10 0 1)) : ∀ i, i ≤ 4 → ∀ f, 4 - i < f → X12_isAfter_b5 Y (nI k) (nI s) f (nI i) (bI (anyB (fun j => decide (j < np (Y 10 0 1) k) && (pr (Y 10 0 1) k j == s)) i)) = some (bI (isPred (Y 10 0 1) s k)) := by
  have h14 := nS_le hI
  have hp := (hI.1.2.2.2.2.1 k hk).2
  refine upl ?_ ?_
  · intro f f_h
    obtain ⟨f, rfl⟩ := fuel_s f_h
    unfold X12_isAfter_b5
    rw [if_pos (show (4 : Int32) ≤ nI 4 from Int32.le_refl _), gd_t (bI_01 _), anyB_cut hp]
    rfl
  · intro i hi ih f f_h
    obtain ⟨f, rfl⟩ := fuel_s f_h
    have ih2 := ih f (by omega)
    rw [anyB_s] at ih2
    unfold X12_isAfter_b5 X12_isAfter_b29 X12_isAfter_b34
    rw [if_neg (show ¬ (4 : Int32) ≤ nI i from fun q => by have := (nI_leI (a := 4) (b := i) (by omega) (by omega)).mp q; omega), v_pred hI hk hi, bd1_e, nI_1]
    cases c : anyB (fun j => decide (j < np (Y 10 0 1) k) && (pr (Y 10 0 1) k j == s)) i
    · rw [c, Bool.false_or] at ih2
      rw [bI_f, if_pos rfl]
      by_cases e : i < np (Y 10 0 1) k
      · rw [if_pos e]
        rw [decide_eq_true e, Bool.true_and] at ih2
        have hl := (hI.1.2.2.2.2.2.1 k hk i e).2
        by_cases e2 : pr (Y 10 0 1) k i = s
        · rw [e2, if_pos rfl]
          rw [e2, beq_self_eq_true] at ih2
          exact ih2
        · rw [if_neg (fun q => e2 ((nI_eq (by omega) (by omega)).mp q))]
          rw [beq_eq_false_iff_ne.mpr e2] at ih2
          exact ih2
      · rw [if_neg e, if_neg (fun q9 : (-1 : Int32) = nI s => nI_neg1 (q := s) (by omega) q9.symm)]
        rw [decide_eq_false e, Bool.false_and] at ih2
        exact ih2
    · rw [c, Bool.true_or] at ih2
      rw [bI_t, if_neg (by decide)]
      exact ih2
theorem isAfter_ok {Y : Mem} (hI : Inv Y) {k s : Nat} (hk : k < nS (Y 10 0 1)) (hs : s < nS (Y 10 0 1)) : X12_isAfter Y (nI k) (nI s) = some (bI (isPred (Y 10 0 1) s k)) := by
  unfold X12_isAfter
  exact isAfter_b hI hk hs 0 (Nat.zero_le _) FU (by have := FU_big; omega)
theorem RcE_pred {m μ : Nat → Int32} (W : WF m) (h : RcE m μ) {s : Nat} (hs : s < nS m) (p : Nat) : isPred μ p s = isPred m p s := re_isPred h.1 (by have := W.2.1; omega) (W.2.2.2.2.1 s hs).2 p
theorem follows_b {Y : Mem} {μ : Nat → Int32} (hI : Inv Y) (hE : RcE (Y 10 0 1) μ) (hL : LSt Y μ) {s : Nat} (hs : s < nS (Y 10 0 1)) (u v : Int32) : ∀ i, i ≤ nS (Y 10 0 1) → s < i → ∀ f, nS (Y 10 0 1) - i < f → X12_follows_b8 Y (nI s) u v f (nI i) (bI (anyB (fun k => decide (s < k) && isPred μ s k && (fld μ k 17 == u || fld μ k 17 == v)) i)) = some (bI (hasSucc μ s u v)) := by
  have h14 := nS_le hI
  have hn : nS μ = nS (Y 10 0 1) := re_nS hE.1
  have e1 : Y 12 0 0 1 = nI (nS (Y 10 0 1)) := by rw [hL.1, hn]
  refine upl ?_ ?_
  · intro _ f f_h
    obtain ⟨f, rfl⟩ := fuel_s f_h
    unfold X12_follows_b8
    rw [e1, if_pos (Int32.le_refl _), gd_t (bI_01 _)]
    unfold hasSucc
    rw [hn]
  · intro i hi ih hsi f f_h
    obtain ⟨f, rfl⟩ := fuel_s f_h
    have ih2 := ih (by omega) f (by omega)
    rw [anyB_s, decide_eq_true hsi, Bool.true_and] at ih2
    unfold X12_follows_b8 X12_follows_b54 X12_follows_b58 X12_follows_b59
    rw [e1, if_neg (by rw [nI_leI (by omega) (by omega)]; omega), isAfter_ok hI hi hs, bd1_e, nI_1, gdi (show i < 14 by omega), ix_n (by omega), hL.2 i (by omega), ← RcE_pred hI.1 hE hi s]
    cases c : anyB (fun k => decide (s < k) && isPred μ s k && (fld μ k 17 == u || fld μ k 17 == v)) i
    · rw [c, Bool.false_or] at ih2
      rw [bI_f, if_pos rfl]
      cases e : isPred μ s i
      · rw [e, Bool.false_and] at ih2
        rw [bI_f, if_pos rfl]
        exact ih2
      · rw [e, Bool.true_and] at ih2
        rw [bI_t, if_neg (by decide)]
        by_cases eu : fld μ i 17 = u
        · rw [if_pos eu]
          rw [beq_iff_eq.mpr eu, Bool.true_or] at ih2
          exact ih2
        · rw [if_neg eu]
          rw [beq_eq_false_iff_ne.mpr eu, Bool.false_or] at ih2
          by_cases ev : fld μ i 17 = v
          · rw [if_pos ev]
            rw [beq_iff_eq.mpr ev] at ih2
            exact ih2
          · rw [if_neg ev]
            rw [beq_eq_false_iff_ne.mpr ev] at ih2
            exact ih2
    · rw [c, Bool.true_or] at ih2
      rw [bI_t, if_neg (by decide)]
      exact ih2
theorem follows_ok {Y : Mem} {μ : Nat → Int32} (hI : Inv Y) (hE : RcE (Y 10 0 1) μ) (hL : LSt Y μ) {s : Nat} (hs : s < nS (Y 10 0 1)) (u v : Int32) : X12_follows Y (nI s) u v = some (bI (hasSucc μ s u v)) := by
  have h14 := nS_le hI
  unfold X12_follows
  rw [lt_e, nI_1]
  have h := follows_b hI hE hL hs u v (s + 1) (by omega) (by omega) FU (by have := FU_big; omega)
  rw [show anyB (fun k => decide (s < k) && isPred μ s k && (fld μ k 17 == u || fld μ k 17 == v)) (s + 1) = false from anyB_f.mpr (fun i hi => by rw [decide_eq_false (by omega), Bool.false_and, Bool.false_and])] at h
  exact h
theorem kready_b {Y : Mem} {μ : Nat → Int32} (hI : Inv Y) (hE : RcE (Y 10 0 1) μ) (hL : LSt Y μ) {s : Nat} (hs : s < nS (Y 10 0 1)) : ∀ i, i ≤ 4 → ∀ f, 4 - i < f → fst1 (fun k => decide (k < np (Y 10 0 1) s) && !(fld μ (pr (Y 10 0 1) s k) 17 == 2)) i = none → X12_isReady_b24 Y (nI s) f (nI i) = some (bI (fst1 (fun k => decide (k < np (Y 10 0 1) s) && !(fld μ (pr (Y 10 0 1) s k) 17 == 2)) 4).isNone) := by
  have h14 := nS_le hI
  have hn : nS μ = nS (Y 10 0 1) := re_nS hE.1
  refine upl ?_ ?_
  · intro f f_h h
    obtain ⟨f, rfl⟩ := fuel_s f_h
    unfold X12_isReady_b24
    rw [if_pos (show (4 : Int32) ≤ nI 4 from Int32.le_refl _), h]
    rfl
  · intro i hi ih f f_h h
    obtain ⟨f, rfl⟩ := fuel_s f_h
    have step : (decide (i < np (Y 10 0 1) s) && !(fld μ (pr (Y 10 0 1) s i) 17 == 2)) = false → fst1 (fun k => decide (k < np (Y 10 0 1) s) && !(fld μ (pr (Y 10 0 1) s k) 17 == 2)) (i + 1) = none := fun e => by
      rw [fst1_none] at h ⊢
      intro j hj
      rcases (by omega : j < i ∨ j = i) with q | rfl
      · exact h j q
      · exact e
    unfold X12_isReady_b24 X12_isReady_b55
    rw [if_neg (show ¬ (4 : Int32) ≤ nI i from fun q => by have := (nI_leI (a := 4) (b := i) (by omega) (by omega)).mp q; omega), v_pred hI hs hi, bd1_e, nI_1]
    by_cases e : i < np (Y 10 0 1) s
    · have hl := (hI.1.2.2.2.2.2.1 s hs i e).2
      rw [if_pos e, if_neg (show ¬ nI (pr (Y 10 0 1) s i) < 0 from fun q => by have := (nI_ltI (a := pr (Y 10 0 1) s i) (b := 0) (by omega) (by omega)).mp q; omega), gdi (show pr (Y 10 0 1) s i < 14 by omega), ix_n (by omega), hL.2 _ (by omega)]
      by_cases e2 : fld μ (pr (Y 10 0 1) s i) 17 = 2
      · rw [if_pos e2]
        exact ih f (by omega) (step (by rw [e2]; simp))
      · rw [if_neg e2]
        have : fst1 (fun k => decide (k < np (Y 10 0 1) s) && !(fld μ (pr (Y 10 0 1) s k) 17 == 2)) 4 = some i := fst1_some.mpr ⟨hi, by rw [decide_eq_true e, beq_eq_false_iff_ne.mpr e2]; rfl, fun j hj => fst1_none.mp h j hj⟩
        rw [this]
        rfl
    · rw [if_neg e, if_pos (by decide)]
      exact ih f (by omega) (step (by rw [decide_eq_false e, Bool.false_and]))
theorem kready_ok {Y : Mem} {μ : Nat → Int32} (hI : Inv Y) (hE : RcE (Y 10 0 1) μ) (hL : LSt Y μ) {s : Nat} (hs : s < nS (Y 10 0 1)) : X12_isReady Y (nI s) = some (bI (isReady μ s)) := by
  have h14 := nS_le hI
  have hn : nS μ = nS (Y 10 0 1) := re_nS hE.1
  have hp := (hI.1.2.2.2.2.1 s hs).2
  have enp : np μ s = np (Y 10 0 1) s := re_np hE.1 (by omega)
  have eo : (fOpen μ s).isNone = (fst1 (fun k => decide (k < np (Y 10 0 1) s) && !(fld μ (pr (Y 10 0 1) s k) 17 == 2)) 4).isNone := by
    have h1 : (fOpen μ s).isNone = (fst1 (fun k => !(fld μ (pr μ s k) 17 == 2)) (np μ s)).isNone := by
      unfold fOpen
      cases fst1 (fun k => !(fld μ (pr μ s k) 17 == 2)) (np μ s) <;> rfl
    rw [h1, Bool.eq_iff_iff, Option.isNone_iff_eq_none, Option.isNone_iff_eq_none, fst1_none, fst1_none, enp]
    constructor
    · intro h i hi
      by_cases e : i < np (Y 10 0 1) s
      · have := h i e
        rw [re_pr hE.1 (by omega) (by omega)] at this
        rw [this, Bool.and_false]
      · rw [decide_eq_false e, Bool.false_and]
    · intro h i hi
      have := h i (by omega)
      rw [decide_eq_true hi, Bool.true_and] at this
      rw [re_pr hE.1 (by omega) (by omega)]
      exact this
  unfold X12_isReady isReady
  rw [gdi (show s < 14 by omega), ix_n (by omega), hL.2 s (by omega)]
  by_cases e1 : fld μ s 17 = 1
  · rw [if_pos e1, e1]; rfl
  · rw [if_neg e1, beq_eq_false_iff_ne.mpr e1]
    by_cases e2 : fld μ s 17 = 2
    · rw [if_pos e2, e2]; rfl
    · rw [if_neg e2, beq_eq_false_iff_ne.mpr e2, eo]
      exact kready_b hI hE hL hs 0 (Nat.zero_le _) FU (by have := FU_big; omega) rfl
end
