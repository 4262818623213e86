/-! THE CLASS: ready steps, taste, the reason why the dish is not served -/
theorem fOpen_none {m : Nat → Int32} {s : Nat} : (fOpen m s).isNone = true ↔ ∀ k, k < np m s → fld m (pr m s k) 17 = 2 := by
  unfold fOpen
  cases h : fst1 (fun k => !(fld m (pr m s k) 17 == 2)) (np m s) with
  | none =>
    have := fst1_none.mp h
    constructor
    · intro _ k hk
      have q := this k hk
      simp only [Bool.not_eq_false', beq_iff_eq] at q
      exact q
    · intro _; rfl
  | some j =>
    have := fst1_some.mp h
    constructor
    · intro q; cases q
    · intro q
      have e := this.2.1
      simp only [Bool.not_eq_true', beq_eq_false_iff_ne] at e
      exact absurd (q j this.1) e
theorem noOpen {Y : Mem} {g s : Nat} {m : Nat → Int32} (W : WF m) (hR : RR Y (rg Y g) m) (hS : SB Y g m) (hs : s < nS m) : (Y 3 (rg Y g) 8 s &&& (Y 2 g 0 7 ^^^ (-1))) = 0 ↔ (fOpen m s).isNone = true := by
  have h14 := W.2.1
  rw [and_z, fOpen_none]
  constructor
  · intro h k hk
    have hp := W.2.2.2.2.2.1 s hs k hk
    have q := h (pr m s k) (by omega)
    rw [(hR.2.2.2.2.1 s hs (pr m s k) (by omega)).1, b_not _ (by omega), (hS (pr m s k) (by omega)).2.1, stB_in (by omega)] at q
    have e : isPred m (pr m s k) s = true := anyB_iff.mpr ⟨k, hk, by simp⟩
    rw [e, Bool.true_and] at q
    simpa using q
  · intro h p hp
    rw [(hR.2.2.2.2.1 s hs p hp).1, b_not _ hp, (hS p hp).2.1]
    cases e : isPred m p s
    · rfl
    · obtain ⟨k, hk, hkp⟩ := anyB_iff.mp e
      rw [beq_iff_eq] at hkp
      have := isPred_lt W hs e
      rw [stB_in (by omega), ← hkp, h k hk]; rfl
theorem ready_b {Y : Mem} {g : Nat} {m : Nat → Int32} {v5 : Int32} (W : WF m) (hR : RR Y (rg Y g) m) (hS : SB Y g m) (h5 : ∀ k, k < 32 → bt v5 k = (decide (k < nS m) && !(stB m 1 k || stB m 2 k))) : ∀ i, i ≤ nS m → ∀ f x, nS m - i < f → (∀ k, k < 32 → bt x k = (decide (k < i) && isReady m k)) → ∃ x', X3_readySteps_b30 Y g f (nI i) v5 x = some x' ∧ ∀ k, k < 32 → bt x' k = (decide (k < nS m) && isReady m k) := by
  have h14 := W.2.1
  refine upl ?_ ?_
  · intro f x f_h hx
    obtain ⟨f, rfl⟩ := fuel_s f_h
    unfold X3_readySteps_b30
    rw [gd2 hR.1.1, gd2 hR.1.1, hR.1.2.1, if_pos (Int32.le_refl _)]
    exact ⟨x, rfl, hx⟩
  · intro i hi ih f x f_h hx
    obtain ⟨f, rfl⟩ := fuel_s f_h
    unfold X3_readySteps_b30
    rw [gd2 hR.1.1, gd2 hR.1.1, hR.1.2.1, if_neg (by rw [nI_leI (by omega) (by omega)]; omega), contains_ok Y _ (by omega), bd1_e, bI_ne, h5 i (by omega), stB_in hi, stB_in hi, decide_eq_true hi, Bool.true_and]
    have hj : ∀ z, X3_readySteps_b80 Y g (X3_readySteps_b30 Y g f) (nI i) v5 z = X3_readySteps_b30 Y g f (nI (i + 1)) v5 z := by
      intro z
      unfold X3_readySteps_b80
      rw [litI, nI_add]
    have hno : isReady m i = false → ∀ k, k < 32 → bt x k = (decide (k < i + 1) && isReady m k) := by
      intro e k hk
      rw [hx k hk]
      by_cases q : k = i
      · subst q; rw [e]; simp
      · have : decide (k < i + 1) = decide (k < i) := decide_eq_decide.mpr (by omega)
        rw [this]
    have no := noOpen W hR hS hi
    cases c1 : (!(fld m i 17 == 1 || fld m i 17 == 2))
    · rw [if_neg (by decide), hj]
      refine ih f x (by omega) (hno ?_)
      unfold isReady
      cases h1 : (fld m i 17 == 1) <;> cases h2 : (fld m i 17 == 2) <;> rw [h1, h2] at c1 <;> first | rfl | cases c1
    · rw [if_pos rfl, gdi (show i < 14 by omega), ix_n (by omega)]
      have hst : (!(fld m i 17 == 1) && !(fld m i 17 == 2)) = true := by
        cases h1 : (fld m i 17 == 1) <;> cases h2 : (fld m i 17 == 2) <;> rw [h1, h2] at c1 <;> first | rfl | cases c1
      by_cases c2 : (Y 3 (rg Y g) 8 i &&& (Y 2 g 0 7 ^^^ (-1))) = 0
      · rw [if_pos c2, lt_e, hj]
        refine ih f _ (by omega) fun k hk => ?_
        rw [b_or, hx k hk, b_one i (by omega) hk]
        by_cases q : k = i
        · subst q
          have : isReady m k = true := by unfold isReady; rw [hst, no.mp c2]; rfl
          rw [this]; simp
        · have : decide (k < i + 1) = decide (k < i) := decide_eq_decide.mpr (by omega)
          rw [this, decide_eq_false q, Bool.or_false]
      · rw [if_neg c2, hj]
        refine ih f x (by omega) (hno ?_)
        unfold isReady
        cases e : (fOpen m i).isNone
        · simp
        · exact absurd (no.mpr e) c2
theorem ready_ok (Y : Mem) {g : Nat} {m : Nat → Int32} (W : WF m) (hR : RR Y (rg Y g) m) (hS : SB Y g m) : ∃ x, X3_readySteps Y g = some x ∧ ∀ k, k < 32 → bt x k = (decide (k < nS m) && isReady m k) := by
  have h14 := W.2.1
  unfold X3_readySteps
  rw [gd2 hR.1.1, gd2 hR.1.1, allSteps_ok Y _ hR.1.2.1, bd1_e, lt_e]
  refine ready_b W hR hS (fun k hk => ?_) 0 (Nat.zero_le _) FU 0 (by have := FU_big; omega) (fun k hk => by rw [b_0, decide_eq_false (by omega)]; rfl)
  rw [b_and, b_all _ (by omega) k hk, b_not _ hk, b_or, (hS k hk).1, (hS k hk).2.1]
theorem taste_b {Y : Mem} {g : Nat} {m : Nat → Int32} (W : WF m) (hR : RR Y (rg Y g) m) (hS : SB Y g m) : ∀ i, i ≤ nS m → ∀ f, nS m - i < f → X3_dishTaste_b10 Y g f (nI i) (sm (m 5) (fun s => if fld m s 17 == 2 then fld m s 8 else 0) i) = some (tst m) := by
  have h14 := W.2.1
  refine upl ?_ ?_
  · intro f f_h
    obtain ⟨f, rfl⟩ := fuel_s f_h
    unfold X3_dishTaste_b10
    rw [gd2 hR.1.1, gd2 hR.1.1, hR.1.2.1, if_pos (Int32.le_refl _)]
    rfl
  · intro i hi ih f f_h
    obtain ⟨f, rfl⟩ := fuel_s f_h
    unfold X3_dishTaste_b10
    rw [gd2 hR.1.1, gd2 hR.1.1, hR.1.2.1, if_neg (by rw [nI_leI (by omega) (by omega)]; omega), contains_ok Y _ (by omega), bd1_e, bI_ne, (hS i (by omega)).2.1, stB_in hi]
    have hj : ∀ z, X3_dishTaste_b50 Y g (X3_dishTaste_b10 Y g f) (nI i) z = X3_dishTaste_b10 Y g f (nI (i + 1)) z := by
      intro z
      unfold X3_dishTaste_b50
      rw [litI, nI_add]
    have ih2 := ih f (by omega)
    unfold sm at ih2
    cases e : (fld m i 17 == 2)
    · rw [e, if_neg (by decide), Int32.add_zero] at ih2
      rw [if_neg (by decide), hj]
      exact ih2
    · rw [e, if_pos rfl] at ih2
      rw [if_pos rfl, gdi (show i < 14 by omega), ix_n (by omega), (hR.2.2.2.1 i hi).1, lt_e, hj]
      exact ih2
theorem taste_ok (Y : Mem) {g : Nat} {m : Nat → Int32} (W : WF m) (hR : RR Y (rg Y g) m) (hS : SB Y g m) (h5 : Y 2 g 0 2 = m 5) : X3_dishTaste Y g = some (tst m) := by
  unfold X3_dishTaste
  rw [lt_e, h5]
  exact taste_b W hR hS 0 (Nat.zero_le _) FU (by have := FU_big; have := W.2.1; omega)
theorem cnt_0 {p : Nat → Bool} : ∀ {n : Nat}, cnt p n = 0 ↔ ∀ i, i < n → p i = false := by
  intro n
  induction n with
  | zero => exact ⟨fun _ i h => (by omega), fun _ => rfl⟩
  | succ n ih =>
    rw [cnt_s]
    constructor
    · intro h i hi
      by_cases e : i = n
      · subst e
        cases hp : p i
        · rfl
        · rw [hp, if_pos rfl] at h; omega
      · exact ih.mp (by omega) i (by omega)
    · intro h
      rw [ih.mpr (fun i hi => h i (by omega)), h n (by omega)]; rfl
theorem cnt_all {p : Nat → Bool} : ∀ {n : Nat}, cnt p n = n ↔ ∀ i, i < n → p i = true := by
  intro n
  induction n with
  | zero => exact ⟨fun _ i h => (by omega), fun _ => rfl⟩
  | succ n ih =>
    rw [cnt_s]
    have hle := cnt_le p n
    constructor
    · intro h i hi
      by_cases e : i = n
      · subst e
        cases hp : p i
        · rw [hp] at h; simp at h; omega
        · rfl
      · refine ih.mp ?_ i (by omega)
        cases hp : p n
        · rw [hp] at h; simp at h; omega
        · rw [hp, if_pos rfl] at h; omega
    · intro h
      rw [ih.mpr (fun i hi => h i (by omega)), h n (by omega)]; rfl
theorem srvC_ok (Y : Mem) {g : Nat} {m : Nat → Int32} (W : WF m) (hR : RR Y (rg Y g) m) (hS : SB Y g m) (h5 : Y 2 g 0 2 = m 5) (h6 : Y 2 g 0 5 = m 6) (h6' : m 6 = 0 ∨ m 6 = 1) : X3_servingObstacle Y g = some (srv m) := by
  have h14 := W.2.1
  unfold X3_servingObstacle srv
  rw [h6]
  rcases h6' with e | e
  · rw [e, if_pos rfl, if_neg (show ¬ ((0 : Int32) = 1) by decide)]
    have z3 : Y 2 g 0 8 = 0 ↔ ¬ 0 < wSt m 3 := by
      unfold wSt
      rw [b_z, Nat.not_lt, Nat.le_zero, cnt_0]
      constructor
      · intro h i hi
        have := h i (by omega)
        rw [(hS i (by omega)).2.2, stB_in hi] at this
        exact this
      · intro h k hk
        rw [(hS k hk).2.2]
        by_cases hi : k < nS m
        · rw [stB_in hi]; exact h k hi
        · exact stB_out hi
    have z2 : Y 2 g 0 7 = (1 <<< (nI (nS m) &&& 31)) - 1 ↔ fin m = true := by
      unfold fin wSt
      rw [beq_iff_eq, cnt_all]
      constructor
      · intro h i hi
        have e2 := (hS i (by omega)).2.1
        rw [h, b_all _ (by omega) i (by omega), stB_in hi, decide_eq_true hi] at e2
        exact e2.symm
      · intro h
        refine b_ext fun k hk => ?_
        rw [(hS k hk).2.1, b_all _ (by omega) k hk]
        by_cases hi : k < nS m
        · rw [stB_in hi, h k hi, decide_eq_true hi]
        · rw [stB_out hi, decide_eq_false hi]
    by_cases c1 : Y 2 g 0 8 = 0
    · rw [if_pos c1, if_neg (z3.mp c1), gd2 hR.1.1, gd2 hR.1.1, allSteps_ok Y _ hR.1.2.1, bd1_e]
      by_cases c2 : Y 2 g 0 7 = (1 <<< (nI (nS m) &&& 31)) - 1
      · rw [if_pos c2, z2.mp c2, if_neg (show ¬ (true = false) by decide), taste_ok Y W hR hS h5, bd1_e, bd1_e, hR.2.1.2.1, hR.2.1.2.2]
        by_cases c3 : m 2 ≤ tst m
        · rw [if_pos c3, if_neg (Int32.not_lt.mpr c3)]
          by_cases c4 : tst m ≤ m 3
          · rw [if_pos c4, if_neg (Int32.not_lt.mpr c4)]
          · rw [if_neg c4, if_pos (Int32.not_le.mp c4)]
        · rw [if_neg c3, if_pos (Int32.not_le.mp c3)]
      · have : fin m = false := by
          cases h : fin m
          · rfl
          · exact absurd (z2.mpr h) c2
        rw [if_neg c2, this, if_pos rfl]
    · have : 0 < wSt m 3 := by
        by_cases h : 0 < wSt m 3
        · exact h
        · exact absurd (z3.mpr h) c1
      rw [if_neg c1, if_pos this]
  · rw [e, if_neg (show ¬ ((1 : Int32) = 0) by decide), if_pos rfl]
theorem obstacle_ok (Y : Mem) {g s : Nat} {m : Nat → Int32} (W : WF m) (hR : RR Y (rg Y g) m) (hS : SB Y g m) (h4 : S4 m) (h0 : Y 2 g 0 0 = m 0) (hs : s < nS m) : X3_obstacle Y g (nI s) = some (if fld m s 17 = 1 then 0 else if fld m s 17 = 2 then 1 else if (fOpen m s).isNone = false then 2 else if hasPan m s = false then 3 else if hasCook m s = true then 5 else 4) := by
  have h14 := W.2.1
  unfold X3_obstacle
  have hb := hS s (by omega)
  have no := noOpen W hR hS hs
  rw [contains_ok Y _ (by omega), bd1_e, bI_ne, hb.1, stB_in hs]
  by_cases e1 : fld m s 17 = 1
  · rw [if_pos e1, beq_iff_eq.mpr e1, if_pos rfl]
  · rw [if_neg e1, beq_eq_false_iff_ne.mpr e1, if_neg (show ¬ (false = true) by decide), contains_ok Y _ (by omega), bd1_e, bI_ne, hb.2.1, stB_in hs]
    by_cases e2 : fld m s 17 = 2
    · rw [if_pos e2, beq_iff_eq.mpr e2, if_pos rfl]
    · rw [if_neg e2, beq_eq_false_iff_ne.mpr e2, if_neg (show ¬ (false = true) by decide), gd2 hR.1.1, gdi (show s < 14 by omega), ix_n (by omega)]
      by_cases c : (Y 3 (rg Y g) 8 s &&& (Y 2 g 0 7 ^^^ (-1))) = 0
      · rw [if_pos c, no.mp c, if_neg (show ¬ (true = false) by decide), hasFreePan_ok Y W hR hS h4 hs, bd1_e, bI_ne]
        cases hp : hasPan m s
        · rfl
        · rw [if_pos rfl, if_neg (show ¬ (true = false) by decide), hasFreeCook_ok Y h14 hR hS h0 hs, bd1_e, bI_ne]
          cases hc : hasCook m s <;> rfl
      · have e : (fOpen m s).isNone = false := by
          cases h : (fOpen m s).isNone
          · rfl
          · exact absurd (no.mpr h) c
        rw [if_neg c, e, if_pos rfl]
