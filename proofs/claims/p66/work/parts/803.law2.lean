section
/-! THE LAW'S KITCHEN: whether a step can start -/
def pnc (μ : Nat → Int32) (s i : Nat) : Nat := if fld μ s 9 = -1 then 0 else cnt (occ μ (fld μ s 9)) i
theorem pnc_s (μ : Nat → Int32) (s i : Nat) : pnc μ s (i + 1) = pnc μ s i + (if fld μ s 9 = -1 then 0 else if occ μ (fld μ s 9) i = true then 1 else 0) := by
  unfold pnc
  by_cases e : fld μ s 9 = -1
  · rw [if_pos e, if_pos e, if_pos e]
  · rw [if_neg e, if_neg e, if_neg e, cnt_s]
theorem nI_0add (n : Nat) : nI (n + 0) = nI n := rfl
theorem start_end {Y : Mem} {μ : Nat → Int32} (hI : Inv Y) (hE : RcE (Y 10 0 1) μ) {s : Nat} (hs : s < nS (Y 10 0 1)) : X12_canStart_b135 Y (nI s) (fld μ s 9) (nI (pnc μ s (nS μ))) = some (bI (hasPan μ s)) := by
  have h14 := nS_le hI
  have h9 : fld μ s 9 = fld (Y 10 0 1) s 9 := re_fld hE.1 (by omega) (by omega) (by omega)
  have h4 := hI.1.2.2.2.1
  unfold X12_canStart_b135 X12_canStart_b153 hasPan pnc
  rcases hI.1.2.2.2.2.2.2 s hs with e | ⟨q, hq, e⟩
  · rw [h9, e, if_pos (by decide)]
    rfl
  · have hne : ¬ nI q = -1 := nI_neg1 (by omega)
    have hlt : ¬ nI q < 0 := fun h => by have := (nI_ltI (a := q) (b := 0) (by omega) (by omega)).mp h; omega
    rw [h9, e, if_neg hne, if_neg hlt, v_panCapacity hI hq, bd1_e, beq_eq_false_iff_ne.mpr hne, Bool.false_or, nI_clamp (n := q) (by omega), ← re_cap hE.1 (q := q) (by omega)]
    unfold used
    by_cases c : nI (cnt (occ μ (nI q)) (nS μ)) < μ (14 + q * 8 + 7)
    · rw [decide_eq_true c, if_neg (Int32.not_le.mpr c)]; rfl
    · rw [decide_eq_false c, if_pos (Int32.not_lt.mp c)]; rfl
theorem start_b {Y : Mem} {μ : Nat → Int32} (hI : Inv Y) (hE : RcE (Y 10 0 1) μ) (hL : LSt Y μ) {s : Nat} (hs : s < nS (Y 10 0 1)) : ∀ i, i ≤ nS (Y 10 0 1) → ∀ f, nS (Y 10 0 1) - i < f → X12_canStart_b17 Y (nI s) f (nI i) (fld μ s 9) (nI (pnc μ s i)) (nI (cnt (cooked μ) i)) = some (bI (hasCook μ s && hasPan μ s)) := by
  have h14 := nS_le hI
  have hR := Inv_R hI
  have hn : nS μ = nS (Y 10 0 1) := re_nS hE.1
  have e1 : Y 12 0 0 1 = nI (nS (Y 10 0 1)) := by rw [hL.1, hn]
  have f11 : ∀ k, k < nS (Y 10 0 1) → fld μ k 11 = fld (Y 10 0 1) k 11 := fun k hk => re_fld hE.1 (by omega) (by omega) (by omega)
  have f9 : ∀ k, k < nS (Y 10 0 1) → fld μ k 9 = fld (Y 10 0 1) k 9 := fun k hk => re_fld hE.1 (by omega) (by omega) (by omega)
  refine upl ?_ ?_
  · intro f f_h
    obtain ⟨f, rfl⟩ := fuel_s f_h
    unfold X12_canStart_b17
    rw [e1, if_pos (Int32.le_refl _), v_isUnattended hI hs, bd1_e, ← f11 s hs]
    have he := start_end hI hE hs
    rw [hn] at he
    unfold hasCook
    by_cases c : fld μ s 11 = 1
    · rw [c, show bI ((1 : Int32) == 1) = 1 from rfl, if_neg (by decide), he]
      rfl
    · rw [beq_eq_false_iff_ne.mpr c, bI_f, if_pos rfl, v_cooks hI, bd1_e, ← hE.2.2, Bool.false_or]
      unfold busy
      rw [hn]
      by_cases c2 : nI (cnt (cooked μ) (nS (Y 10 0 1))) < μ 0
      · rw [if_neg (Int32.not_le.mpr c2), decide_eq_true c2, he]; rfl
      · rw [if_pos (Int32.not_lt.mp c2), decide_eq_false c2]; rfl
  · intro i hi ih f f_h
    obtain ⟨f, rfl⟩ := fuel_s f_h
    have ih2 := ih f (by omega)
    rw [pnc_s, cnt_s] at ih2
    have hpan : ∀ (x : Nat), X12_canStart_b17 Y (nI s) f (nI (i + 1)) (fld μ s 9) (nI (pnc μ s i + (if fld μ s 9 = -1 then 0 else if occ μ (fld μ s 9) i = true then 1 else 0))) (nI x) = some (bI (hasCook μ s && hasPan μ s)) → X12_canStart_b52 Y (nI s) (X12_canStart_b17 Y (nI s) f) (nI i) (fld μ s 9) (nI (pnc μ s i)) (nI x) = some (bI (hasCook μ s && hasPan μ s)) := by
      intro x hx
      unfold X12_canStart_b52 X12_canStart_b104 X12_canStart_b107
      rw [nI_1]
      rcases hI.1.2.2.2.2.2.2 s hs with e | ⟨q, hq, e⟩
      · rw [f9 s hs, e] at hx ⊢
        rw [if_pos rfl] at hx
        rw [if_pos (by decide)]
        exact hx
      · have h4 := hI.1.2.2.2.1
        have hne : ¬ nI q = -1 := nI_neg1 (by omega)
        have hlt : ¬ nI q < 0 := fun h => by have := (nI_ltI (a := q) (b := 0) (by omega) (by omega)).mp h; omega
        rw [f9 s hs, e] at hx ⊢
        rw [if_neg hne] at hx
        rw [if_neg hlt, v_panType hI hi, bd1_e, ← f9 i hi, gdi (show i < 14 by omega), ix_n (by omega), hL.2 i (by omega), follows_ok hI hE hL hi, bd1_e]
        unfold occ at hx
        by_cases c : fld μ i 9 = nI q
        · rw [if_pos c]
          rw [beq_iff_eq.mpr c, Bool.true_and] at hx
          by_cases c1 : fld μ i 17 = 1
          · rw [if_pos c1, nI_1]
            rw [beq_iff_eq.mpr c1, Bool.true_or, if_pos rfl] at hx
            exact hx
          · rw [if_neg c1]
            rw [beq_eq_false_iff_ne.mpr c1, Bool.false_or] at hx
            by_cases c2 : fld μ i 17 = 2
            · rw [if_pos c2]
              rw [beq_iff_eq.mpr c2, Bool.true_and] at hx
              cases c3 : hasSucc μ i 0 3
              · rw [c3, if_neg (by decide)] at hx
                rw [bI_f, if_pos rfl]
                exact hx
              · rw [c3, if_pos rfl] at hx
                rw [bI_t, if_neg (by decide), nI_1]
                exact hx
            · rw [if_neg c2]
              rw [beq_eq_false_iff_ne.mpr c2, Bool.false_and, if_neg (by decide)] at hx
              exact hx
        · rw [if_neg c]
          rw [beq_eq_false_iff_ne.mpr c, Bool.false_and, if_neg (by decide)] at hx
          exact hx
    unfold X12_canStart_b17
    rw [e1, if_neg (by rw [nI_leI (by omega) (by omega)]; omega), gdi (show i < 14 by omega), ix_n (by omega), hL.2 i (by omega), v_isUnattended hI hi, bd1_e, ← f11 i hi, nI_1]
    have h01 := (hR.2.2.2.2.2.2 i hi).2
    rw [← f11 i hi] at h01
    by_cases c1 : fld μ i 17 = 1
    · rw [if_pos c1]
      rcases h01 with z | z
      · rw [z, show bI ((0 : Int32) == 1) = 0 from rfl, if_pos rfl]
        refine hpan _ ?_
        have : cooked μ i = true := by unfold cooked; rw [c1, z]; rfl
        rw [this, if_pos rfl] at ih2
        exact ih2
      · rw [z, show bI ((1 : Int32) == 1) = 1 from rfl, if_neg (by decide)]
        refine hpan _ ?_
        have : cooked μ i = false := by unfold cooked; rw [c1, z]; rfl
        rw [this, show (if false = true then 1 else 0 : Nat) = 0 from rfl] at ih2
        exact ih2
    · rw [if_neg c1]
      refine hpan _ ?_
      have : cooked μ i = false := by unfold cooked; rw [beq_eq_false_iff_ne.mpr c1]; rfl
      rw [this, show (if false = true then 1 else 0 : Nat) = 0 from rfl] at ih2
      exact ih2
theorem canStart_ok {Y : Mem} {μ : Nat → Int32} (hI : Inv Y) (hE : RcE (Y 10 0 1) μ) (hL : LSt Y μ) {s : Nat} (hs : s < nS (Y 10 0 1)) : X12_canStart Y (nI s) = some (bI (hasCook μ s && hasPan μ s)) := by
  have h14 := nS_le hI
  unfold X12_canStart
  rw [v_panType hI hs, bd1_e, ← re_fld hE.1 (by omega) (by omega) (by omega)]
  have h := start_b hI hE hL hs 0 (Nat.zero_le _) FU (by have := FU_big; omega)
  have e0 : pnc μ s 0 = 0 := by unfold pnc; split <;> rfl
  rw [e0] at h
  exact h
/-- the next to start: the longest path, the lowest number -/
theorem next_b {Y : Mem} {n : Nat} {g : Nat → Bool} {p : Nat → Nat} (h1 : Y 12 0 0 1 = nI n) (h14 : n ≤ 14) (hg : ∀ k, k < n → Y 14 0 0 k = bI (g k)) (hp : ∀ k, k < n → Y 12 0 4 k = nI (p k)) (hlt : ∀ k, p k < 2 ^ 30) : ∀ i, i ≤ n → ∀ f, n - i < f → X12_next_b4 Y f (nI i) (oI (best g p i)) = some (oI (best g p n)) := by
  refine upl ?_ ?_
  · intro f f_h
    obtain ⟨f, rfl⟩ := fuel_s f_h
    unfold X12_next_b4
    rw [h1, if_pos (Int32.le_refl _)]
  · intro i hi ih f f_h
    obtain ⟨f, rfl⟩ := fuel_s f_h
    have ih2 := ih f (by omega)
    rw [best_s] at ih2
    unfold X12_next_b4 X12_next_b37 X12_next_b39
    rw [h1, if_neg (by rw [nI_leI (by omega) (by omega)]; omega), gdi (show i < 14 by omega), ix_n (by omega), hg i hi, nI_1]
    cases c : g i
    · rw [c, if_neg (by decide)] at ih2
      rw [bI_f, if_pos rfl]
      exact ih2
    · rw [c, if_pos rfl] at ih2
      rw [bI_t, if_neg (by decide)]
      cases e : best g p i with
      | none =>
        rw [e] at ih2
        rw [show oI (none : Option Nat) = -1 from rfl, if_pos (by decide)]
        exact ih2
      | some b =>
        have hb := (best_lt e).1
        rw [e] at ih2
        dsimp only at ih2
        rw [show oI (some b) = nI b from rfl, if_neg (show ¬ nI b < 0 from fun q => by have := (nI_ltI (a := b) (b := 0) (by omega) (by omega)).mp q; omega), gdi (show b < 14 by omega), ix_n (by omega), hp i hi, hp b (by omega)]
        have q1 := hlt i
        have q2 := hlt b
        by_cases c2 : p b < p i
        · rw [if_neg (by rw [nI_leI (by omega) (by omega)]; omega)]
          rw [if_pos c2] at ih2
          exact ih2
        · rw [if_pos (by rw [nI_leI (by omega) (by omega)]; omega)]
          rw [if_neg c2] at ih2
          exact ih2
theorem next_ok {Y : Mem} {n : Nat} {g : Nat → Bool} {p : Nat → Nat} (h1 : Y 12 0 0 1 = nI n) (h14 : n ≤ 14) (hg : ∀ k, k < n → Y 14 0 0 k = bI (g k)) (hp : ∀ k, k < n → Y 12 0 4 k = nI (p k)) (hlt : ∀ k, p k < 2 ^ 30) : X12_next Y = some (oI (best g p n)) := by
  unfold X12_next
  exact next_b h1 h14 hg hp hlt 0 (Nat.zero_le _) FU (by have := FU_big; omega)
/-- the best is one that none is better than -/
theorem best_of {g : Nat → Bool} {p : Nat → Nat} : ∀ {n x : Nat}, x < n → g x = true → (∀ k, k < n → g k = true → k ≠ x → p k < p x ∨ (p k = p x ∧ x < k)) → best g p n = some x := by
  intro n
  induction n with
  | zero => intro x h; omega
  | succ n ih =>
    intro x hx hg h
    rw [best_s]
    rcases (by omega : x = n ∨ x < n) with rfl | hlt
    · rw [if_pos hg]
      cases e : best g p x with
      | none => rfl
      | some b =>
        obtain ⟨b1, b2⟩ := best_lt e
        rcases h b (by omega) b2 (by omega) with q | q
        · exact if_pos q
        · omega
    · have ih2 := ih hlt hg (fun k hk => h k (by omega))
      by_cases c : g n = true
      · rw [if_pos c, ih2]
        rcases h n (by omega) c (by omega) with q | q
        · exact if_neg (by omega)
        · exact if_neg (by omega)
      · rw [if_neg c]; exact ih2
theorem best_no {g : Nat → Bool} {p : Nat → Nat} : ∀ {n : Nat}, (∀ k, k < n → g k = false) → best g p n = none := by
  intro n h
  cases e : best g p n with
  | none => rfl
  | some b =>
    obtain ⟨b1, b2⟩ := best_lt e
    rw [h b b1] at b2
    cases b2
end
