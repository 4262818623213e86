section
/-! THE LAW'S KITCHEN: agrees -/
theorem LK_LSt {Y : Mem} {μ : Nat → Int32} (h : LK (Y 12 0) μ) : LSt Y μ := ⟨h.1, fun s hs => (h.2.1 s hs).1⟩
theorem agrees_b {Y : Mem} (hI : Inv Y) (hL : LK (Y 12 0) (Y 10 0 1)) (hinc : inc (Y 10 0 1) = 0) (h18 : ∀ s, s < nS (Y 10 0 1) → ¬ fld (Y 10 0 1) s 17 = 1 → fld (Y 10 0 1) s 18 = 0) : ∀ i, i ≤ nS (Y 10 0 1) → ∀ f, nS (Y 10 0 1) - i < f → X12_agrees_b82 Y f (nI i) (sm (Y 10 0 1 5) (fun s => if fld (Y 10 0 1) s 17 == 2 then fld (Y 10 0 1) s 8 else 0) i) = some 1 := by
  have h14 := nS_le hI
  obtain ⟨l1, l2, -⟩ := hL
  refine upl ?_ ?_
  · intro f f_h
    obtain ⟨f, rfl⟩ := fuel_s f_h
    unfold X12_agrees_b82
    rw [l1, if_pos (Int32.le_refl _), v_taste hI, bd1_e, show tst (Y 10 0 1) = sm (Y 10 0 1 5) (fun s => if fld (Y 10 0 1) s 17 == 2 then fld (Y 10 0 1) s 8 else 0) (nS (Y 10 0 1)) from rfl, if_pos rfl, v_inconsistencies hI, bd1_e, if_pos hinc]
  · intro i hi ih f f_h
    obtain ⟨f, rfl⟩ := fuel_s f_h
    have ih2 := ih f (by omega)
    obtain ⟨z1, z2, z3, -⟩ := l2 i hi
    have tail : X12_agrees_b177 Y (X12_agrees_b82 Y f) (nI i) (sm (Y 10 0 1 5) (fun s => if fld (Y 10 0 1) s 17 == 2 then fld (Y 10 0 1) s 8 else 0) i) = some 1 := by
      unfold X12_agrees_b177 X12_agrees_b200
      rw [gdi (show i < 14 by omega), ix_n (by omega), z1, nI_1]
      have e9 : sm (Y 10 0 1 5) (fun s => if fld (Y 10 0 1) s 17 == 2 then fld (Y 10 0 1) s 8 else 0) (i + 1) = sm (Y 10 0 1 5) (fun s => if fld (Y 10 0 1) s 17 == 2 then fld (Y 10 0 1) s 8 else 0) i + (if fld (Y 10 0 1) i 17 == 2 then fld (Y 10 0 1) i 8 else 0) := rfl
      rw [e9] at ih2
      by_cases c : fld (Y 10 0 1) i 17 = 2
      · rw [if_pos c, v_stepTaste hI hi, bd1_e, lt_e]
        rw [beq_iff_eq.mpr c, if_pos rfl] at ih2
        exact ih2
      · rw [if_neg c, lt_e]
        rw [beq_eq_false_iff_ne.mpr c, if_neg (by decide)] at ih2
        exact ih2
    unfold X12_agrees_b82
    rw [l1, if_neg (by rw [nI_leI (by omega) (by omega)]; omega), v_status hI hi, bd1_e, gdi (show i < 14 by omega), ix_n (by omega), z1, if_pos rfl, v_remaining hI hi, bd1_e]
    unfold X12_agrees_b135
    rw [v_age hI hi, bd1_e, gdi (show i < 14 by omega), ix_n (by omega), z3, if_pos rfl, z1]
    by_cases c : fld (Y 10 0 1) i 17 = 1
    · have e6 : X12_isReady Y (nI i) = some 0 := by
        unfold X12_isReady
        rw [gdi (show i < 14 by omega), ix_n (by omega), z1, if_pos c]
      rw [if_pos c, z2 c, if_pos rfl, if_pos c, e6, bd1_e, if_pos rfl]
      exact tail
    · rw [if_neg c, if_pos (h18 i hi c), if_neg c]
      exact tail
theorem agrees_ok {Y : Mem} (hI : Inv Y) (hL : LK (Y 12 0) (Y 10 0 1)) (hinc : inc (Y 10 0 1) = 0) (h18 : ∀ s, s < nS (Y 10 0 1) → ¬ fld (Y 10 0 1) s 17 = 1 → fld (Y 10 0 1) s 18 = 0) : X12_agrees Y = some 1 := by
  have h := agrees_b hI hL hinc h18 0 (Nat.zero_le _) FU (by have := FU_big; have := nS_le hI; omega)
  obtain ⟨-, -, l7, l8, l9, l10, l11⟩ := hL
  unfold X12_agrees
  rw [v_minute hI, bd1_e, if_pos l7.symm, v_starts hI, bd1_e, if_pos l8.symm, v_completions hI, bd1_e, if_pos l9.symm, v_burns hI, bd1_e, if_pos l10.symm, v_cookMinutes hI, bd1_e, if_pos l11.symm, v_salt hI, bd1_e]
  exact h
end
