section
/-! THE MEAN DURATION -/
theorem sm_nat {f : Nat → Int32} : ∀ {n : Nat}, (∀ i, i < n → ∃ d, f i = nI d ∧ d ≤ 60) → ∃ t, sm 0 f n = nI t ∧ t ≤ 60 * n := by
  intro n
  induction n with
  | zero => intro _; exact ⟨0, rfl, Nat.zero_le _⟩
  | succ n ih =>
    intro h
    obtain ⟨t, t1, t2⟩ := ih (fun i hi => h i (by omega))
    obtain ⟨d, d1, d2⟩ := h n (by omega)
    refine ⟨t + d, ?_, by omega⟩
    show sm 0 f n + f n = _
    rw [t1, d1, nI_add]
theorem dd_ok : ∀ q, q < 29 → ∀ r, r < 30 → ∀ b, b < 15 → 0 < b → decide (FP.ddiv (FP.i2d (nI (30 * q + r))) (FP.i2d (nI b)) &&& 0x7fffffffffffffff ≤ 0x7ff0000000000000) = true := by decide +kernel
theorem meanM_b (Z : Mem) (W : WF (Z 10 0 1)) (hg : decide (FP.ddiv (FP.i2d (sm 0 (fun s => fld (Z 10 0 1) s 7) (nS (Z 10 0 1)))) (FP.i2d (nI (nS (Z 10 0 1)))) &&& 0x7fffffffffffffff ≤ 0x7ff0000000000000) = true) : ∀ i, i ≤ nS (Z 10 0 1) → ∀ f, nS (Z 10 0 1) - i < f → M12_meanDuration_b9 f Z (nI i) (sm 0 (fun s => fld (Z 10 0 1) s 7) i) = some (FP.ddiv (FP.i2d (sm 0 (fun s => fld (Z 10 0 1) s 7) (nS (Z 10 0 1)))) (FP.i2d (nI (nS (Z 10 0 1)))), Z) := by
  have h14 := W.2.1
  have e : (13 : Int32) = nI 13 := rfl
  refine upl ?_ ?_
  · intro f f_h
    obtain ⟨f, rfl⟩ := fuel_s f_h
    unfold M12_meanDuration_b9
    rw [e, gdi (show 13 < 4202 by omega), ix_n (show 13 < 2 ^ 31 by omega), W.1, if_pos (Int32.le_refl _), gd_t hg]
  · intro i hi ih f f_h
    obtain ⟨f, rfl⟩ := fuel_s f_h
    unfold M12_meanDuration_b9
    rw [e, gdi (show 13 < 4202 by omega), ix_n (show 13 < 2 ^ 31 by omega), W.1, if_neg (by rw [nI_leI (by omega) (by omega)]; omega)]
    rw [show M12_of Z (nI i) 7 = _ from of_ok Z (s := i) (w := 7) (by omega), bd1_e, lt_e, nI_1]
    exact ih f (by omega)
theorem q_meanDuration {Y : Mem} (hI : Inv Y) : R0f (X11_meanDuration Y) (M12_meanDuration Y) := by
  have h14 := nS_le hI
  have hR := Inv_R hI
  have es : sm 0 (Y 2 0 1) (nS (Y 10 0 1)) = sm 0 (fun s => fld (Y 10 0 1) s 7) (nS (Y 10 0 1)) := sm_congr (fun i hi => (Inv_A hI i hi).1)
  have hg : decide (FP.ddiv (FP.i2d (sm 0 (fun s => fld (Y 10 0 1) s 7) (nS (Y 10 0 1)))) (FP.i2d (nI (nS (Y 10 0 1)))) &&& 0x7fffffffffffffff ≤ 0x7ff0000000000000) = true := by
    obtain ⟨t, t1, t2⟩ := sm_nat (f := fun s => fld (Y 10 0 1) s 7) (n := nS (Y 10 0 1)) (fun i hi => by
      obtain ⟨d, d1, d2, d3⟩ := (Inv_MI hI i hi).2.2
      exact ⟨d, d1, d3⟩)
    have h := dd_ok (t / 30) (by omega) (t % 30) (by omega) (nS (Y 10 0 1)) (by omega) hI.2.1
    rw [show 30 * (t / 30) + t % 30 = t by omega] at h
    rw [t1]; exact h
  refine ⟨FP.ddiv (FP.i2d (sm 0 (fun s => fld (Y 10 0 1) s 7) (nS (Y 10 0 1)))) (FP.i2d (nI (nS (Y 10 0 1)))), up Y 10 0 0 9 0, ?_, ?_, Inv_QM hI (QM_9 _ _)⟩
  rotate_left
  · unfold M12_meanDuration
    rw [lt_e]
    exact meanM_b (up Y 10 0 0 9 0) (by rw [up9_m]; exact hI.1) (by rw [up9_m]; exact hg) 0 (Nat.zero_le _) FU (by rw [up9_m]; have := FU_big; omega)
  · unfold X11_meanDuration
    rw [gd2 hR.1.1, gd2 hR.1.1, hR.1.2.1, sum_ok Y 2 0 1 h14, bd1_e, steps_ok hI, bd1_e, es, gd_t hg]
end
