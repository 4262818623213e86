section
/-! what stands when the kitchen of the law is made -/
theorem kY_o {Y : Mem} {a b k : Nat} (h : k ≠ 12) : kY Y a b k = Y k := by
  funext g o
  unfold kY
  rw [if_neg (fun q => h q.1)]
theorem LI_ki {Y : Mem} {n hold : Nat} (hI : Inv Y) (hJ : JJ (Y 10 0 1)) (h13 : Y 10 0 1 13 = nI n) (hn : n ≤ 9) (h1 : Y 10 0 1 1 = nI hold) (h4 : Y 10 0 1 4 = 0) : LI (kY Y (nS (Y 10 0 1)) hold) 0 ∧ nS (Y 10 0 1) = n := by
  have en : nS (Y 10 0 1) = n := by unfold nS; rw [h13, nI_clamp (by omega)]
  have e10 : kY Y (nS (Y 10 0 1)) hold 10 = Y 10 := kY_o (by omega)
  refine ⟨⟨Inv_fr (fun k hk => kY_o (by omega)) hI, by rw [e10]; exact hJ, ?_, ?_, 0, Nat.le_refl _, by rw [e10]; exact h4⟩, en⟩
  · rw [e10]
    unfold kY
    rw [if_pos ⟨rfl, rfl⟩, if_pos rfl]
    rfl
  · rw [e10, h1]
    unfold kY
    rw [if_pos ⟨rfl, rfl⟩, if_pos rfl]
    rfl
end
