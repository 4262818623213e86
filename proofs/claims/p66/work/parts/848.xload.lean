section
/-! load without a throw -/
theorem gd_map {α β : Type} (f : α → β) (b : Bool) (x : Option α) : gd b (Option.map f x) = Option.map f (gd b x) := by cases b <;> rfl
theorem bd1_mapf {α β γ : Type} (f : β → γ) (x : Option α) (k : α → Option β) : (bd1 x fun a => Option.map f (k a)) = Option.map f (bd1 x k) := by cases x <;> rfl
theorem ld49_X : ∀ n Y l2, T11_load_b49 n Y l2 = Option.map Sum.inr (X11_load_b49 n Y l2) := by
  intro n
  induction n with
  | zero => intro Y l2; rfl
  | succ n ih =>
    intro Y l2
    rw [X11_load_b49.eq_2, T11_load_b49.eq_2]
    by_cases h : 2 ≤ l2
    · rw [if_pos h, if_pos h, lt_e, lt_e, ← gd_map, ← gd_map]; rfl
    · rw [if_neg h, if_neg h, lt_e, lt_e, ih, gd_map]
theorem load_X {Y Yc : Mem} {v : Int32} (h : T11_load Y = some (.inr (v, Yc))) : X11_load Y = some (v, Yc) := by
  unfold T11_load at h
  unfold X11_load
  cases hb : decide ((Y 0 0 0 10).toNatClampNeg < 2)
  · rw [hb] at h; cases h
  · rw [hb] at h
    rw [gd_t rfl, gd_t rfl] at h ⊢
    cases hr : X7_readInto Y ((Y 0 0 0 10).toNatClampNeg) with
    | none => rw [hr] at h; cases h
    | some Y5 =>
      rw [hr, bd1_e, lt_e] at h
      rw [bd1_e, lt_e]
      generalize up Y5 5 0 0 1 0 = Y6 at h ⊢
      unfold T11_requireNoError at h
      unfold X11_requireNoError
      by_cases e : Y6 6 0 0 4 = 0
      · rw [if_pos e, bdxv_r] at h
        rw [if_pos e, bd1_e]
        have hm : (gd (decide ((Y6 0 0 0 10).toNatClampNeg < 2)) <| bd1 (X3_open Y6 0 ((Y6 0 0 0 10).toNatClampNeg)) fun Y17 => gd (decide ((Y6 1 0 0 0).toNatClampNeg < 2)) <| lt_ (up Y17 0 0 0 10 (Int32.ofNat ((Y6 1 0 0 0).toNatClampNeg))) fun Y18 => T11_load_b49 FU Y18 0) = Option.map Sum.inr (gd (decide ((Y6 0 0 0 10).toNatClampNeg < 2)) <| bd1 (X3_open Y6 0 ((Y6 0 0 0 10).toNatClampNeg)) fun Y13 => gd (decide ((Y6 1 0 0 0).toNatClampNeg < 2)) <| lt_ (up Y13 0 0 0 10 (Int32.ofNat ((Y6 1 0 0 0).toNatClampNeg))) fun Y14 => X11_load_b49 FU Y14 0) := by
          rw [← gd_map, ← bd1_mapf]
          congr 1
          congr 1
          funext Y17
          rw [lt_e, lt_e, ld49_X, gd_map]
        rw [hm] at h
        obtain ⟨a, h1, h2⟩ := Option.map_eq_some_iff.mp h
        rw [h1, Sum.inr.inj h2]
      · rw [if_neg e] at h
        cases h
end
