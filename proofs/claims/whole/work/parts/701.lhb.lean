/-! PHASE 3: THE LAW'S HELPERS: what they share -/
abbrev lawG : List (Nat × Nat) := allG ++ [(10, 0), (11, 0)]
theorem lawG_0 : (0, 0) ∈ lawG := by decide
theorem lawG_10 : (10, 0) ∈ lawG := by decide
theorem lawG_11 : (11, 0) ∈ lawG := by decide
def hR (f : Nat → Int32) : (Nat × Mem) ⊕ (Int32 × Mem) → Int32
  | .inl u => f u.1
  | .inr _ => 0
def hM : (Nat × Mem) ⊕ (Int32 × Mem) → Mem
  | .inl u => u.2
  | .inr u => up u.2 11 0 0 0 u.1
def hMb : (Nat × Mem) ⊕ (Int32 × Mem) → Mem
  | .inl u => u.2
  | .inr u => up u.2 11 0 0 0 (if u.1 = 0 then 0 else 1)
theorem hMb_1 {v : Int32} {Y1 : Mem} (h : ¬ v = 0) : hMb (.inr (v, Y1)) = up Y1 11 0 0 0 1 := by
  show up Y1 11 0 0 0 (if v = 0 then 0 else 1) = _
  rw [if_neg h]
theorem goodIn_l {A B W : List Cond} (h : GoodIn A W) : GoodIn (A ++ B) W := fun w hw => ⟨List.mem_append_left _ (h w hw).1, (h w hw).2⟩
theorem cst_1 : Cond.castable "java/lang/IllegalStateException" "java/lang/IllegalStateException" ∈ nestL := by decide +kernel
theorem cst_2 : Cond.castable "java/lang/IllegalArgumentException" "java/lang/IllegalArgumentException" ∈ nestL := by decide +kernel
theorem cst_3 : Cond.castable "java/lang/IndexOutOfBoundsException" "java/lang/IndexOutOfBoundsException" ∈ nestL := by decide +kernel
theorem cst_4 : Cond.castable "java/util/NoSuchElementException" "java/util/NoSuchElementException" ∈ nestL := by decide +kernel
theorem c3_inv {n : Nat} (h : c3 n ≠ 0) : n = 3 := by
  unfold c3 at h
  by_cases e : n = 3
  · exact e
  · rw [if_neg e] at h; exact absurd rfl h
theorem c4_inv {n : Nat} (h : c4 n ≠ 0) : n = 4 := by
  unfold c4 at h
  by_cases e : n = 4
  · exact e
  · rw [if_neg e] at h; exact absurd rfl h
theorem c2__inv {n : Nat} (h : c2_ n ≠ 0) : n = 2 := by
  unfold c2_ at h
  by_cases e : n = 2
  · exact e
  · rw [if_neg e] at h; exact absurd rfl h
theorem c1__inv {n : Nat} (h : c1_ n ≠ 0) : n = 1 := by
  unfold c1_ at h
  by_cases e : n = 1
  · exact e
  · rw [if_neg e] at h; exact absurd rfl h
theorem c32_inv {n : Nat} (h : c32 n ≠ 0) : n = 3 ∨ n = 2 := by
  unfold c32 at h
  by_cases e : n = 3
  · exact Or.inl e
  · by_cases e2 : n = 2
    · exact Or.inr e2
    · rw [if_neg e, if_neg e2] at h; exact absurd rfl h
theorem c21_inv {n : Nat} (h : c21 n ≠ 0) : n = 2 ∨ n = 1 := by
  unfold c21 at h
  by_cases e : n = 2
  · exact Or.inl e
  · by_cases e2 : n = 1
    · exact Or.inr e2
    · rw [if_neg e, if_neg e2] at h; exact absurd rfl h
theorem c31_inv {n : Nat} (h : c31 n ≠ 0) : n = 3 ∨ n = 1 := by
  unfold c31 at h
  by_cases e : n = 3
  · exact Or.inl e
  · by_cases e2 : n = 1
    · exact Or.inr e2
    · rw [if_neg e, if_neg e2] at h; exact absurd rfl h
