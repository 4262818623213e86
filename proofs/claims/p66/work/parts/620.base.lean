/-! PHASE 2: reasoning about the decompiled methods, in numbers and bits. -/
theorem gd_t {α : Type} {b : Bool} {x : Option α} (h : b = true) : gd b x = x := if_pos h
theorem lt_e {α β : Type} (a : α) (k : α → Option β) : lt_ a k = k a := rfl
theorem bd1_e {α β : Type} (a : α) (k : α → Option β) : bd1 (some a) k = k a := rfl
theorem bd2_e {α β γ : Type} (a : α) (b : β) (k : α → β → Option γ) : bd2 (some (a, b)) k = k a b := rfl
theorem inb_n {j n : Nat} (h : j < n) (hn : n ≤ 2 ^ 31) : inb (nI j) n = true := by
  have h1 : j < 2 ^ 31 := Nat.lt_of_lt_of_le h hn
  unfold inb
  rw [nI_clamp h1, decide_eq_true h, decide_eq_true (nI_pos' h1)]
  rfl
theorem ix_n {j : Nat} (h : j < 2 ^ 31) : ix (nI j) = j := nI_clamp h
theorem litI (n : Nat) : (OfNat.ofNat n : Int32) = nI n := Eq.trans rfl rfl
theorem gdi {α : Type} {j n : Nat} {x : Option α} (h : j < n) (hn : n ≤ 2 ^ 31 := by decide) : gd (inb (nI j) n) x = x := gd_t (inb_n h hn)
theorem up_at (Y : Mem) (k g o j : Nat) (v : Int32) : up Y k g o j v k g o = upd (Y k g o) j v := by rw [up_eq, upR_at]
theorem upR_upR (Y : Mem) (k g o : Nat) (f h : Nat → Int32) : upR (upR Y k g o f) k g o h = upR Y k g o h := by
  funext k' g' o'
  unfold upR
  by_cases e : k' = k ∧ g' = g ∧ o' = o
  · simp only [if_pos e]
  · simp only [if_neg e]
theorem up_upR (Y : Mem) (k g o : Nat) (f : Nat → Int32) (j : Nat) (v : Int32) : up (upR Y k g o f) k g o j v = upR Y k g o (upd f j v) := by rw [up_eq, upR_at, upR_upR]
theorem upR_self (Y : Mem) (k g o : Nat) : upR Y k g o (Y k g o) = Y := by
  funext k' g' o'
  unfold upR
  by_cases e : k' = k ∧ g' = g ∧ o' = o
  · obtain ⟨rfl, rfl, rfl⟩ := e; simp
  · simp only [if_neg e]
theorem upR_o {Y : Mem} {k g o k' g' o' : Nat} {f : Nat → Int32} (h : ¬ (k' = k ∧ g' = g ∧ o' = o)) : upR Y k g o f k' g' o' = Y k' g' o' := upR_ne Y f h
def bI (b : Bool) : Int32 := if b then 1 else 0
theorem bI_t : bI true = 1 := rfl
theorem bI_f : bI false = 0 := rfl
theorem bI_0 (b : Bool) : bI b = 0 ↔ b = false := by cases b <;> decide
theorem bI_1 (b : Bool) : bI b = 1 ↔ b = true := by cases b <;> decide
theorem bI_ne {α : Type} (b : Bool) (x y : α) : (if bI b = 0 then x else y) = if b = true then y else x := by cases b <;> rfl
theorem bI_n {α : Type} (b : Bool) (x y : α) : (if bI b = nI 0 then x else y) = if b = true then y else x := by cases b <;> rfl
theorem FU_big : 5000 < FU := by decide
theorem upl {n : Nat} {P : Nat → Prop} (h0 : P n) (hs : ∀ i, i < n → P (i + 1) → P i) : ∀ i, i ≤ n → P i := by
  have : ∀ d i, i + d = n → P i := by
    intro d
    induction d with
    | zero => intro i hi; have : i = n := by omega
              subst this; exact h0
    | succ d ih => intro i hi; exact hs i (by omega) (ih (i + 1) (by omega))
  intro i hi
  exact this (n - i) i (by omega)
theorem fuel_s {n : Nat} {f : Nat} (h : n < f) : ∃ k, f = k + 1 := ⟨f - 1, by omega⟩
def anyB (p : Nat → Bool) : Nat → Bool
  | 0 => false
  | n + 1 => anyB p n || p n
theorem anyB_iff {p : Nat → Bool} : ∀ {n : Nat}, anyB p n = true ↔ ∃ i, i < n ∧ p i = true := by
  intro n
  induction n with
  | zero => exact ⟨fun h => (by cases h), fun ⟨i, h, _⟩ => (by omega)⟩
  | succ n ih =>
    unfold anyB
    rw [Bool.or_eq_true, ih]
    constructor
    · rintro (⟨i, h1, h2⟩ | h)
      · exact ⟨i, by omega, h2⟩
      · exact ⟨n, by omega, h⟩
    · rintro ⟨i, h1, h2⟩
      by_cases e : i = n
      · subst e; exact Or.inr h2
      · exact Or.inl ⟨i, by omega, h2⟩
theorem anyB_f {p : Nat → Bool} {n : Nat} : anyB p n = false ↔ ∀ i, i < n → p i = false := by
  constructor
  · intro h i hi
    cases hp : p i
    · rfl
    · rw [anyB_iff.mpr ⟨i, hi, hp⟩] at h; cases h
  · intro h
    cases ha : anyB p n
    · rfl
    · obtain ⟨i, h1, h2⟩ := anyB_iff.mp ha
      rw [h i h1] at h2; cases h2
theorem anyB_s (p : Nat → Bool) (n : Nat) : anyB p (n + 1) = (anyB p n || p n) := rfl
def cnt (p : Nat → Bool) : Nat → Nat
  | 0 => 0
  | n + 1 => cnt p n + (if p n then 1 else 0)
theorem cnt_s (p : Nat → Bool) (n : Nat) : cnt p (n + 1) = cnt p n + (if p n then 1 else 0) := rfl
theorem cnt_le (p : Nat → Bool) : ∀ n, cnt p n ≤ n := by
  intro n
  induction n with
  | zero => exact Nat.le_refl 0
  | succ n ih => unfold cnt; split <;> omega
def sm (a : Int32) (f : Nat → Int32) : Nat → Int32
  | 0 => a
  | n + 1 => sm a f n + f n
def fst1 (p : Nat → Bool) : Nat → Option Nat
  | 0 => none
  | n + 1 => match fst1 p n with
    | some i => some i
    | none => if p n then some n else none
theorem fst1_none {p : Nat → Bool} : ∀ {n : Nat}, fst1 p n = none ↔ ∀ i, i < n → p i = false := by
  intro n
  induction n with
  | zero => exact ⟨fun _ i h => (by omega), fun _ => rfl⟩
  | succ n ih =>
    unfold fst1
    cases h : fst1 p n with
    | some i =>
      simp only [reduceCtorEq, false_iff]
      intro q
      have := ih.mpr (fun i hi => q i (by omega))
      rw [h] at this; cases this
    | none =>
      have h2 := ih.mp h
      cases hp : p n
      · simp only [Bool.false_eq_true, if_false, true_iff]
        intro i hi
        by_cases e : i = n
        · subst e; exact hp
        · exact h2 i (by omega)
      · simp only [if_true, reduceCtorEq, false_iff]
        intro q
        rw [q n (by omega)] at hp; cases hp
theorem fst1_some {p : Nat → Bool} : ∀ {n j : Nat}, fst1 p n = some j ↔ (j < n ∧ p j = true ∧ ∀ i, i < j → p i = false) := by
  intro n
  induction n with
  | zero => intro j; exact ⟨fun h => (by cases h), fun h => (by omega)⟩
  | succ n ih =>
    intro j
    unfold fst1
    cases h : fst1 p n with
    | some i =>
      have h1 := ih.mp h
      simp only [Option.some.injEq]
      constructor
      · rintro rfl; exact ⟨by omega, h1.2.1, h1.2.2⟩
      · rintro ⟨q1, q2, q3⟩
        by_cases e : i < j
        · rw [q3 i e] at h1; cases h1.2.1
        · by_cases e2 : j < i
          · rw [h1.2.2 j e2] at q2; cases q2
          · omega
    | none =>
      have h2 := fst1_none.mp h
      cases hp : p n
      · simp only [Bool.false_eq_true, if_false, reduceCtorEq, false_iff]
        rintro ⟨q1, q2, -⟩
        by_cases e : j = n
        · subst e; rw [hp] at q2; cases q2
        · rw [h2 j (by omega)] at q2; cases q2
      · simp only [if_true, Option.some.injEq]
        constructor
        · rintro rfl; exact ⟨by omega, hp, h2⟩
        · rintro ⟨q1, q2, q3⟩
          by_cases e : j = n
          · exact e.symm
          · rw [h2 j (by omega)] at q2; cases q2
/-- a number or -1 -/
def oI (o : Option Nat) : Int32 := match o with
  | none => -1
  | some i => nI i
/-! the model's array -/
def fld (m : Nat → Int32) (s w : Nat) : Int32 := m (46 + s * 24 + w)
def nS (m : Nat → Int32) : Nat := (m 13).toNatClampNeg
def nP (m : Nat → Int32) : Nat := (m 12).toNatClampNeg
def np (m : Nat → Int32) (s : Nat) : Nat := (fld m s 12).toNatClampNeg
def pr (m : Nat → Int32) (s k : Nat) : Nat := (fld m s (13 + k)).toNatClampNeg
/-- the recipe in a block is a recipe -/
def WF (m : Nat → Int32) : Prop :=
  m 13 = nI (nS m) ∧ nS m ≤ 14 ∧ m 12 = nI (nP m) ∧ nP m ≤ 4 ∧
  (∀ s, s < nS m → fld m s 12 = nI (np m s) ∧ np m s ≤ 4) ∧
  (∀ s, s < nS m → ∀ k, k < np m s → fld m s (13 + k) = nI (pr m s k) ∧ pr m s k < s) ∧
  (∀ s, s < nS m → fld m s 9 = -1 ∨ ∃ q, q < nP m ∧ fld m s 9 = nI q)
def isPred (m : Nat → Int32) (p s : Nat) : Bool := anyB (fun k => pr m s k == p) (np m s)
def hasSucc (m : Nat → Int32) (s : Nat) (u v : Int32) : Bool := anyB (fun k => decide (s < k) && isPred m s k && (fld m k 17 == u || fld m k 17 == v)) (nS m)
