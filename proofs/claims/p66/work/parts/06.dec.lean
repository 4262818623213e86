/-! THE DECOMPILER'S WORDS -/
def gd {α : Type} (b : Bool) (x : Option α) : Option α := if b = true then x else none
theorem gd_some {α : Type} {b : Bool} {x : Option α} {r : α} (h : gd b x = some r) : b = true ∧ x = some r := by
  unfold gd at h
  by_cases hb : b = true
  · rw [if_pos hb] at h; exact ⟨hb, h⟩
  · rw [if_neg hb] at h; cases h
def lt_ {α β : Type} (a : α) (k : α → Option β) : Option β := k a
theorem lt_some {α β : Type} {a : α} {k : α → Option β} {r : β} (h : lt_ a k = some r) : ∃ x, a = x ∧ k x = some r := ⟨a, rfl, h⟩
def bd1 {α β : Type} (o : Option α) (k : α → Option β) : Option β := match o with
  | none => none
  | some a => k a
theorem bd1_some {α β : Type} {o : Option α} {k : α → Option β} {r : β} (h : bd1 o k = some r) : ∃ x, o = some x ∧ k x = some r := by
  cases o with
  | none => cases h
  | some a => exact ⟨a, rfl, h⟩
def bd2 {α β γ : Type} (o : Option (α × β)) (k : α → β → Option γ) : Option γ := match o with
  | none => none
  | some a => k a.1 a.2
theorem bd2_some {α β γ : Type} {o : Option (α × β)} {k : α → β → Option γ} {r : γ} (h : bd2 o k = some r) : ∃ x y, o = some (x, y) ∧ k x y = some r := by
  cases o with
  | none => cases h
  | some a => exact ⟨a.1, a.2, rfl, h⟩
theorem ite_t {α : Type} {c : Prop} [Decidable c] {a b : Option α} {r : α} (hc : c) (h : (if c then a else b) = some r) : a = some r := by rw [if_pos hc] at h; exact h
theorem ite_f {α : Type} {c : Prop} [Decidable c] {a b : Option α} {r : α} (hc : ¬ c) (h : (if c then a else b) = some r) : b = some r := by rw [if_neg hc] at h; exact h
def FU : Nat := 100000
abbrev ix (i : Int32) : Nat := i.toNatClampNeg
def inb (i : Int32) (n : Nat) : Bool := decide (0 ≤ i) && decide (i.toNatClampNeg < n)
theorem lt17 {i : Nat} (h : i < 16) : i < 17 := by omega
theorem inb_lt {i : Int32} {n : Nat} (h : inb i n = true) : ix i < n := by
  unfold inb at h
  rw [Bool.and_eq_true] at h
  exact of_decide_eq_true h.2
theorem inb_ge {i : Int32} {n : Nat} (h : inb i n = true) : 0 ≤ i := by
  unfold inb at h
  rw [Bool.and_eq_true] at h
  exact of_decide_eq_true h.1
theorem inb_nI {i : Int32} {n : Nat} (h : inb i n = true) : i = nI (ix i) := by
  have h0 := inb_ge h
  obtain ⟨j, hj, rfl⟩ := nI_of (x := i) (by rw [Int32.not_lt]; exact h0)
  rw [ix, nI_clamp hj]
def us (x y : Int32) : Int32 := (x.toUInt32 >>> (y.toUInt32 &&& Int32.toUInt32 31)).toInt32
theorem nz_ok {v : Int32} (h : v = 0 ∨ v = 1) : narrow .boolean (.int v) = .int v := by
  cases h with
  | inl h => subst h; rfl
  | inr h => subst h; rfl
theorem nz_fit {v : Int32} (h : v = 0 ∨ v = 1) : fits .boolean (.int v) = true := by
  cases h with
  | inl h => subst h; rfl
  | inr h => subst h; rfl
theorem ga0 {α : Type} {P : α → Prop} : ∀ q ∈ ([] : List α), P q := fun _ h => by cases h
theorem gac {α : Type} {P : α → Prop} {a : α} {l : List α} (h : P a) (hl : ∀ q ∈ l, P q) : ∀ q ∈ a :: l, P q := fun q hq => by
  cases hq with
  | head => exact h
  | tail _ h2 => exact hl q h2
abbrev allG : List (Nat × Nat) := [(0, 0), (1, 0), (1, 1), (2, 0), (2, 1), (2, 2), (2, 3), (2, 4), (2, 5), (2, 6), (2, 7), (2, 8), (2, 9), (3, 0), (3, 1), (4, 0), (4, 1), (4, 2), (4, 3), (5, 0), (5, 1), (6, 0), (7, 0), (8, 0), (9, 0)]
theorem allG_1 {g : Nat} (h : g < 2) : (1, g) ∈ allG := by
  match g, h with
  | 0, _ => decide
  | 1, _ => decide
theorem allG_2 {g : Nat} (h : g < 10) : (2, g) ∈ allG := by
  match g, h with
  | 0, _ => decide
  | 1, _ => decide
  | 2, _ => decide
  | 3, _ => decide
  | 4, _ => decide
  | 5, _ => decide
  | 6, _ => decide
  | 7, _ => decide
  | 8, _ => decide
  | 9, _ => decide
theorem allG_3 {g : Nat} (h : g < 2) : (3, g) ∈ allG := by
  match g, h with
  | 0, _ => decide
  | 1, _ => decide
theorem allG_4a {g : Nat} (h : g < 2) : (4, 2 * g) ∈ allG := by
  match g, h with
  | 0, _ => decide
  | 1, _ => decide
theorem allG_4b {g : Nat} (h : g < 2) : (4, 2 * g + 1) ∈ allG := by
  match g, h with
  | 0, _ => decide
  | 1, _ => decide
theorem ncap_lt (g : Nat) : ncap g < 2 ^ 31 := by
  unfold ncap
  by_cases h : g % 2 = 0
  · rw [if_pos h]; decide
  · rw [if_neg h]; decide
theorem tcap_lt (g : Nat) : tcap g < 2 ^ 31 := by
  unfold tcap
  by_cases h : g = 0
  · rw [if_pos h]; decide
  · rw [if_neg h]; decide
theorem ce0 (T : Nat → ClassId) (ad : Nat → Nat → Nat → Nat) (g : Nat) (y : Nat → Int32) : cell T ad 0 g 0 y = .inr (11, [.ref (ad 5 0 0), .ref (ad 5 1 0), .ref (ad 6 0 0), .ref (ad 7 0 0), .ref (ad 8 0 0), .ref (ad 1 0 0), .ref (ad 1 1 0), .ref (ad 9 0 0), .ref (ad 0 0 1), .ref (ad 0 0 2), .ref (ad 3 (y 10).toNatClampNeg 0)]) := rfl
theorem ce0_put10 (T : Nat → ClassId) (ad : Nat → Nat → Nat → Nat) (g : Nat) (y : Nat → Int32) (v : Nat) (h : v < 2) : .inr (11, [.ref (ad 5 0 0), .ref (ad 5 1 0), .ref (ad 6 0 0), .ref (ad 7 0 0), .ref (ad 8 0 0), .ref (ad 1 0 0), .ref (ad 1 1 0), .ref (ad 9 0 0), .ref (ad 0 0 1), .ref (ad 0 0 2), .ref (ad 3 (y 10).toNatClampNeg 0)].set 10 (.ref (ad 3 v 0))) = cell T ad 0 g 0 (upd y 10 (Int32.ofNat v)) := by
  have e : (Int32.ofNat v).toNatClampNeg = v := nI_clamp (n := v) (by omega)
  show _ = cell T ad 0 g 0 (upd y 10 (Int32.ofNat v))
  rw [ce0]
  simp [upd, e]
theorem ce1 (T : Nat → ClassId) (ad : Nat → Nat → Nat → Nat) (g : Nat) (y : Nat → Int32) : cell T ad 1 g 0 y = .inr (3, [.ref (ad 3 (y 0).toNatClampNeg 0), .ref (ad 2 g 0), .ref (ad 1 g 1), .ref (ad 1 g 2), .ref (ad 1 g 3)]) := rfl
theorem ce1_put0 (T : Nat → ClassId) (ad : Nat → Nat → Nat → Nat) (g : Nat) (y : Nat → Int32) (v : Nat) (h : v < 2) : .inr (3, [.ref (ad 3 (y 0).toNatClampNeg 0), .ref (ad 2 g 0), .ref (ad 1 g 1), .ref (ad 1 g 2), .ref (ad 1 g 3)].set 0 (.ref (ad 3 v 0))) = cell T ad 1 g 0 (upd y 0 (Int32.ofNat v)) := by
  have e : (Int32.ofNat v).toNatClampNeg = v := nI_clamp (n := v) (by omega)
  show _ = cell T ad 1 g 0 (upd y 0 (Int32.ofNat v))
  rw [ce1]
  simp [upd, e]
theorem ce2 (T : Nat → ClassId) (ad : Nat → Nat → Nat → Nat) (g : Nat) (y : Nat → Int32) : cell T ad 2 g 0 y = .inr (8, [.int (y 0), .int (y 1), .int (y 2), .int (y 3), .int (y 4), .int (y 5), .int (y 6), .int (y 7), .int (y 8), .ref (ad 2 g 1), .ref (ad 2 g 2), .ref (ad 2 g 3), .ref (ad 2 g 4), .ref (ad 2 g 5), .ref (ad 2 g 6)]) := rfl
theorem ce2_put0 (T : Nat → ClassId) (ad : Nat → Nat → Nat → Nat) (g : Nat) (y : Nat → Int32) (v : Int32) : .inr (8, [.int (y 0), .int (y 1), .int (y 2), .int (y 3), .int (y 4), .int (y 5), .int (y 6), .int (y 7), .int (y 8), .ref (ad 2 g 1), .ref (ad 2 g 2), .ref (ad 2 g 3), .ref (ad 2 g 4), .ref (ad 2 g 5), .ref (ad 2 g 6)].set 0 (.int v)) = cell T ad 2 g 0 (upd y 0 v) := rfl
theorem ce2_put1 (T : Nat → ClassId) (ad : Nat → Nat → Nat → Nat) (g : Nat) (y : Nat → Int32) (v : Int32) : .inr (8, [.int (y 0), .int (y 1), .int (y 2), .int (y 3), .int (y 4), .int (y 5), .int (y 6), .int (y 7), .int (y 8), .ref (ad 2 g 1), .ref (ad 2 g 2), .ref (ad 2 g 3), .ref (ad 2 g 4), .ref (ad 2 g 5), .ref (ad 2 g 6)].set 1 (.int v)) = cell T ad 2 g 0 (upd y 1 v) := rfl
theorem ce2_put2 (T : Nat → ClassId) (ad : Nat → Nat → Nat → Nat) (g : Nat) (y : Nat → Int32) (v : Int32) : .inr (8, [.int (y 0), .int (y 1), .int (y 2), .int (y 3), .int (y 4), .int (y 5), .int (y 6), .int (y 7), .int (y 8), .ref (ad 2 g 1), .ref (ad 2 g 2), .ref (ad 2 g 3), .ref (ad 2 g 4), .ref (ad 2 g 5), .ref (ad 2 g 6)].set 2 (.int v)) = cell T ad 2 g 0 (upd y 2 v) := rfl
theorem ce2_put3 (T : Nat → ClassId) (ad : Nat → Nat → Nat → Nat) (g : Nat) (y : Nat → Int32) (v : Int32) : .inr (8, [.int (y 0), .int (y 1), .int (y 2), .int (y 3), .int (y 4), .int (y 5), .int (y 6), .int (y 7), .int (y 8), .ref (ad 2 g 1), .ref (ad 2 g 2), .ref (ad 2 g 3), .ref (ad 2 g 4), .ref (ad 2 g 5), .ref (ad 2 g 6)].set 3 (.int v)) = cell T ad 2 g 0 (upd y 3 v) := rfl
theorem ce2_put4 (T : Nat → ClassId) (ad : Nat → Nat → Nat → Nat) (g : Nat) (y : Nat → Int32) (v : Int32) : .inr (8, [.int (y 0), .int (y 1), .int (y 2), .int (y 3), .int (y 4), .int (y 5), .int (y 6), .int (y 7), .int (y 8), .ref (ad 2 g 1), .ref (ad 2 g 2), .ref (ad 2 g 3), .ref (ad 2 g 4), .ref (ad 2 g 5), .ref (ad 2 g 6)].set 4 (.int v)) = cell T ad 2 g 0 (upd y 4 v) := rfl
theorem ce2_put5 (T : Nat → ClassId) (ad : Nat → Nat → Nat → Nat) (g : Nat) (y : Nat → Int32) (v : Int32) : .inr (8, [.int (y 0), .int (y 1), .int (y 2), .int (y 3), .int (y 4), .int (y 5), .int (y 6), .int (y 7), .int (y 8), .ref (ad 2 g 1), .ref (ad 2 g 2), .ref (ad 2 g 3), .ref (ad 2 g 4), .ref (ad 2 g 5), .ref (ad 2 g 6)].set 5 (.int v)) = cell T ad 2 g 0 (upd y 5 v) := rfl
theorem ce2_put6 (T : Nat → ClassId) (ad : Nat → Nat → Nat → Nat) (g : Nat) (y : Nat → Int32) (v : Int32) : .inr (8, [.int (y 0), .int (y 1), .int (y 2), .int (y 3), .int (y 4), .int (y 5), .int (y 6), .int (y 7), .int (y 8), .ref (ad 2 g 1), .ref (ad 2 g 2), .ref (ad 2 g 3), .ref (ad 2 g 4), .ref (ad 2 g 5), .ref (ad 2 g 6)].set 6 (.int v)) = cell T ad 2 g 0 (upd y 6 v) := rfl
theorem ce2_put7 (T : Nat → ClassId) (ad : Nat → Nat → Nat → Nat) (g : Nat) (y : Nat → Int32) (v : Int32) : .inr (8, [.int (y 0), .int (y 1), .int (y 2), .int (y 3), .int (y 4), .int (y 5), .int (y 6), .int (y 7), .int (y 8), .ref (ad 2 g 1), .ref (ad 2 g 2), .ref (ad 2 g 3), .ref (ad 2 g 4), .ref (ad 2 g 5), .ref (ad 2 g 6)].set 7 (.int v)) = cell T ad 2 g 0 (upd y 7 v) := rfl
theorem ce2_put8 (T : Nat → ClassId) (ad : Nat → Nat → Nat → Nat) (g : Nat) (y : Nat → Int32) (v : Int32) : .inr (8, [.int (y 0), .int (y 1), .int (y 2), .int (y 3), .int (y 4), .int (y 5), .int (y 6), .int (y 7), .int (y 8), .ref (ad 2 g 1), .ref (ad 2 g 2), .ref (ad 2 g 3), .ref (ad 2 g 4), .ref (ad 2 g 5), .ref (ad 2 g 6)].set 8 (.int v)) = cell T ad 2 g 0 (upd y 8 v) := rfl
theorem ce3 (T : Nat → ClassId) (ad : Nat → Nat → Nat → Nat) (g : Nat) (y : Nat → Int32) : cell T ad 3 g 0 y = .inr (5, [.int (y 0), .int (y 1), .int (y 2), .int (y 3), .ref (ad 4 (2 * g) 0), .ref (ad 3 g 1), .ref (ad 3 g 2), .ref (ad 4 (2 * g + 1) 0), .ref (ad 3 g 3), .ref (ad 3 g 4), .ref (ad 3 g 5), .ref (ad 3 g 6), .ref (ad 3 g 7), .ref (ad 3 g 8), .ref (ad 3 g 9), .int (y 15), .int (y 16)]) := rfl
theorem ce3_put0 (T : Nat → ClassId) (ad : Nat → Nat → Nat → Nat) (g : Nat) (y : Nat → Int32) (v : Int32) : .inr (5, [.int (y 0), .int (y 1), .int (y 2), .int (y 3), .ref (ad 4 (2 * g) 0), .ref (ad 3 g 1), .ref (ad 3 g 2), .ref (ad 4 (2 * g + 1) 0), .ref (ad 3 g 3), .ref (ad 3 g 4), .ref (ad 3 g 5), .ref (ad 3 g 6), .ref (ad 3 g 7), .ref (ad 3 g 8), .ref (ad 3 g 9), .int (y 15), .int (y 16)].set 0 (.int v)) = cell T ad 3 g 0 (upd y 0 v) := rfl
theorem ce3_put1 (T : Nat → ClassId) (ad : Nat → Nat → Nat → Nat) (g : Nat) (y : Nat → Int32) (v : Int32) : .inr (5, [.int (y 0), .int (y 1), .int (y 2), .int (y 3), .ref (ad 4 (2 * g) 0), .ref (ad 3 g 1), .ref (ad 3 g 2), .ref (ad 4 (2 * g + 1) 0), .ref (ad 3 g 3), .ref (ad 3 g 4), .ref (ad 3 g 5), .ref (ad 3 g 6), .ref (ad 3 g 7), .ref (ad 3 g 8), .ref (ad 3 g 9), .int (y 15), .int (y 16)].set 1 (.int v)) = cell T ad 3 g 0 (upd y 1 v) := rfl
theorem ce3_put2 (T : Nat → ClassId) (ad : Nat → Nat → Nat → Nat) (g : Nat) (y : Nat → Int32) (v : Int32) : .inr (5, [.int (y 0), .int (y 1), .int (y 2), .int (y 3), .ref (ad 4 (2 * g) 0), .ref (ad 3 g 1), .ref (ad 3 g 2), .ref (ad 4 (2 * g + 1) 0), .ref (ad 3 g 3), .ref (ad 3 g 4), .ref (ad 3 g 5), .ref (ad 3 g 6), .ref (ad 3 g 7), .ref (ad 3 g 8), .ref (ad 3 g 9), .int (y 15), .int (y 16)].set 2 (.int v)) = cell T ad 3 g 0 (upd y 2 v) := rfl
theorem ce3_put3 (T : Nat → ClassId) (ad : Nat → Nat → Nat → Nat) (g : Nat) (y : Nat → Int32) (v : Int32) : .inr (5, [.int (y 0), .int (y 1), .int (y 2), .int (y 3), .ref (ad 4 (2 * g) 0), .ref (ad 3 g 1), .ref (ad 3 g 2), .ref (ad 4 (2 * g + 1) 0), .ref (ad 3 g 3), .ref (ad 3 g 4), .ref (ad 3 g 5), .ref (ad 3 g 6), .ref (ad 3 g 7), .ref (ad 3 g 8), .ref (ad 3 g 9), .int (y 15), .int (y 16)].set 3 (.int v)) = cell T ad 3 g 0 (upd y 3 v) := rfl
theorem ce3_put15 (T : Nat → ClassId) (ad : Nat → Nat → Nat → Nat) (g : Nat) (y : Nat → Int32) (v : Int32) : .inr (5, [.int (y 0), .int (y 1), .int (y 2), .int (y 3), .ref (ad 4 (2 * g) 0), .ref (ad 3 g 1), .ref (ad 3 g 2), .ref (ad 4 (2 * g + 1) 0), .ref (ad 3 g 3), .ref (ad 3 g 4), .ref (ad 3 g 5), .ref (ad 3 g 6), .ref (ad 3 g 7), .ref (ad 3 g 8), .ref (ad 3 g 9), .int (y 15), .int (y 16)].set 15 (.int v)) = cell T ad 3 g 0 (upd y 15 v) := rfl
theorem ce3_put16 (T : Nat → ClassId) (ad : Nat → Nat → Nat → Nat) (g : Nat) (y : Nat → Int32) (v : Int32) : .inr (5, [.int (y 0), .int (y 1), .int (y 2), .int (y 3), .ref (ad 4 (2 * g) 0), .ref (ad 3 g 1), .ref (ad 3 g 2), .ref (ad 4 (2 * g + 1) 0), .ref (ad 3 g 3), .ref (ad 3 g 4), .ref (ad 3 g 5), .ref (ad 3 g 6), .ref (ad 3 g 7), .ref (ad 3 g 8), .ref (ad 3 g 9), .int (y 15), .int (y 16)].set 16 (.int v)) = cell T ad 3 g 0 (upd y 16 v) := rfl
theorem ce4 (T : Nat → ClassId) (ad : Nat → Nat → Nat → Nat) (g : Nat) (y : Nat → Int32) : cell T ad 4 g 0 y = .inr (4, [.ref (ad 4 g 1), .ref (ad 4 g 2), .int (y 2)]) := rfl
theorem ce4_put2 (T : Nat → ClassId) (ad : Nat → Nat → Nat → Nat) (g : Nat) (y : Nat → Int32) (v : Int32) : .inr (4, [.ref (ad 4 g 1), .ref (ad 4 g 2), .int (y 2)].set 2 (.int v)) = cell T ad 4 g 0 (upd y 2 v) := rfl
theorem ce5 (T : Nat → ClassId) (ad : Nat → Nat → Nat → Nat) (g : Nat) (y : Nat → Int32) : cell T ad 5 g 0 y = .inr (9, [.ref (ad 5 g 1), .int (y 1)]) := rfl
theorem ce5_put1 (T : Nat → ClassId) (ad : Nat → Nat → Nat → Nat) (g : Nat) (y : Nat → Int32) (v : Int32) : .inr (9, [.ref (ad 5 g 1), .int (y 1)].set 1 (.int v)) = cell T ad 5 g 0 (upd y 1 v) := rfl
theorem ce6 (T : Nat → ClassId) (ad : Nat → Nat → Nat → Nat) (g : Nat) (y : Nat → Int32) : cell T ad 6 g 0 y = .inr (10, [.ref (ad 5 0 0), .int (y 1), .int (y 2), .int (y 3), .int (y 4), .int (y 5)]) := rfl
theorem ce6_put1 (T : Nat → ClassId) (ad : Nat → Nat → Nat → Nat) (g : Nat) (y : Nat → Int32) (v : Int32) : .inr (10, [.ref (ad 5 0 0), .int (y 1), .int (y 2), .int (y 3), .int (y 4), .int (y 5)].set 1 (.int v)) = cell T ad 6 g 0 (upd y 1 v) := rfl
theorem ce6_put2 (T : Nat → ClassId) (ad : Nat → Nat → Nat → Nat) (g : Nat) (y : Nat → Int32) (v : Int32) : .inr (10, [.ref (ad 5 0 0), .int (y 1), .int (y 2), .int (y 3), .int (y 4), .int (y 5)].set 2 (.int v)) = cell T ad 6 g 0 (upd y 2 v) := rfl
theorem ce6_put3 (T : Nat → ClassId) (ad : Nat → Nat → Nat → Nat) (g : Nat) (y : Nat → Int32) (v : Int32) : .inr (10, [.ref (ad 5 0 0), .int (y 1), .int (y 2), .int (y 3), .int (y 4), .int (y 5)].set 3 (.int v)) = cell T ad 6 g 0 (upd y 3 v) := rfl
theorem ce6_put4 (T : Nat → ClassId) (ad : Nat → Nat → Nat → Nat) (g : Nat) (y : Nat → Int32) (v : Int32) : .inr (10, [.ref (ad 5 0 0), .int (y 1), .int (y 2), .int (y 3), .int (y 4), .int (y 5)].set 4 (.int v)) = cell T ad 6 g 0 (upd y 4 v) := rfl
theorem ce6_put5 (T : Nat → ClassId) (ad : Nat → Nat → Nat → Nat) (g : Nat) (y : Nat → Int32) (v : Int32) : .inr (10, [.ref (ad 5 0 0), .int (y 1), .int (y 2), .int (y 3), .int (y 4), .int (y 5)].set 5 (.int v)) = cell T ad 6 g 0 (upd y 5 v) := rfl
theorem ce7 (T : Nat → ClassId) (ad : Nat → Nat → Nat → Nat) (g : Nat) (y : Nat → Int32) : cell T ad 7 g 0 y = .inr (7, [.ref (ad 6 0 0)]) := rfl
theorem ce8 (T : Nat → ClassId) (ad : Nat → Nat → Nat → Nat) (g : Nat) (y : Nat → Int32) : cell T ad 8 g 0 y = .inr (6, [.ref (ad 6 0 0), .ref (ad 8 0 1), .ref (ad 8 0 2), .ref (ad 8 0 3), .int (y 4)]) := rfl
theorem ce8_put4 (T : Nat → ClassId) (ad : Nat → Nat → Nat → Nat) (g : Nat) (y : Nat → Int32) (v : Int32) : .inr (6, [.ref (ad 6 0 0), .ref (ad 8 0 1), .ref (ad 8 0 2), .ref (ad 8 0 3), .int (y 4)].set 4 (.int v)) = cell T ad 8 g 0 (upd y 4 v) := rfl
theorem ce9 (T : Nat → ClassId) (ad : Nat → Nat → Nat → Nat) (g : Nat) (y : Nat → Int32) : cell T ad 9 g 0 y = .inr (2, [.ref (ad 9 0 1), .int (y 1), .int (y 2)]) := rfl
theorem ce9_put1 (T : Nat → ClassId) (ad : Nat → Nat → Nat → Nat) (g : Nat) (y : Nat → Int32) (v : Int32) : .inr (2, [.ref (ad 9 0 1), .int (y 1), .int (y 2)].set 1 (.int v)) = cell T ad 9 g 0 (upd y 1 v) := rfl
theorem ce9_put2 (T : Nat → ClassId) (ad : Nat → Nat → Nat → Nat) (g : Nat) (y : Nat → Int32) (v : Int32) : .inr (2, [.ref (ad 9 0 1), .int (y 1), .int (y 2)].set 2 (.int v)) = cell T ad 9 g 0 (upd y 2 v) := rfl
theorem ce12 (T : Nat → ClassId) (ad : Nat → Nat → Nat → Nat) (g : Nat) (y : Nat → Int32) : cell T ad 12 g 0 y = .inr (12, [.ref (ad 0 0 0), .int (y 1), .int (y 2), .ref (ad 12 0 1), .ref (ad 12 0 2), .ref (ad 12 0 3), .ref (ad 12 0 4), .int (y 7), .int (y 8), .int (y 9), .int (y 10), .int (y 11)]) := rfl
theorem ce12_put1 (T : Nat → ClassId) (ad : Nat → Nat → Nat → Nat) (g : Nat) (y : Nat → Int32) (v : Int32) : .inr (12, [.ref (ad 0 0 0), .int (y 1), .int (y 2), .ref (ad 12 0 1), .ref (ad 12 0 2), .ref (ad 12 0 3), .ref (ad 12 0 4), .int (y 7), .int (y 8), .int (y 9), .int (y 10), .int (y 11)].set 1 (.int v)) = cell T ad 12 g 0 (upd y 1 v) := rfl
theorem ce12_put2 (T : Nat → ClassId) (ad : Nat → Nat → Nat → Nat) (g : Nat) (y : Nat → Int32) (v : Int32) : .inr (12, [.ref (ad 0 0 0), .int (y 1), .int (y 2), .ref (ad 12 0 1), .ref (ad 12 0 2), .ref (ad 12 0 3), .ref (ad 12 0 4), .int (y 7), .int (y 8), .int (y 9), .int (y 10), .int (y 11)].set 2 (.int v)) = cell T ad 12 g 0 (upd y 2 v) := rfl
theorem ce12_put7 (T : Nat → ClassId) (ad : Nat → Nat → Nat → Nat) (g : Nat) (y : Nat → Int32) (v : Int32) : .inr (12, [.ref (ad 0 0 0), .int (y 1), .int (y 2), .ref (ad 12 0 1), .ref (ad 12 0 2), .ref (ad 12 0 3), .ref (ad 12 0 4), .int (y 7), .int (y 8), .int (y 9), .int (y 10), .int (y 11)].set 7 (.int v)) = cell T ad 12 g 0 (upd y 7 v) := rfl
theorem ce12_put8 (T : Nat → ClassId) (ad : Nat → Nat → Nat → Nat) (g : Nat) (y : Nat → Int32) (v : Int32) : .inr (12, [.ref (ad 0 0 0), .int (y 1), .int (y 2), .ref (ad 12 0 1), .ref (ad 12 0 2), .ref (ad 12 0 3), .ref (ad 12 0 4), .int (y 7), .int (y 8), .int (y 9), .int (y 10), .int (y 11)].set 8 (.int v)) = cell T ad 12 g 0 (upd y 8 v) := rfl
theorem ce12_put9 (T : Nat → ClassId) (ad : Nat → Nat → Nat → Nat) (g : Nat) (y : Nat → Int32) (v : Int32) : .inr (12, [.ref (ad 0 0 0), .int (y 1), .int (y 2), .ref (ad 12 0 1), .ref (ad 12 0 2), .ref (ad 12 0 3), .ref (ad 12 0 4), .int (y 7), .int (y 8), .int (y 9), .int (y 10), .int (y 11)].set 9 (.int v)) = cell T ad 12 g 0 (upd y 9 v) := rfl
theorem ce12_put10 (T : Nat → ClassId) (ad : Nat → Nat → Nat → Nat) (g : Nat) (y : Nat → Int32) (v : Int32) : .inr (12, [.ref (ad 0 0 0), .int (y 1), .int (y 2), .ref (ad 12 0 1), .ref (ad 12 0 2), .ref (ad 12 0 3), .ref (ad 12 0 4), .int (y 7), .int (y 8), .int (y 9), .int (y 10), .int (y 11)].set 10 (.int v)) = cell T ad 12 g 0 (upd y 10 v) := rfl
theorem ce12_put11 (T : Nat → ClassId) (ad : Nat → Nat → Nat → Nat) (g : Nat) (y : Nat → Int32) (v : Int32) : .inr (12, [.ref (ad 0 0 0), .int (y 1), .int (y 2), .ref (ad 12 0 1), .ref (ad 12 0 2), .ref (ad 12 0 3), .ref (ad 12 0 4), .int (y 7), .int (y 8), .int (y 9), .int (y 10), .int (y 11)].set 11 (.int v)) = cell T ad 12 g 0 (upd y 11 v) := rfl
theorem ca0_2 (T : Nat → ClassId) (ad : Nat → Nat → Nat → Nat) (g : Nat) (y : Nat → Int32) : cell T ad 0 g 2 y = .inl (T 2, 2, .inl y) := rfl
theorem ca1_1 (T : Nat → ClassId) (ad : Nat → Nat → Nat → Nat) (g : Nat) (y : Nat → Int32) : cell T ad 1 g 1 y = .inl (T 0, 14, .inl y) := rfl
theorem ca1_2 (T : Nat → ClassId) (ad : Nat → Nat → Nat → Nat) (g : Nat) (y : Nat → Int32) : cell T ad 1 g 2 y = .inl (T 0, 14, .inl y) := rfl
theorem ca1_3 (T : Nat → ClassId) (ad : Nat → Nat → Nat → Nat) (g : Nat) (y : Nat → Int32) : cell T ad 1 g 3 y = .inl (T 0, 14, .inl y) := rfl
theorem ca2_1 (T : Nat → ClassId) (ad : Nat → Nat → Nat → Nat) (g : Nat) (y : Nat → Int32) : cell T ad 2 g 1 y = .inl (T 0, 14, .inl y) := rfl
theorem ca2_2 (T : Nat → ClassId) (ad : Nat → Nat → Nat → Nat) (g : Nat) (y : Nat → Int32) : cell T ad 2 g 2 y = .inl (T 0, 14, .inl y) := rfl
theorem ca2_3 (T : Nat → ClassId) (ad : Nat → Nat → Nat → Nat) (g : Nat) (y : Nat → Int32) : cell T ad 2 g 3 y = .inl (T 0, 14, .inl y) := rfl
theorem ca2_4 (T : Nat → ClassId) (ad : Nat → Nat → Nat → Nat) (g : Nat) (y : Nat → Int32) : cell T ad 2 g 4 y = .inl (T 0, 14, .inl y) := rfl
theorem ca2_5 (T : Nat → ClassId) (ad : Nat → Nat → Nat → Nat) (g : Nat) (y : Nat → Int32) : cell T ad 2 g 5 y = .inl (T 0, 14, .inl y) := rfl
theorem ca2_6 (T : Nat → ClassId) (ad : Nat → Nat → Nat → Nat) (g : Nat) (y : Nat → Int32) : cell T ad 2 g 6 y = .inl (T 0, 14, .inl y) := rfl
theorem ca3_1 (T : Nat → ClassId) (ad : Nat → Nat → Nat → Nat) (g : Nat) (y : Nat → Int32) : cell T ad 3 g 1 y = .inl (T 0, 4, .inl y) := rfl
theorem ca3_2 (T : Nat → ClassId) (ad : Nat → Nat → Nat → Nat) (g : Nat) (y : Nat → Int32) : cell T ad 3 g 2 y = .inl (T 0, 4, .inl y) := rfl
theorem ca3_3 (T : Nat → ClassId) (ad : Nat → Nat → Nat → Nat) (g : Nat) (y : Nat → Int32) : cell T ad 3 g 3 y = .inl (T 0, 14, .inl y) := rfl
theorem ca3_4 (T : Nat → ClassId) (ad : Nat → Nat → Nat → Nat) (g : Nat) (y : Nat → Int32) : cell T ad 3 g 4 y = .inl (T 0, 14, .inl y) := rfl
theorem ca3_5 (T : Nat → ClassId) (ad : Nat → Nat → Nat → Nat) (g : Nat) (y : Nat → Int32) : cell T ad 3 g 5 y = .inl (T 0, 14, .inl y) := rfl
theorem ca3_7 (T : Nat → ClassId) (ad : Nat → Nat → Nat → Nat) (g : Nat) (y : Nat → Int32) : cell T ad 3 g 7 y = .inl (T 0, 14, .inl y) := rfl
theorem ca3_8 (T : Nat → ClassId) (ad : Nat → Nat → Nat → Nat) (g : Nat) (y : Nat → Int32) : cell T ad 3 g 8 y = .inl (T 0, 14, .inl y) := rfl
theorem ca3_9 (T : Nat → ClassId) (ad : Nat → Nat → Nat → Nat) (g : Nat) (y : Nat → Int32) : cell T ad 3 g 9 y = .inl (T 0, 14, .inl y) := rfl
theorem ca4_2 (T : Nat → ClassId) (ad : Nat → Nat → Nat → Nat) (g : Nat) (y : Nat → Int32) : cell T ad 4 g 2 y = .inl (T 0, ncap g, .inl y) := rfl
theorem ca5_1 (T : Nat → ClassId) (ad : Nat → Nat → Nat → Nat) (g : Nat) (y : Nat → Int32) : cell T ad 5 g 1 y = .inl (T 1, tcap g, .inl y) := rfl
theorem ca8_2 (T : Nat → ClassId) (ad : Nat → Nat → Nat → Nat) (g : Nat) (y : Nat → Int32) : cell T ad 8 g 2 y = .inl (T 0, 30, .inl y) := rfl
theorem ca8_3 (T : Nat → ClassId) (ad : Nat → Nat → Nat → Nat) (g : Nat) (y : Nat → Int32) : cell T ad 8 g 3 y = .inl (T 0, 30, .inl y) := rfl
theorem ca12_1 (T : Nat → ClassId) (ad : Nat → Nat → Nat → Nat) (g : Nat) (y : Nat → Int32) : cell T ad 12 g 1 y = .inl (T 0, 14, .inl y) := rfl
theorem ca12_2 (T : Nat → ClassId) (ad : Nat → Nat → Nat → Nat) (g : Nat) (y : Nat → Int32) : cell T ad 12 g 2 y = .inl (T 0, 14, .inl y) := rfl
theorem ca12_3 (T : Nat → ClassId) (ad : Nat → Nat → Nat → Nat) (g : Nat) (y : Nat → Int32) : cell T ad 12 g 3 y = .inl (T 0, 14, .inl y) := rfl
theorem ca12_4 (T : Nat → ClassId) (ad : Nat → Nat → Nat → Nat) (g : Nat) (y : Nat → Int32) : cell T ad 12 g 4 y = .inl (T 0, 14, .inl y) := rfl
theorem ca13_0 (T : Nat → ClassId) (ad : Nat → Nat → Nat → Nat) (g : Nat) (y : Nat → Int32) : cell T ad 13 g 0 y = .inl (T 2, 14, .inl y) := rfl
theorem ca14_0 (T : Nat → ClassId) (ad : Nat → Nat → Nat → Nat) (g : Nat) (y : Nat → Int32) : cell T ad 14 g 0 y = .inl (T 2, 14, .inl y) := rfl
theorem ca0_1 (T : Nat → ClassId) (ad : Nat → Nat → Nat → Nat) (g : Nat) (y : Nat → Int32) : cell T ad 0 g 1 y = .inl (T 3, 2, .inr (.inr (.inr (.inr (fun i => some (ad 2 (8 + i) 0)))))) := rfl
theorem ca3_6 (T : Nat → ClassId) (ad : Nat → Nat → Nat → Nat) (g : Nat) (y : Nat → Int32) : cell T ad 3 g 6 y = .inl (T 5, 14, .inr (.inr (.inr (.inr (fun i => some (ad 3 g (20 + i))))))) := rfl
theorem ca4_1 (T : Nat → ClassId) (ad : Nat → Nat → Nat → Nat) (g : Nat) (y : Nat → Int32) : cell T ad 4 g 1 y = .inl (T 4, ncap g, .inr (.inr (.inr (.inr (fun i => some (ad 4 g (10 + i))))))) := rfl
theorem ca9_1 (T : Nat → ClassId) (ad : Nat → Nat → Nat → Nat) (g : Nat) (y : Nat → Int32) : cell T ad 9 g 1 y = .inl (T 3, 6, .inr (.inr (.inr (.inr (fun i => some (ad 2 (2 + i) 0)))))) := rfl
theorem ca8_1 (T : Nat → ClassId) (ad : Nat → Nat → Nat → Nat) (g : Nat) (y : Nat → Int32) : cell T ad 8 g 1 y = .inl (T 6, 30, .inr (.inr (.inr (.inr (fun i => cmdr ad (y i)))))) := rfl
theorem ca3_r (T : Nat → ClassId) (ad : Nat → Nat → Nat → Nat) (g i : Nat) (y : Nat → Int32) : cell T ad 3 g (20 + i) y = .inl (T 0, 4, .inl y) := by
  have h0 : ¬ 20 + i = 0 := by omega
  have h6 : ¬ 20 + i = 6 := by omega
  have h2 : 20 ≤ 20 + i := by omega
  simp [cell, h6]
theorem ca4_r (T : Nat → ClassId) (ad : Nat → Nat → Nat → Nat) (g i : Nat) (y : Nat → Int32) : cell T ad 4 g (10 + i) y = .inl (T 1, 6, .inl y) := by
  have h1 : ¬ 10 + i = 1 := by omega
  have h2 : ¬ 10 + i = 2 := by omega
  simp [cell, h1, h2]
theorem of0_0 (g : Nat) : 0 ∈ offs 0 g := by simp [offs]
theorem of0_1 (g : Nat) : 1 ∈ offs 0 g := by simp [offs]
theorem of0_2 (g : Nat) : 2 ∈ offs 0 g := by simp [offs]
theorem of1_0 (g : Nat) : 0 ∈ offs 1 g := by simp [offs]
theorem of1_1 (g : Nat) : 1 ∈ offs 1 g := by simp [offs]
theorem of1_2 (g : Nat) : 2 ∈ offs 1 g := by simp [offs]
theorem of1_3 (g : Nat) : 3 ∈ offs 1 g := by simp [offs]
theorem of2_0 (g : Nat) : 0 ∈ offs 2 g := by simp [offs]
theorem of2_1 (g : Nat) : 1 ∈ offs 2 g := by simp [offs]
theorem of2_2 (g : Nat) : 2 ∈ offs 2 g := by simp [offs]
theorem of2_3 (g : Nat) : 3 ∈ offs 2 g := by simp [offs]
theorem of2_4 (g : Nat) : 4 ∈ offs 2 g := by simp [offs]
theorem of2_5 (g : Nat) : 5 ∈ offs 2 g := by simp [offs]
theorem of2_6 (g : Nat) : 6 ∈ offs 2 g := by simp [offs]
theorem of3_0 (g : Nat) : 0 ∈ offs 3 g := by simp [offs]
theorem of3_1 (g : Nat) : 1 ∈ offs 3 g := by simp [offs]
theorem of3_2 (g : Nat) : 2 ∈ offs 3 g := by simp [offs]
theorem of3_3 (g : Nat) : 3 ∈ offs 3 g := by simp [offs]
theorem of3_4 (g : Nat) : 4 ∈ offs 3 g := by simp [offs]
theorem of3_5 (g : Nat) : 5 ∈ offs 3 g := by simp [offs]
theorem of3_6 (g : Nat) : 6 ∈ offs 3 g := by simp [offs]
theorem of3_7 (g : Nat) : 7 ∈ offs 3 g := by simp [offs]
theorem of3_8 (g : Nat) : 8 ∈ offs 3 g := by simp [offs]
theorem of3_9 (g : Nat) : 9 ∈ offs 3 g := by simp [offs]
theorem of4_0 (g : Nat) : 0 ∈ offs 4 g := by simp [offs]
theorem of4_1 (g : Nat) : 1 ∈ offs 4 g := by simp [offs]
theorem of4_2 (g : Nat) : 2 ∈ offs 4 g := by simp [offs]
theorem of5_0 (g : Nat) : 0 ∈ offs 5 g := by simp [offs]
theorem of5_1 (g : Nat) : 1 ∈ offs 5 g := by simp [offs]
theorem of6_0 (g : Nat) : 0 ∈ offs 6 g := by simp [offs]
theorem of7_0 (g : Nat) : 0 ∈ offs 7 g := by simp [offs]
theorem of8_0 (g : Nat) : 0 ∈ offs 8 g := by simp [offs]
theorem of8_1 (g : Nat) : 1 ∈ offs 8 g := by simp [offs]
theorem of8_2 (g : Nat) : 2 ∈ offs 8 g := by simp [offs]
theorem of8_3 (g : Nat) : 3 ∈ offs 8 g := by simp [offs]
theorem of9_0 (g : Nat) : 0 ∈ offs 9 g := by simp [offs]
theorem of9_1 (g : Nat) : 1 ∈ offs 9 g := by simp [offs]
theorem of12_0 (g : Nat) : 0 ∈ offs 12 g := by simp [offs]
theorem of12_1 (g : Nat) : 1 ∈ offs 12 g := by simp [offs]
theorem of12_2 (g : Nat) : 2 ∈ offs 12 g := by simp [offs]
theorem of12_3 (g : Nat) : 3 ∈ offs 12 g := by simp [offs]
theorem of12_4 (g : Nat) : 4 ∈ offs 12 g := by simp [offs]
theorem of13_0 (g : Nat) : 0 ∈ offs 13 g := by simp [offs]
theorem of14_0 (g : Nat) : 0 ∈ offs 14 g := by simp [offs]
theorem of3_r (g : Nat) {i : Nat} (h : i < 14) : 20 + i ∈ offs 3 g := by
  simp only [offs]
  exact List.mem_append_right _ (List.mem_map.mpr ⟨i, List.mem_range.mpr h, rfl⟩)
theorem of4_r (g : Nat) {i : Nat} (h : i < ncap g) : 10 + i ∈ offs 4 g := by
  simp only [offs]
  exact List.mem_append_right _ (List.mem_map.mpr ⟨i, List.mem_range.mpr h, rfl⟩)
section FWR2
variable {p : Program} {l : Launch} {e : Env} {R : Room} {s : State} {m : MethodId} {args : Array Value} {below : List Frame} {meth : Method} {c : Code} {cc : ByteArray} {nL N0 : Nat} {T : Nat → ClassId} {D : va_G} {gr : List (Nat × Nat)} {ad : Nat → Nat → Nat → Nat} {cells slots : Nat} {Q : State → Prop} {Y : Mem} {pc : Nat} {L L' : List (Nat × Value)} {st : List Value} {Ts : List Cond} {own : String}
theorem cx_ts (C : Cx p s m args meth c cc nL Ts own N0 T D gr ad) : ∀ w ∈ Ts, w.before args s = true := C.2.2.2.2.1
theorem cx_nst (C : Cx p s m args meth c cc nL Ts own N0 T D gr ad) : Nst s := C.2.2.2.2.2.2.2.2.2.1
theorem cx_nw (C : Cx p s m args meth c cc nL Ts own N0 T D gr ad) {w : Cond} (i : Nat) (hi : tables_1[i]? = some w) (hn : isNestW w = true) : va_Nw w s := C.2.2.2.2.2.2.2.2.2.1 w (List.mem_filter.mpr ⟨List.mem_of_getElem? hi, hn⟩)
theorem fw_iald2 (C : Cx p s m args meth c cc nL Ts own N0 T D gr ad) {k0 g0 o0 n : Nat} {i : Int32} (hg : (k0, g0) ∈ gr) (ho : o0 ∈ offs k0 g0) (he : cell T ad k0 g0 o0 (Y k0 g0 o0) = .inl (T 0, n, .inl (Y k0 g0 o0))) (hb : inb i n = true) (hn : n < 2 ^ 31) (d : decode cc pc = .ok (.iaload, 1)) (k : FW p l e R s m args below meth c nL N0 T D gr ad cells slots Q Y (pc + 1) L (.int (Y k0 g0 o0 (ix i)) :: st)) : FW p l e R s m args below meth c nL N0 T D gr ad cells slots Q Y pc L (.int i :: .ref (ad k0 g0 o0) :: st) :=
  fw_iald C (ix i) hg ho he (inb_nI hb) (inb_lt hb) hn d k
theorem fw_bald2 (C : Cx p s m args meth c cc nL Ts own N0 T D gr ad) {k0 g0 o0 n : Nat} {i : Int32} (hg : (k0, g0) ∈ gr) (ho : o0 ∈ offs k0 g0) (he : cell T ad k0 g0 o0 (Y k0 g0 o0) = .inl (T 1, n, .inl (Y k0 g0 o0))) (hb : inb i n = true) (hn : n < 2 ^ 31) (d : decode cc pc = .ok (.baload, 1)) (k : FW p l e R s m args below meth c nL N0 T D gr ad cells slots Q Y (pc + 1) L (.int (Y k0 g0 o0 (ix i)) :: st)) : FW p l e R s m args below meth c nL N0 T D gr ad cells slots Q Y pc L (.int i :: .ref (ad k0 g0 o0) :: st) :=
  fw_bald C (ix i) hg ho he (inb_nI hb) (inb_lt hb) hn d k
theorem fw_zald2 (C : Cx p s m args meth c cc nL Ts own N0 T D gr ad) {k0 g0 o0 n : Nat} {i : Int32} (hg : (k0, g0) ∈ gr) (ho : o0 ∈ offs k0 g0) (he : cell T ad k0 g0 o0 (Y k0 g0 o0) = .inl (T 2, n, .inl (Y k0 g0 o0))) (hb : inb i n = true) (hn : n < 2 ^ 31) (d : decode cc pc = .ok (.baload, 1)) (k : FW p l e R s m args below meth c nL N0 T D gr ad cells slots Q Y (pc + 1) L (.int (Y k0 g0 o0 (ix i)) :: st)) : FW p l e R s m args below meth c nL N0 T D gr ad cells slots Q Y pc L (.int i :: .ref (ad k0 g0 o0) :: st) :=
  fw_zald C (ix i) hg ho he (inb_nI hb) (inb_lt hb) hn d k
theorem fw_iast2 (C : Cx p s m args meth c cc nL Ts own N0 T D gr ad) {k0 g0 o0 n : Nat} {i x : Int32} (hg : (k0, g0) ∈ gr) (ho : o0 ∈ offs k0 g0) (he : ∀ f, cell T ad k0 g0 o0 f = .inl (T 0, n, .inl f)) (hb : inb i n = true) (hn : n < 2 ^ 31) (d : decode cc pc = .ok (.iastore, 1)) (k : FW p l e R s m args below meth c nL N0 T D gr ad cells slots Q (up Y k0 g0 o0 (ix i) x) (pc + 1) L st) : FW p l e R s m args below meth c nL N0 T D gr ad cells slots Q Y pc L (.int x :: .int i :: .ref (ad k0 g0 o0) :: st) :=
  fw_iast C (ix i) hg ho he (inb_nI hb) (inb_lt hb) hn d k
theorem fw_bast2 (C : Cx p s m args meth c cc nL Ts own N0 T D gr ad) {k0 g0 o0 n : Nat} {i x : Int32} (hg : (k0, g0) ∈ gr) (ho : o0 ∈ offs k0 g0) (he : ∀ f, cell T ad k0 g0 o0 f = .inl (T 1, n, .inl f)) (hb : inb i n = true) (hn : n < 2 ^ 31) (d : decode cc pc = .ok (.bastore, 1)) (k : FW p l e R s m args below meth c nL N0 T D gr ad cells slots Q (up Y k0 g0 o0 (ix i) (vp_nar .byte x)) (pc + 1) L st) : FW p l e R s m args below meth c nL N0 T D gr ad cells slots Q Y pc L (.int x :: .int i :: .ref (ad k0 g0 o0) :: st) :=
  fw_bast C (ix i) hg ho he (inb_nI hb) (inb_lt hb) hn d k
theorem fw_zast2 (C : Cx p s m args meth c cc nL Ts own N0 T D gr ad) {k0 g0 o0 n : Nat} {i x : Int32} (hg : (k0, g0) ∈ gr) (ho : o0 ∈ offs k0 g0) (he : ∀ f, cell T ad k0 g0 o0 f = .inl (T 2, n, .inl f)) (hb : inb i n = true) (hn : n < 2 ^ 31) (d : decode cc pc = .ok (.bastore, 1)) (k : FW p l e R s m args below meth c nL N0 T D gr ad cells slots Q (up Y k0 g0 o0 (ix i) (vp_nar .boolean x)) (pc + 1) L st) : FW p l e R s m args below meth c nL N0 T D gr ad cells slots Q Y pc L (.int x :: .int i :: .ref (ad k0 g0 o0) :: st) :=
  fw_zast C (ix i) hg ho he (inb_nI hb) (inb_lt hb) hn d k
theorem fw_aald2 (C : Cx p s m args meth c cc nL Ts own N0 T D gr ad) {k0 g0 o0 n : Nat} {cA : ClassId} {f : Nat → Option Nat} {ty : FieldType} {i : Int32} (t0 : Nat) (hg : (k0, g0) ∈ gr) (ho : o0 ∈ offs k0 g0) (he : cell T ad k0 g0 o0 (Y k0 g0 o0) = .inl (cA, n, .inr (.inr (.inr (.inr f))))) (ht : (ftys T)[t0]? = some (cA, ty)) (hr : ty.isReference = true) (hb : inb i n = true) (hn : n < 2 ^ 31) {v : Value} (hv : va_rf (f (ix i)) = v) (d : decode cc pc = .ok (.aaload, 1)) (k : FW p l e R s m args below meth c nL N0 T D gr ad cells slots Q Y (pc + 1) L (v :: st)) : FW p l e R s m args below meth c nL N0 T D gr ad cells slots Q Y pc L (.int i :: .ref (ad k0 g0 o0) :: st) :=
  fw_aald C (ix i) t0 hg ho he ht hr (inb_nI hb) (inb_lt hb) hn hv d k
theorem fw_ldc (C : Cx p s m args meth c cc nL Ts own N0 T D gr ad) {index : Nat} {v : Int32} (hc : (Jvm.Cond.constant own index v).before args s = true) (d : decode cc pc = .ok (.ldc index, 2)) (k : FW p l e R s m args below meth c nL N0 T D gr ad cells slots Q Y (pc + 2) L (.int v :: st)) : FW p l e R s m args below meth c nL N0 T D gr ad cells slots Q Y pc L st :=
  fun H locs ls hP hS hl1 => lv_ldc C.1 C.2.1 C.2.2.2.1 hc d (k H locs ls hP hS hl1)
theorem fw_ldc_w (C : Cx p s m args meth c cc nL Ts own N0 T D gr ad) {index : Nat} {v : Int32} (hc : (Jvm.Cond.constant own index v).before args s = true) (d : decode cc pc = .ok (.ldc_w index, 3)) (k : FW p l e R s m args below meth c nL N0 T D gr ad cells slots Q Y (pc + 3) L (.int v :: st)) : FW p l e R s m args below meth c nL N0 T D gr ad cells slots Q Y pc L st :=
  fun H locs ls hP hS hl1 => lv_ldcw C.1 C.2.1 C.2.2.2.1 hc d (k H locs ls hP hS hl1)
theorem fw_copyi (C : Cx p s m args meth c cc nL Ts own N0 T D gr ad) {index k0 g0 o0 k1 g1 o1 : Nat} {f : Nat → Int32} (hg0 : (k0, g0) ∈ gr) (ho0 : o0 ∈ offs k0 g0) (hg1 : (k1, g1) ∈ gr) (ho1 : o1 ∈ offs k1 g1) (he0 : cell T ad k0 g0 o0 (Y k0 g0 o0) = .inl (T 0, 14, .inl f)) (he1 : ∀ y, cell T ad k1 g1 o1 y = .inl (T 0, 14, .inl y)) (hlink : (Cond.methodLink own index arraycopyName).before args s = true) (hnat : (Cond.native arraycopyName).before args s = true) (hstat : (Cond.static arraycopyName).before args s = true) (hini : (Cond.initialized "java/lang/System").before args s = true)
    (hframes : 1 ≤ R.frames) (hlocals : (st.map fun v => v.category).sum + (nativeFrameWords "java/lang/System" "arraycopy" 5 + 11) ≤ R.locals) (d : decode cc pc = .ok (.invokestatic index, 3)) (k : FW p l e R s m args below meth c nL N0 T D gr ad cells slots Q (upR Y k1 g1 o1 (va_cpy f (Y k1 g1 o1) 0 0 14)) (pc + 3) L st) : FW p l e R s m args below meth c nL N0 T D gr ad cells slots Q Y pc L (.int 14 :: .int 0 :: .ref (ad k1 g1 o1) :: .int 0 :: .ref (ad k0 g0 o0) :: st) := by
  intro H locs ls hP hS hl1
  obtain ⟨q0, hq0⟩ := keys_at hg0 ho0
  obtain ⟨q1, hq1⟩ := keys_at hg1 ho1
  refine va_copyi C.1 C.2.1 (by rw [C.2.2.1, hl1.1]) C.2.2.2.1 hlink hnat hstat hini C.2.2.2.2.2.1 hP (C.2.2.2.2.2.2.1 Y) hS q0 q1 0 0 (by rw [wC_key hq0, he0]) (by rw [wC_key hq1, he1]) rfl rfl rfl (by decide) (by decide) (by decide) (by decide) (by decide) (fun _ _ => rfl) hframes hlocals d (fun H1 locs1 hP1 hD1 hS1 => ?_)
  have e0 : (0 : Int32).toNatClampNeg = 0 := by decide
  have e14 : (14 : Int32).toNatClampNeg = 14 := by decide
  rw [e0, e14, ← he1 (va_cpy f (Y k1 g1 o1) 0 0 14), wC_set (C.2.2.2.2.2.2.1 Y) hq1 (va_cpy f (Y k1 g1 o1) 0 0 14)] at hP1
  exact k H1 locs1 ls hP1 hS1 hl1
end FWR2
