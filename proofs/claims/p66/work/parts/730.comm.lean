/-! PHASE 3: THE REFERENCE LOOKS AT ITS OWN CELLS ALONE: what its steps share -/
/-- Y in kind 10, W elsewhere -/
def sv (W : Mem) (Y : Mem) : Mem := fun k => if k = 10 then Y 10 else W k
def sw {α : Type} (W : Mem) (r : α × Mem) : α × Mem := (r.1, sv W r.2)
section
variable {v : Mem}
theorem sv_rd (Y : Mem) (g o j : Nat) : sv v Y 10 g o j = Y 10 g o j := of_eq_true (eq_self _)
theorem sv_up (Y : Mem) (g o j : Nat) (w : Int32) : up (sv v Y) 10 g o j w = sv v (up Y 10 g o j w) := by
  funext k' g' o' j'
  by_cases h : k' = 10
  · subst h; rfl
  · have e1 : sv v (up Y 10 g o j w) k' = v k' := if_neg h
    have e2 : sv v Y k' = v k' := if_neg h
    rw [e1]
    show (if k' = 10 ∧ g' = g ∧ o' = o ∧ j' = j then w else sv v Y k' g' o' j') = _
    rw [if_neg (fun q => h q.1), e2]
theorem lt_sv {β : Type} (Y : Mem) (k : Mem → Option β) : lt_ (sv v Y) k = lt_ Y (fun y => k (sv v y)) := of_eq_true (eq_self _)
theorem map_bd2 {α β γ δ : Type} (g : γ → δ) (o : Option (α × β)) (k : α → β → Option γ) : Option.map g (bd2 o k) = bd2 o (fun x y => Option.map g (k x y)) := by cases o <;> rfl
theorem map_gd {α β : Type} (g : α → β) (b : Bool) (x : Option α) : Option.map g (gd b x) = gd b (Option.map g x) := by cases b <;> rfl
theorem map_lt {α β γ : Type} (g : β → γ) (a : α) (k : α → Option β) : Option.map g (lt_ a k) = lt_ a (fun x => Option.map g (k x)) := of_eq_true (eq_self _)
theorem map_ite {α β : Type} (g : α → β) (c : Prop) [Decidable c] (a b : Option α) : Option.map g (if c then a else b) = if c then Option.map g a else Option.map g b := by split <;> rfl
theorem map_sm {α β : Type} (g : α → β) (a : α) : Option.map g (some a) = some (g a) := of_eq_true (eq_self _)
theorem bd1_map {α β γ : Type} (g : α → β) (o : Option α) (k : β → Option γ) : bd1 (Option.map g o) k = bd1 o (fun x => k (g x)) := by cases o <;> rfl
theorem bd2_map {α γ : Type} (o : Option (α × Mem)) (k : α → Mem → Option γ) : bd2 (Option.map (sw v) o) k = bd2 o (fun a y => k a (sv v y)) := by cases o <;> rfl
theorem sw_mk {α : Type} (a : α) (Y : Mem) : sw v (a, Y) = (a, sv v Y) := of_eq_true (eq_self _)
end
theorem sv_self (Y : Mem) : sv Y Y = Y := by
  funext k
  by_cases h : k = 10
  · subst h; rfl
  · exact if_neg h
theorem sv_k (W Y : Mem) {k : Nat} (h : k ≠ 10) : sv W Y k = W k := if_neg h
theorem sv_of {Y Z : Mem} (h : Y 10 = Z 10) : Y = sv Y Z := by
  funext k
  by_cases e : k = 10
  · subst e; exact h
  · exact (if_neg e).symm
/-- the law's own cell -/
def s11 (v : Int32) (Y : Mem) : Mem := up Y 11 0 0 0 v
theorem s11_10 (v : Int32) (Y : Mem) : s11 v Y 10 = Y 10 := by
  funext g o j
  show (if 10 = 11 ∧ g = 0 ∧ o = 0 ∧ j = 0 then v else Y 10 g o j) = _
  exact if_neg (fun q => absurd q.1 (by decide))
/-- a call of the reference leaves the other cells alone, and doesn't look at them -/
theorem s11_some {α : Type} {f : Mem → Option (α × Mem)} (hk : ∀ W Y, f (sv W Y) = Option.map (sw W) (f Y)) {Y Y' : Mem} {b : α} (v : Int32) (h : f Y = some (b, Y')) : f (s11 v Y) = some (b, s11 v Y') := by
  have h1 : Y' = sv Y Y' := by
    have h2 := hk Y Y
    rw [sv_self, h] at h2
    exact congrArg Prod.snd (Option.some.inj h2)
  have h3 : s11 v Y = sv (s11 v Y) Y := sv_of (s11_10 v Y)
  rw [h3, hk, h, map_sm, sw_mk]
  have h4 : sv (s11 v Y) Y' = s11 v Y' := by
    funext k
    by_cases e : k = 10
    · subst e; exact (s11_10 v Y').symm
    · rw [sv_k _ _ e]
      have h5 : Y' k = Y k := by rw [h1]; exact sv_k _ _ e
      funext g o j
      show (if k = 11 ∧ g = 0 ∧ o = 0 ∧ j = 0 then v else Y k g o j) = (if k = 11 ∧ g = 0 ∧ o = 0 ∧ j = 0 then v else Y' k g o j)
      rw [h5]
  rw [h4]
