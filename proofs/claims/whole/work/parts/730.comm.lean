/-! PHASE 3: THE REFERENCE DOES NOT LOOK AT THE LAW'S OWN CELL: what its steps share -/
def sv (v : Int32) (Y : Mem) : Mem := up Y 11 0 0 0 v
def sw {α : Type} (v : Int32) (r : α × Mem) : α × Mem := (r.1, sv v r.2)
section
variable {v : Int32}
theorem sv_rd (Y : Mem) (g o j : Nat) : sv v Y 10 g o j = Y 10 g o j := by
  show (if 10 = 11 ∧ g = 0 ∧ o = 0 ∧ j = 0 then v else Y 10 g o j) = _
  exact if_neg (fun h => absurd h.1 (by decide))
theorem sv_up (Y : Mem) (g o j : Nat) (w : Int32) : up (sv v Y) 10 g o j w = sv v (up Y 10 g o j w) := by
  funext k' g' o' j'
  show (if k' = 10 ∧ g' = g ∧ o' = o ∧ j' = j then w else if k' = 11 ∧ g' = 0 ∧ o' = 0 ∧ j' = 0 then v else Y k' g' o' j') = (if k' = 11 ∧ g' = 0 ∧ o' = 0 ∧ j' = 0 then v else if k' = 10 ∧ g' = g ∧ o' = o ∧ j' = j then w else Y k' g' o' j')
  by_cases h : k' = 10
  · subst h
    rw [if_neg (c := (10 = 11 ∧ g' = 0 ∧ o' = 0 ∧ j' = 0)) (fun h => absurd h.1 (by decide)), if_neg (c := (10 = 11 ∧ g' = 0 ∧ o' = 0 ∧ j' = 0)) (fun h => absurd h.1 (by decide))]
  · rw [if_neg (fun q => h q.1), if_neg (c := (k' = 10 ∧ g' = g ∧ o' = o ∧ j' = j)) (fun q => h q.1)]
theorem lt_sv {β : Type} (Y : Mem) (k : Mem → Option β) : lt_ (sv v Y) k = lt_ Y (fun y => k (sv v y)) := rfl
theorem map_bd1 {α β γ : Type} (g : β → γ) (o : Option α) (k : α → Option β) : Option.map g (bd1 o k) = bd1 o (fun x => Option.map g (k x)) := by cases o <;> rfl
theorem map_bd2 {α β γ δ : Type} (g : γ → δ) (o : Option (α × β)) (k : α → β → Option γ) : Option.map g (bd2 o k) = bd2 o (fun x y => Option.map g (k x y)) := by cases o <;> rfl
theorem map_gd {α β : Type} (g : α → β) (b : Bool) (x : Option α) : Option.map g (gd b x) = gd b (Option.map g x) := by cases b <;> rfl
theorem map_lt {α β γ : Type} (g : β → γ) (a : α) (k : α → Option β) : Option.map g (lt_ a k) = lt_ a (fun x => Option.map g (k x)) := rfl
theorem map_ite {α β : Type} (g : α → β) (c : Prop) [Decidable c] (a b : Option α) : Option.map g (if c then a else b) = if c then Option.map g a else Option.map g b := by split <;> rfl
theorem map_sm {α β : Type} (g : α → β) (a : α) : Option.map g (some a) = some (g a) := rfl
theorem bd1_map {α β γ : Type} (g : α → β) (o : Option α) (k : β → Option γ) : bd1 (Option.map g o) k = bd1 o (fun x => k (g x)) := by cases o <;> rfl
theorem bd2_map {α γ : Type} (o : Option (α × Mem)) (k : α → Mem → Option γ) : bd2 (Option.map (sw v) o) k = bd2 o (fun a y => k a (sv v y)) := by cases o <;> rfl
theorem sw_mk {α : Type} (a : α) (Y : Mem) : sw v (a, Y) = (a, sv v Y) := rfl
end
