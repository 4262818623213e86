/-! OF READING A SCRIPT: what reading a setup uses too -/
def FrS (Y Y' : Mem) : Prop := ∀ k g o, ¬ (k = 6 ∧ g = 0 ∧ o = 0) → k ≠ 8 → Y' k g o = Y k g o
def FrN (Z Z' : Mem) : Prop := (∀ k g o, ¬ (k = 10 ∧ g = 0 ∧ (o = 0 ∨ o = 9)) → Z' k g o = Z k g o) ∧ HF Z (Z' 10 0 0)
def BP (Y Z : Mem) : Prop := Y 6 0 0 1 = 5 ∧ Y 6 0 0 4 = Z 10 0 0 5 ∧ Y 6 0 0 5 = Z 10 0 0 6 ∧ ∃ c, 1 ≤ c ∧ c ≤ 5 ∧ Z 10 0 0 5 = nI c
theorem FrS_refl (Y : Mem) : FrS Y Y := fun _ _ _ _ _ => rfl
theorem FrS_trans {a b c : Mem} (h1 : FrS a b) (h2 : FrS b c) : FrS a c := fun k g o q1 q2 => (h2 k g o q1 q2).trans (h1 k g o q1 q2)
theorem FrS_6 (Y : Mem) (f : Nat → Int32) : FrS Y (upR Y 6 0 0 f) := fun k g o q1 _ => upR_o q1
theorem FrS_8 (Y : Mem) (g o j : Nat) (v : Int32) : FrS Y (up Y 8 g o j v) := fun k g' o' _ q => by rw [up_eq]; exact upR_o (by omega)
theorem HF_refl (Z : Mem) : HF Z (Z 10 0 0) := fun _ _ _ _ _ _ _ => rfl
theorem FrN_refl (Z : Mem) : FrN Z Z := ⟨fun _ _ _ _ => rfl, HF_refl Z⟩
theorem FrN_trans {a b c : Mem} (h1 : FrN a b) (h2 : FrN b c) : FrN a c := ⟨fun k g o q => (h2.1 k g o q).trans (h1.1 k g o q), fun x q1 q2 q3 q4 q5 q6 => (h2.2 x q1 q2 q3 q4 q5 q6).trans (h1.2 x q1 q2 q3 q4 q5 q6)⟩
theorem FrN_0 {Z : Mem} {h : Nat → Int32} (hh : HF Z h) : FrN Z (upR Z 10 0 0 h) := ⟨fun k g o q => upR_o (by omega), by rw [u10]; exact hh⟩
theorem FrN_9 (Z : Mem) (f : Nat → Int32) : FrN Z (upR Z 10 0 9 f) := ⟨fun k g o q => upR_o (by omega), by rw [upR_o (by omega)]; exact HF_refl Z⟩
theorem HF_9 {Z : Mem} {f h : Nat → Int32} (hh : HF (upR Z 10 0 9 f) h) : HF Z h := fun x q1 q2 q3 q4 q5 q6 => by rw [hh x q1 q2 q3 q4 q5 q6, upR_o (by omega)]
theorem BP_of {Y Z : Mem} {f h : Nat → Int32} (hb : BF f h) : BP (upR Y 6 0 0 f) (upR Z 10 0 0 h) := by
  unfold BP
  rw [u6, u10]; exact hb
theorem begin_j {Y Z : Mem} {b : Nat → Nat} {n : Nat} (hT : TT Y Z b n) : ∃ f h k s e, X10_begin Y = some (upR Y 6 0 0 f) ∧ M12_begin Z = some (upR Z 10 0 0 h) ∧ HF Z h ∧ TJ (upR Y 6 0 0 f) (upR Z 10 0 0 h) b n k s e := by
  obtain ⟨h7, hb, h5, h4⟩ := id hT
  have hT' : TT (upR Y 6 0 0 (upd (upd (upd (Y 6 0 0) 4 0) 5 (-1)) 3 0)) (upR Z 10 0 0 (upd (upd (upd (Z 10 0 0) 5 0) 6 (-1)) 14 0)) b n := ⟨h7, fun j hj => by rw [u6o _ _ (by omega), u10o _ _ (by omega)]; exact hb j hj, by rw [u6o _ _ (by omega)]; exact h5, by rw [u10, pk_un (by omega), pk_un (by omega), pk_un (by omega)]; exact h4⟩
  obtain ⟨f, h, k', s', e', a1, a2, a3, a4, a5⟩ := adv_ok (e := 0) hT' (by omega) (by rw [u6, pk_us]; rfl) (by rw [u10, pk_us]; rfl)
  rw [upR_upR] at a1 a3 a5
  rw [upR_upR] at a5
  refine ⟨f, h, k', s', e', ?_, ?_, fun x q1 q2 q3 q4 q5 q6 => ?_, a5, ?_, ?_, ?_, ?_⟩
  · unfold X10_begin
    rw [up_eq, lt_e, up_upR, lt_e, up_upR, lt_e, a1, bd1_e]
  · unfold M12_begin
    rw [up_eq, lt_e, up_upR, lt_e, up_upR, lt_e, a3, bd1_e]
  · rw [a4 x q3 q4 q5 q6, u10, pk_un q3, pk_un q2, pk_un q1]
  · rw [u6, a2 4 (by omega) (by omega) (by omega), u6, pk_un (by omega), pk_un (by omega), pk_us]
  · rw [u6, a2 5 (by omega) (by omega) (by omega), u6, pk_un (by omega), pk_us]
  · rw [u10, a4 5 (by omega) (by omega) (by omega) (by omega), u10, pk_un (by omega), pk_un (by omega), pk_us]
  · rw [u10, a4 6 (by omega) (by omega) (by omega) (by omega), u10, pk_un (by omega), pk_us]
theorem BP_8 {Y Y' Z : Mem} (h6 : Y' 6 0 0 = Y 6 0 0) (h : BP Y Z) : BP Y' Z := by unfold BP at h ⊢; rw [h6]; exact h
theorem NN_fr {Y Y' : Mem} {g a0 st c : Nat} {m : Nat → Int32} (h4 : Y' 4 g = Y 4 g) (h : NN Y g m a0 st c) : NN Y' g m a0 st c := by
  unfold NN nameP at h ⊢; rw [h4]; exact h
theorem map_bd1 {α β γ : Type} (g : β → γ) (o : Option α) (k : α → Option β) : Option.map g (bd1 o k) = bd1 o (fun x => Option.map g (k x)) := by cases o <;> rfl
