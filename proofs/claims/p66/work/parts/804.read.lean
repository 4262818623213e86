section
/-! THE LAW'S KITCHEN: read -/
def k12 (Y : Mem) (h : Nat → Nat → Int32) : Mem := fun k' g' o' => if k' = 12 ∧ g' = 0 then h o' else Y k' g' o'
theorem k12_at (Y : Mem) (h : Nat → Nat → Int32) (o : Nat) : k12 Y h 12 0 o = h o := if_pos ⟨rfl, rfl⟩
theorem k12_k {Y : Mem} {h : Nat → Nat → Int32} {k' : Nat} (hk : k' ≠ 12) : k12 Y h k' = Y k' := by
  funext g o
  exact if_neg fun q => hk q.1
theorem k12_self (Y : Mem) : k12 Y (Y 12 0) = Y := by
  funext k g o
  unfold k12
  by_cases q : k = 12 ∧ g = 0
  · rw [if_pos q, q.1, q.2]
  · rw [if_neg q]
theorem up_k12 (Y : Mem) (h : Nat → Nat → Int32) (o j : Nat) (v : Int32) : up (k12 Y h) 12 0 o j v = k12 Y (uo h o j v) := by
  funext k g o' j'
  unfold up k12 uo
  by_cases q : k = 12 ∧ g = 0
  · obtain ⟨rfl, rfl⟩ := q
    by_cases q2 : o' = o ∧ j' = j
    · rw [if_pos ⟨rfl, rfl, q2.1, q2.2⟩, if_pos ⟨rfl, rfl⟩, if_pos q2]
    · rw [if_neg (fun z => q2 ⟨z.2.2.1, z.2.2.2⟩), if_pos ⟨rfl, rfl⟩, if_pos ⟨rfl, rfl⟩, if_neg q2]
  · rw [if_neg (fun z => q ⟨z.1, z.2.1⟩), if_neg q, if_neg q]
theorem Inv_fr {Y Y' : Mem} (h : ∀ k, k ≤ 10 → Y' k = Y k) (hI : Inv Y) : Inv Y' :=
  Inv_QC hI ⟨h 10 (by omega), h 0 (by omega), h 9 (by omega), h 3 (by omega), h 4 (by omega), h 5 (by omega), h 6 (by omega), by rw [h 1 (by omega)], fun g _ => by rw [h 2 (by omega)]⟩
theorem Inv_k12 {Y : Mem} (h : Nat → Nat → Int32) (hI : Inv Y) : Inv (k12 Y h) := Inv_fr (fun k hk => k12_k (by omega)) hI
theorem k12_m (Y : Mem) (h : Nat → Nat → Int32) : k12 Y h 10 0 1 = Y 10 0 1 := by rw [k12_k (by decide)]
theorem read_57 {Y : Mem} (hI : Inv Y) : ∀ i, i ≤ nS (Y 10 0 1) → ∀ f h, nS (Y 10 0 1) - i < f → h 0 1 = nI (nS (Y 10 0 1)) → (∀ s, s < i → h 1 s = fld (Y 10 0 1) s 17 ∧ h 2 s = fld (Y 10 0 1) s 18 ∧ h 3 s = fld (Y 10 0 1) s 19) →
    ∃ h', X12_read_b57 f (k12 Y h) (nI i) = X12_read_b120 FU (k12 Y h') (nI (nS (Y 10 0 1)) - 1) ∧ h' 0 = h 0 ∧ h' 4 = h 4 ∧ ∀ s, s < nS (Y 10 0 1) → h' 1 s = fld (Y 10 0 1) s 17 ∧ h' 2 s = fld (Y 10 0 1) s 18 ∧ h' 3 s = fld (Y 10 0 1) s 19 := by
  have h14 := nS_le hI
  refine upl ?_ ?_
  · intro f h f_h h1 hh
    obtain ⟨f, rfl⟩ := fuel_s f_h
    refine ⟨h, ?_, rfl, rfl, hh⟩
    unfold X12_read_b57
    rw [k12_at, h1, if_pos (Int32.le_refl _), lt_e]
  · intro i hi ih f h f_h h1 hh
    obtain ⟨f, rfl⟩ := fuel_s f_h
    have vs : ∀ g : Nat → Nat → Int32, X11_status (k12 Y g) (nI i) = some (fld (Y 10 0 1) i 17) := fun g => by rw [v_status (Inv_k12 g hI) (by rw [k12_m]; exact hi), k12_m]
    have vr : ∀ g : Nat → Nat → Int32, X11_remaining (k12 Y g) (nI i) = some (fld (Y 10 0 1) i 18) := fun g => by rw [v_remaining (Inv_k12 g hI) (by rw [k12_m]; exact hi), k12_m]
    have va : ∀ g : Nat → Nat → Int32, X11_age (k12 Y g) (nI i) = some (fld (Y 10 0 1) i 19) := fun g => by rw [v_age (Inv_k12 g hI) (by rw [k12_m]; exact hi), k12_m]
    have e0 : (uo (uo (uo h 1 i (fld (Y 10 0 1) i 17)) 2 i (fld (Y 10 0 1) i 18)) 3 i (fld (Y 10 0 1) i 19)) 0 = h 0 := by rw [uo_f (by decide), uo_f (by decide), uo_f (by decide)]
    have e4 : (uo (uo (uo h 1 i (fld (Y 10 0 1) i 17)) 2 i (fld (Y 10 0 1) i 18)) 3 i (fld (Y 10 0 1) i 19)) 4 = h 4 := by rw [uo_f (by decide), uo_f (by decide), uo_f (by decide)]
    obtain ⟨h', q1, q2, q3, q4⟩ := ih f (uo (uo (uo h 1 i (fld (Y 10 0 1) i 17)) 2 i (fld (Y 10 0 1) i 18)) 3 i (fld (Y 10 0 1) i 19)) (by omega) (by rw [e0]; exact h1) (fun s hs => by
      by_cases e : s = i
      · subst e
        refine ⟨?_, ?_, ?_⟩
        · rw [uo_f (by decide), uo_f (by decide), uo_s]
        · rw [uo_f (by decide), uo_s]
        · rw [uo_s]
      · have := hh s (by omega)
        refine ⟨?_, ?_, ?_⟩
        · rw [uo_f (by decide), uo_f (by decide), uo_o (by omega)]; exact this.1
        · rw [uo_f (by decide), uo_o (by omega), uo_f (by decide)]; exact this.2.1
        · rw [uo_o (by omega), uo_f (by decide), uo_f (by decide)]; exact this.2.2)
    refine ⟨h', ?_, q2.trans e0, q3.trans e4, q4⟩
    rw [← q1]
    show X12_read_b57 (f + 1) (k12 Y h) (nI i) = _
    rw [X12_read_b57]
    rw [k12_at, h1, if_neg (by rw [nI_leI (by omega) (by omega)]; omega), vs, bd1_e, gdi (show i < 14 by omega), ix_n (by omega), up_k12, lt_e, vr, bd1_e, up_k12, lt_e, va, bd1_e, up_k12, lt_e, nI_1]
theorem read_130 {Y : Mem} (hI : Inv Y) {s d : Nat} {k120 : Mem → Int32 → Option Mem} (hs : s < nS (Y 10 0 1)) (hd : d ≤ nS (Y 10 0 1)) (h1 : Y 12 0 0 1 = nI (nS (Y 10 0 1))) (hp : ∀ k, s < k → k < nS (Y 10 0 1) → Y 12 0 4 k = nI (pa (Y 10 0 1) d k)) :
    ∀ i, i ≤ nS (Y 10 0 1) → s < i → ∀ f, nS (Y 10 0 1) - i < f → X12_read_b130 k120 f Y (nI i) (nI (mxs (sucs (Y 10 0 1) s) (pa (Y 10 0 1) d) i)) (nI s) = k120 (up Y 12 0 4 s (nI (dur (Y 10 0 1) s + mxs (sucs (Y 10 0 1) s) (pa (Y 10 0 1) d) (nS (Y 10 0 1))))) (nI s + -1) := by
  have h14 := nS_le hI
  have hM := Inv_MI hI
  refine upl ?_ ?_
  · intro hsi f f_h
    obtain ⟨f, rfl⟩ := fuel_s f_h
    rw [X12_read_b130]
    rw [h1, if_pos (Int32.le_refl _), v_duration hI hs, bd1_e, gdi (show s < 14 by omega), ix_n (by omega), (dur_ok hM hs).1, nI_add, lt_e]
  · intro i hi ih hsi f f_h
    obtain ⟨f, rfl⟩ := fuel_s f_h
    have b1 := pa_lt hM h14 hd i
    have b2 : mxs (sucs (Y 10 0 1) s) (pa (Y 10 0 1) d) i ≤ 1000 := mxs_le fun k hk => Nat.le_of_lt (pa_lt hM h14 hd k)
    have ih2 := ih (by omega) f (by omega)
    rw [mxs_s] at ih2
    have hsu : sucs (Y 10 0 1) s i = isPred (Y 10 0 1) s i := by unfold sucs; rw [decide_eq_true hsi, Bool.true_and]
    rw [hsu] at ih2
    rw [X12_read_b130]
    unfold X12_read_b164
    rw [h1, if_neg (by rw [nI_leI (by omega) (by omega)]; omega), isAfter_ok hI hi hs, bd1_e, gdi (show i < 14 by omega), ix_n (by omega), hp i hsi hi, nI_1]
    cases c : isPred (Y 10 0 1) s i
    · rw [bI_f, if_pos rfl]
      rw [c, if_neg (fun q => by cases q.1)] at ih2
      exact ih2
    · rw [bI_t, if_neg (by decide)]
      rw [c] at ih2
      by_cases q : mxs (sucs (Y 10 0 1) s) (pa (Y 10 0 1) d) i < pa (Y 10 0 1) d i
      · rw [if_neg (by rw [nI_leI (by omega) (by omega)]; omega), lt_e]
        rw [if_pos ⟨rfl, q⟩] at ih2
        exact ih2
      · rw [if_pos (by rw [nI_leI (by omega) (by omega)]; omega)]
        rw [if_neg (fun z => q z.2)] at ih2
        exact ih2
theorem mxs_0 (m : Nat → Int32) (s : Nat) (p : Nat → Nat) : ∀ n, n ≤ s + 1 → mxs (sucs m s) p n = 0 := by
  intro n
  induction n with
  | zero => intro _; rfl
  | succ n ihn =>
    intro hn
    rw [mxs_s, if_neg (fun q => ?_)]
    · exact ihn (by omega)
    · have := q.1
      unfold sucs at this
      rw [decide_eq_false (by omega)] at this
      cases this
theorem read_120 {Y : Mem} (hI : Inv Y) : ∀ d, d ≤ nS (Y 10 0 1) → ∀ f h, nS (Y 10 0 1) - d < f → h 0 1 = nI (nS (Y 10 0 1)) → (∀ k, nS (Y 10 0 1) - d ≤ k → k < nS (Y 10 0 1) → h 4 k = nI (pa (Y 10 0 1) d k)) →
    ∃ h', X12_read_b120 f (k12 Y h) (nI (nS (Y 10 0 1) - d) - nI 1) = some (k12 Y h') ∧ (∀ o, o ≠ 4 → h' o = h o) ∧ ∀ k, k < nS (Y 10 0 1) → h' 4 k = nI (pth (Y 10 0 1) k) := by
  have h14 := nS_le hI
  refine upl ?_ ?_
  · intro f h f_h h1 hp
    obtain ⟨f, rfl⟩ := fuel_s f_h
    refine ⟨h, ?_, fun _ _ => rfl, fun k hk => hp k (by omega) hk⟩
    rw [X12_read_b120]
    rw [Nat.sub_self, if_pos (by decide)]
  · intro d hd ih f h f_h h1 hp
    obtain ⟨f, rfl⟩ := fuel_s f_h
    have es : nI (nS (Y 10 0 1) - d) - nI 1 = nI (nS (Y 10 0 1) - (d + 1)) := by
      rw [pk_sub (by omega)]; congr 1
    have hs : nS (Y 10 0 1) - (d + 1) < nS (Y 10 0 1) := by omega
    have hb := read_130 (Inv_k12 h hI) (s := nS (Y 10 0 1) - (d + 1)) (d := d) (k120 := X12_read_b120 f) (by rw [k12_m]; exact hs) (by rw [k12_m]; omega) (by rw [k12_m, k12_at]; exact h1) (by rw [k12_m, k12_at]; intro k h2 h3; exact hp k (by omega) h3) (nS (Y 10 0 1) - (d + 1) + 1) (by rw [k12_m]; omega) (by omega) FU (by have := FU_big; rw [k12_m]; omega)
    rw [k12_m, mxs_0 _ _ _ _ (Nat.le_refl _), up_k12] at hb
    have e2 : nI (nS (Y 10 0 1) - (d + 1)) + -1 = nI (nS (Y 10 0 1) - (d + 1)) - nI 1 := (Int32.sub_eq_add_neg _ _).symm
    rw [e2] at hb
    obtain ⟨h', q1, q2, q3⟩ := ih f (uo h 4 (nS (Y 10 0 1) - (d + 1)) (nI (dur (Y 10 0 1) (nS (Y 10 0 1) - (d + 1)) + mxs (sucs (Y 10 0 1) (nS (Y 10 0 1) - (d + 1))) (pa (Y 10 0 1) d) (nS (Y 10 0 1))))) (by omega) (by rw [uo_f (by decide)]; exact h1) (fun k h2 h3 => by
      rw [pa_s]
      by_cases e : k = nS (Y 10 0 1) - (d + 1)
      · rw [if_pos e, e, uo_s]
      · rw [if_neg e, uo_o (by omega)]
        exact hp k (by omega) h3)
    refine ⟨h', ?_, fun o ho => (q2 o ho).trans (uo_f ho), q3⟩
    rw [X12_read_b120]
    rw [es, if_neg (show ¬ nI (nS (Y 10 0 1) - (d + 1)) < 0 from nI_pos (by omega)), lt_e, nI_1]
    exact hb.trans q1
/-- what the law's kitchen holds, against a kitchen μ -/
def LK (h : Nat → Nat → Int32) (μ : Nat → Int32) : Prop :=
  h 0 1 = nI (nS μ) ∧ (∀ s, s < nS μ → h 1 s = fld μ s 17 ∧ (fld μ s 17 = 1 → h 2 s = fld μ s 18) ∧ h 3 s = fld μ s 19 ∧ h 4 s = nI (pth μ s)) ∧ h 0 7 = μ 4 ∧ h 0 8 = μ 7 ∧ h 0 9 = μ 8 ∧ h 0 10 = μ 9 ∧ h 0 11 = μ 10
theorem read_ok {Y : Mem} (hI : Inv Y) (h1 : Y 12 0 0 1 = nI (nS (Y 10 0 1))) : ∃ h', X12_read Y = some (k12 Y h') ∧ LK h' (Y 10 0 1) ∧ h' 0 2 = Y 12 0 0 2 := by
  have h14 := nS_le hI
  have hh : Y = k12 Y (Y 12 0) := (k12_self Y).symm
  have e0 : ∀ j, j < 7 → (uo (uo (uo (uo (uo (Y 12 0) 0 7 (Y 10 0 1 4)) 0 8 (Y 10 0 1 7)) 0 9 (Y 10 0 1 8)) 0 10 (Y 10 0 1 9)) 0 11 (Y 10 0 1 10)) 0 j = Y 12 0 0 j := fun j hj => by
    rw [uo_o (by omega), uo_o (by omega), uo_o (by omega), uo_o (by omega), uo_o (by omega)]
  obtain ⟨h', q1, q2, q3, q4⟩ := read_57 hI 0 (Nat.zero_le _) FU (uo (uo (uo (uo (uo (Y 12 0) 0 7 (Y 10 0 1 4)) 0 8 (Y 10 0 1 7)) 0 9 (Y 10 0 1 8)) 0 10 (Y 10 0 1 9)) 0 11 (Y 10 0 1 10)) (by have := FU_big; omega) (by rw [e0 1 (by omega)]; exact h1) (fun s hs => by omega)
  obtain ⟨h'', r1, r2, r3⟩ := read_120 hI 0 (Nat.zero_le _) FU h' (by have := FU_big; omega) (by rw [q2, e0 1 (by omega)]; exact h1) (fun k a b => by omega)
  refine ⟨h'', ?_, ⟨?_, fun s hs => ?_, ?_, ?_, ?_, ?_, ?_⟩, ?_⟩
  · rw [show X12_read_b120 FU (k12 Y h') (nI (nS (Y 10 0 1)) - 1) = _ from r1] at q1
    unfold X12_read
    rw [v_minute hI, bd1_e, hh, up_k12, lt_e, v_starts (Inv_k12 _ hI), bd1_e, up_k12, lt_e, v_completions (Inv_k12 _ hI), bd1_e, up_k12, lt_e, v_burns (Inv_k12 _ hI), bd1_e, up_k12, lt_e, v_cookMinutes (Inv_k12 _ hI), bd1_e, up_k12, lt_e]
    simp only [k12_m, k12_at, k12_self]
    exact q1
  · rw [r2 0 (by decide), q2, e0 1 (by omega)]; exact h1
  · obtain ⟨z1, z2, z3⟩ := q4 s hs
    exact ⟨by rw [r2 1 (by decide)]; exact z1, fun _ => by rw [r2 2 (by decide)]; exact z2, by rw [r2 3 (by decide)]; exact z3, r3 s hs⟩
  · rw [r2 0 (by decide), q2, uo_o (by omega), uo_o (by omega), uo_o (by omega), uo_o (by omega), uo_s]
  · rw [r2 0 (by decide), q2, uo_o (by omega), uo_o (by omega), uo_o (by omega), uo_s]
  · rw [r2 0 (by decide), q2, uo_o (by omega), uo_o (by omega), uo_s]
  · rw [r2 0 (by decide), q2, uo_o (by omega), uo_s]
  · rw [r2 0 (by decide), q2, uo_s]
  · rw [r2 0 (by decide), q2, e0 2 (by omega)]
end
