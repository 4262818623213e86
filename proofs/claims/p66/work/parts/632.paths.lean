/-! PATH LENGTHS -/
def mxs (f : Nat → Bool) (p : Nat → Nat) : Nat → Nat
  | 0 => 0
  | n + 1 => if f n = true ∧ mxs f p n < p n then p n else mxs f p n
theorem mxs_s (f : Nat → Bool) (p : Nat → Nat) (n : Nat) : mxs f p (n + 1) = if f n = true ∧ mxs f p n < p n then p n else mxs f p n := rfl
def best (f : Nat → Bool) (p : Nat → Nat) : Nat → Option Nat
  | 0 => none
  | n + 1 => if f n = true then (match best f p n with
    | none => some n
    | some j => if p j < p n then some n else some j) else best f p n
theorem best_s (f : Nat → Bool) (p : Nat → Nat) (n : Nat) : best f p (n + 1) = if f n = true then (match best f p n with
    | none => some n
    | some j => if p j < p n then some n else some j) else best f p n := rfl
def oP (p : Nat → Nat) (o : Option Nat) : Nat := match o with
  | none => 0
  | some j => p j
theorem best_mxs (f : Nat → Bool) (p : Nat → Nat) : ∀ n, mxs f p n = oP p (best f p n) := by
  intro n
  induction n with
  | zero => rfl
  | succ n ih =>
    unfold mxs best
    cases hf : f n
    · rw [if_neg (fun q => by cases q.1), if_neg (by decide)]; exact ih
    · rw [if_pos rfl]
      cases hb : best f p n with
      | none =>
        rw [hb] at ih
        have ih0 : mxs f p n = 0 := ih
        show _ = p n
        by_cases h : 0 < p n
        · rw [if_pos ⟨rfl, by rw [ih0]; exact h⟩]
        · rw [if_neg (fun q => by have := q.2; rw [ih0] at this; exact h this), ih0]; omega
      | some j =>
        rw [hb] at ih
        have ihj : mxs f p n = p j := ih
        show _ = oP p (if p j < p n then some n else some j)
        by_cases h : p j < p n
        · rw [if_pos h, if_pos ⟨rfl, by rw [ihj]; exact h⟩]; rfl
        · rw [if_neg h, if_neg (fun q => by have := q.2; rw [ihj] at this; exact h this), ihj]; rfl
theorem best_lt {f : Nat → Bool} {p : Nat → Nat} : ∀ {n j : Nat}, best f p n = some j → j < n ∧ f j = true := by
  intro n
  induction n with
  | zero => intro j h; cases h
  | succ n ih =>
    intro j h
    unfold best at h
    cases hf : f n
    · rw [hf, if_neg (by decide)] at h
      exact ⟨Nat.lt_succ_of_lt (ih h).1, (ih h).2⟩
    · rw [hf, if_pos rfl] at h
      cases hb : best f p n with
      | none => rw [hb] at h; cases h; exact ⟨Nat.lt_succ_self n, hf⟩
      | some i =>
        rw [hb] at h
        have h2 : (if p i < p n then some n else some i) = some j := h
        by_cases q : p i < p n
        · rw [if_pos q] at h2; cases h2; exact ⟨Nat.lt_succ_self n, hf⟩
        · rw [if_neg q] at h2; cases h2; exact ⟨Nat.lt_succ_of_lt (ih hb).1, (ih hb).2⟩
theorem best_congr {f h : Nat → Bool} {p q : Nat → Nat} : ∀ {n : Nat}, (∀ k, k < n → f k = h k) → (∀ k, k < n → f k = true → p k = q k) → best f p n = best h q n := by
  intro n
  induction n with
  | zero => intro _ _; rfl
  | succ n ih =>
    intro h1 h2
    unfold best
    have e := ih (fun k hk => h1 k (by omega)) (fun k hk => h2 k (by omega))
    rw [← h1 n (by omega), ← e]
    cases hf : f n
    · rfl
    · rw [if_pos rfl, if_pos rfl]
      cases hb : best f p n with
      | none => rfl
      | some j =>
        have hj := best_lt hb
        show (if p j < p n then some n else some j) = (if q j < q n then some n else some j)
        rw [h2 n (by omega) hf, h2 j (by omega) hj.2]
def dur (m : Nat → Int32) (s : Nat) : Nat := (fld m s 7).toNatClampNeg
def sucs (m : Nat → Int32) (s k : Nat) : Bool := decide (s < k) && isPred m s k
def pa (m : Nat → Int32) : Nat → Nat → Nat
  | 0 => fun _ => 0
  | d + 1 => fun k => if k = nS m - (d + 1) then dur m (nS m - (d + 1)) + mxs (sucs m (nS m - (d + 1))) (pa m d) (nS m) else pa m d k
theorem pa_s (m : Nat → Int32) (d k : Nat) : pa m (d + 1) k = if k = nS m - (d + 1) then dur m (nS m - (d + 1)) + mxs (sucs m (nS m - (d + 1))) (pa m d) (nS m) else pa m d k := rfl
def pth (m : Nat → Int32) : Nat → Nat := pa m (nS m)
theorem mxs_le {f : Nat → Bool} {p : Nat → Nat} {c : Nat} : ∀ {n : Nat}, (∀ k, k < n → p k ≤ c) → mxs f p n ≤ c := by
  intro n
  induction n with
  | zero => intro _; exact Nat.zero_le c
  | succ n ih =>
    intro h
    unfold mxs
    split
    · exact h n (by omega)
    · exact ih (fun k hk => h k (by omega))
theorem dur_ok {m : Nat → Int32} (hM : MI m) {s : Nat} (hs : s < nS m) : fld m s 7 = nI (dur m s) ∧ 1 ≤ dur m s ∧ dur m s ≤ 60 := by
  obtain ⟨d, h1, h2, h3⟩ := (hM s hs).2.2
  have : dur m s = d := by unfold dur; rw [h1, nI_clamp (by omega)]
  rw [this]; exact ⟨h1, h2, h3⟩
theorem pa_le {m : Nat → Int32} (hM : MI m) : ∀ d, d ≤ nS m → ∀ k, pa m d k ≤ 60 * d := by
  intro d
  induction d with
  | zero => intro _ k; exact Nat.zero_le _
  | succ d ih =>
    intro hd k
    unfold pa
    have h1 := ih (by omega)
    show (if k = nS m - (d + 1) then dur m (nS m - (d + 1)) + mxs (sucs m (nS m - (d + 1))) (pa m d) (nS m) else pa m d k) ≤ _
    split
    · have h2 := (dur_ok hM (s := nS m - (d + 1)) (by omega)).2.2
      have h3 := mxs_le (f := sucs m (nS m - (d + 1))) (p := pa m d) (c := 60 * d) (n := nS m) (fun k _ => h1 k)
      omega
    · have := h1 k; omega
theorem pa_lt {m : Nat → Int32} (hM : MI m) (h14 : nS m ≤ 14) {d : Nat} (hd : d ≤ nS m) (k : Nat) : pa m d k < 1000 := by
  have := pa_le hM d hd k
  omega
/-- the model's inner loop -/
theorem paths_b20 (Y : Mem) {s d : Nat} {k10 : Mem → Int32 → Option Mem} (W : WF (Y 10 0 1)) (hM : MI (Y 10 0 1)) (hs : s < nS (Y 10 0 1)) (hd : d ≤ nS (Y 10 0 1)) (hp : ∀ k, s < k → k < nS (Y 10 0 1) → Y 10 0 5 k = nI (pa (Y 10 0 1) d k)) :
    ∀ i, i ≤ nS (Y 10 0 1) → s < i → ∀ f, nS (Y 10 0 1) - i < f → M12_computePaths_b20 k10 f Y (nI i) (nI (mxs (sucs (Y 10 0 1) s) (pa (Y 10 0 1) d) i)) (nI s) = k10 (upR Y 10 0 5 (upd (Y 10 0 5) s (nI (dur (Y 10 0 1) s + mxs (sucs (Y 10 0 1) s) (pa (Y 10 0 1) d) (nS (Y 10 0 1)))))) (nI s + -1) := by
  have h14 := W.2.1
  have e13 := W.1
  refine upl ?_ ?_
  · intro hsi f f_h
    obtain ⟨f, rfl⟩ := fuel_s f_h
    unfold M12_computePaths_b20
    simp (disch := omega) only [gdi, ix_n, litI]
    rw [e13, if_pos (Int32.le_refl _), of_ok Y (by omega), bd1_e, lt_e, (dur_ok hM hs).1, nI_add, up_eq]
  · intro i hi ih hsi f f_h
    obtain ⟨f, rfl⟩ := fuel_s f_h
    unfold M12_computePaths_b20
    simp (disch := omega) only [gdi, ix_n, litI]
    rw [e13, if_neg (by rw [nI_leI (by omega) (by omega)]; omega), isPred_ok Y W hi (by omega), bd1_e, bI_n, hp i hsi hi]
    have hj : ∀ z, M12_computePaths_b57 (M12_computePaths_b20 k10 f) Y (nI i) z (nI s) = M12_computePaths_b20 k10 f Y (nI (i + 1)) z (nI s) := by
      intro z
      unfold M12_computePaths_b57
      rw [litI, nI_add]
    have b1 := pa_lt hM h14 hd i
    have b2 : mxs (sucs (Y 10 0 1) s) (pa (Y 10 0 1) d) i ≤ 1000 := mxs_le fun k hk => Nat.le_of_lt (pa_lt hM h14 hd k)
    have ih2 := ih (by omega) f (by omega)
    rw [mxs_s] at ih2
    have hsu : sucs (Y 10 0 1) s i = isPred (Y 10 0 1) s i := by unfold sucs; rw [decide_eq_true hsi, Bool.true_and]
    rw [hsu] at ih2
    cases c : isPred (Y 10 0 1) s i
    · rw [if_neg (by decide), hj]
      rw [c, if_neg (fun q => by cases q.1)] at ih2
      exact ih2
    · rw [if_pos rfl]
      rw [c] at ih2
      by_cases q : mxs (sucs (Y 10 0 1) s) (pa (Y 10 0 1) d) i < pa (Y 10 0 1) d i
      · rw [if_neg (by rw [nI_leI (by omega) (by omega)]; omega), lt_e, hj]
        rw [if_pos ⟨rfl, q⟩] at ih2
        exact ih2
      · rw [if_pos (by rw [nI_leI (by omega) (by omega)]; omega), hj]
        rw [if_neg (fun z => q z.2)] at ih2
        exact ih2
theorem paths_b10 (Y0 : Mem) (W : WF (Y0 10 0 1)) (hM : MI (Y0 10 0 1)) : ∀ d, d ≤ nS (Y0 10 0 1) → ∀ f (p : Nat → Int32), nS (Y0 10 0 1) - d < f → (∀ k, nS (Y0 10 0 1) - d ≤ k → k < nS (Y0 10 0 1) → p k = nI (pa (Y0 10 0 1) d k)) → ∃ p', M12_computePaths_b10 f (upR Y0 10 0 5 p) (nI (nS (Y0 10 0 1) - d) - nI 1) = some (upR Y0 10 0 5 p') ∧ ∀ k, k < nS (Y0 10 0 1) → p' k = nI (pth (Y0 10 0 1) k) := by
  have h14 := W.2.1
  refine upl ?_ ?_
  · intro f p f_h hp
    obtain ⟨f, rfl⟩ := fuel_s f_h
    unfold M12_computePaths_b10
    rw [Nat.sub_self, if_pos (by decide)]
    exact ⟨p, rfl, fun k hk => hp k (by omega) hk⟩
  · intro d hd ih f p f_h hp
    obtain ⟨f, rfl⟩ := fuel_s f_h
    unfold M12_computePaths_b10
    have em : (upR Y0 10 0 5 p) 10 0 1 = Y0 10 0 1 := upR_o (by omega)
    have ep : (upR Y0 10 0 5 p) 10 0 5 = p := upR_at _ _ _ _ _
    have es : nI (nS (Y0 10 0 1) - d) - nI 1 = nI (nS (Y0 10 0 1) - (d + 1)) := by
      rw [pk_sub (by omega)]; congr 1
    rw [es, if_neg (nI_pos (by omega)), lt_e]
    simp only [litI, nI_add]
    have hs : nS (Y0 10 0 1) - (d + 1) < nS (Y0 10 0 1) := by omega
    have m0 : mxs (sucs (Y0 10 0 1) (nS (Y0 10 0 1) - (d + 1))) (pa (Y0 10 0 1) d) (nS (Y0 10 0 1) - (d + 1) + 1) = 0 := by
      have : ∀ n, n ≤ nS (Y0 10 0 1) - (d + 1) + 1 → mxs (sucs (Y0 10 0 1) (nS (Y0 10 0 1) - (d + 1))) (pa (Y0 10 0 1) d) n = 0 := by
        intro n
        induction n with
        | zero => intro _; rfl
        | succ n ihn =>
          intro hn
          rw [mxs_s, if_neg (fun q => ?_)]
          · exact ihn (by omega)
          · have := q.1
            unfold sucs at this
            rw [decide_eq_false (by omega)] at this
            cases this
      exact this _ (Nat.le_refl _)
    have hb := paths_b20 (upR Y0 10 0 5 p) (s := nS (Y0 10 0 1) - (d + 1)) (d := d) (k10 := M12_computePaths_b10 f) (by rw [em]; exact W) (by rw [em]; exact hM) (by rw [em]; exact hs) (by rw [em]; omega) (by rw [em, ep]; intro k h1 h2; exact hp k (by omega) h2) (nS (Y0 10 0 1) - (d + 1) + 1) (by rw [em]; omega) (by omega) FU (by have := FU_big; rw [em]; omega)
    rw [em, ep, m0] at hb
    rw [hb, upR_upR]
    have e2 : nI (nS (Y0 10 0 1) - (d + 1)) + -1 = nI (nS (Y0 10 0 1) - (d + 1)) - nI 1 := (Int32.sub_eq_add_neg _ _).symm
    rw [e2]
    refine ih f _ (by omega) fun k h1 h2 => ?_
    rw [pa_s]
    by_cases e : k = nS (Y0 10 0 1) - (d + 1)
    · rw [e, pk_us, if_pos rfl]
    · rw [pk_un e, if_neg e]
      exact hp k (by omega) h2
theorem paths_ok (Y : Mem) (W : WF (Y 10 0 1)) (hM : MI (Y 10 0 1)) : ∃ p, M12_computePaths Y = some (upR Y 10 0 5 p) ∧ ∀ k, k < nS (Y 10 0 1) → p k = nI (pth (Y 10 0 1) k) := by
  have h14 := W.2.1
  unfold M12_computePaths
  simp (disch := omega) only [gdi, ix_n, litI, lt_e]
  rw [W.1]
  have := paths_b10 Y W hM 0 (Nat.zero_le _) FU (Y 10 0 5) (by have := FU_big; omega) (fun k h1 h2 => by omega)
  rw [upR_self, Nat.sub_zero] at this
  exact this
