section
/-! READING A SETUP: what class and block hold on the way -/
def FrC (r : Nat) (Y Y' : Mem) : Prop := ∀ k g o, ¬ (k = 6 ∧ g = 0 ∧ o = 0) → ¬ (k = 3 ∧ g = r) → ¬ (k = 4 ∧ (g = 2 * r ∨ g = 2 * r + 1)) → Y' k g o = Y k g o
theorem FrC_refl (r : Nat) (Y : Mem) : FrC r Y Y := fun _ _ _ _ _ _ => rfl
theorem FrC_trans {r : Nat} {a b c : Mem} (h1 : FrC r a b) (h2 : FrC r b c) : FrC r a c := fun k g o q1 q2 q3 => (h2 k g o q1 q2 q3).trans (h1 k g o q1 q2 q3)
theorem FrC_6 (r : Nat) (Y : Mem) (f : Nat → Int32) : FrC r Y (upR Y 6 0 0 f) := fun k g o q1 _ _ => upR_o q1
theorem FrC_3 (r : Nat) (Y : Mem) (o : Nat) (f : Nat → Int32) : FrC r Y (upR Y 3 r o f) := fun k g o' _ q2 _ => upR_o (by omega)
theorem FrC_4 {r g : Nat} (Y : Mem) (o : Nat) (f : Nat → Int32) (hg : g = 2 * r ∨ g = 2 * r + 1) : FrC r Y (upR Y 4 g o f) := fun k g' o' _ _ q3 => upR_o (by omega)
def FrL (Z Z' : Mem) : Prop := (∀ k g o, ¬ (k = 10 ∧ g = 0 ∧ (o = 0 ∨ o = 1)) → Z' k g o = Z k g o) ∧ HF Z (Z' 10 0 0) ∧ ∀ x, 382 ≤ x → Z' 10 0 1 x = Z 10 0 1 x
theorem FrL_refl (Z : Mem) : FrL Z Z := ⟨fun _ _ _ _ => rfl, HF_refl Z, fun _ _ => rfl⟩
theorem FrL_trans {a b c : Mem} (h1 : FrL a b) (h2 : FrL b c) : FrL a c := ⟨fun k g o q => (h2.1 k g o q).trans (h1.1 k g o q), fun x q1 q2 q3 q4 q5 q6 => (h2.2.1 x q1 q2 q3 q4 q5 q6).trans (h1.2.1 x q1 q2 q3 q4 q5 q6), fun x hx => (h2.2.2 x hx).trans (h1.2.2 x hx)⟩
theorem FrL_0 {Z : Mem} {h : Nat → Int32} (hh : HF Z h) : FrL Z (upR Z 10 0 0 h) := ⟨fun k g o q => upR_o (by omega), by rw [u10]; exact hh, fun x hx => by rw [upR_o (by omega)]⟩
theorem FrL_1 {Z : Mem} {m : Nat → Int32} (hm : ∀ x, 382 ≤ x → m x = Z 10 0 1 x) : FrL Z (upR Z 10 0 1 m) := ⟨fun k g o q => upR_o (by omega), by rw [upR_o (by omega)]; exact HF_refl Z, fun x hx => by rw [upR_at]; exact hm x hx⟩
/-- a step that is read: what the class holds of it, what the block does -/
def ST1 (Y : Mem) (r : Nat) (m : Nat → Int32) (K s : Nat) : Prop :=
  Y 3 r 3 s = fld m s 7 ∧ Y 3 r 4 s = fld m s 8 ∧ Y 3 r 5 s = fld m s 9 ∧ Y 3 r 7 s = fld m s 12 ∧ (fld m s 12 = nI (np m s) ∧ np m s ≤ 4) ∧ (∀ k, k < np m s → fld m s (13 + k) = nI (pr m s k) ∧ pr m s k < s ∧ Y 3 r (20 + s) k = fld m s (13 + k)) ∧ (fld m s 9 = -1 ∨ ∃ q, q < K ∧ fld m s 9 = nI q) ∧ (fld m s 10 = 0 ∨ fld m s 10 = 1) ∧ (fld m s 11 = 0 ∨ fld m s 11 = 1) ∧ (∃ d, fld m s 7 = nI d ∧ 1 ≤ d ∧ d ≤ 60) ∧ ∀ w, 17 ≤ w → w < 24 → fld m s w = 0
def MID (Y : Mem) (r : Nat) (m : Nat → Int32) (K S : Nat) (pu : Nat → Bool) (ho al : Bool) (pc : Nat) (pp : Nat → Bool) : Prop :=
  (K ≤ 4 ∧ S ≤ 14 ∧ m 12 = nI K ∧ m 13 = nI S) ∧ (NN Y (2 * r) m 14 8 K ∧ NN Y (2 * r + 1) m 46 24 S) ∧ (Y 3 r 0 0 = m 0 ∧ Y 3 r 0 1 = m 1 ∧ Y 3 r 0 2 = m 2 ∧ Y 3 r 0 3 = m 3) ∧ (∀ x, 4 ≤ x → x < 12 → m x = 0) ∧ (∀ q, q < K → Y 3 r 1 q = m (14 + q * 8 + 7)) ∧ (∀ s, s < S → ST1 Y r m K s) ∧
  (∀ q, q < 4 → ∀ k, k < 32 → bt (Y 3 r 2 q) k = ((decide (k < S) && (fld m k 9 == nI q)) || (decide (k = S) && pu q))) ∧
  (∀ k, k < 32 → bt (Y 3 r 0 15) k = ((decide (k < S) && (fld m k 10 == 1)) || (decide (k = S) && ho)) ∧ bt (Y 3 r 0 16) k = ((decide (k < S) && (fld m k 11 == 1)) || (decide (k = S) && al))) ∧
  (∀ s, s < S → ∀ k, k < 32 → bt (Y 3 r 8 s) k = isPred m k s) ∧
  (∀ s, s < 14 → ∀ k, k < 32 → bt (Y 3 r 9 s) k = ((decide (k < S) && isPred m s k) || (decide (k = S) && pp s))) ∧
  (S < 14 → Y 3 r 7 S = nI pc ∧ ∀ k, k < 32 → bt (Y 3 r 8 S) k = pp k) ∧
  (∀ s, S < s → s < 14 → Y 3 r 7 s = 0 ∧ Y 3 r 8 s = 0)
def ff : Nat → Bool := fun _ => false
theorem fl_cg {m m' : Nat → Int32} {S : Nat} (h : ∀ x, x < 46 + S * 24 → m' x = m x) {s w : Nat} (hs : s < S) (hw : w < 24) : fld m' s w = fld m s w := h _ (by omega)
theorem np_cg {m m' : Nat → Int32} {S : Nat} (h : ∀ x, x < 46 + S * 24 → m' x = m x) {s : Nat} (hs : s < S) : np m' s = np m s := by unfold np; rw [fl_cg h hs (by omega)]
theorem pr_cg {m m' : Nat → Int32} {S : Nat} (h : ∀ x, x < 46 + S * 24 → m' x = m x) {s k : Nat} (hs : s < S) (hk : k < 4) : pr m' s k = pr m s k := by unfold pr; rw [fl_cg h hs (by omega)]
theorem isPred_cg {m m' : Nat → Int32} {S : Nat} (h : ∀ x, x < 46 + S * 24 → m' x = m x) {s : Nat} (hs : s < S) (hn : np m s ≤ 4) (p : Nat) : isPred m' p s = isPred m p s := by
  unfold isPred
  rw [np_cg h hs]
  exact anyB_congr fun i hi => by rw [pr_cg h hs (by omega)]
theorem ST1_cg {Y : Mem} {r K S s : Nat} {m m' : Nat → Int32} (h : ∀ x, x < 46 + S * 24 → m' x = m x) (hs : s < S) (q : ST1 Y r m K s) : ST1 Y r m' K s := by
  obtain ⟨q1, q2, q3, q4, q5, q6, q7, q8, q9, q10, q11⟩ := q
  unfold ST1
  rw [fl_cg h hs (by omega), fl_cg h hs (by omega), fl_cg h hs (by omega), fl_cg h hs (by omega), fl_cg h hs (by omega), fl_cg h hs (by omega), np_cg h hs]
  refine ⟨q1, q2, q3, q4, q5, fun k hk => ?_, q7, q8, q9, q10, fun w w1 w2 => by rw [fl_cg h hs w2]; exact q11 w w1 w2⟩
  rw [fl_cg h hs (by omega), pr_cg h hs (by omega)]
  exact q6 k hk
theorem nameP_cg {Y : Mem} {g at_ q : Nat} {m m' : Nat → Int32} (h : ∀ x, at_ ≤ x → x < at_ + 7 → m' x = m x) (hp : nameP Y g m at_ q) : nameP Y g m' at_ q := by
  obtain ⟨n, n1, n6, e1, e2, e3⟩ := hp
  refine ⟨n, n1, n6, e1, by rw [h at_ (by omega) (by omega)]; exact e2, fun k hk => ?_⟩
  rw [h (at_ + 1 + k) (by omega) (by omega)]
  exact e3 k hk
theorem NN_cg {Y : Mem} {g a0 st c : Nat} {m m' : Nat → Int32} (h : ∀ q, q < c → ∀ x, a0 + q * st ≤ x → x < a0 + q * st + 7 → m' x = m x) (hN : NN Y g m a0 st c) : NN Y g m' a0 st c :=
  ⟨hN.1, hN.2.1, fun q hq => nameP_cg (h q hq) (hN.2.2 q hq)⟩
theorem dec_or {a b c : Bool} {k S : Nat} (h : k < S → b = c) : ((decide (k < S) && b) || a) = ((decide (k < S) && c) || a) := by
  by_cases e : k < S
  · rw [h e]
  · rw [decide_eq_false e]; rfl
/-- what the block holds elsewhere may change -/
theorem MID_m {Y : Mem} {r K S pc : Nat} {m m' : Nat → Int32} {pu pp : Nat → Bool} {ho al : Bool} (h : ∀ x, x < 46 + S * 24 → m' x = m x) (q : MID Y r m K S pu ho al pc pp) : MID Y r m' K S pu ho al pc pp := by
  obtain ⟨⟨a1, a2, a3, a4⟩, ⟨b1, b2⟩, c1, d1, e1, f1, g1, h1, i1, j1, k1, l1⟩ := q
  refine ⟨⟨a1, a2, by rw [h 12 (by omega)]; exact a3, by rw [h 13 (by omega)]; exact a4⟩, ⟨NN_cg (fun q hq x x1 x2 => h x (by omega)) b1, NN_cg (fun q hq x x1 x2 => h x (by omega)) b2⟩, by rw [h 0 (by omega), h 1 (by omega), h 2 (by omega), h 3 (by omega)]; exact c1, fun x x1 x2 => by rw [h x (by omega)]; exact d1 x x1 x2, fun q hq => by rw [h _ (by omega)]; exact e1 q hq, fun s hs => ST1_cg h hs (f1 s hs), fun q hq k hk => ?_, fun k hk => ⟨?_, ?_⟩, fun s hs k hk => ?_, fun s hs k hk => ?_, k1, l1⟩
  · rw [g1 q hq k hk]
    exact dec_or fun e => by rw [fl_cg h e (by omega)]
  · rw [(h1 k hk).1]
    exact dec_or fun e => by rw [fl_cg h e (by omega)]
  · rw [(h1 k hk).2]
    exact dec_or fun e => by rw [fl_cg h e (by omega)]
  · rw [i1 s hs k hk, isPred_cg h hs (f1 s hs).2.2.2.2.1.2]
  · rw [j1 s hs k hk]
    exact dec_or fun e => by rw [isPred_cg h e (f1 k e).2.2.2.2.1.2]
/-- what the class holds elsewhere may change -/
theorem MID_c {Y Y' : Mem} {r K S pc : Nat} {m : Nat → Int32} {pu pp : Nat → Bool} {ho al : Bool} (h0 : ∀ x, x ≤ 3 ∨ x = 15 ∨ x = 16 → Y' 3 r 0 x = Y 3 r 0 x) (h1 : ∀ q, q < K → Y' 3 r 1 q = Y 3 r 1 q) (h2 : Y' 3 r 2 = Y 3 r 2) (h3 : ∀ s, s < S → Y' 3 r 3 s = Y 3 r 3 s ∧ Y' 3 r 4 s = Y 3 r 4 s ∧ Y' 3 r 5 s = Y 3 r 5 s ∧ Y' 3 r (20 + s) = Y 3 r (20 + s)) (h7 : Y' 3 r 7 = Y 3 r 7) (h8 : Y' 3 r 8 = Y 3 r 8) (h9 : Y' 3 r 9 = Y 3 r 9) (n0 : Y' 4 (2 * r) 0 2 = Y 4 (2 * r) 0 2 ∧ ∀ q, q < K → Y' 4 (2 * r) 2 q = Y 4 (2 * r) 2 q ∧ Y' 4 (2 * r) (10 + q) = Y 4 (2 * r) (10 + q)) (n1 : Y' 4 (2 * r + 1) 0 2 = Y 4 (2 * r + 1) 0 2 ∧ ∀ q, q < S → Y' 4 (2 * r + 1) 2 q = Y 4 (2 * r + 1) 2 q ∧ Y' 4 (2 * r + 1) (10 + q) = Y 4 (2 * r + 1) (10 + q)) (q : MID Y r m K S pu ho al pc pp) : MID Y' r m K S pu ho al pc pp := by
  obtain ⟨a, ⟨b1, b2⟩, c1, d1, e1, f1, g1, i0, i1, j1, k1, l1⟩ := q
  refine ⟨a, ⟨⟨b1.1, by rw [n0.1]; exact b1.2.1, fun q hq => ?_⟩, ⟨b2.1, by rw [n1.1]; exact b2.2.1, fun q hq => ?_⟩⟩, by rw [h0 0 (by omega), h0 1 (by omega), h0 2 (by omega), h0 3 (by omega)]; exact c1, d1, fun q hq => by rw [h1 q hq]; exact e1 q hq, fun s hs => ?_, by rw [h2]; exact g1, by rw [h0 15 (by omega), h0 16 (by omega)]; exact i0, by rw [h8]; exact i1, by rw [h9]; exact j1, by rw [h7, h8]; exact k1, by rw [h7, h8]; exact l1⟩
  · have := b1.2.2 q hq
    unfold nameP at this ⊢
    rw [(n0.2 q hq).1, (n0.2 q hq).2]; exact this
  · have := b2.2.2 q hq
    unfold nameP at this ⊢
    rw [(n1.2 q hq).1, (n1.2 q hq).2]; exact this
  · have := f1 s hs
    unfold ST1 at this ⊢
    rw [(h3 s hs).1, (h3 s hs).2.1, (h3 s hs).2.2.1, (h3 s hs).2.2.2, h7]; exact this
/-- tokens do not matter -/
theorem MID_6 {Y : Mem} {r K S pc : Nat} {m : Nat → Int32} {pu pp : Nat → Bool} {ho al : Bool} (f : Nat → Int32) (q : MID Y r m K S pu ho al pc pp) : MID (upR Y 6 0 0 f) r m K S pu ho al pc pp := by
  have e : ∀ k, k ≠ 6 → (upR Y 6 0 0 f) k = Y k := fun k hk => u6o Y f hk
  refine MID_c (fun x _ => by rw [e 3 (by omega)]) (fun x _ => by rw [e 3 (by omega)]) (by rw [e 3 (by omega)]) (fun x _ => by rw [e 3 (by omega)]; exact ⟨rfl, rfl, rfl, rfl⟩) (by rw [e 3 (by omega)]) (by rw [e 3 (by omega)]) (by rw [e 3 (by omega)]) (by rw [e 4 (by omega)]; exact ⟨rfl, fun _ _ => ⟨rfl, rfl⟩⟩) (by rw [e 4 (by omega)]; exact ⟨rfl, fun _ _ => ⟨rfl, rfl⟩⟩) q
/-- the step is at its end -/
theorem dec_s {a b c : Bool} {k S : Nat} (h : k = S → b = c) : ((decide (k < S) && c) || (decide (k = S) && b)) = ((decide (k < S + 1) && c) || (decide (k = S + 1) && a && false)) := by
  by_cases e : k < S
  · rw [decide_eq_true e, decide_eq_false (show ¬ k = S by omega), decide_eq_true (show k < S + 1 by omega)]
    cases c <;> simp
  · by_cases e2 : k = S
    · rw [decide_eq_false e, decide_eq_true e2, decide_eq_true (show k < S + 1 by omega), h e2]
      cases c <;> simp
    · rw [decide_eq_false e, decide_eq_false e2, decide_eq_false (show ¬ k < S + 1 by omega)]
      simp
theorem dec_s2 {b c : Bool} {k S : Nat} (h : k = S → b = c) : ((decide (k < S) && c) || (decide (k = S) && b)) = ((decide (k < S + 1) && c) || (decide (k = S + 1) && false)) := by
  have := dec_s (a := true) h
  rw [Bool.and_true] at this
  exact this
theorem MID_end {Y : Mem} {r K S pc : Nat} {m : Nat → Int32} {pu pp : Nat → Bool} {ho al : Bool} (hS : S < 14) (q : MID Y r m K S pu ho al pc pp) (hst : ST1 Y r m K S) (hnm : nameP Y (2 * r + 1) m (46 + S * 24) S) (hpu : ∀ q, q < 4 → pu q = (fld m S 9 == nI q)) (hho : ho = (fld m S 10 == 1)) (hal : al = (fld m S 11 == 1)) (hpp : ∀ k, k < 32 → pp k = isPred m k S) : MID (up Y 4 (2 * r + 1) 0 2 (nI (S + 1))) r (upd m 13 (nI (S + 1))) K (S + 1) ff false false 0 ff := by
  obtain ⟨⟨a1, a2, a3, a4⟩, ⟨b1, b2⟩, c1, d1, e1, f1, g1, h1, i1, j1, k1, l1⟩ := q
  obtain ⟨k1, k2⟩ := k1 hS
  have e3 : (up Y 4 (2 * r + 1) 0 2 (nI (S + 1))) 3 = Y 3 := by funext g o; rw [up_eq, upR_o (by omega)]
  have e4 : ∀ g o, ¬ (g = 2 * r + 1 ∧ o = 0) → (up Y 4 (2 * r + 1) 0 2 (nI (S + 1))) 4 g o = Y 4 g o := fun g o h => by rw [up_eq, upR_o (by omega)]
  have ef : ∀ k w, fld (upd m 13 (nI (S + 1))) k w = fld m k w := fun k w => fld_upd_lo m _ (by omega)
  have en : ∀ s, np (upd m 13 (nI (S + 1))) s = np m s := fun s => by unfold np; rw [ef]
  have ep : ∀ s k, pr (upd m 13 (nI (S + 1))) s k = pr m s k := fun s k => by unfold pr; rw [ef]
  have ei : ∀ k s, isPred (upd m 13 (nI (S + 1))) k s = isPred m k s := fun k s => by
    unfold isPred
    rw [en]
    exact anyB_congr fun i _ => by rw [ep]
  have hst1 : ∀ s, s < S + 1 → ST1 Y r m K s := fun s hs => by
    by_cases e : s = S
    · subst e; exact hst
    · exact f1 s (by omega)
  have hnm1 : ∀ s, s < S + 1 → nameP Y (2 * r + 1) m (46 + s * 24) s := fun s hs => by
    by_cases e : s = S
    · subst e; exact hnm
    · exact b2.2.2 s (by omega)
  have hn : ∀ g c at_, (g = 2 * r ∨ g = 2 * r + 1) → 14 ≤ at_ → nameP Y g m at_ c → nameP (up Y 4 (2 * r + 1) 0 2 (nI (S + 1))) g (upd m 13 (nI (S + 1))) at_ c := fun g c at_ _ ha hp => by
    have hp2 := nameP_cg (m' := upd m 13 (nI (S + 1))) (fun x x1 x2 => pk_un (by omega)) hp
    unfold nameP at hp2 ⊢
    rw [e4 g 2 (by omega), e4 g (10 + c) (by omega)]; exact hp2
  refine ⟨⟨a1, by omega, by rw [pk_un (by omega)]; exact a3, pk_us⟩, ⟨⟨b1.1, by rw [e4 _ _ (by omega)]; exact b1.2.1, fun q hq => hn _ _ _ (Or.inl rfl) (by omega) (b1.2.2 q hq)⟩, ⟨by rw [ncap_s]; omega, by rw [up_at, pk_us], fun q hq => hn _ _ _ (Or.inr rfl) (by omega) (hnm1 q hq)⟩⟩, by rw [e3, pk_un (by omega), pk_un (by omega), pk_un (by omega), pk_un (by omega)]; exact c1, fun x x1 x2 => by rw [pk_un (by omega)]; exact d1 x x1 x2, fun q hq => by rw [e3, pk_un (by omega)]; exact e1 q hq, fun s hs => ?_, fun q hq k hk => ?_, fun k hk => ⟨?_, ?_⟩, fun s hs k hk => ?_, fun s hs k hk => ?_, fun h => ?_, fun s s1 s2 => by rw [e3]; exact l1 s (by omega) s2⟩
  · have := hst1 s hs
    unfold ST1 at this ⊢
    rw [e3]
    simp only [ef, en, ep]
    exact this
  · rw [e3, g1 q hq k hk, ef]
    exact dec_s2 fun e => by rw [hpu q hq, e]
  · rw [e3, (h1 k hk).1, ef]
    exact dec_s2 fun e => by rw [hho, e]
  · rw [e3, (h1 k hk).2, ef]
    exact dec_s2 fun e => by rw [hal, e]
  · rw [e3, ei]
    by_cases e : s = S
    · subst e; rw [k2 k hk, hpp k hk]
    · exact i1 s (by omega) k hk
  · rw [e3, j1 s hs k hk, ei]
    exact dec_s2 fun e => by rw [hpp s (by omega), e]
  · have := l1 (S + 1) (by omega) h
    rw [e3, this.1, this.2]
    exact ⟨rfl, fun k _ => b_0 k⟩
end
