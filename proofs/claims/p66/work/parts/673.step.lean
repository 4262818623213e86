section
/-! A STEP of a setup: what the class's writes do to the relation -/
theorem bit_or {x : Int32} {p k : Nat} (hp : p < 14) (hk : k < 32) : bt (x ||| (1 <<< (nI p &&& 31))) k = (bt x k || decide (k = p)) := by
  rw [b_or, b_one p (by omega) hk]
theorem MID_hot {Y : Mem} {r K S pc : Nat} {m : Nat → Int32} {pu pp : Nat → Bool} {ho al : Bool} (hS : S < 14) (q : MID Y r m K S pu ho al pc pp) : MID (up Y 3 r 0 15 (Y 3 r 0 15 ||| (1 <<< (nI S &&& 31)))) r m K S pu true al pc pp := by
  have e3 : ∀ o, o ≠ 0 → (up Y 3 r 0 15 (Y 3 r 0 15 ||| (1 <<< (nI S &&& 31)))) 3 r o = Y 3 r o := fun o ho => by rw [up_eq, upR_o (by omega)]
  have e4 : (up Y 3 r 0 15 (Y 3 r 0 15 ||| (1 <<< (nI S &&& 31)))) 4 = Y 4 := by funext g o; rw [up_eq, upR_o (by omega)]
  obtain ⟨a, b, c1, d1, e1, f1, g1, h1, i1, j1, k1, l1⟩ := q
  refine ⟨a, ?_, ?_, d1, by rw [e3 1 (by omega)]; exact e1, fun s hs => ?_, by rw [e3 2 (by omega)]; exact g1, fun k hk => ⟨?_, ?_⟩, by rw [e3 8 (by omega)]; exact i1, by rw [e3 9 (by omega)]; exact j1, by rw [e3 7 (by omega), e3 8 (by omega)]; exact k1, by rw [e3 7 (by omega), e3 8 (by omega)]; exact l1⟩
  · unfold NN nameP at b ⊢; rw [e4]; exact b
  · rw [up_at, pk_un (by omega), pk_un (by omega), pk_un (by omega), pk_un (by omega)]; exact c1
  · have := f1 s hs
    unfold ST1 at this ⊢
    rw [e3 3 (by omega), e3 4 (by omega), e3 5 (by omega), e3 7 (by omega), e3 (20 + s) (by omega)]; exact this
  · rw [up_at, pk_us, bit_or hS hk, (h1 k hk).1]
    by_cases e : k = S
    · subst e; simp
    · simp [e]
  · rw [up_at, pk_un (by omega)]; exact (h1 k hk).2
theorem MID_alone {Y : Mem} {r K S pc : Nat} {m : Nat → Int32} {pu pp : Nat → Bool} {ho al : Bool} (hS : S < 14) (q : MID Y r m K S pu ho al pc pp) : MID (up Y 3 r 0 16 (Y 3 r 0 16 ||| (1 <<< (nI S &&& 31)))) r m K S pu ho true pc pp := by
  have e3 : ∀ o, o ≠ 0 → (up Y 3 r 0 16 (Y 3 r 0 16 ||| (1 <<< (nI S &&& 31)))) 3 r o = Y 3 r o := fun o ho => by rw [up_eq, upR_o (by omega)]
  have e4 : (up Y 3 r 0 16 (Y 3 r 0 16 ||| (1 <<< (nI S &&& 31)))) 4 = Y 4 := by funext g o; rw [up_eq, upR_o (by omega)]
  obtain ⟨a, b, c1, d1, e1, f1, g1, h1, i1, j1, k1, l1⟩ := q
  refine ⟨a, ?_, ?_, d1, by rw [e3 1 (by omega)]; exact e1, fun s hs => ?_, by rw [e3 2 (by omega)]; exact g1, fun k hk => ⟨?_, ?_⟩, by rw [e3 8 (by omega)]; exact i1, by rw [e3 9 (by omega)]; exact j1, by rw [e3 7 (by omega), e3 8 (by omega)]; exact k1, by rw [e3 7 (by omega), e3 8 (by omega)]; exact l1⟩
  · unfold NN nameP at b ⊢; rw [e4]; exact b
  · rw [up_at, pk_un (by omega), pk_un (by omega), pk_un (by omega), pk_un (by omega)]; exact c1
  · have := f1 s hs
    unfold ST1 at this ⊢
    rw [e3 3 (by omega), e3 4 (by omega), e3 5 (by omega), e3 7 (by omega), e3 (20 + s) (by omega)]; exact this
  · rw [up_at, pk_un (by omega)]; exact (h1 k hk).1
  · rw [up_at, pk_us, bit_or hS hk, (h1 k hk).2]
    by_cases e : k = S
    · subst e; simp
    · simp [e]
/-- the step's own cells may be written -/
theorem MID_own {Y : Mem} {r K S pc o : Nat} {m : Nat → Int32} {pu pp : Nat → Bool} {ho al : Bool} (v : Int32) (hS : S < 14) (ho' : o = 3 ∨ o = 4 ∨ o = 5) (q : MID Y r m K S pu ho al pc pp) : MID (up Y 3 r o S v) r m K S pu ho al pc pp := by
  have e3 : ∀ x, x ≠ o → (up Y 3 r o S v) 3 r x = Y 3 r x := fun x hx => by rw [up_eq, upR_o (by omega)]
  have e4 : (up Y 3 r o S v) 4 = Y 4 := by funext g o; rw [up_eq, upR_o (by omega)]
  have es : ∀ x s, s < S → (up Y 3 r o S v) 3 r x s = Y 3 r x s := fun x s hs => by
    by_cases e : x = o
    · subst e; rw [up_at, pk_un (by omega)]
    · rw [e3 x e]
  refine MID_c (fun x _ => by rw [e3 0 (by omega)]) (fun x _ => by rw [e3 1 (by omega)]) (e3 2 (by omega)) (fun s hs => ⟨es 3 s hs, es 4 s hs, es 5 s hs, e3 _ (by omega)⟩) (e3 7 (by omega)) (e3 8 (by omega)) (e3 9 (by omega)) (by rw [e4]; exact ⟨rfl, fun _ _ => ⟨rfl, rfl⟩⟩) (by rw [e4]; exact ⟨rfl, fun _ _ => ⟨rfl, rfl⟩⟩) q
theorem MID_use {Y : Mem} {r K S pc p : Nat} {m : Nat → Int32} {pp : Nat → Bool} {ho al : Bool} (hS : S < 14) (hp : p < 4) (q : MID Y r m K S ff ho al pc pp) : MID (up Y 3 r 2 p (Y 3 r 2 p ||| (1 <<< (nI S &&& 31)))) r m K S (fun k => k == p) ho al pc pp := by
  have e3 : ∀ o, o ≠ 2 → (up Y 3 r 2 p (Y 3 r 2 p ||| (1 <<< (nI S &&& 31)))) 3 r o = Y 3 r o := fun o ho => by rw [up_eq, upR_o (by omega)]
  have e4 : (up Y 3 r 2 p (Y 3 r 2 p ||| (1 <<< (nI S &&& 31)))) 4 = Y 4 := by funext g o; rw [up_eq, upR_o (by omega)]
  obtain ⟨a, b, c1, d1, e1, f1, g1, h1, i1, j1, k1, l1⟩ := q
  refine ⟨a, ?_, by rw [e3 0 (by omega)]; exact c1, d1, by rw [e3 1 (by omega)]; exact e1, fun s hs => ?_, fun x hx k hk => ?_, by rw [e3 0 (by omega)]; exact h1, by rw [e3 8 (by omega)]; exact i1, by rw [e3 9 (by omega)]; exact j1, by rw [e3 7 (by omega), e3 8 (by omega)]; exact k1, by rw [e3 7 (by omega), e3 8 (by omega)]; exact l1⟩
  · unfold NN nameP at b ⊢; rw [e4]; exact b
  · have := f1 s hs
    unfold ST1 at this ⊢
    rw [e3 3 (by omega), e3 4 (by omega), e3 5 (by omega), e3 7 (by omega), e3 (20 + s) (by omega)]; exact this
  · rw [up_at]
    by_cases e : x = p
    · subst e
      rw [pk_us, bit_or hS hk, g1 x hx k hk]
      show ((decide (k < S) && (fld m k 9 == nI x)) || (decide (k = S) && false) || decide (k = S)) = (decide (k < S) && (fld m k 9 == nI x) || (decide (k = S) && (x == x)))
      simp
    · rw [pk_un e, g1 x hx k hk]
      show ((decide (k < S) && (fld m k 9 == nI x)) || (decide (k = S) && false)) = (decide (k < S) && (fld m k 9 == nI x) || (decide (k = S) && (x == p)))
      simp [e]
def addP (Y : Mem) (r S pc p : Nat) : Mem := up (up (up (up Y 3 r (20 + S) pc (nI p)) 3 r 7 S (nI (pc + 1))) 3 r 8 S (Y 3 r 8 S ||| (1 <<< (nI p &&& 31)))) 3 r 9 p (Y 3 r 9 p ||| (1 <<< (nI S &&& 31)))
theorem addP_o {Y : Mem} {r S pc p o : Nat} (h1 : o ≠ 20 + S) (h2 : o ≠ 7) (h3 : o ≠ 8) (h4 : o ≠ 9) : (addP Y r S pc p) 3 r o = Y 3 r o := by
  unfold addP
  rw [up_eq, upR_o (by omega), up_eq, upR_o (by omega), up_eq, upR_o (by omega), up_eq, upR_o (by omega)]
theorem addP_k {Y : Mem} {r S pc p k : Nat} (hk : k ≠ 3) : (addP Y r S pc p) k = Y k := by
  funext g o
  unfold addP
  rw [up_eq, upR_o (by omega), up_eq, upR_o (by omega), up_eq, upR_o (by omega), up_eq, upR_o (by omega)]
theorem addP_20 {Y : Mem} {r S pc p : Nat} : (addP Y r S pc p) 3 r (20 + S) = upd (Y 3 r (20 + S)) pc (nI p) := by
  unfold addP
  rw [up_eq, upR_o (by omega), up_eq, upR_o (by omega), up_eq, upR_o (by omega), up_at]
theorem addP_7 {Y : Mem} {r S pc p : Nat} : (addP Y r S pc p) 3 r 7 = upd (Y 3 r 7) S (nI (pc + 1)) := by
  unfold addP
  rw [up_eq, upR_o (by omega), up_eq, upR_o (by omega), up_at, up_eq, upR_o (by omega)]
theorem addP_8 {Y : Mem} {r S pc p : Nat} : (addP Y r S pc p) 3 r 8 = upd (Y 3 r 8) S (Y 3 r 8 S ||| (1 <<< (nI p &&& 31))) := by
  unfold addP
  rw [up_eq, upR_o (by omega), up_at, up_eq, upR_o (by omega), up_eq, upR_o (by omega)]
theorem addP_9 {Y : Mem} {r S pc p : Nat} : (addP Y r S pc p) 3 r 9 = upd (Y 3 r 9) p (Y 3 r 9 p ||| (1 <<< (nI S &&& 31))) := by
  unfold addP
  rw [up_at, up_eq, upR_o (by omega), up_eq, upR_o (by omega), up_eq, upR_o (by omega)]
theorem FrC_addP (Y : Mem) (r S pc p : Nat) : FrC r Y (addP Y r S pc p) :=
  FrC_trans (FrC_trans (FrC_trans (FrC_u3 _ _ _ _ _) (FrC_u3 _ _ _ _ _)) (FrC_u3 _ _ _ _ _)) (FrC_u3 _ _ _ _ _)
theorem addP_ok {Y : Mem} {r K S pc p : Nat} {m : Nat → Int32} {pu pp : Nat → Bool} {ho al : Bool} (hS : S < 14) (hp : p < S) (hpc : pc < 4) (q : MID Y r m K S pu ho al pc pp) : X5_addPredecessor Y r (nI S) (nI p) = some (addP Y r S pc p) := by
  obtain ⟨k1, k2⟩ := q.2.2.2.2.2.2.2.2.2.2.1 hS
  unfold X5_addPredecessor
  have e7 : (up Y 3 r (20 + S) pc (nI p)) 3 r 7 S = nI pc := by rw [up_eq, upR_o (by omega)]; exact k1
  have e8 : (up (up Y 3 r (20 + S) pc (nI p)) 3 r 7 S (nI (pc + 1))) 3 r 8 S = Y 3 r 8 S := by rw [up_eq, upR_o (by omega), up_eq, upR_o (by omega)]
  have e9 : (up (up (up Y 3 r (20 + S) pc (nI p)) 3 r 7 S (nI (pc + 1))) 3 r 8 S (Y 3 r 8 S ||| (1 <<< (nI p &&& 31)))) 3 r 9 p = Y 3 r 9 p := by rw [up_eq, upR_o (by omega), up_eq, upR_o (by omega), up_eq, upR_o (by omega)]
  rw [gdi hS, ix_n (show S < 2 ^ 31 by omega), k1, gdi hpc, ix_n (show pc < 2 ^ 31 by omega), lt_e, e7, nI_1, lt_e, e8, lt_e, gdi (show p < 14 by omega), ix_n (show p < 2 ^ 31 by omega), e9, lt_e]
  rfl
theorem MID_pred {Y : Mem} {r K S pc p : Nat} {m : Nat → Int32} {pu pp : Nat → Bool} {ho al : Bool} (hS : S < 14) (hp : p < S) (q : MID Y r m K S pu ho al pc pp) : MID (addP Y r S pc p) r m K S pu ho al (pc + 1) (fun k => pp k || (k == p)) := by
  have e4 : (addP Y r S pc p) 4 = Y 4 := addP_k (by omega)
  obtain ⟨a, b, c1, d1, e1, f1, g1, h1, i1, j1, k1, l1⟩ := q
  obtain ⟨k1, k2⟩ := k1 hS
  refine ⟨a, ?_, by rw [addP_o (by omega) (by omega) (by omega) (by omega)]; exact c1, d1, by rw [addP_o (by omega) (by omega) (by omega) (by omega)]; exact e1, fun s hs => ?_, by rw [addP_o (by omega) (by omega) (by omega) (by omega)]; exact g1, by rw [addP_o (by omega) (by omega) (by omega) (by omega)]; exact h1, fun s hs k hk => ?_, fun s hs k hk => ?_, fun _ => ⟨by rw [addP_7, pk_us], fun k hk => ?_⟩, fun s s1 s2 => ?_⟩
  · unfold NN nameP at b ⊢; rw [e4]; exact b
  · have := f1 s hs
    unfold ST1 at this ⊢
    rw [addP_o (o := 3) (by omega) (by omega) (by omega) (by omega), addP_o (o := 4) (by omega) (by omega) (by omega) (by omega), addP_o (o := 5) (by omega) (by omega) (by omega) (by omega), addP_7, pk_un (by omega), addP_o (o := 20 + s) (by omega) (by omega) (by omega) (by omega)]; exact this
  · rw [addP_8, pk_un (by omega)]; exact i1 s hs k hk
  · rw [addP_9]
    by_cases e : s = p
    · subst e
      rw [pk_us, bit_or hS hk, j1 s hs k hk]
      show ((decide (k < S) && isPred m s k) || (decide (k = S) && pp s) || decide (k = S)) = (decide (k < S) && isPred m s k || (decide (k = S) && (pp s || (s == s))))
      simp
      cases (decide (k < S) && isPred m s k) <;> cases decide (k = S) <;> cases pp s <;> rfl
    · rw [pk_un e, j1 s hs k hk]
      show _ = (decide (k < S) && isPred m s k || (decide (k = S) && (pp s || (s == p))))
      rw [beq_eq_false_iff_ne.mpr e, Bool.or_false]
  · rw [addP_8, pk_us, bit_or (by omega) hk, k2 k hk]
    show (pp k || decide (k = p)) = (pp k || (k == p))
    congr 1
  · rw [addP_7, addP_8, pk_un (by omega), pk_un (by omega)]; exact l1 s s1 s2
/-- what is known of the step's own words -/
def SX (Y : Mem) (r : Nat) (m : Nat → Int32) (K S lv : Nat) : Prop := nameP Y (2 * r + 1) m (46 + S * 24) S ∧ (∀ w, 17 ≤ w → w < 24 → fld m S w = 0) ∧ (1 ≤ lv → (∃ d, fld m S 7 = nI d ∧ 1 ≤ d ∧ d ≤ 60) ∧ Y 3 r 3 S = fld m S 7) ∧ (2 ≤ lv → Y 3 r 4 S = fld m S 8) ∧ (3 ≤ lv → Y 3 r 5 S = fld m S 9 ∧ (fld m S 9 = -1 ∨ ∃ q, q < K ∧ fld m S 9 = nI q))
theorem SX_m {Y : Mem} {r K S lv : Nat} {m m' : Nat → Int32} (h : ∀ w, (w < 7 + lv ∨ (17 ≤ w ∧ w < 24)) → fld m' S w = fld m S w) (q : SX Y r m K S lv) : SX Y r m' K S lv := by
  obtain ⟨q1, q2, q3, q4, q5⟩ := q
  refine ⟨nameP_cg (fun x x1 x2 => ?_) q1, fun w w1 w2 => by rw [h w (Or.inr ⟨w1, w2⟩)]; exact q2 w w1 w2, fun hl => by rw [h 7 (by omega)]; exact q3 hl, fun hl => by rw [h 8 (by omega)]; exact q4 hl, fun hl => by rw [h 9 (by omega)]; exact q5 hl⟩
  have := h (x - (46 + S * 24)) (by omega)
  unfold fld at this
  rwa [show 46 + S * 24 + (x - (46 + S * 24)) = x by omega] at this
theorem SX_c {Y Y' : Mem} {r K S lv : Nat} {m : Nat → Int32} (h4 : ∀ o, o ≠ 0 → Y' 4 (2 * r + 1) o = Y 4 (2 * r + 1) o) (h3 : ∀ o, 3 ≤ o → o < 3 + lv → o ≤ 5 → Y' 3 r o S = Y 3 r o S) (q : SX Y r m K S lv) : SX Y' r m K S lv := by
  obtain ⟨q1, q2, q3, q4, q5⟩ := q
  refine ⟨?_, q2, fun hl => by rw [h3 3 (by omega) (by omega) (by omega)]; exact q3 hl, fun hl => by rw [h3 4 (by omega) (by omega) (by omega)]; exact q4 hl, fun hl => by rw [h3 5 (by omega) (by omega) (by omega)]; exact q5 hl⟩
  unfold nameP at q1 ⊢
  rw [h4 2 (by omega), h4 (10 + S) (by omega)]; exact q1
theorem SX_6 {Y : Mem} {r K S lv : Nat} {m : Nat → Int32} (f : Nat → Int32) (q : SX Y r m K S lv) : SX (upR Y 6 0 0 f) r m K S lv :=
  SX_c (fun o _ => by rw [u6o _ _ (by omega)]) (fun o _ _ _ => by rw [u6o _ _ (by omega)]) q
/-- the predecessors read so far -/
def SP (Y : Mem) (r : Nat) (m : Nat → Int32) (S pc : Nat) (pp : Nat → Bool) : Prop := fld m S 12 = nI pc ∧ pc ≤ 4 ∧ (∀ i, i < pc → fld m S (13 + i) = nI (pr m S i) ∧ pr m S i < S ∧ Y 3 r (20 + S) i = fld m S (13 + i)) ∧ ∀ k, pp k = anyB (fun i => pr m S i == k) pc
theorem SP_c {Y Y' : Mem} {r S pc : Nat} {m : Nat → Int32} {pp : Nat → Bool} (h : Y' 3 r (20 + S) = Y 3 r (20 + S)) (q : SP Y r m S pc pp) : SP Y' r m S pc pp := by
  unfold SP at q ⊢; rw [h]; exact q
theorem SP_m {Y : Mem} {r S pc : Nat} {m m' : Nat → Int32} {pp : Nat → Bool} (h : ∀ w, 12 ≤ w → w < 17 → fld m' S w = fld m S w) (q : SP Y r m S pc pp) : SP Y r m' S pc pp := by
  obtain ⟨q1, q2, q3, q4⟩ := q
  have ep : ∀ i, i < 4 → pr m' S i = pr m S i := fun i hi => by unfold pr; rw [h _ (by omega) (by omega)]
  refine ⟨by rw [h 12 (by omega) (by omega)]; exact q1, q2, fun i hi => ?_, fun k => ?_⟩
  · rw [h _ (by omega) (by omega), ep i (by omega)]; exact q3 i hi
  · rw [q4 k]; exact anyB_congr fun i hi => by rw [ep i (by omega)]
theorem SP_0 {Y : Mem} {r S : Nat} {m : Nat → Int32} (h : fld m S 12 = 0) : SP Y r m S 0 ff := ⟨h, by omega, fun i hi => by omega, fun k => rfl⟩
/-- all of a step's words make a step -/
theorem ST1_of {Y : Mem} {r K S pc : Nat} {m : Nat → Int32} {pu pp : Nat → Bool} {ho al : Bool} (hS : S < 14) (hM : MID Y r m K S pu ho al pc pp) (hX : SX Y r m K S 3) (h10 : fld m S 10 = bI ho) (h11 : fld m S 11 = bI al) (hP : SP Y r m S pc pp) : ST1 Y r m K S ∧ np m S = pc := by
  obtain ⟨x1, x2, x3, x4, x5⟩ := hX
  obtain ⟨p1, p2, p3, p4⟩ := hP
  have en : np m S = pc := by unfold np; rw [p1, nI_clamp (by omega)]
  have b01 : ∀ b : Bool, bI b = 0 ∨ bI b = 1 := fun b => by cases b <;> decide
  refine ⟨⟨(x3 (by omega)).2, x4 (by omega), (x5 (by omega)).1, ?_, ⟨by rw [en]; exact p1, by rw [en]; exact p2⟩, by rw [en]; exact p3, (x5 (by omega)).2, by rw [h10]; exact b01 _, by rw [h11]; exact b01 _, (x3 (by omega)).1, x2⟩, en⟩
  rw [p1]; exact (hM.2.2.2.2.2.2.2.2.2.2.1 hS).1
end
