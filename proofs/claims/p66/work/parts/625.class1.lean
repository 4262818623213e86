/-! THE CLASS'S CELLS AND THE MODEL'S BLOCK -/
def RR (Y : Mem) (r : Nat) (m : Nat → Int32) : Prop :=
  (r < 2 ∧ Y 4 (2 * r + 1) 0 2 = nI (nS m) ∧ Y 4 (2 * r) 0 2 = nI (nP m)) ∧
  (Y 3 r 0 1 = m 1 ∧ Y 3 r 0 2 = m 2 ∧ Y 3 r 0 3 = m 3) ∧
  (∀ q, q < nP m → Y 3 r 1 q = m (14 + q * 8 + 7) ∧ ∀ k, k < 32 → bt (Y 3 r 2 q) k = (decide (k < nS m) && (fld m k 9 == nI q))) ∧
  (∀ s, s < nS m → Y 3 r 4 s = fld m s 8 ∧ Y 3 r 5 s = fld m s 9 ∧ Y 3 r 7 s = fld m s 12 ∧ ∀ k, k < np m s → Y 3 r (20 + s) k = fld m s (13 + k)) ∧
  (∀ s, s < nS m → ∀ k, k < 32 → bt (Y 3 r 8 s) k = isPred m k s ∧ bt (Y 3 r 9 s) k = (decide (k < nS m) && isPred m s k)) ∧
  (∀ k, k < 32 → bt (Y 3 r 0 15) k = (decide (k < nS m) && (fld m k 10 == 1)) ∧ bt (Y 3 r 0 16) k = (decide (k < nS m) && (fld m k 11 == 1))) ∧
  (∀ s, s < nS m → (fld m s 10 = 0 ∨ fld m s 10 = 1) ∧ (fld m s 11 = 0 ∨ fld m s 11 = 1))
def stB (m : Nat → Int32) (u : Int32) (k : Nat) : Bool := decide (k < nS m) && (fld m k 17 == u)
/-- the sets of running, done, burnt steps -/
def SB (Y : Mem) (g : Nat) (m : Nat → Int32) : Prop := ∀ k, k < 32 → bt (Y 2 g 0 6) k = stB m 1 k ∧ bt (Y 2 g 0 7) k = stB m 2 k ∧ bt (Y 2 g 0 8) k = stB m 3 k
/-- a status is one of four -/
def S4 (m : Nat → Int32) : Prop := ∀ s, s < nS m → fld m s 17 = 0 ∨ fld m s 17 = 1 ∨ fld m s 17 = 2 ∨ fld m s 17 = 3
abbrev rg (Y : Mem) (g : Nat) : Nat := (Y 1 g 0 0).toNatClampNeg
theorem stB_in {m : Nat → Int32} {u : Int32} {k : Nat} (h : k < nS m) : stB m u k = (fld m k 17 == u) := by unfold stB; rw [decide_eq_true h, Bool.true_and]
theorem stB_out {m : Nat → Int32} {u : Int32} {k : Nat} (h : ¬ k < nS m) : stB m u k = false := by unfold stB; rw [decide_eq_false h, Bool.false_and]
theorem isPred_lt {m : Nat → Int32} (W : WF m) {p s : Nat} (hs : s < nS m) (h : isPred m p s = true) : p < s := by
  obtain ⟨k, hk, e⟩ := anyB_iff.mp h
  have := (W.2.2.2.2.2.1 s hs k hk).2
  rw [beq_iff_eq] at e
  omega
theorem gd2 {α : Type} {r : Nat} {x : Option α} (h : r < 2) : gd (decide (r < 2)) x = x := gd_t (decide_eq_true h)
theorem cnt_ext {p : Nat → Bool} {n : Nat} : ∀ {N : Nat}, n ≤ N → (∀ k, n ≤ k → p k = false) → cnt p N = cnt p n := by
  intro N
  induction N with
  | zero => intro h _; have : n = 0 := by omega
            subst this; rfl
  | succ N ih =>
    intro h hp
    by_cases e : n = N + 1
    · subst e; rfl
    · rw [cnt_s, ih (by omega) hp, hp N (by omega)]; rfl
theorem and_z {x y : Int32} : x &&& y = 0 ↔ ∀ k, k < 32 → (bt x k && bt y k) = false := by
  rw [b_z]
  constructor
  · intro h k hk; rw [← b_and]; exact h k hk
  · intro h k hk; rw [b_and]; exact h k hk
theorem isCont_ok (Y : Mem) {g s : Nat} {m : Nat → Int32} (W : WF m) (hR : RR Y (rg Y g) m) (hS : SB Y g m) (hs : s < nS m) : X3_isContinued Y g (nI s) = some (bI (hasSucc m s 1 2)) := by
  have h14 := W.2.1
  unfold X3_isContinued
  have h2 := hR.1.1
  unfold rg at h2
  rw [gd2 h2, gdi (show s < 14 by omega), ix_n (by omega)]
  have hx : (Y 3 (Y 1 g 0 0).toNatClampNeg 9 s &&& (Y 2 g 0 6 ||| Y 2 g 0 7)) = 0 ↔ hasSucc m s 1 2 = false := by
    rw [and_z]
    unfold hasSucc
    rw [anyB_f]
    constructor
    · intro h i hi
      have q := h i (by omega)
      rw [((hR.2.2.2.2.1 s hs i (by omega)).2 : bt (Y 3 (Y 1 g 0 0).toNatClampNeg 9 s) i = _), b_or, (hS i (by omega)).1, (hS i (by omega)).2.1, stB_in hi, stB_in hi, decide_eq_true hi, Bool.true_and] at q
      cases hp : isPred m s i
      · rw [Bool.and_false, Bool.false_and]
      · rw [hp, Bool.true_and] at q
        rw [q, Bool.and_false]
    · intro h k hk
      rw [((hR.2.2.2.2.1 s hs k hk).2 : bt (Y 3 (Y 1 g 0 0).toNatClampNeg 9 s) k = _), b_or, (hS k hk).1, (hS k hk).2.1]
      by_cases hi : k < nS m
      · have q := h k hi
        rw [stB_in hi, stB_in hi, decide_eq_true hi, Bool.true_and]
        cases hp : isPred m s k
        · rfl
        · have := isPred_lt W hi hp
          rw [hp, decide_eq_true this, Bool.true_and, Bool.true_and] at q
          rw [q]; rfl
      · rw [decide_eq_false hi]; rfl
  cases e : hasSucc m s 1 2
  · rw [if_pos (hx.mpr e)]; rfl
  · rw [if_neg (fun q => by rw [hx.mp q] at e; cases e)]; rfl
theorem statusOf_ok (Y : Mem) {g s : Nat} {m : Nat → Int32} (hn : nS m ≤ 14) (hS : SB Y g m) (h4 : S4 m) (hs : s < nS m) : X8_statusOf Y g (nI s) = some (fld m s 17) := by
  unfold X8_statusOf
  have hb := hS s (by omega)
  rw [contains_ok Y _ (by omega), contains_ok Y _ (by omega), contains_ok Y _ (by omega), hb.1, hb.2.1, hb.2.2, stB_in hs, stB_in hs, stB_in hs]
  simp only [bd1_e, bI_ne]
  rcases h4 s hs with e | e | e | e <;> rw [e] <;> rfl
theorem cook_bits {Y : Mem} {g : Nat} {m : Nat → Int32} (hR : RR Y (rg Y g) m) (hS : SB Y g m) {k : Nat} (hk : k < 32) : bt (Y 2 g 0 6 &&& (Y 3 (Y 1 g 0 0).toNatClampNeg 0 16 ^^^ (-1))) k = (decide (k < nS m) && cooked m k) := by
  have h11 := hR.2.2.2.2.2.2
  rw [b_and, b_not _ hk, (hS k hk).1, ((hR.2.2.2.2.2.1 k hk).2 : bt (Y 3 (Y 1 g 0 0).toNatClampNeg 0 16) k = _)]
  by_cases hi : k < nS m
  · rw [stB_in hi, decide_eq_true hi, Bool.true_and, Bool.true_and]
    unfold cooked
    rcases (h11 k hi).2 with e | e <;> rw [e] <;> rfl
  · rw [stB_out hi, decide_eq_false hi]; rfl
theorem cookCount_ok (Y : Mem) {g : Nat} {m : Nat → Int32} (hn : nS m ≤ 14) (hR : RR Y (rg Y g) m) (hS : SB Y g m) : J6_bitCount_0f7a4 Y (Y 2 g 0 6 &&& (Y 3 (Y 1 g 0 0).toNatClampNeg 0 16 ^^^ (-1))) = some (nI (busy m)) := by
  rw [bitCount_ok Y (fun i h1 h2 => by rw [cook_bits hR hS h2, decide_eq_false (by omega)]; rfl)]
  congr 2
  have e1 : cnt (bt (Y 2 g 0 6 &&& (Y 3 (Y 1 g 0 0).toNatClampNeg 0 16 ^^^ (-1)))) 14 = cnt (fun k => decide (k < nS m) && cooked m k) 14 := cnt_congr fun i hi => cook_bits hR hS (by omega)
  rw [e1, cnt_ext hn (fun k hk => by rw [decide_eq_false (by omega)]; rfl)]
  exact cnt_congr fun i hi => by rw [decide_eq_true hi]; rfl
theorem hasFreeCook_ok (Y : Mem) {g s : Nat} {m : Nat → Int32} (hn : nS m ≤ 14) (hR : RR Y (rg Y g) m) (hS : SB Y g m) (h0 : Y 2 g 0 0 = m 0) (hs : s < nS m) : X3_hasFreeCook Y g (nI s) = some (bI (hasCook m s)) := by
  unfold X3_hasFreeCook
  have h2 := hR.1.1
  unfold rg at h2
  rw [gd2 h2, contains_ok Y _ (by omega), cookCount_ok Y hn hR hS, ((hR.2.2.2.2.2.1 s (by omega)).2 : bt (Y 3 (Y 1 g 0 0).toNatClampNeg 0 16) s = _), decide_eq_true hs, Bool.true_and, h0]
  simp only [bd1_e, bI_ne]
  unfold hasCook
  cases e : (fld m s 11 == 1)
  · rw [if_neg (by decide)]
    by_cases h : m 0 ≤ nI (busy m)
    · rw [if_pos h, decide_eq_false (Int32.not_lt.mpr h)]; rfl
    · rw [if_neg h, decide_eq_true (Int32.not_le.mp h)]; rfl
  · rw [if_pos rfl]; rfl
