/-! THE MODEL: readers that count -/
def isTaken (m : Nat → Int32) (s : Nat) : Bool := (fld m s 17 == 2) && hasSucc m s 1 2
def isReady (m : Nat → Int32) (s : Nat) : Bool := !(fld m s 17 == 1) && !(fld m s 17 == 2) && (fOpen m s).isNone
def occ (m : Nat → Int32) (q : Int32) (s : Nat) : Bool := (fld m s 9 == q) && ((fld m s 17 == 1) || ((fld m s 17 == 2) && hasSucc m s 0 3))
def used (m : Nat → Int32) (q : Int32) : Nat := cnt (occ m q) (nS m)
def hasPan (m : Nat → Int32) (s : Nat) : Bool := (fld m s 9 == -1) || decide (nI (used m (fld m s 9)) < m (14 + (fld m s 9).toNatClampNeg * 8 + 7))
def cooked (m : Nat → Int32) (s : Nat) : Bool := (fld m s 17 == 1) && (fld m s 11 == 0)
def busy (m : Nat → Int32) : Nat := cnt (cooked m) (nS m)
def hasCook (m : Nat → Int32) (s : Nat) : Bool := (fld m s 11 == 1) || decide (nI (busy m) < m 0)
def wSt (m : Nat → Int32) (u : Int32) : Nat := cnt (fun s => fld m s 17 == u) (nS m)
def fin (m : Nat → Int32) : Bool := wSt m 2 == nS m
def tst (m : Nat → Int32) : Int32 := sm (m 5) (fun s => if fld m s 17 == 2 then fld m s 8 else 0) (nS m)
def srv (m : Nat → Int32) : Int32 := if m 6 = 1 then 1 else if 0 < wSt m 3 then 2 else if fin m = false then 3 else if tst m < m 2 then 4 else if m 3 < tst m then 5 else 0
theorem nI01 {b : Bool} : (if b then 1 else 0 : Nat) ≤ 1 := by cases b <;> decide
theorem oI_none {o : Option Nat} (h : ∀ i, o = some i → i < 2 ^ 31) : oI o = -1 ↔ o.isNone = true := by
  cases o with
  | none => exact ⟨fun _ => rfl, fun _ => rfl⟩
  | some i =>
    have hi := h i rfl
    constructor
    · intro q
      have : (nI i).toInt = (-1 : Int32).toInt := congrArg Int32.toInt q
      rw [nI_toInt hi] at this
      have e : (-1 : Int32).toInt = -1 := by decide
      rw [e] at this; omega
    · intro q; cases q
theorem fOpen_lt {m : Nat → Int32} (W : WF m) {s : Nat} (hs : s < nS m) : ∀ i, fOpen m s = some i → i < s := by
  intro i h
  unfold fOpen at h
  cases h2 : fst1 (fun k => !(fld m (pr m s k) 17 == 2)) (np m s) with
  | none => rw [h2] at h; cases h
  | some k =>
    rw [h2] at h
    cases h
    exact (W.2.2.2.2.2.1 s hs k (fst1_some.mp h2).1).2
theorem isTaken_ok (Y : Mem) {s : Nat} (W : WF (Y 10 0 1)) (hs : s < nS (Y 10 0 1)) : X12_isTaken Y (nI s) = some (bI (isTaken (Y 10 0 1) s)) := by
  have h14 := W.2.1
  unfold X12_isTaken isTaken
  simp (disch := omega) only [litI, pk_mul, nI_add, gdi, ix_n, lt_e, bd1_e, bd2_e, of_ok, hasSucc_ok Y (nI 1) (nI 2) W hs]
  by_cases e : fld (Y 10 0 1) s 17 = nI 2
  · rw [if_pos e, e]
    simp only [← litI, bI_ne]
    cases hasSucc (Y 10 0 1) s 1 2 <;> rfl
  · rw [if_neg e, beq_eq_false_iff_ne.mpr e]; rfl
theorem isReady_ok (Y : Mem) {s : Nat} (W : WF (Y 10 0 1)) (hs : s < nS (Y 10 0 1)) : X12_isReady Y (nI s) = some (bI (isReady (Y 10 0 1) s)) := by
  have h14 := W.2.1
  unfold X12_isReady isReady
  simp (disch := omega) only [litI, pk_mul, nI_add, gdi, ix_n, lt_e, bd1_e, bd2_e, of_ok, firstOpen_ok Y W hs]
  by_cases e : fld (Y 10 0 1) s 17 = nI 1
  · rw [if_pos e, e]; rfl
  · rw [if_neg e]
    by_cases e2 : fld (Y 10 0 1) s 17 = nI 2
    · rw [if_pos e2, e2]; rfl
    · rw [if_neg e2]
      have q1 : (fld (Y 10 0 1) s 17 == nI 1) = false := beq_eq_false_iff_ne.mpr e
      have q2 : (fld (Y 10 0 1) s 17 == nI 2) = false := beq_eq_false_iff_ne.mpr e2
      simp only [litI] at *
      rw [q1, q2]
      have h3 := oI_none (o := fOpen (Y 10 0 1) s) (fun i hi => by have := fOpen_lt W hs i hi; omega)
      simp only [litI] at h3
      by_cases e3 : oI (fOpen (Y 10 0 1) s) = -nI 1
      · rw [if_pos e3, h3.mp e3]; rfl
      · rw [if_neg e3]
        cases h4 : (fOpen (Y 10 0 1) s).isNone
        · rfl
        · exact absurd (h3.mpr h4) e3
theorem occ_ok (Y : Mem) {s : Nat} (q : Int32) (W : WF (Y 10 0 1)) (hs : s < nS (Y 10 0 1)) : X12_occupies Y (nI s) q = some (bI (occ (Y 10 0 1) q s)) := by
  have h14 := W.2.1
  unfold X12_occupies occ
  simp (disch := omega) only [litI, pk_mul, nI_add, gdi, ix_n, lt_e, bd1_e, bd2_e, of_ok, hasSucc_ok Y (nI 0) (nI 3) W hs]
  by_cases e : fld (Y 10 0 1) s 9 = q
  · rw [if_pos e, e]
    by_cases e1 : fld (Y 10 0 1) s 17 = nI 1
    · rw [if_pos e1, e1]; simp; rfl
    · rw [if_neg e1]
      have q1 : (fld (Y 10 0 1) s 17 == nI 1) = false := beq_eq_false_iff_ne.mpr e1
      by_cases e2 : fld (Y 10 0 1) s 17 = nI 2
      · rw [if_pos e2]
        simp only [← litI, bI_ne] at *
        rw [q1, e2]
        cases hasSucc (Y 10 0 1) s 0 3 <;> simp <;> rfl
      · rw [if_neg e2]
        have q2 : (fld (Y 10 0 1) s 17 == nI 2) = false := beq_eq_false_iff_ne.mpr e2
        simp only [litI] at *
        rw [q1, q2]; simp; rfl
  · rw [if_neg e, beq_eq_false_iff_ne.mpr e]; rfl
theorem cooked_ok (Y : Mem) {s : Nat} (hs : s < 14) : X12_isCooked Y (nI s) = some (bI (cooked (Y 10 0 1) s)) := by
  unfold X12_isCooked cooked
  simp (disch := omega) only [litI, pk_mul, nI_add, gdi, ix_n, lt_e, bd1_e, bd2_e, of_ok]
  by_cases e : fld (Y 10 0 1) s 17 = nI 1
  · rw [if_pos e, e]
    by_cases e2 : fld (Y 10 0 1) s 11 = nI 0
    · rw [if_pos e2, e2]; rfl
    · rw [if_neg e2]
      have q2 : (fld (Y 10 0 1) s 11 == nI 0) = false := beq_eq_false_iff_ne.mpr e2
      simp only [litI] at *
      rw [q2]; rfl
  · rw [if_neg e]
    have q2 : (fld (Y 10 0 1) s 17 == nI 1) = false := beq_eq_false_iff_ne.mpr e
    simp only [litI] at *
    rw [q2]; rfl
theorem used_b (Y : Mem) (q : Int32) (W : WF (Y 10 0 1)) : ∀ i, i ≤ nS (Y 10 0 1) → ∀ f, nS (Y 10 0 1) - i < f → X12_usedPans_b4 Y q f (nI i) (nI (cnt (occ (Y 10 0 1) q) i)) = some (nI (cnt (occ (Y 10 0 1) q) (nS (Y 10 0 1)))) := by
  have h14 := W.2.1
  have e13 := W.1
  refine upl ?_ ?_
  · intro f f_h
    obtain ⟨f, rfl⟩ := fuel_s f_h
    unfold X12_usedPans_b4
    simp (disch := omega) only [litI, pk_mul, nI_add, gdi, ix_n, lt_e, bd1_e, bd2_e]
    rw [e13, if_pos (Int32.le_refl _)]
rfl
  · intro i hi ih f f_h
    obtain ⟨f, rfl⟩ := fuel_s f_h
    unfold X12_usedPans_b4
    simp (disch := omega) only [gdi, ix_n, litI]
    rw [e13, if_neg (by rw [nI_leI (by omega) (by omega)]; omega)]
    have hj : ∀ z : Int32, X12_usedPans_b30 Y q (X12_usedPans_b4 Y q f) (nI i) z (nI (cnt (occ (Y 10 0 1) q) i)) = X12_usedPans_b4 Y q f (nI (i + 1)) (nI (cnt (occ (Y 10 0 1) q) i) + z) := by
      intro z
      unfold X12_usedPans_b30
      simp only [litI, nI_add, lt_e]
    rw [occ_ok Y q W hi]
    simp only [bd1_e, ← litI 0, bI_ne]
    cases hp : (occ (Y 10 0 1) q) i
    · rw [if_neg (by decide), hj]
      rw [cnt_s, hp] at ih
      exact ih f (by omega)
    · rw [if_pos rfl, hj]
      rw [cnt_s, hp] at ih
      rw [litI, nI_add]
      exact ih f (by omega)
theorem used_ok (Y : Mem) (q : Int32) (W : WF (Y 10 0 1)) : X12_usedPans Y q = some (nI (used (Y 10 0 1) q)) := by
  unfold X12_usedPans
  have h14 := W.2.1
  exact used_b Y q W 0 (Nat.zero_le _) FU (by have := FU_big; omega)
theorem hasPan_ok (Y : Mem) {s : Nat} (W : WF (Y 10 0 1)) (hs : s < nS (Y 10 0 1)) : X12_hasPan Y (nI s) = some (bI (hasPan (Y 10 0 1) s)) := by
  have h14 := W.2.1
  have h4 := W.2.2.2.1
  unfold X12_hasPan hasPan
  simp (disch := omega) only [litI, pk_mul, nI_add, gdi, ix_n, lt_e, bd1_e, bd2_e, of_ok, used_ok Y _ W]
  have hm : ∀ x : Int32, (x = -nI 1) = (x = -1) := fun x => rfl
  simp only [hm]
  rcases W.2.2.2.2.2.2 s hs with e | ⟨q, hq, e⟩
  · rw [if_pos e, e]; rfl
  · have hne : ¬ fld (Y 10 0 1) s 9 = -1 := by
      rw [e]; intro h
      have : (nI q).toInt = (-1 : Int32).toInt := congrArg Int32.toInt h
      rw [nI_toInt (by omega)] at this
      have e : (-1 : Int32).toInt = -1 := by decide
      rw [e] at this; omega
    have hne2 : (fld (Y 10 0 1) s 9 == -1) = false := beq_eq_false_iff_ne.mpr hne
    rw [if_neg hne, hne2, e, capacity_ok Y (by omega), bd1_e, nI_clamp (by omega)]
    by_cases h : (Y 10 0 1) (14 + q * 8 + 7) ≤ nI (used (Y 10 0 1) (nI q))
    · rw [if_pos h, decide_eq_false (Int32.not_lt.mpr h)]; rfl
    · rw [if_neg h, decide_eq_true (Int32.not_le.mp h)]; rfl
theorem busy_b (Y : Mem) {s : Nat} (W : WF (Y 10 0 1)) (hs : s < nS (Y 10 0 1)) : ∀ i, i ≤ nS (Y 10 0 1) → ∀ f, nS (Y 10 0 1) - i < f → X12_hasCook_b4 Y (nI s) f (nI i) (nI (cnt (cooked (Y 10 0 1)) i)) = some (bI (hasCook (Y 10 0 1) s)) := by
  have h14 := W.2.1
  have e13 := W.1
  refine upl ?_ ?_
  · intro f f_h
    obtain ⟨f, rfl⟩ := fuel_s f_h
    unfold X12_hasCook_b4
    simp (disch := omega) only [litI, pk_mul, nI_add, gdi, ix_n, lt_e, bd1_e, bd2_e]
    rw [e13, if_pos (Int32.le_refl _)]
    simp (disch := omega) only [of_ok, bd1_e]
    unfold hasCook busy
    have hone : ∀ x : Int32, (x = nI 1) = (x = 1) := fun x => rfl
    simp only [hone]
    by_cases e1 : fld (Y 10 0 1) s 11 = 1
    · rw [if_pos e1, e1]; rfl
    · have q1 : (fld (Y 10 0 1) s 11 == 1) = false := beq_eq_false_iff_ne.mpr e1
      rw [if_neg e1, q1]
      by_cases h : (Y 10 0 1) 0 ≤ nI (cnt (cooked (Y 10 0 1)) (nS (Y 10 0 1)))
      · rw [if_pos h, decide_eq_false (Int32.not_lt.mpr h)]; rfl
      · rw [if_neg h, decide_eq_true (Int32.not_le.mp h)]; rfl
  · intro i hi ih f f_h
    obtain ⟨f, rfl⟩ := fuel_s f_h
    unfold X12_hasCook_b4
    simp (disch := omega) only [gdi, ix_n, litI]
    rw [e13, if_neg (by rw [nI_leI (by omega) (by omega)]; omega)]
    have hj : ∀ z : Int32, X12_hasCook_b29 Y (nI s) (X12_hasCook_b4 Y (nI s) f) (nI i) z (nI (cnt (cooked (Y 10 0 1)) i)) = X12_hasCook_b4 Y (nI s) f (nI (i + 1)) (nI (cnt (cooked (Y 10 0 1)) i) + z) := by
      intro z
      unfold X12_hasCook_b29
      simp only [litI, nI_add, lt_e]
    rw [cooked_ok Y (by omega)]
    simp only [bd1_e, ← litI 0, bI_ne]
    cases hp : (cooked (Y 10 0 1)) i
    · rw [if_neg (by decide), hj]
      rw [cnt_s, hp] at ih
      exact ih f (by omega)
    · rw [if_pos rfl, hj]
      rw [cnt_s, hp] at ih
      rw [litI, nI_add]
      exact ih f (by omega)
theorem hasCook_ok (Y : Mem) {s : Nat} (W : WF (Y 10 0 1)) (hs : s < nS (Y 10 0 1)) : X12_hasCook Y (nI s) = some (bI (hasCook (Y 10 0 1) s)) := by
  unfold X12_hasCook
  have h14 := W.2.1
  exact busy_b Y W hs 0 (Nat.zero_le _) FU (by have := FU_big; omega)
