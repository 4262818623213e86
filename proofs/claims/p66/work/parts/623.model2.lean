/-! THE MODEL: readers that count -/
def isTaken (m : Nat → Int32) (s : Nat) : Bool := (fld m s 17 == 2) && hasSucc m s 1 2
def isReady (m : Nat → Int32) (s : Nat) : Bool := !(fld m s 17 == 1) && !(fld m s 17 == 2) && (fOpen m s).isNone
def occ (m : Nat → Int32) (q : Int32) (s : Nat) : Bool := (fld m s 9 == q) && ((fld m s 17 == 1) || ((fld m s 17 == 2) && hasSucc m s 0 3))
def used (m : Nat → Int32) (q : Int32) : Nat := cnt (occ m q) (nS m)
def hasPan (m : Nat → Int32) (s : Nat) : Bool := (fld m s 9 == -1) || decide (nI (used m (fld m s 9)) < m (14 + (fld m s 9).toNatClampNeg * 8 + 7))
def cooked (m : Nat → Int32) (s : Nat) : Bool := (fld m s 17 == 1) && (fld m s 11 == 0)
def busy (m : Nat → Int32) : Nat := cnt (cooked m) (nS m)
def hasCook (m : Nat → Int32) (s : Nat) : Bool := (fld m s 11 == 1) || decide (nI (busy m) < m 0)
def wSt (m : Nat → Int32) (u : Int32) : Nat := cnt (fun s => fld m s 17 == u) (nS m)
def fin (m : Nat → Int32) : Bool := wSt m 2 == nS m
def tst (m : Nat → Int32) : Int32 := sm (m 5) (fun s => if fld m s 17 == 2 then fld m s 8 else 0) (nS m)
def srv (m : Nat → Int32) : Int32 := if m 6 = 1 then 1 else if 0 < wSt m 3 then 2 else if fin m = false then 3 else if tst m < m 2 then 4 else if m 3 < tst m then 5 else 0
theorem nI01 {b : Bool} : (if b then 1 else 0 : Nat) ≤ 1 := by cases b <;> decide
theorem oI_none {o : Option Nat} (h : ∀ i, o = some i → i < 2 ^ 31) : oI o = -1 ↔ o.isNone = true := by
  cases o with
  | none => exact ⟨fun _ => rfl, fun _ => rfl⟩
  | some i =>
    have hi := h i rfl
    constructor
    · intro q
      have : (nI i).toInt = (-1 : Int32).toInt := congrArg Int32.toInt q
      rw [nI_toInt hi] at this
      have e : (-1 : Int32).toInt = -1 := by decide
      rw [e] at this; omega
    · intro q; cases q
theorem fOpen_lt {m : Nat → Int32} (W : WF m) {s : Nat} (hs : s < nS m) : ∀ i, fOpen m s = some i → i < s := by
  intro i h
  unfold fOpen at h
  cases h2 : fst1 (fun k => !(fld m (pr m s k) 17 == 2)) (np m s) with
  | none => rw [h2] at h; cases h
  | some k =>
    rw [h2] at h
    cases h
    exact (W.2.2.2.2.2.1 s hs k (fst1_some.mp h2).1).2
theorem isTaken_ok (Y : Mem) {s : Nat} (W : WF (Y 10 0 1)) (hs : s < nS (Y 10 0 1)) : M12_isTaken Y (nI s) = some (bI (isTaken (Y 10 0 1) s)) := by
  have h14 := W.2.1
  unfold M12_isTaken isTaken
  simp (disch := omega) only [litI, pk_mul, nI_add, gdi, ix_n, lt_e, bd1_e, bd2_e, of_ok, hasSucc_ok Y (nI 1) (nI 2) W hs]
  by_cases e : fld (Y 10 0 1) s 17 = nI 2
  · rw [if_pos e, e]
    simp only [bI_n]
    cases hasSucc (Y 10 0 1) s (nI 1) (nI 2) <;> rfl
  · rw [if_neg e, beq_eq_false_iff_ne.mpr e]; rfl
theorem isReady_ok (Y : Mem) {s : Nat} (W : WF (Y 10 0 1)) (hs : s < nS (Y 10 0 1)) : M12_isReady Y (nI s) = some (bI (isReady (Y 10 0 1) s)) := by
  have h14 := W.2.1
  unfold M12_isReady isReady
  simp (disch := omega) only [litI, pk_mul, nI_add, gdi, ix_n, lt_e, bd1_e, bd2_e, of_ok, firstOpen_ok Y W hs]
  by_cases e : fld (Y 10 0 1) s 17 = nI 1
  · rw [if_pos e, e]; rfl
  · rw [if_neg e]
    by_cases e2 : fld (Y 10 0 1) s 17 = nI 2
    · rw [if_pos e2, e2]; rfl
    · rw [if_neg e2]
      have q1 : (fld (Y 10 0 1) s 17 == nI 1) = false := beq_eq_false_iff_ne.mpr e
      have q2 : (fld (Y 10 0 1) s 17 == nI 2) = false := beq_eq_false_iff_ne.mpr e2
      rw [q1, q2]
      have h3 := oI_none (o := fOpen (Y 10 0 1) s) (fun i hi => by have := fOpen_lt W hs i hi; omega)
      simp only [litI] at h3
      by_cases e3 : oI (fOpen (Y 10 0 1) s) = -nI 1
      · rw [if_pos e3, h3.mp e3]; rfl
      · rw [if_neg e3]
        cases h4 : (fOpen (Y 10 0 1) s).isNone
        · rfl
        · exact absurd (h3.mpr h4) e3
theorem occ_ok (Y : Mem) {s : Nat} (q : Int32) (W : WF (Y 10 0 1)) (hs : s < nS (Y 10 0 1)) : M12_occupies Y (nI s) q = some (bI (occ (Y 10 0 1) q s)) := by
  have h14 := W.2.1
  unfold M12_occupies occ
  simp (disch := omega) only [litI, pk_mul, nI_add, gdi, ix_n, lt_e, bd1_e, bd2_e, of_ok, hasSucc_ok Y (nI 0) (nI 3) W hs]
  by_cases e : fld (Y 10 0 1) s 9 = q
  · have q9 : (fld (Y 10 0 1) s 9 == q) = true := beq_iff_eq.mpr e
    rw [if_pos e, q9]
    by_cases e1 : fld (Y 10 0 1) s 17 = nI 1
    · have q1 : (fld (Y 10 0 1) s 17 == nI 1) = true := beq_iff_eq.mpr e1
      rw [if_pos e1, q1]; rfl
    · rw [if_neg e1]
      have q1 : (fld (Y 10 0 1) s 17 == nI 1) = false := beq_eq_false_iff_ne.mpr e1
      by_cases e2 : fld (Y 10 0 1) s 17 = nI 2
      · rw [if_pos e2]
        simp only [bI_n]
        rw [q1, e2]
        cases hasSucc (Y 10 0 1) s (nI 0) (nI 3) <;> rfl
      · rw [if_neg e2]
        have q2 : (fld (Y 10 0 1) s 17 == nI 2) = false := beq_eq_false_iff_ne.mpr e2
        rw [q1, q2]; rfl
  · rw [if_neg e, beq_eq_false_iff_ne.mpr e]; rfl
theorem cooked_ok (Y : Mem) {s : Nat} (hs : s < 14) : M12_isCooked Y (nI s) = some (bI (cooked (Y 10 0 1) s)) := by
  unfold M12_isCooked cooked
  simp (disch := omega) only [litI, pk_mul, nI_add, gdi, ix_n, lt_e, bd1_e, bd2_e, of_ok]
  by_cases e : fld (Y 10 0 1) s 17 = nI 1
  · rw [if_pos e, e]
    by_cases e2 : fld (Y 10 0 1) s 11 = nI 0
    · rw [if_pos e2, e2]; rfl
    · rw [if_neg e2]
      have q2 : (fld (Y 10 0 1) s 11 == nI 0) = false := beq_eq_false_iff_ne.mpr e2
      rw [q2]; rfl
  · rw [if_neg e]
    have q2 : (fld (Y 10 0 1) s 17 == nI 1) = false := beq_eq_false_iff_ne.mpr e
    rw [q2]; rfl
theorem used_b (Y : Mem) (q : Int32) (W : WF (Y 10 0 1)) : ∀ i, i ≤ nS (Y 10 0 1) → ∀ f, nS (Y 10 0 1) - i < f → M12_usedPans_b4 Y q f (nI i) (nI (cnt (occ (Y 10 0 1) q) i)) = some (nI (cnt (occ (Y 10 0 1) q) (nS (Y 10 0 1)))) := by
  have h14 := W.2.1
  have e13 := W.1
  refine upl ?_ ?_
  · intro f f_h
    obtain ⟨f, rfl⟩ := fuel_s f_h
    unfold M12_usedPans_b4
    simp (disch := omega) only [litI, pk_mul, nI_add, gdi, ix_n, lt_e, bd1_e, bd2_e]
    rw [e13, if_pos (Int32.le_refl _)]
  · intro i hi ih f f_h
    obtain ⟨f, rfl⟩ := fuel_s f_h
    unfold M12_usedPans_b4
    simp (disch := omega) only [gdi, ix_n, litI]
    rw [e13, if_neg (by rw [nI_leI (by omega) (by omega)]; omega)]
    have hj : ∀ z : Int32, M12_usedPans_b30 Y q (M12_usedPans_b4 Y q f) (nI i) z (nI (cnt (occ (Y 10 0 1) q) i)) = M12_usedPans_b4 Y q f (nI (i + 1)) (nI (cnt (occ (Y 10 0 1) q) i) + z) := by
      intro z
      unfold M12_usedPans_b30
      simp only [litI, nI_add, lt_e]
    rw [occ_ok Y q W hi]
    simp only [bd1_e, bI_n]
    cases hp : (occ (Y 10 0 1) q) i
    · rw [if_neg (by decide), hj, nI_add]
      rw [cnt_s, hp] at ih
      exact ih f (by omega)
    · rw [if_pos rfl, hj]
      rw [cnt_s, hp] at ih
      rw [nI_add]
      exact ih f (by omega)
theorem used_ok (Y : Mem) (q : Int32) (W : WF (Y 10 0 1)) : M12_usedPans Y q = some (nI (used (Y 10 0 1) q)) := by
  unfold M12_usedPans
  have h14 := W.2.1
  exact used_b Y q W 0 (Nat.zero_le _) FU (by have := FU_big; omega)
theorem hasPan_ok (Y : Mem) {s : Nat} (W : WF (Y 10 0 1)) (hs : s < nS (Y 10 0 1)) : M12_hasPan Y (nI s) = some (bI (hasPan (Y 10 0 1) s)) := by
  have h14 := W.2.1
  have h4 := W.2.2.2.1
  unfold M12_hasPan hasPan
  simp (disch := omega) only [litI, pk_mul, nI_add, gdi, ix_n, lt_e, bd1_e, bd2_e, of_ok, used_ok Y _ W]
  rcases W.2.2.2.2.2.2 s hs with e | ⟨q, hq, e⟩
  · have e' : fld (Y 10 0 1) s 9 = -nI 1 := e
    rw [if_pos e', e']; rfl
  · have hne : ¬ fld (Y 10 0 1) s 9 = -nI 1 := by
      rw [e]; intro h
      have : (nI q).toInt = (-1 : Int32).toInt := congrArg Int32.toInt h
      rw [nI_toInt (by omega)] at this
      have e : (-1 : Int32).toInt = -1 := by decide
      rw [e] at this; omega
    have hne2 : (fld (Y 10 0 1) s 9 == -nI 1) = false := beq_eq_false_iff_ne.mpr hne
    rw [if_neg hne, hne2, e, capacity_ok Y (by omega), bd1_e, nI_clamp (by omega)]
    by_cases h : (Y 10 0 1) (14 + q * 8 + 7) ≤ nI (used (Y 10 0 1) (nI q))
    · rw [if_pos h, decide_eq_false (Int32.not_lt.mpr h)]; rfl
    · rw [if_neg h, decide_eq_true (Int32.not_le.mp h)]; rfl
theorem busy_b (Y : Mem) {s : Nat} (W : WF (Y 10 0 1)) (hs : s < nS (Y 10 0 1)) : ∀ i, i ≤ nS (Y 10 0 1) → ∀ f, nS (Y 10 0 1) - i < f → M12_hasCook_b4 Y (nI s) f (nI i) (nI (cnt (cooked (Y 10 0 1)) i)) = some (bI (hasCook (Y 10 0 1) s)) := by
  have h14 := W.2.1
  have e13 := W.1
  refine upl ?_ ?_
  · intro f f_h
    obtain ⟨f, rfl⟩ := fuel_s f_h
    unfold M12_hasCook_b4
    simp (disch := omega) only [litI, pk_mul, nI_add, gdi, ix_n, lt_e, bd1_e, bd2_e]
    rw [e13, if_pos (Int32.le_refl _)]
    simp (disch := omega) only [of_ok, bd1_e]
    unfold hasCook busy
    simp only [litI]
    by_cases e1 : fld (Y 10 0 1) s 11 = nI 1
    · rw [if_pos e1, e1]; rfl
    · have q1 : (fld (Y 10 0 1) s 11 == nI 1) = false := beq_eq_false_iff_ne.mpr e1
      rw [if_neg e1, q1]
      by_cases h : (Y 10 0 1) 0 ≤ nI (cnt (cooked (Y 10 0 1)) (nS (Y 10 0 1)))
      · rw [if_pos h, decide_eq_false (Int32.not_lt.mpr h)]; rfl
      · rw [if_neg h, decide_eq_true (Int32.not_le.mp h)]; rfl
  · intro i hi ih f f_h
    obtain ⟨f, rfl⟩ := fuel_s f_h
    unfold M12_hasCook_b4
    simp (disch := omega) only [gdi, ix_n, litI]
    rw [e13, if_neg (by rw [nI_leI (by omega) (by omega)]; omega)]
    have hj : ∀ z : Int32, M12_hasCook_b29 Y (nI s) (M12_hasCook_b4 Y (nI s) f) (nI i) z (nI (cnt (cooked (Y 10 0 1)) i)) = M12_hasCook_b4 Y (nI s) f (nI (i + 1)) (nI (cnt (cooked (Y 10 0 1)) i) + z) := by
      intro z
      unfold M12_hasCook_b29
      simp only [litI, nI_add, lt_e]
    rw [cooked_ok Y (by omega)]
    simp only [bd1_e, bI_n]
    cases hp : (cooked (Y 10 0 1)) i
    · rw [if_neg (by decide), hj, nI_add]
      rw [cnt_s, hp] at ih
      exact ih f (by omega)
    · rw [if_pos rfl, hj]
      rw [cnt_s, hp] at ih
      rw [nI_add]
      exact ih f (by omega)
theorem hasCook_ok (Y : Mem) {s : Nat} (W : WF (Y 10 0 1)) (hs : s < nS (Y 10 0 1)) : M12_hasCook Y (nI s) = some (bI (hasCook (Y 10 0 1) s)) := by
  unfold M12_hasCook
  have h14 := W.2.1
  exact busy_b Y W hs 0 (Nat.zero_le _) FU (by have := FU_big; omega)
theorem wSt_b (Y : Mem) (u : Int32) (W : WF (Y 10 0 1)) : ∀ i, i ≤ nS (Y 10 0 1) → ∀ f, nS (Y 10 0 1) - i < f → M12_withStatus_b4 Y u f (nI i) (nI (cnt (fun s => fld (Y 10 0 1) s 17 == u) i)) = some (nI (wSt (Y 10 0 1) u)) := by
  have h14 := W.2.1
  have e13 := W.1
  refine upl ?_ ?_
  · intro f f_h
    obtain ⟨f, rfl⟩ := fuel_s f_h
    unfold M12_withStatus_b4
    simp (disch := omega) only [litI, pk_mul, nI_add, gdi, ix_n, lt_e, bd1_e, bd2_e]
    rw [e13, if_pos (Int32.le_refl _)]
    rfl
  · intro i hi ih f f_h
    obtain ⟨f, rfl⟩ := fuel_s f_h
    unfold M12_withStatus_b4
    simp (disch := omega) only [gdi, ix_n, litI]
    rw [e13, if_neg (by rw [nI_leI (by omega) (by omega)]; omega)]
    have hj : ∀ z : Int32, M12_withStatus_b32 Y u (M12_withStatus_b4 Y u f) (nI i) z (nI (cnt (fun s => fld (Y 10 0 1) s 17 == u) i)) = M12_withStatus_b4 Y u f (nI (i + 1)) (nI (cnt (fun s => fld (Y 10 0 1) s 17 == u) i) + z) := by
      intro z
      unfold M12_withStatus_b32
      simp only [litI, nI_add, lt_e]
    simp (disch := omega) only [of_ok, bd1_e, hj, nI_add]
    rw [cnt_s] at ih
    by_cases e : fld (Y 10 0 1) i 17 = u
    · rw [if_pos e]
      have q : (fld (Y 10 0 1) i 17 == u) = true := beq_iff_eq.mpr e
      rw [q] at ih
      exact ih f (by omega)
    · rw [if_neg e]
      have q : (fld (Y 10 0 1) i 17 == u) = false := beq_eq_false_iff_ne.mpr e
      rw [q] at ih
      exact ih f (by omega)
theorem wSt_ok (Y : Mem) (u : Int32) (W : WF (Y 10 0 1)) : M12_withStatus Y u = some (nI (wSt (Y 10 0 1) u)) := by
  unfold M12_withStatus
  have h14 := W.2.1
  exact wSt_b Y u W 0 (Nat.zero_le _) FU (by have := FU_big; omega)
theorem wSt_le (m : Nat → Int32) (u : Int32) : wSt m u ≤ nS m := cnt_le _ _
theorem fin_ok (Y : Mem) (W : WF (Y 10 0 1)) : M12_isFinished Y = some (bI (fin (Y 10 0 1))) := by
  have h14 := W.2.1
  have e13 := W.1
  have hle := wSt_le (Y 10 0 1) (nI 2)
  unfold M12_isFinished fin
  simp (disch := omega) only [litI, pk_mul, nI_add, gdi, ix_n, lt_e, bd1_e, bd2_e, wSt_ok Y _ W]
  rw [e13]
  by_cases e : wSt (Y 10 0 1) (nI 2) = nS (Y 10 0 1)
  · rw [if_pos (congrArg nI e), beq_iff_eq.mpr e]; rfl
  · rw [if_neg (by rw [nI_eq (by omega) (by omega)]; exact e), beq_eq_false_iff_ne.mpr e]; rfl
theorem tst_b (Y : Mem) (W : WF (Y 10 0 1)) : ∀ i, i ≤ nS (Y 10 0 1) → ∀ f, nS (Y 10 0 1) - i < f → M12_tasteNow_b9 Y f (nI i) (sm ((Y 10 0 1) 5) (fun s => if fld (Y 10 0 1) s 17 == 2 then fld (Y 10 0 1) s 8 else 0) i) = some (tst (Y 10 0 1)) := by
  have h14 := W.2.1
  have e13 := W.1
  refine upl ?_ ?_
  · intro f f_h
    obtain ⟨f, rfl⟩ := fuel_s f_h
    unfold M12_tasteNow_b9
    simp (disch := omega) only [gdi, ix_n, litI]
    rw [e13, if_pos (Int32.le_refl _)]
    unfold tst
    simp only [litI]
  · intro i hi ih f f_h
    obtain ⟨f, rfl⟩ := fuel_s f_h
    unfold M12_tasteNow_b9
    simp (disch := omega) only [gdi, ix_n, litI]
    rw [e13, if_neg (by rw [nI_leI (by omega) (by omega)]; omega)]
    have hj : ∀ z w : Int32, M12_tasteNow_b43 Y (M12_tasteNow_b9 Y f) (nI i) z w = M12_tasteNow_b9 Y f (nI (i + 1)) (w + z) := by
      intro z w
      unfold M12_tasteNow_b43
      simp only [litI, nI_add, lt_e]
    simp (disch := omega) only [of_ok, bd1_e, hj]
    have ih2 := ih f (by omega)
    unfold sm at ih2
    simp only [litI] at ih2
    by_cases e : fld (Y 10 0 1) i 17 = nI 2
    · rw [if_pos e]
      have q : (fld (Y 10 0 1) i 17 == nI 2) = true := beq_iff_eq.mpr e
      rw [q] at ih2
      exact ih2
    · rw [if_neg e]
      have q : (fld (Y 10 0 1) i 17 == nI 2) = false := beq_eq_false_iff_ne.mpr e
      rw [q] at ih2
      exact ih2
theorem tst_ok (Y : Mem) (W : WF (Y 10 0 1)) : M12_tasteNow Y = some (tst (Y 10 0 1)) := by
  have h14 := W.2.1
  unfold M12_tasteNow
  simp (disch := omega) only [gdi, ix_n, litI, lt_e]
  exact tst_b Y W 0 (Nat.zero_le _) FU (by have := FU_big; omega)
theorem srv_ok (Y : Mem) (W : WF (Y 10 0 1)) : M12_servingReason Y = some (srv (Y 10 0 1)) := by
  have h14 := W.2.1
  have hle := wSt_le (Y 10 0 1) (nI 3)
  unfold M12_servingReason srv
  simp (disch := omega) only [litI, pk_mul, nI_add, gdi, ix_n, lt_e, bd1_e, bd2_e, wSt_ok Y _ W, fin_ok Y W, tst_ok Y W, bI_n, nI_leI]
  by_cases e1 : (Y 10 0 1) 6 = nI 1
  · rw [if_pos e1, if_pos e1]
  · rw [if_neg e1, if_neg e1]
    by_cases e2 : wSt (Y 10 0 1) (nI 3) ≤ 0
    · rw [if_pos e2, if_neg (show ¬ 0 < wSt (Y 10 0 1) (nI 3) from Nat.not_lt.mpr e2)]
      cases hf : fin (Y 10 0 1)
      · rfl
      · rw [if_pos rfl, if_neg (show ¬ (true = false) by decide)]
        by_cases e4 : (Y 10 0 1) 2 ≤ tst (Y 10 0 1)
        · rw [if_pos e4, if_neg (Int32.not_lt.mpr e4)]
          by_cases e5 : tst (Y 10 0 1) ≤ (Y 10 0 1) 3
          · rw [if_pos e5, if_neg (Int32.not_lt.mpr e5)]
          · rw [if_neg e5, if_pos (Int32.not_le.mp e5)]
        · rw [if_neg e4, if_pos (Int32.not_le.mp e4)]
    · rw [if_neg e2, if_pos (show 0 < wSt (Y 10 0 1) (nI 3) from Nat.not_le.mp e2)]
def canRedo (m : Nat → Int32) (s : Nat) : Bool := (fld m s 17 == 2) && !isTaken m s && (m 6 == 0)
theorem canRedo_ok (Y : Mem) {s : Nat} (W : WF (Y 10 0 1)) (hs : s < nS (Y 10 0 1)) : M12_canRedo Y (nI s) = some (bI (canRedo (Y 10 0 1) s)) := by
  have h14 := W.2.1
  unfold M12_canRedo canRedo
  simp (disch := omega) only [litI, pk_mul, nI_add, gdi, ix_n, lt_e, bd1_e, bd2_e, of_ok, isTaken_ok Y W hs, bI_n]
  by_cases e : fld (Y 10 0 1) s 17 = nI 2
  · have q : (fld (Y 10 0 1) s 17 == nI 2) = true := beq_iff_eq.mpr e
    rw [if_pos e, q]
    cases isTaken (Y 10 0 1) s
    · rw [if_neg (by decide)]
      by_cases e2 : (Y 10 0 1) 6 = nI 0
      · have q2 : ((Y 10 0 1) 6 == nI 0) = true := beq_iff_eq.mpr e2
        rw [if_pos e2, q2]; rfl
      · have q2 : ((Y 10 0 1) 6 == nI 0) = false := beq_eq_false_iff_ne.mpr e2
        rw [if_neg e2, q2]; rfl
    · rfl
  · have q : (fld (Y 10 0 1) s 17 == nI 2) = false := beq_eq_false_iff_ne.mpr e
    rw [if_neg e, q]; rfl
