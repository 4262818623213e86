/-! THE MODEL'S READERS -/
theorem of_ok (Y : Mem) {s w : Nat} (h : 46 + s * 24 + w < 4202) : M12_of Y (nI s) (nI w) = some (fld (Y 10 0 1) s w) := by
  unfold M12_of
  simp (disch := omega) only [litI, pk_mul, nI_add, gdi, ix_n, lt_e, bd1_e, bd2_e]
  rfl
theorem set_ok (Y : Mem) {s w : Nat} (v : Int32) (h : 46 + s * 24 + w < 4202) : M12_set Y (nI s) (nI w) v = some (upR Y 10 0 1 (upd (Y 10 0 1) (46 + s * 24 + w) v)) := by
  unfold M12_set
  simp (disch := omega) only [litI, pk_mul, nI_add, gdi, ix_n, lt_e, bd1_e, bd2_e, up_eq]
theorem in_ok (Y : Mem) (a lo hi : Int32) : M12_in Y a lo hi = some (bI (decide (lo ≤ a ∧ a ≤ hi))) := by
  unfold M12_in
  by_cases h1 : a < lo
  · have : ¬ (lo ≤ a ∧ a ≤ hi) := fun q => absurd q.1 (Int32.not_le.mpr h1)
    rw [if_pos h1, decide_eq_false this]; rfl
  · rw [if_neg h1]
    by_cases h2 : hi < a
    · have : ¬ (lo ≤ a ∧ a ≤ hi) := fun q => absurd q.2 (Int32.not_le.mpr h2)
      rw [if_pos h2, decide_eq_false this]; rfl
    · have : lo ≤ a ∧ a ≤ hi := ⟨Int32.not_lt.mp h1, Int32.not_lt.mp h2⟩
      rw [if_neg h2, decide_eq_true this]; rfl
theorem in_inb (a : Int32) {n : Nat} (hn : n < 2 ^ 30) : decide ((0 : Int32) ≤ a ∧ a ≤ nI n - nI 1) = inb a n := by
  have e1 : (nI n - nI 1).toInt = (n : Int) - 1 := pk_sub_toInt hn (by decide)
  unfold inb
  rw [← Bool.decide_and]
  congr 1
  apply propext
  rw [Int32.le_iff_toInt_le, Int32.le_iff_toInt_le, e1]
  have e0 : (0 : Int32).toInt = 0 := rfl
  rw [e0]
  have e2 : a.toNatClampNeg = a.toInt.toNat := rfl
  rw [e2]
  omega
theorem inb_dec (a : Int32) {n : Nat} (h : inb a n = true) : ∃ j, j < n ∧ a = nI j := ⟨ix a, inb_lt h, inb_nI h⟩
theorem bI_01 (b : Bool) : decide (bI b = 0 ∨ bI b = 1) = true := by cases b <;> decide
theorem isStep_ok (Y : Mem) (a : Int32) (h : WF (Y 10 0 1)) : M12_isStep Y a = some (bI (inb a (nS (Y 10 0 1)))) := by
  unfold M12_isStep
  have e := h.1
  have h14 := h.2.1
  simp (disch := omega) only [litI, pk_mul, nI_add, gdi, ix_n, lt_e, bd1_e, bd2_e]
  rw [e]
  have hn : nS (Y 10 0 1) < 2 ^ 30 := by omega
  rw [in_ok, bd1_e]
  have := in_inb a hn
  rw [litI] at this
  rw [this, gd_t]
  exact bI_01 _
theorem isPan_ok (Y : Mem) (a : Int32) (h : WF (Y 10 0 1)) : M12_isPan Y a = some (bI (inb a (nP (Y 10 0 1)))) := by
  unfold M12_isPan
  have e := h.2.2.1
  have h14 := h.2.2.2.1
  simp (disch := omega) only [litI, pk_mul, nI_add, gdi, ix_n, lt_e, bd1_e, bd2_e]
  rw [e]
  have hn : nP (Y 10 0 1) < 2 ^ 30 := by omega
  rw [in_ok, bd1_e]
  have := in_inb a hn
  rw [litI] at this
  rw [this, gd_t]
  exact bI_01 _
theorem capacity_ok (Y : Mem) {q : Nat} (h : q < 4) : M12_capacity Y (nI q) = some ((Y 10 0 1) (14 + q * 8 + 7)) := by
  unfold M12_capacity
  simp (disch := omega) only [litI, pk_mul, nI_add, gdi, ix_n, lt_e, bd1_e, bd2_e]
theorem isPred_b2 (Y : Mem) {p s : Nat} (W : WF (Y 10 0 1)) (hs : s < nS (Y 10 0 1)) (hp : p < 2 ^ 31) : ∀ i, i ≤ np (Y 10 0 1) s → ∀ f, np (Y 10 0 1) s - i < f → anyB (fun k => pr (Y 10 0 1) s k == p) i = false → M12_isPredecessor_b2 Y (nI p) (nI s) f (nI i) = some (bI (isPred (Y 10 0 1) p s)) := by
  have h14 := W.2.1
  have hnp := W.2.2.2.2.1 s hs
  refine upl ?_ ?_
  · intro f f_h ha
    obtain ⟨f, rfl⟩ := fuel_s f_h
    unfold M12_isPredecessor_b2
    simp (disch := omega) only [litI, pk_mul, nI_add, gdi, ix_n, lt_e, bd1_e, bd2_e, of_ok, hnp.1]
    rw [if_pos (Int32.le_refl _)]
    unfold isPred
    rw [ha]; rfl
  · intro i hi ih f f_h ha
    obtain ⟨f, rfl⟩ := fuel_s f_h
    unfold M12_isPredecessor_b2
    have hpr := W.2.2.2.2.2.1 s hs i hi
    simp (disch := omega) only [litI, pk_mul, nI_add, gdi, ix_n, lt_e, bd1_e, bd2_e, of_ok, hnp.1, hpr.1, nI_leI, nI_eq]
    rw [if_neg (by omega)]
    by_cases e : pr (Y 10 0 1) s i = p
    · rw [if_pos e]
      have : isPred (Y 10 0 1) p s = true := anyB_iff.mpr ⟨i, hi, by simp [e]⟩
      rw [this]; rfl
    · rw [if_neg e]
      exact ih f (by omega) (by rw [anyB_s, ha]; simp [e])
theorem isPred_ok (Y : Mem) {p s : Nat} (W : WF (Y 10 0 1)) (hs : s < nS (Y 10 0 1)) (hp : p < 2 ^ 31) : M12_isPredecessor Y (nI p) (nI s) = some (bI (isPred (Y 10 0 1) p s)) := by
  unfold M12_isPredecessor
  rw [litI]
  exact isPred_b2 Y W hs hp 0 (Nat.zero_le _) FU (by have := FU_big; have := (W.2.2.2.2.1 s hs).2; omega) rfl
theorem hasSucc_b5 (Y : Mem) {s : Nat} {u v : Int32} (W : WF (Y 10 0 1)) (hs : s < 14) : ∀ i, i ≤ nS (Y 10 0 1) → s < i → ∀ f, nS (Y 10 0 1) - i < f → anyB (fun k => decide (s < k) && isPred (Y 10 0 1) s k && (fld (Y 10 0 1) k 17 == u || fld (Y 10 0 1) k 17 == v)) i = false → M12_hasSuccessor_b5 Y (nI s) u v f (nI i) = some (bI (hasSucc (Y 10 0 1) s u v)) := by
  have h14 := W.2.1
  have e13 := W.1
  refine upl ?_ ?_
  · intro hsi f f_h ha
    obtain ⟨f, rfl⟩ := fuel_s f_h
    unfold M12_hasSuccessor_b5
    simp (disch := omega) only [litI, pk_mul, nI_add, gdi, ix_n, lt_e, bd1_e, bd2_e]
    rw [e13, if_pos (Int32.le_refl _)]
    unfold hasSucc
    rw [ha]; rfl
  · intro i hi ih hsi f f_h ha
    obtain ⟨f, rfl⟩ := fuel_s f_h
    unfold M12_hasSuccessor_b5
    simp (disch := omega) only [litI, pk_mul, nI_add, gdi, ix_n, lt_e, bd1_e, bd2_e, of_ok]
    rw [e13, if_neg (by rw [nI_leI (by omega) (by omega)]; omega)]
    rw [isPred_ok Y W hi (by omega)]
    have hk : M12_hasSuccessor_b53 Y (nI s) u v (M12_hasSuccessor_b5 Y (nI s) u v f) (nI i) = M12_hasSuccessor_b5 Y (nI s) u v f (nI (i + 1)) := by
      unfold M12_hasSuccessor_b53
      simp only [litI, nI_add]
    simp only [bd1_e, bI_n, hk]
    cases hp : isPred (Y 10 0 1) s i
    · rw [if_neg (by decide)]
      exact ih (by omega) f (by omega) (by rw [anyB_s, ha]; simp [hp])
    · rw [if_pos rfl]
      have hT : (fld (Y 10 0 1) i 17 = u ∨ fld (Y 10 0 1) i 17 = v) → hasSucc (Y 10 0 1) s u v = true := fun q => anyB_iff.mpr ⟨i, hi, by simp [hp, hsi, q]⟩
      by_cases e1 : fld (Y 10 0 1) i 17 = u
      · rw [if_pos e1, hT (Or.inl e1)]; rfl
      · rw [if_neg e1]
        by_cases e2 : fld (Y 10 0 1) i 17 = v
        · rw [if_pos e2, hT (Or.inr e2)]; rfl
        · rw [if_neg e2]
          exact ih (by omega) f (by omega) (by rw [anyB_s, ha]; simp [hp, e1, e2])
theorem anyB_pre {p : Nat → Bool} {n : Nat} (h : ∀ i, i < n → p i = false) : anyB p n = false := anyB_f.mpr h
theorem hasSucc_ok (Y : Mem) {s : Nat} (u v : Int32) (W : WF (Y 10 0 1)) (hs : s < nS (Y 10 0 1)) : M12_hasSuccessor Y (nI s) u v = some (bI (hasSucc (Y 10 0 1) s u v)) := by
  unfold M12_hasSuccessor
  have h14 := W.2.1
  simp only [litI, nI_add, lt_e]
  exact hasSucc_b5 Y W (by omega) (s + 1) (by omega) (by omega) FU (by have := FU_big; omega) (anyB_pre fun i hi => by simp; omega)
def fOpen (m : Nat → Int32) (s : Nat) : Option Nat := (fst1 (fun k => !(fld m (pr m s k) 17 == 2)) (np m s)).map (pr m s)
theorem firstOpen_b2 (Y : Mem) {s : Nat} (W : WF (Y 10 0 1)) (hs : s < nS (Y 10 0 1)) : ∀ i, i ≤ np (Y 10 0 1) s → ∀ f, np (Y 10 0 1) s - i < f → fst1 (fun k => !(fld (Y 10 0 1) (pr (Y 10 0 1) s k) 17 == 2)) i = none → M12_firstOpen_b2 Y (nI s) f (nI i) = some (oI (fOpen (Y 10 0 1) s)) := by
  have h14 := W.2.1
  have hnp := W.2.2.2.2.1 s hs
  refine upl ?_ ?_
  · intro f f_h ha
    obtain ⟨f, rfl⟩ := fuel_s f_h
    unfold M12_firstOpen_b2
    simp (disch := omega) only [litI, pk_mul, nI_add, gdi, ix_n, lt_e, bd1_e, bd2_e, of_ok, hnp.1]
    rw [if_pos (Int32.le_refl _)]
    unfold fOpen
    rw [ha]; rfl
  · intro i hi ih f f_h ha
    obtain ⟨f, rfl⟩ := fuel_s f_h
    unfold M12_firstOpen_b2
    have hpr := W.2.2.2.2.2.1 s hs i hi
    simp (disch := omega) only [litI, pk_mul, nI_add, gdi, ix_n, lt_e, bd1_e, bd2_e, of_ok, hnp.1, hpr.1, nI_leI]
    rw [if_neg (by omega)]
    by_cases e : fld (Y 10 0 1) (pr (Y 10 0 1) s i) 17 = nI 2
    · rw [if_pos e]
      exact ih f (by omega) (by unfold fst1; rw [ha]; simp only []; rw [if_neg]; rw [e]; decide)
    · rw [if_neg e]
      have : fst1 (fun k => !(fld (Y 10 0 1) (pr (Y 10 0 1) s k) 17 == 2)) (np (Y 10 0 1) s) = some i := fst1_some.mpr ⟨hi, by show (!(fld (Y 10 0 1) (pr (Y 10 0 1) s i) 17 == 2)) = true; rw [beq_eq_false_iff_ne.mpr (show ¬ fld (Y 10 0 1) (pr (Y 10 0 1) s i) 17 = 2 from e)]; rfl, fst1_none.mp ha⟩
      unfold fOpen
      rw [this]; rfl
theorem firstOpen_ok (Y : Mem) {s : Nat} (W : WF (Y 10 0 1)) (hs : s < nS (Y 10 0 1)) : M12_firstOpen Y (nI s) = some (oI (fOpen (Y 10 0 1) s)) := by
  unfold M12_firstOpen
  rw [litI]
  exact firstOpen_b2 Y W hs 0 (Nat.zero_le _) FU (by have := FU_big; have := (W.2.2.2.2.1 s hs).2; omega) rfl
