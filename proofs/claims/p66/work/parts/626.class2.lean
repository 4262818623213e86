/-! THE CLASS: the set of those that occupy a pan, of the ready ones, the dish's taste -/
theorem pan_lo {m : Nat → Int32} (W : WF m) {s : Nat} (hs : s < nS m) : fld m s 9 = -1 ∨ ∃ q, q < nP m ∧ fld m s 9 = nI q := W.2.2.2.2.2.2 s hs
theorem nI_neg1 {q : Nat} (h : q < 2 ^ 31) : ¬ nI q = -1 := by
  intro e
  have : (nI q).toInt = (-1 : Int32).toInt := congrArg Int32.toInt e
  rw [nI_toInt h] at this
  have e : (-1 : Int32).toInt = -1 := by decide
  rw [e] at this; omega
/-- is some successor of s neither running nor done -/
theorem succ_open {Y : Mem} {g s : Nat} {m : Nat → Int32} (W : WF m) (hR : RR Y (rg Y g) m) (hS : SB Y g m) (h4 : S4 m) (hs : s < nS m) {x : Int32} (hx : ∀ k, k < 32 → bt x k = !(stB m 1 k || stB m 2 k)) : (Y 3 (rg Y g) 9 s &&& x) = 0 ↔ hasSucc m s 0 3 = false := by
  have h14 := W.2.1
  rw [and_z]
  unfold hasSucc
  rw [anyB_f]
  constructor
  · intro h i hi
    have q := h i (by omega)
    rw [(hR.2.2.2.2.1 s hs i (by omega)).2, hx i (by omega), stB_in hi, stB_in hi, decide_eq_true hi, Bool.true_and] at q
    cases hp : isPred m s i
    · rw [Bool.and_false, Bool.false_and]
    · rw [hp, Bool.true_and] at q
      have : (fld m i 17 == 0 || fld m i 17 == 3) = false := by
        rcases h4 i hi with e | e | e | e <;> rw [e] at q ⊢ <;> first | rfl | exact absurd q (by decide)
      rw [this, Bool.and_false]
  · intro h k hk
    rw [(hR.2.2.2.2.1 s hs k hk).2, hx k hk]
    by_cases hi : k < nS m
    · have q := h k hi
      rw [stB_in hi, stB_in hi, decide_eq_true hi, Bool.true_and]
      cases hp : isPred m s k
      · rfl
      · have := isPred_lt W hi hp
        rw [hp, decide_eq_true this, Bool.true_and, Bool.true_and] at q
        rcases h4 k hi with e | e | e | e <;> rw [e] at q ⊢ <;> first | rfl | exact absurd q (by decide)
    · rw [decide_eq_false hi]; rfl
theorem occupants_b {Y : Mem} {g : Nat} {m : Nat → Int32} {q : Nat} {v7 v3 : Int32} (W : WF m) (hR : RR Y (rg Y g) m) (hS : SB Y g m) (h4 : S4 m) (h7 : ∀ k, k < 32 → bt v7 k = (stB m 1 k || stB m 2 k)) (h3 : ∀ k, k < 32 → bt v3 k = (decide (k < nS m) && (fld m k 9 == nI q))) : ∀ i, i ≤ nS m → ∀ f x, nS m - i < f → (∀ k, k < 32 → bt x k = (decide (k < nS m) && (fld m k 9 == nI q) && ((fld m k 17 == 1) || (decide (k < i) && (fld m k 17 == 2) && hasSucc m k 0 3)))) → ∃ x', X3_occupants_b40 Y g (nI q) f (nI i) v7 x v3 = some x' ∧ ∀ k, k < 32 → bt x' k = (decide (k < nS m) && occ m (nI q) k) := by
  have h14 := W.2.1
  refine upl ?_ ?_
  · intro f x f_h hx
    obtain ⟨f, rfl⟩ := fuel_s f_h
    unfold X3_occupants_b40
    rw [gd2 hR.1.1, gd2 hR.1.1, hR.1.2.1, if_pos (Int32.le_refl _)]
    refine ⟨x, rfl, fun k hk => ?_⟩
    rw [hx k hk]
    unfold occ
    by_cases hi : k < nS m
    · rw [decide_eq_true hi]
      cases (fld m k 9 == nI q) <;> cases (fld m k 17 == 1) <;> cases (fld m k 17 == 2) <;> cases hasSucc m k 0 3 <;> rfl
    · rw [decide_eq_false hi]; rfl
  · intro i hi ih f x f_h hx
    obtain ⟨f, rfl⟩ := fuel_s f_h
    unfold X3_occupants_b40
    rw [gd2 hR.1.1, gd2 hR.1.1, hR.1.2.1, if_neg (by rw [nI_leI (by omega) (by omega)]; omega), lt_e]
    have hj : ∀ z, X3_occupants_b99 Y g (nI q) (X3_occupants_b40 Y g (nI q) f) (nI i) v7 z v3 = X3_occupants_b40 Y g (nI q) f (nI (i + 1)) v7 z v3 := by
      intro z
      unfold X3_occupants_b99
      rw [litI, nI_add]
    have e1 : ((v3 &&& Y 2 g 0 7) &&& (1 <<< (nI i &&& 31))) = 0 ↔ ((fld m i 9 == nI q) && (fld m i 17 == 2)) = false := by
      rw [and_z]
      constructor
      · intro h
        have := h i (by omega)
        rw [b_and, h3 i (by omega), (hS i (by omega)).2.1, stB_in hi, b_one i (by omega) (by omega), decide_eq_true hi, decide_eq_true rfl, Bool.and_true, Bool.true_and] at this
        exact this
      · intro h k hk
        rw [b_and, h3 k hk, (hS k hk).2.1, b_one i (by omega) hk]
        by_cases e : k = i
        · subst e
          rw [stB_in hi, decide_eq_true hi, Bool.true_and, h]; rfl
        · rw [decide_eq_false e, Bool.and_false]
    have e2 := succ_open W hR hS h4 hi (x := v7 ^^^ (-1)) (fun k hk => by rw [b_not _ hk, h7 k hk])
    have hstep : ∀ z : Int32, (∀ k, k < 32 → bt z k = (bt x k || (decide (k = i) && ((fld m i 9 == nI q) && (fld m i 17 == 2) && hasSucc m i 0 3)))) → ∀ k, k < 32 → bt z k = (decide (k < nS m) && (fld m k 9 == nI q) && ((fld m k 17 == 1) || (decide (k < i + 1) && (fld m k 17 == 2) && hasSucc m k 0 3))) := by
      intro z hz k hk
      rw [hz k hk, hx k hk]
      by_cases e : k = i
      · subst e
        rw [decide_eq_true hi, decide_eq_true rfl, decide_eq_false (Nat.lt_irrefl k), decide_eq_true (Nat.lt_succ_self k)]
        cases (fld m k 9 == nI q) <;> cases (fld m k 17 == 1) <;> cases (fld m k 17 == 2) <;> cases hasSucc m k 0 3 <;> rfl
      · have : decide (k < i + 1) = decide (k < i) := decide_eq_decide.mpr (by omega)
        rw [decide_eq_false e, this, Bool.false_and, Bool.or_false]
    by_cases c1 : ((v3 &&& Y 2 g 0 7) &&& (1 <<< (nI i &&& 31))) = 0
    · rw [if_pos c1, hj]
      refine ih f x (by omega) (hstep x fun k hk => ?_)
      rw [e1.mp c1]
      simp
    · rw [if_neg c1, gdi (show i < 14 by omega), ix_n (by omega)]
      by_cases c2 : (Y 3 (rg Y g) 9 i &&& (v7 ^^^ (-1))) = 0
      · rw [if_pos c2, hj]
        refine ih f x (by omega) (hstep x fun k hk => ?_)
        rw [e2.mp c2]
        simp
      · rw [if_neg c2, lt_e, hj]
        refine ih f _ (by omega) (hstep _ fun k hk => ?_)
        have t1 : ((fld m i 9 == nI q) && (fld m i 17 == 2)) = true := by
          cases h : ((fld m i 9 == nI q) && (fld m i 17 == 2))
          · exact absurd (e1.mpr h) c1
          · rfl
        have t2 : hasSucc m i 0 3 = true := by
          cases h : hasSucc m i 0 3
          · exact absurd (e2.mpr h) c2
          · rfl
        rw [b_or, b_one i (by omega) hk, t1, t2]
        simp
theorem occupants_ok (Y : Mem) {g : Nat} {m : Nat → Int32} {q : Nat} (W : WF m) (hR : RR Y (rg Y g) m) (hS : SB Y g m) (h4 : S4 m) (hq : q < nP m) : ∃ x, X3_occupants Y g (nI q) = some x ∧ ∀ k, k < 32 → bt x k = (decide (k < nS m) && occ m (nI q) k) := by
  have hp4 := W.2.2.2.1
  have h14 := W.2.1
  unfold X3_occupants
  rw [gd2 hR.1.1, gdi (show q < 4 by omega), ix_n (by omega)]
  simp only [lt_e]
  have h3 := (hR.2.2.1 q hq).2
  have := occupants_b (q := q) (v7 := Y 2 g 0 6 ||| Y 2 g 0 7) (v3 := Y 3 (rg Y g) 2 q) W hR hS h4 (fun k hk => by rw [b_or, (hS k hk).1, (hS k hk).2.1]) h3 0 (Nat.zero_le _) FU (Y 3 (rg Y g) 2 q &&& Y 2 g 0 6) (by have := FU_big; omega) (fun k hk => by
    rw [b_and, h3 k hk, (hS k hk).1]
    by_cases hi : k < nS m
    · rw [stB_in hi]
      simp
    · rw [stB_out hi, decide_eq_false hi]; rfl)
  exact this
theorem setCount_ok (Y : Mem) {x : Int32} {n : Nat} {p : Nat → Bool} (hn : n ≤ 14) (hx : ∀ k, k < 32 → bt x k = (decide (k < n) && p k)) : J6_bitCount_0f7a4 Y x = some (nI (cnt p n)) := by
  rw [bitCount_ok Y (fun i h1 h2 => by rw [hx i h2, decide_eq_false (by omega)]; rfl)]
  congr 2
  have e1 : cnt (bt x) 14 = cnt (fun k => decide (k < n) && p k) 14 := cnt_congr fun i hi => hx i (by omega)
  rw [e1, cnt_ext hn (fun k hk => by rw [decide_eq_false (by omega)]; rfl)]
  exact cnt_congr fun i hi => by rw [decide_eq_true hi]; rfl
theorem hasFreePan_ok (Y : Mem) {g s : Nat} {m : Nat → Int32} (W : WF m) (hR : RR Y (rg Y g) m) (hS : SB Y g m) (h4 : S4 m) (hs : s < nS m) : X3_hasFreePan Y g (nI s) = some (bI (hasPan m s)) := by
  have hp4 := W.2.2.2.1
  have h14 := W.2.1
  unfold X3_hasFreePan
  rw [gd2 hR.1.1, gdi (show s < 14 by omega), ix_n (by omega), lt_e, (hR.2.2.2.1 s hs).2.1]
  unfold hasPan
  rcases pan_lo W hs with e | ⟨q, hq, e⟩
  · rw [if_pos e, e]; rfl
  · have hne := nI_neg1 (q := q) (by omega)
    rw [e, if_neg hne]
    obtain ⟨x, hx, hb⟩ := occupants_ok Y W hR hS h4 hq
    rw [hx, bd1_e, setCount_ok Y h14 hb, bd1_e, gdi (show q < 4 by omega), ix_n (by omega), (hR.2.2.1 q hq).1, beq_eq_false_iff_ne.mpr hne, nI_clamp (by omega)]
    unfold used
    by_cases h : m (14 + q * 8 + 7) ≤ nI (cnt (occ m (nI q)) (nS m))
    · rw [if_pos h, decide_eq_false (Int32.not_lt.mpr h)]; rfl
    · rw [if_neg h, decide_eq_true (Int32.not_le.mp h)]; rfl
