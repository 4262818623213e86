/-! THE CLASS'S growOld AND THE MODEL'S cool -/
theorem recW_cap {q : Nat} (h : q < 4) : recW (14 + q * 8 + 7) = true := by
  match q, h with
  | 0, _ => decide
  | 1, _ => decide
  | 2, _ => decide
  | 3, _ => decide
theorem re_cap {m m' : Nat → Int32} (h : RecEq m m') {q : Nat} (hq : q < 4) : m' (14 + q * 8 + 7) = m (14 + q * 8 + 7) := h _ (by omega) (recW_cap hq)
theorem re_123 {m m' : Nat → Int32} (h : RecEq m m') : m' 1 = m 1 ∧ m' 2 = m 2 ∧ m' 3 = m 3 := ⟨h 1 (by omega) (by decide), h 2 (by omega) (by decide), h 3 (by omega) (by decide)⟩
theorem RR_a {Y : Mem} {r : Nat} {m m' : Nat → Int32} (W : WF m) (h : RecEq m m') (hR : ∀ q, q < nP m → Y 3 r 1 q = m (14 + q * 8 + 7) ∧ ∀ k, k < 32 → bt (Y 3 r 2 q) k = (decide (k < nS m) && (fld m k 9 == nI q))) : ∀ q, q < nP m' → Y 3 r 1 q = m' (14 + q * 8 + 7) ∧ ∀ k, k < 32 → bt (Y 3 r 2 q) k = (decide (k < nS m') && (fld m' k 9 == nI q)) := by
  have h14 := W.2.1
  have hp4 := W.2.2.2.1
  intro q hq
  rw [re_nP h] at hq
  have q1 := hR q hq
  refine ⟨q1.1.trans (re_cap h (Nat.lt_of_lt_of_le hq hp4)).symm, fun k hk => ?_⟩
  rw [q1.2 k hk, re_nS h]
  by_cases c : k < nS m
  · rw [re_fld h (Nat.lt_of_lt_of_le c h14) (show 9 < 17 by decide) (by decide)]
  · rw [decide_eq_false c]; rfl
theorem RR_b {Y : Mem} {r : Nat} {m m' : Nat → Int32} (W : WF m) (h : RecEq m m') (hR : ∀ s, s < nS m → Y 3 r 4 s = fld m s 8 ∧ Y 3 r 5 s = fld m s 9 ∧ Y 3 r 7 s = fld m s 12 ∧ ∀ k, k < np m s → Y 3 r (20 + s) k = fld m s (13 + k)) : ∀ s, s < nS m' → Y 3 r 4 s = fld m' s 8 ∧ Y 3 r 5 s = fld m' s 9 ∧ Y 3 r 7 s = fld m' s 12 ∧ ∀ k, k < np m' s → Y 3 r (20 + s) k = fld m' s (13 + k) := by
  have h14 := W.2.1
  intro s hs
  rw [re_nS h] at hs
  have q1 := hR s hs
  have hs14 := Nat.lt_of_lt_of_le hs h14
  have hnp := (W.2.2.2.2.1 s hs).2
  refine ⟨q1.1.trans (re_fld h hs14 (show 8 < 17 by decide) (by decide)).symm, q1.2.1.trans (re_fld h hs14 (show 9 < 17 by decide) (by decide)).symm, q1.2.2.1.trans (re_fld h hs14 (show 12 < 17 by decide) (by decide)).symm, fun k hk => ?_⟩
  rw [re_np h hs14] at hk
  exact (q1.2.2.2 k hk).trans (re_fld h hs14 (by omega) (by omega)).symm
theorem RR_c {Y : Mem} {r : Nat} {m m' : Nat → Int32} (W : WF m) (h : RecEq m m') (hR : ∀ s, s < nS m → ∀ k, k < 32 → bt (Y 3 r 8 s) k = isPred m k s ∧ bt (Y 3 r 9 s) k = (decide (k < nS m) && isPred m s k)) : ∀ s, s < nS m' → ∀ k, k < 32 → bt (Y 3 r 8 s) k = isPred m' k s ∧ bt (Y 3 r 9 s) k = (decide (k < nS m') && isPred m' s k) := by
  have h14 := W.2.1
  intro s hs k hk
  rw [re_nS h] at hs
  have q1 := hR s hs k hk
  refine ⟨q1.1.trans (re_isPred h (Nat.lt_of_lt_of_le hs h14) (W.2.2.2.2.1 s hs).2 k).symm, ?_⟩
  rw [q1.2, re_nS h]
  by_cases c : k < nS m
  · rw [re_isPred h (Nat.lt_of_lt_of_le c h14) (W.2.2.2.2.1 k c).2]
  · rw [decide_eq_false c, Bool.false_and, Bool.false_and]
theorem RR_d {Y : Mem} {r : Nat} {m m' : Nat → Int32} (W : WF m) (h : RecEq m m') (hR : ∀ k, k < 32 → bt (Y 3 r 0 15) k = (decide (k < nS m) && (fld m k 10 == 1)) ∧ bt (Y 3 r 0 16) k = (decide (k < nS m) && (fld m k 11 == 1))) : ∀ k, k < 32 → bt (Y 3 r 0 15) k = (decide (k < nS m') && (fld m' k 10 == 1)) ∧ bt (Y 3 r 0 16) k = (decide (k < nS m') && (fld m' k 11 == 1)) := by
  have h14 := W.2.1
  intro k hk
  have q1 := hR k hk
  rw [q1.1, q1.2, re_nS h]
  by_cases c : k < nS m
  · rw [re_fld h (Nat.lt_of_lt_of_le c h14) (show 10 < 17 by decide) (by decide), re_fld h (Nat.lt_of_lt_of_le c h14) (show 11 < 17 by decide) (by decide)]; exact ⟨rfl, rfl⟩
  · rw [decide_eq_false c]; exact ⟨rfl, rfl⟩
theorem RR_e {m m' : Nat → Int32} (W : WF m) (h : RecEq m m') (hR : ∀ s, s < nS m → (fld m s 10 = 0 ∨ fld m s 10 = 1) ∧ (fld m s 11 = 0 ∨ fld m s 11 = 1)) : ∀ s, s < nS m' → (fld m' s 10 = 0 ∨ fld m' s 10 = 1) ∧ (fld m' s 11 = 0 ∨ fld m' s 11 = 1) := by
  have h14 := W.2.1
  intro s hs
  rw [re_nS h] at hs
  rw [re_fld h (Nat.lt_of_lt_of_le hs h14) (show 10 < 17 by decide) (by decide), re_fld h (Nat.lt_of_lt_of_le hs h14) (show 11 < 17 by decide) (by decide)]
  exact hR s hs
theorem RR_re {Y : Mem} {r : Nat} {m m' : Nat → Int32} (W : WF m) (h : RecEq m m') (hR : RR Y r m) : RR Y r m' := by
  obtain ⟨⟨r1, r2, r3⟩, ⟨b1, b2, b3⟩, h3, h4, h5, h6, h7⟩ := hR
  have e := re_123 h
  exact ⟨⟨r1, r2.trans (congrArg nI (re_nS h)).symm, r3.trans (congrArg nI (re_nP h)).symm⟩, ⟨b1.trans e.1.symm, b2.trans e.2.1.symm, b3.trans e.2.2.symm⟩, RR_a W h h3, RR_b W h h4, RR_c W h h5, RR_d W h h6, RR_e W h h7⟩
theorem RR_mem {Y Y' : Mem} {r : Nat} {m : Nat → Int32} (h3 : Y' 3 = Y 3) (h4 : Y' 4 = Y 4) (hR : RR Y r m) : RR Y' r m := by
  unfold RR
  rw [h3, h4]
  exact hR
theorem RR_wS {Y : Mem} {g : Nat} {σ : Nat → Nat → Int32} {m : Nat → Int32} (hR : RR Y (rg Y g) m) : RR (wS Y g σ) (rg (wS Y g σ) g) m := by
  have e : rg (wS Y g σ) g = rg Y g := by unfold rg; rw [wS_o (by omega)]
  rw [e]
  exact RR_mem (wS_k (by omega)) (wS_k (by omega)) hR
def CoI (m0 : Nat → Int32) (B : Nat → Nat) (i : Nat) (σ : Nat → Nat → Int32) (m : Nat → Int32) : Prop :=
  RecEq m0 m ∧ St7 σ m B ∧ σ 0 3 = m 10 ∧ (∀ k, i ≤ k → k < nS m0 → ∀ w, w < 24 → fld m k w = fld m0 k w) ∧ (∀ x, x < 46 → x ≠ 9 → m x = m0 x)
def mCools (m : Nat → Int32) : Nat → Nat → (Nat → Int32)
  | _, 0 => m
  | i, d + 1 => mCools (mCool m i) (i + 1) d
theorem CI_age {m0 : Nat → Int32} {B : Nat → Nat} {i : Nat} {σ : Nat → Nat → Int32} {m : Nat → Int32} (h : CoI m0 B i σ m) (hi : i < nS m) (h17 : fld m i 17 = 2) : CoI m0 B (i + 1) (uo σ 3 i (σ 3 i + 1)) (mC1 m i) := by
  obtain ⟨h1, h2, h3, h4, h5⟩ := h
  refine ⟨re_trans h1 (mC1_re m i), St_age h2 hi h17, ?_, fun k hk hk2 w hw => ?_, fun x hx hx2 => ?_⟩
  · rw [uo_f (by omega), mC1_lo m (by omega)]; exact h3
  · rw [mC1_fld m hw, if_neg (by omega)]; exact h4 k (by omega) hk2 w hw
  · rw [mC1_lo m hx]; exact h5 x hx hx2
theorem CI_burn {m0 : Nat → Int32} {B : Nat → Nat} {i : Nat} {σ : Nat → Nat → Int32} {m : Nat → Int32} (h14 : nS m ≤ 14) (h : CoI m0 B (i + 1) σ m) (hi : i < nS m) (h17 : fld m i 17 = 2) : CoI m0 B (i + 1) (sBurn σ i) (mC2 m i) := by
  obtain ⟨h1, h2, h3, h4, h5⟩ := h
  refine ⟨re_trans h1 (mC2_re m i), St_burn h14 h2 hi h17, ?_, fun k hk hk2 w hw => ?_, fun x hx hx2 => ?_⟩
  · rw [(sBurn_0 σ i).2.2 3 (by omega) (by omega), mC2_lo m (by omega), if_neg (by omega)]; exact h3
  · rw [mC2_fld m hw, if_neg (by omega), if_neg (by omega), if_neg (by omega)]; exact h4 k (by omega) hk2 w hw
  · rw [mC2_lo m hx, if_neg hx2]; exact h5 x hx hx2
theorem CI_same {m0 : Nat → Int32} {B : Nat → Nat} {i : Nat} {σ : Nat → Nat → Int32} {m : Nat → Int32} (h : CoI m0 B i σ m) : CoI m0 B (i + 1) σ m := ⟨h.1, h.2.1, h.2.2.1, fun k hk => h.2.2.2.1 k (by omega), h.2.2.2.2⟩
theorem growC_b {Y : Mem} {g : Nat} {B : Nat → Nat} {m0 : Nat → Int32} {v2 a1 : Int32} (W : WF m0) (hR : RR Y (rg Y g) m0) (hv2 : ∀ k, k < nS m0 → bt v2 k = ((fld m0 k 17 == 2) && (fld m0 k 10 == 1) && !(fld m0 k 23 == 1))) :
    ∀ d i σ m f, i + d = nS m0 → d < f → CoI m0 B i σ m → ∃ σ', X3_growOld_b22 g a1 f (wS Y g σ) (nI i) v2 = some (wS Y g σ') ∧ CoI m0 B (nS m0) σ' (mCools m i d) := by
  intro d
  have h14 := W.2.1
  have hrg : ∀ σ, rg (wS Y g σ) g = rg Y g := fun σ => by unfold rg; rw [wS_o (by omega)]
  have hr3 : ∀ σ, rg (wS Y g σ) g < 2 := fun σ => by rw [hrg]; exact hR.1.1
  have hcn : ∀ σ, (wS Y g σ) 4 (2 * rg (wS Y g σ) g + 1) 0 2 = nI (nS m0) := fun σ => by rw [hrg, wS_o (by omega)]; exact hR.1.2.1
  induction d with
  | zero =>
    intro i σ m f hi f_h hw
    obtain ⟨f, rfl⟩ := fuel_s f_h
    have : i = nS m0 := by omega
    subst this
    unfold X3_growOld_b22
    rw [gd2 (hr3 σ), gd2 (hr3 σ), hcn, if_pos (Int32.le_refl _)]
    exact ⟨σ, rfl, hw⟩
  | succ d ih =>
    intro i σ m f hi f_h hw
    obtain ⟨f, rfl⟩ := fuel_s f_h
    have hin : i < nS m0 := by omega
    have hnS := re_nS hw.1
    have him : i < nS m := by omega
    have Wm := re_WF hw.1 W
    have hRm : RR (wS Y g σ) (rg (wS Y g σ) g) m := RR_wS (RR_re W hw.1 hR)
    have hSB : SB (wS Y g σ) g m := fun k hk => by rw [wS_at]; exact hw.2.1.2.1 k hk
    have e17 : fld m i 17 = fld m0 i 17 := hw.2.2.2.1 i (Nat.le_refl i) hin 17 (by omega)
    have e10 : fld m i 10 = fld m0 i 10 := hw.2.2.2.1 i (Nat.le_refl i) hin 10 (by omega)
    have e23 : fld m i 23 = fld m0 i 23 := hw.2.2.2.1 i (Nat.le_refl i) hin 23 (by omega)
    unfold X3_growOld_b22
    rw [gd2 (hr3 σ), gd2 (hr3 σ), hcn, if_neg (by rw [nI_leI (by omega) (by omega)]; omega), contains_ok _ _ (by omega), bd1_e, bI_ne, hv2 i hin, ← e17, ← e10, ← e23]
    have hj : ∀ Y1, X3_growOld_b92 g a1 (X3_growOld_b22 g a1 f) Y1 (nI i) v2 = X3_growOld_b22 g a1 f Y1 (nI (i + 1)) v2 := by
      intro Y1
      unfold X3_growOld_b92
      rw [litI, nI_add]
    show ∃ σ', _ = _ ∧ CoI m0 B (nS m0) σ' (mCools (mCool m i) (i + 1) d)
    have hsame : mCool m i = m → ∃ σ', X3_growOld_b22 g a1 f (wS Y g σ) (nI (i + 1)) v2 = some (wS Y g σ') ∧ CoI m0 B (nS m0) σ' (mCools (mCool m i) (i + 1) d) := by
      intro e
      rw [e]
      exact ih (i + 1) σ m f (by omega) (by omega) (CI_same hw)
    rcases (hRm.2.2.2.2.2.2 i him).1 with h10 | h10
    · have : mCool m i = m := by unfold mCool; rw [if_pos h10]
      rw [h10]
      have e1 : ((0 : Int32) == 1) = false := by decide
      rw [e1, Bool.and_false, Bool.false_and, if_neg (by decide), hj]
      exact hsame this
    · rw [h10]
      have e1 : ((1 : Int32) == 1) = true := by decide
      have n10 : ¬ fld m i 10 = 0 := by rw [h10]; decide
      by_cases c17 : fld m i 17 = 2
      · rw [beq_iff_eq.mpr c17, e1, Bool.true_and]
        by_cases c23 : fld m i 23 = 1
        · have : mCool m i = m := by unfold mCool; rw [if_neg n10, if_pos c17, if_pos c23]
          rw [beq_iff_eq.mpr c23, if_neg (by decide), hj]
          exact hsame this
        · rw [beq_eq_false_iff_ne.mpr c23, if_pos (by decide), isCont_ok _ Wm hRm hSB him, bd1_e, bI_ne]
          have hT : isTaken m i = hasSucc m i 1 2 := by unfold isTaken; rw [beq_iff_eq.mpr c17, Bool.true_and]
          cases cs : hasSucc m i 1 2
          · rw [if_neg (by decide), gdi (show i < 14 by omega), ix_n (by omega), lt_e, wS_at, up_wS, gd2 (hr3 _), wS_at, uo_s]
            have e3 : (wS Y g (uo σ 3 i (σ 3 i + 1))) 3 (rg (wS Y g (uo σ 3 i (σ 3 i + 1))) g) 0 1 = m 1 := by
              rw [hrg, wS_o (by omega), hR.2.1.1]; exact (hw.2.2.2.2 1 (by omega) (by omega)).symm
            rw [e3]
            have hage : σ 3 i + 1 = fld (mC1 m i) i 19 := by rw [mC1_fld m (by omega), if_pos ⟨rfl, rfl⟩, (hw.2.1.2.2.1 i him).2.2.1]
            have hA := CI_age hw him c17
            have hm1 : mC1 m i 1 = m 1 := mC1_lo m (by omega)
            have hmc : mCool m i = if m 1 < fld (mC1 m i) i 19 then mC2 (mC1 m i) i else mC1 m i := by
              unfold mCool; rw [if_neg n10, if_pos c17, if_neg c23, hT, cs, if_neg (by decide), hm1]
            rw [hmc, hage]
            by_cases cb : m 1 < fld (mC1 m i) i 19
            · rw [if_neg (Int32.not_le.mpr cb), if_pos cb, ← hage, burn_ok Y g _ (by omega), bd1_e, hj]
              have hn1 := re_nS (mC1_re m i)
              exact ih (i + 1) _ _ f (by omega) (by omega) (CI_burn (by omega) hA (by omega) (by rw [mC1_fld m (by omega), if_neg (by omega)]; exact c17))
            · rw [if_pos (Int32.not_lt.mp cb), if_neg cb, ← hage, hj]
              exact ih (i + 1) _ _ f (by omega) (by omega) hA
          · rw [if_pos rfl, hj]
            have : mCool m i = m := by unfold mCool; rw [if_neg n10, if_pos c17, if_neg c23, hT, cs, if_pos rfl]
            exact hsame this
      · have : mCool m i = m := by unfold mCool; rw [if_neg n10, if_neg c17]
        rw [beq_eq_false_iff_ne.mpr c17, Bool.false_and, Bool.false_and, if_neg (by decide), hj]
        exact hsame this
