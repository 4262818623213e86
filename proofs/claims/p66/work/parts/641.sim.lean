/-! FORECASTS: until all is done -/
theorem done_fin {Y : Mem} {g : Nat} {m : Nat → Int32} (h14 : nS m ≤ 14) (hS : SB Y g m) : Y 2 g 0 7 = (1 <<< (nI (nS m) &&& 31)) - 1 ↔ fin m = true := by
  unfold fin wSt
  rw [beq_iff_eq, cnt_all]
  constructor
  · intro h i hi
    have e2 := (hS i (by omega)).2.1
    rw [h, b_all _ (by omega) i (by omega), stB_in hi, decide_eq_true hi] at e2
    exact e2.symm
  · intro h
    refine b_ext fun k hk => ?_
    rw [(hS k hk).2.1, b_all _ (by omega) k hk]
    by_cases hi : k < nS m
    · rw [stB_in hi, h k hi, decide_eq_true hi]
    · rw [stB_out hi, decide_eq_false hi]
def simR (m : Nat → Int32) : Nat → Nat → Int32
  | i, 0 => if fin (mins m i) = true then nI i else -1
  | i, d + 1 => if fin (mins m i) = true then nI i else simR m (i + 1) d
/-- the answer of a forecast: the minutes until all is done -/
def simA (m : Nat → Int32) : Int32 := simR m 0 500
theorem simC_b {Y : Mem} {g B : Nat} {m : Nat → Int32} (h : KR Y g m B) (hO : KO Y g m) : ∀ d i σ f, i + d = 500 → d < f → KR (wS Y g σ) g (mins m i) (B + i) → KO (wS Y g σ) g (mins m i) → ∃ σ', X3_runToFinish_b6 g f (wS Y g σ) (nI i) = some (simR m i d, wS Y g σ') := by
  intro d
  induction d with
  | zero =>
    intro i σ f hi f_h h1 h2
    obtain ⟨f, rfl⟩ := fuel_s f_h
    have : i = 500 := by omega
    subst this
    unfold X3_runToFinish_b6
    obtain ⟨W, hR, hst, -, -⟩ := h1
    have hS : SB (wS Y g σ) g (mins m 500) := hst.2.1
    have df := done_fin W.2.1 hS
    rw [if_pos (by decide), gd2 hR.1.1, gd2 hR.1.1, allSteps_ok _ _ hR.1.2.1, bd1_e]
    unfold simR
    cases c : fin (mins m 500)
    · rw [if_neg (fun q => by rw [df.mp q] at c; cases c), if_neg (by decide)]
      exact ⟨σ, rfl⟩
    · rw [if_pos (df.mpr c), if_pos rfl]
      exact ⟨σ, rfl⟩
  | succ d ih =>
    intro i σ f hi f_h h1 h2
    obtain ⟨f, rfl⟩ := fuel_s f_h
    unfold X3_runToFinish_b6
    obtain ⟨W, hR, hst, -, -⟩ := id h1
    have hS : SB (wS Y g σ) g (mins m i) := hst.2.1
    have df := done_fin W.2.1 hS
    have e500 : (500 : Int32) = nI 500 := rfl
    rw [e500, if_neg (by rw [nI_leI (by omega) (by omega)]; omega), gd2 hR.1.1, gd2 hR.1.1, allSteps_ok _ _ hR.1.2.1, bd1_e]
    show ∃ σ', _ = some (if fin (mins m i) = true then nI i else simR m (i + 1) d, wS Y g σ')
    cases c : fin (mins m i)
    · obtain ⟨τ, q1, q2, q3, -⟩ := KR_min h1 h2
      rw [if_neg (fun q => by rw [df.mp q] at c; cases c), if_neg (by decide), q1, bd2_e, litI, nI_add, wS_wS]
      rw [wS_wS] at q2 q3
      exact ih (i + 1) τ f (by omega) (by omega) q2 q3
    · rw [if_pos (df.mpr c), if_pos rfl]
      exact ⟨σ, rfl⟩
theorem simM_26 (Z : Mem) {m : Nat → Int32} (hz : Z 10 0 1 = m) (W : WF m) (l1 : Int32) : M12_simulate_b26 Z l1 = some (if fin m = true then l1 else -1, Z) := by
  unfold M12_simulate_b26
  rw [fin_ok Z (by rw [hz]; exact W), hz, bd1_e, bI_ne]
  cases fin m <;> rfl
theorem simM_b {m : Nat → Int32} (hm : ∀ j, WF (mins m j) ∧ ((mins m j) 6 = 0 → MI (mMinA (mins m j)))) : ∀ d i Z f, i + d = 500 → d < f → Z 10 0 1 = mins m i → ∃ Z' e, M12_simulate_b2 f Z (nI i) = some (simR m i d, Z') ∧ Z' 10 0 1 = mins m e ∧ ∀ k g o, ¬ (k = 10 ∧ g = 0 ∧ (o = 1 ∨ o = 5 ∨ o = 8)) → Z' k g o = Z k g o := by
  intro d
  induction d with
  | zero =>
    intro i Z f hi f_h hz
    obtain ⟨f, rfl⟩ := fuel_s f_h
    have : i = 500 := by omega
    subst this
    unfold M12_simulate_b2
    rw [if_pos (by decide), simM_26 Z hz (hm 500).1]
    exact ⟨Z, 500, rfl, hz, fun _ _ _ _ => rfl⟩
  | succ d ih =>
    intro i Z f hi f_h hz
    obtain ⟨f, rfl⟩ := fuel_s f_h
    unfold M12_simulate_b2
    have e500 : (500 : Int32) = nI 500 := rfl
    rw [e500, if_neg (by rw [nI_leI (by omega) (by omega)]; omega), fin_ok Z (by rw [hz]; exact (hm i).1), hz, bd1_e, bI_ne]
    show ∃ Z' e, _ = some (if fin (mins m i) = true then nI i else simR m (i + 1) d, Z') ∧ _
    cases c : fin (mins m i)
    · obtain ⟨Z', q1, q2, q3⟩ := minuteM Z (by rw [hz]; exact (hm i).1) (by rw [hz]; exact (hm i).2)
      rw [if_neg (by decide), if_neg (by decide), q1, bd1_e, litI, nI_add]
      obtain ⟨Z2, e, r1, r2, r3⟩ := ih (i + 1) Z' f (by omega) (by omega) (by rw [q2, hz]; rfl)
      exact ⟨Z2, e, r1, r2, fun k g o hk => (r3 k g o hk).trans (q3 k g o hk)⟩
    · rw [if_pos rfl, if_pos rfl, simM_26 Z hz (hm i).1, c, if_pos rfl]
      exact ⟨Z, i, rfl, hz, fun _ _ _ _ => rfl⟩
theorem simM_ok (Z : Mem) {m : Nat → Int32} (hz : Z 10 0 1 = m) (hm : ∀ j, WF (mins m j) ∧ ((mins m j) 6 = 0 → MI (mMinA (mins m j)))) : ∃ Z' e, M12_simulate Z = some (simA m, Z') ∧ Z' 10 0 1 = mins m e ∧ ∀ k g o, ¬ (k = 10 ∧ g = 0 ∧ (o = 1 ∨ o = 5 ∨ o = 8)) → Z' k g o = Z k g o := by
  unfold M12_simulate
  exact simM_b hm 500 0 Z FU (by omega) (by have := FU_big; omega) hz
theorem KR_rank {Y : Mem} {g B : Nat} {m : Nat → Int32} (h : KR Y g m B) : ∃ p q, X3_rank Y g = some (upR (upR Y 1 g 1 p) 1 g 2 q) ∧ KR (upR (upR Y 1 g 1 p) 1 g 2 q) g m B ∧ KO (upR (upR Y 1 g 1 p) 1 g 2 q) g m ∧ ∀ k, k < nS m → p k = nI (pth m k) := by
  obtain ⟨W, hR, hst, h3, h6⟩ := h
  obtain ⟨p, q, h1, h2, h4⟩ := rank_ok Y W hst.2.2.2.2.2.1 hR (fun s hs => (hst.2.2.1 s hs).1)
  have e0 : (upR (upR Y 1 g 1 p) 1 g 2 q) 1 g 0 = Y 1 g 0 := by rw [upR_o (by omega), upR_o (by omega)]
  have ek : ∀ k, ¬ k = 1 → (upR (upR Y 1 g 1 p) 1 g 2 q) k = Y k := fun k hk => by funext g' o'; rw [upR_o (by omega), upR_o (by omega)]
  refine ⟨p, q, h1, ⟨W, ?_, by rw [ek 2 (by omega)]; exact hst, by rw [ek 2 (by omega)]; exact h3, h6⟩, by unfold KO; rw [upR_at]; exact h4, h2⟩
  have : rg (upR (upR Y 1 g 1 p) 1 g 2 q) g = rg Y g := by unfold rg; rw [e0]
  rw [this]
  exact RR_mem (ek 3 (by omega)) (ek 4 (by omega)) hR
theorem simC_ok {Y : Mem} {g B : Nat} {m : Nat → Int32} (h : KR Y g m B) : ∃ p q σ, X3_runToFinish Y g = some (simA m, wS (upR (upR Y 1 g 1 p) 1 g 2 q) g σ) := by
  obtain ⟨p, q, h1, hK, hO, -⟩ := KR_rank h
  unfold X3_runToFinish
  rw [h1, bd1_e]
  obtain ⟨σ, r1⟩ := simC_b hK hO 500 0 ((upR (upR Y 1 g 1 p) 1 g 2 q) 2 g) FU (by omega) (by have := FU_big; omega) (by rw [wS_self]; exact hK) (by rw [wS_self]; exact hO)
  rw [wS_self] at r1
  exact ⟨p, q, σ, r1⟩
/-! what lies above the block stays -/
theorem hi_upd (m : Nat → Int32) {s w x : Nat} (v : Int32) (hs : s < 14) (hw : w < 24) (hx : 382 ≤ x) : upd m (46 + s * 24 + w) v x = m x := pk_un (by omega)
theorem mWork_hi (m : Nat → Int32) {s x : Nat} (hs : s < 14) (hx : 382 ≤ x) : mWork m s x = m x := by
  have h1 : mW1 m s x = m x := by
    unfold mW1
    simp (disch := omega) only [hi_upd, pk_un]
  unfold mWork
  split
  · split
    · unfold mW2
      simp (disch := omega) only [hi_upd, pk_un]
      exact h1
    · exact h1
  · exact hi_upd m _ hs (by omega) hx
theorem mWorks_hi {x : Nat} (hx : 382 ≤ x) : ∀ (d i : Nat) (m : Nat → Int32), i + d ≤ 14 → mWorks m i d x = m x := by
  intro d
  induction d with
  | zero => intro i m _; rfl
  | succ d ih => intro i m h; exact (ih (i + 1) (mWork m i) (by omega)).trans (mWork_hi m (by omega) hx)
theorem mCool_hi (m : Nat → Int32) {s x : Nat} (hs : s < 14) (hx : 382 ≤ x) : mCool m s x = m x := by
  have h1 : mC1 m s x = m x := hi_upd m _ hs (by omega) hx
  unfold mCool
  split
  · rfl
  · split
    · split
      · rfl
      · split
        · rfl
        · split
          · unfold mC2
            simp (disch := omega) only [hi_upd, pk_un]
            exact h1
          · exact h1
    · rfl
theorem mCools_hi {x : Nat} (hx : 382 ≤ x) : ∀ (d i : Nat) (m : Nat → Int32), i + d ≤ 14 → mCools m i d x = m x := by
  intro d
  induction d with
  | zero => intro i m _; rfl
  | succ d ih => intro i m h; exact (ih (i + 1) (mCool m i) (by omega)).trans (mCool_hi m (by omega) hx)
theorem mStart_hi (m : Nat → Int32) {s x : Nat} (hs : s < 14) (hx : 382 ≤ x) : mStart m s x = m x := by
  unfold mStart
  split
  · split
    · unfold mSt1
      simp (disch := omega) only [hi_upd, pk_un]
    · rfl
  · rfl
theorem mStarts_hi {x : Nat} (hx : 382 ≤ x) : ∀ (l : List Nat) (m : Nat → Int32), (∀ s ∈ l, s < 14) → mStarts m l x = m x := by
  intro l
  induction l with
  | nil => intro m _; rfl
  | cons s l ih => intro m h; rw [mStarts_c, ih _ (fun y hy => h y (List.mem_cons_of_mem _ hy)), mStart_hi m (h s List.mem_cons_self) hx]
theorem mMin_hi {m : Nat → Int32} (W : WF m) {x : Nat} (hx : 382 ≤ x) : mMin m x = m x := by
  have h14 := W.2.1
  unfold mMin
  have ht : ∀ c : Nat → Int32, mTick c x = c x := fun c => pk_un (by omega)
  split
  · rw [ht]
    have hA : mMinA m x = m x := (mCools_hi hx _ _ _ (by omega)).trans (mWorks_hi hx _ _ _ (by omega))
    have hn := re_nS (mMinA_re m)
    refine (mStarts_hi hx _ _ (fun s hs => ?_)).trans hA
    have := (qR_mem.mp (List.mem_reverse.mp hs)).1
    omega
  · exact ht m
theorem mins_re (m : Nat → Int32) : ∀ j, RecEq m (mins m j) := by
  intro j
  induction j with
  | zero => exact re_refl m
  | succ j ih => exact re_trans ih (mMin_re _)
theorem mins_hi {m : Nat → Int32} (W : WF m) {x : Nat} (hx : 382 ≤ x) : ∀ j, mins m j x = m x := by
  intro j
  induction j with
  | zero => rfl
  | succ j ih => exact (mMin_hi (re_WF (mins_re m j) W) hx).trans ih
