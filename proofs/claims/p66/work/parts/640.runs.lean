/-! MANY MINUTES -/
def KR (Y : Mem) (g : Nat) (m : Nat → Int32) (B : Nat) : Prop := WF m ∧ RR Y (rg Y g) m ∧ St7 (Y 2 g) m (fun _ => B) ∧ Y 2 g 0 3 = m 10 ∧ (m 6 = 0 ∨ m 6 = 1)
def KO (Y : Mem) (g : Nat) (m : Nat → Int32) : Prop := Rep (Y 1 g 2) (ordR (pth m) (nS m))
theorem wS_2 (Y : Mem) (g : Nat) (σ : Nat → Nat → Int32) : (wS Y g σ) 2 g = σ := by
  funext o
  exact wS_at Y g σ o
theorem mStart_7 (m : Nat → Int32) (s k : Nat) : fld (mStart m s) k 7 = fld m k 7 := by
  unfold mStart
  split
  · split
    · rw [mSt1_fld m (by omega), if_neg (by omega), if_neg (by omega), if_neg (by omega)]
    · rfl
  · rfl
theorem mStarts_7 : ∀ (l : List Nat) (m : Nat → Int32) (k : Nat), fld (mStarts m l) k 7 = fld m k 7 := by
  intro l
  induction l with
  | nil => intro m k; rfl
  | cons s l ih => intro m k; rw [mStarts_c, ih, mStart_7]
theorem mMin_7 (m : Nat → Int32) (k : Nat) : fld (mMin m) k 7 = fld m k 7 := by
  unfold mMin
  have ft : ∀ c : Nat → Int32, fld (mTick c) k 7 = fld c k 7 := fun c => fld_upd_lo c _ (by omega)
  split
  · rw [ft]
    exact (mStarts_7 _ _ k).trans (mMinA_7 m k)
  · exact ft m
theorem pth_min {m : Nat → Int32} (W : WF m) (k : Nat) : pth (mMin m) k = pth m k := by
  unfold pth
  have h := mMin_re m
  rw [re_nS h]
  exact pa_eq W h (fun s _ => mMin_7 m s) (nS m) (Nat.le_refl _) k
theorem KR_min {Y : Mem} {g B : Nat} {m : Nat → Int32} (h : KR Y g m B) (hO : KO Y g m) : ∃ σ, X3_runMinute Y g = some (mMin m 8 - m 8, wS Y g σ) ∧ KR (wS Y g σ) g (mMin m) (B + 1) ∧ KO (wS Y g σ) g (mMin m) ∧ (m 6 = 0 → MI (mMinA m)) := by
  obtain ⟨W, hR, hst, h3, h6⟩ := h
  obtain ⟨σ, q1, q2, q3, q4, q5⟩ := minuteC W hR hst h3 h6 hO
  have hr := mMin_re m
  refine ⟨σ, q1, ⟨re_WF hr W, RR_wS (RR_re W hr hR), by rw [wS_2]; exact q2, by rw [wS_at]; exact q3, by rw [q5]; exact h6⟩, ?_, q4⟩
  unfold KO
  rw [wS_o (by omega), re_nS hr, ordR_congr (fun k => pth_min W k)]
  exact hO
def mins (m : Nat → Int32) : Nat → (Nat → Int32)
  | 0 => m
  | n + 1 => mMin (mins m n)
theorem mins_s (m : Nat → Int32) (n : Nat) : mins m (n + 1) = mMin (mins m n) := rfl
/-- a kitchen that stands for m: after any number of minutes -/
theorem KR_mins {Y : Mem} {g B : Nat} {m : Nat → Int32} (h : KR Y g m B) (hO : KO Y g m) : ∀ j, ∃ σ, KR (wS Y g σ) g (mins m j) (B + j) ∧ KO (wS Y g σ) g (mins m j) := by
  intro j
  induction j with
  | zero => exact ⟨Y 2 g, by rw [wS_self]; exact h, by rw [wS_self]; exact hO⟩
  | succ j ih =>
    obtain ⟨σ, h1, h2⟩ := ih
    obtain ⟨τ, -, q2, q3, -⟩ := KR_min h1 h2
    rw [wS_wS] at q2 q3
    exact ⟨τ, q2, q3⟩
theorem KR_MI {Y : Mem} {g B : Nat} {m : Nat → Int32} (h : KR Y g m B) (hO : KO Y g m) (j : Nat) : WF (mins m j) ∧ MI (mins m j) ∧ ((mins m j) 6 = 0 → MI (mMinA (mins m j))) := by
  obtain ⟨σ, h1, h2⟩ := KR_mins h hO j
  obtain ⟨τ, -, -, -, q4⟩ := KR_min h1 h2
  exact ⟨h1.1, h1.2.2.1.2.2.2.2.2.1, q4⟩
theorem i32_tel (a x y z : Int32) : a + (x - y) + (z - x) = a + (z - y) := by
  apply Int32.toBitVec_inj.mp
  simp only [Int32.toBitVec_add, Int32.toBitVec_sub]
  generalize a.toBitVec = a
  generalize x.toBitVec = x
  generalize y.toBitVec = y
  generalize z.toBitVec = z
  bv_omega
theorem runC_b {Y : Mem} {g B t : Nat} {m : Nat → Int32} (ht : t < 5000) (h : KR Y g m B) (hO : KO Y g m) : ∀ d i σ f acc, i + d = t → d < f → KR (wS Y g σ) g (mins m i) (B + i) → KO (wS Y g σ) g (mins m i) → ∃ σ', X3_runMinutes_b8 g (nI t) f (wS Y g σ) (nI i) acc = some (acc + ((mins m t) 8 - (mins m i) 8), wS Y g σ') ∧ KR (wS Y g σ') g (mins m t) (B + t) ∧ KO (wS Y g σ') g (mins m t) := by
  intro d
  induction d with
  | zero =>
    intro i σ f acc hi f_h h1 h2
    obtain ⟨f, rfl⟩ := fuel_s f_h
    have : i = t := by omega
    subst this
    unfold X3_runMinutes_b8
    rw [if_pos (Int32.le_refl _)]
    refine ⟨σ, ?_, h1, h2⟩
    simp
  | succ d ih =>
    intro i σ f acc hi f_h h1 h2
    obtain ⟨f, rfl⟩ := fuel_s f_h
    unfold X3_runMinutes_b8
    obtain ⟨τ, q1, q2, q3, -⟩ := KR_min h1 h2
    rw [if_neg (by rw [nI_leI (by omega) (by omega)]; omega), q1, bd2_e, lt_e, litI, nI_add, wS_wS]
    rw [wS_wS] at q2 q3
    obtain ⟨σ', r1, r2, r3⟩ := ih (i + 1) τ f (acc + (mMin (mins m i) 8 - (mins m i) 8)) (by omega) (by omega) q2 q3
    refine ⟨σ', ?_, r2, r3⟩
    rw [r1, mins_s, i32_tel]
theorem runM_b {t : Nat} {m : Nat → Int32} (ht : t < 5000) (hm : ∀ j, WF (mins m j) ∧ ((mins m j) 6 = 0 → MI (mMinA (mins m j)))) (b : Int32) : ∀ d i Z f, i + d = t → d < f → Z 10 0 1 = mins m i → ∃ Z', M12_passMinutes_b10 (nI t) f Z (nI i) b = some ((mins m t) 8 - b, Z') ∧ Z' 10 0 1 = mins m t ∧ ∀ k g o, ¬ (k = 10 ∧ g = 0 ∧ (o = 1 ∨ o = 5 ∨ o = 8)) → Z' k g o = Z k g o := by
  intro d
  induction d with
  | zero =>
    intro i Z f hi f_h hz
    obtain ⟨f, rfl⟩ := fuel_s f_h
    have : i = t := by omega
    subst this
    unfold M12_passMinutes_b10
    have e8 : (8 : Int32) = nI 8 := rfl
    rw [if_pos (Int32.le_refl _), e8, gdi (show 8 < 4202 by omega), ix_n (by omega), hz]
    exact ⟨Z, rfl, hz, fun _ _ _ _ => rfl⟩
  | succ d ih =>
    intro i Z f hi f_h hz
    obtain ⟨f, rfl⟩ := fuel_s f_h
    unfold M12_passMinutes_b10
    obtain ⟨Z', q1, q2, q3⟩ := minuteM Z (by rw [hz]; exact (hm i).1) (by rw [hz]; exact (hm i).2)
    rw [if_neg (by rw [nI_leI (by omega) (by omega)]; omega), q1, bd1_e, litI, nI_add]
    obtain ⟨Z2, r1, r2, r3⟩ := ih (i + 1) Z' f (by omega) (by omega) (by rw [q2, hz]; rfl)
    exact ⟨Z2, r1, r2, fun k g o hk => (r3 k g o hk).trans (q3 k g o hk)⟩
theorem runM_ok {t : Nat} (Z : Mem) {m : Nat → Int32} (ht : t < 5000) (hz : Z 10 0 1 = m) (hm : ∀ j, WF (mins m j) ∧ ((mins m j) 6 = 0 → MI (mMinA (mins m j)))) : ∃ Z', M12_passMinutes Z (nI t) = some ((mins m t) 8 - m 8, Z') ∧ Z' 10 0 1 = mins m t ∧ ∀ k g o, ¬ (k = 10 ∧ g = 0 ∧ (o = 1 ∨ o = 5 ∨ o = 8)) → Z' k g o = Z k g o := by
  unfold M12_passMinutes
  have e8 : (8 : Int32) = nI 8 := rfl
  rw [e8, gdi (show 8 < 4202 by omega), ix_n (by omega), lt_e, hz]
  exact runM_b ht hm (m 8) t 0 Z FU (by omega) (by have := FU_big; omega) hz
theorem runC_ok {Y : Mem} {g B t : Nat} {m : Nat → Int32} (ht : t < 5000) (h : KR Y g m B) : ∃ p q σ, X3_runMinutes Y g (nI t) = some ((mins m t) 8 - m 8, wS (upR (upR Y 1 g 1 p) 1 g 2 q) g σ) ∧ KR (wS (upR (upR Y 1 g 1 p) 1 g 2 q) g σ) g (mins m t) (B + t) := by
  obtain ⟨W, hR, hst, h3, h6⟩ := h
  obtain ⟨p, q, h1, h2, h4⟩ := rank_ok Y W hst.2.2.2.2.2.1 hR (fun s hs => (hst.2.2.1 s hs).1)
  have e0 : (upR (upR Y 1 g 1 p) 1 g 2 q) 1 g 0 = Y 1 g 0 := by rw [upR_o (by omega), upR_o (by omega)]
  have ek : ∀ k, ¬ k = 1 → (upR (upR Y 1 g 1 p) 1 g 2 q) k = Y k := fun k hk => by funext g' o'; rw [upR_o (by omega), upR_o (by omega)]
  have hK : KR (upR (upR Y 1 g 1 p) 1 g 2 q) g m B := by
    refine ⟨W, ?_, by rw [ek 2 (by omega)]; exact hst, by rw [ek 2 (by omega)]; exact h3, h6⟩
    have : rg (upR (upR Y 1 g 1 p) 1 g 2 q) g = rg Y g := by unfold rg; rw [e0]
    rw [this]
    exact RR_mem (ek 3 (by omega)) (ek 4 (by omega)) hR
  have hO : KO (upR (upR Y 1 g 1 p) 1 g 2 q) g m := by unfold KO; rw [upR_at]; exact h4
  unfold X3_runMinutes
  rw [h1, bd1_e]
  obtain ⟨σ, r1, r2, -⟩ := runC_b ht hK hO t 0 ((upR (upR Y 1 g 1 p) 1 g 2 q) 2 g) FU 0 (by omega) (by have := FU_big; omega) (by rw [wS_self]; exact hK) (by rw [wS_self]; exact hO)
  rw [wS_self] at r1
  refine ⟨p, q, σ, ?_, r2⟩
  have z : (0 : Int32) + ((mins m t) 8 - (mins m 0) 8) = (mins m t) 8 - m 8 := Int32.zero_add _
  rw [← z]
  exact r1
