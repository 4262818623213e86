section
theorem work_loop {Y : Mem} (hI : Inv Y) {p : Nat → Nat} : ∀ d i μ g h f, i + d = nS (Y 10 0 1) → d < f → RcE (Y 10 0 1) μ → LPk h μ p → Frs g μ i → (∀ s, i ≤ s → s < nS (Y 10 0 1) → fld μ s 17 = 1 → ∃ r, fld μ s 18 = nI r ∧ 1 ≤ r ∧ r ≤ 60) →
    ∃ g' h', X12_pass_b7 f (M13 Y g h) (nI i) = X12_pass_b111 FU (M13 Y g' h') 0 ∧ LPk h' (mWorks μ i d) p ∧ Frs g' (mWorks μ i d) (nS (Y 10 0 1)) ∧ h' 0 2 = h 0 2 := by
  have h14 := nS_le hI
  have hR := Inv_R hI
  intro d
  induction d with
  | zero =>
    intro i μ g h f hid f_h hE hL hF _
    obtain ⟨f, rfl⟩ := fuel_s f_h
    have hn : nS μ = nS (Y 10 0 1) := re_nS hE.1
    obtain rfl : i = nS (Y 10 0 1) := by omega
    refine ⟨g, h, ?_, hL, hF, rfl⟩
    rw [X12_pass_b7, M13_12, hL.1, hn, if_pos (Int32.le_refl _)]
  | succ d ih =>
    intro i μ g h f hid f_h hE hL hF hr
    obtain ⟨f, rfl⟩ := fuel_s f_h
    have hn : nS μ = nS (Y 10 0 1) := re_nS hE.1
    have hi : i < nS (Y 10 0 1) := by omega
    have f11 : fld μ i 11 = fld (Y 10 0 1) i 11 := re_fld hE.1 (by omega) (by omega) (by omega)
    have h01 := (hR.2.2.2.2.2.2 i hi).2
    rw [← f11] at h01
    have hE2 : RcE (Y 10 0 1) (mWork μ i) := RcE_re hE (mWork_re μ i) (mWork_7 μ i) (mWork_0 μ i (by omega) (by omega) (by omega))
    have hr2 : ∀ s, i + 1 ≤ s → s < nS (Y 10 0 1) → fld (mWork μ i) s 17 = 1 → ∃ r, fld (mWork μ i) s 18 = nI r ∧ 1 ≤ r ∧ r ≤ 60 := by
      intro s h1 h2
      have e : ∀ w, w < 24 → fld (mWork μ i) s w = fld μ s w := fun w hw => by
        unfold mWork
        split
        · split
          · rw [mW2_fld _ hw, if_neg (by omega), if_neg (by omega), if_neg (by omega), mW1_fld _ hw, if_neg (by omega), if_neg (by omega)]
          · rw [mW1_fld _ hw, if_neg (by omega), if_neg (by omega)]
        · rw [fr_fld _ _ hw, if_neg (by omega)]
      rw [e 17 (by omega), e 18 (by omega)]
      exact hr s (by omega) h2
    have z1 := (hL.2.1 i (by omega)).1
    rw [X12_pass_b7, M13_12, hL.1, hn, if_neg (by rw [nI_leI (by omega) (by omega)]; omega), gdi (show i < 14 by omega), ix_n (by omega), M13_12, z1]
    by_cases c : fld μ i 17 = 1
    · obtain ⟨r, r1, r2, r3⟩ := hr i (Nat.le_refl _) hi c
      obtain ⟨s1, s2⟩ := run_step hL hF (by omega) c r1 r2 r3 h01
      have z2 : h 2 i = nI r := ((hL.2.1 i (by omega)).2.1 c).trans r1
      have key : ∀ v, v = 1 - fld μ i 11 → ∃ g' h', X12_pass_b49 (X12_pass_b7 f) (M13 Y g h) (nI i) v (h 0 11) = X12_pass_b111 FU (M13 Y g' h') 0 ∧ LPk h' (mWorks (mWork μ i) (i + 1) d) p ∧ Frs g' (mWorks (mWork μ i) (i + 1) d) (nS (Y 10 0 1)) ∧ h' 0 2 = h 0 2 := by
        intro v hv
        subst hv
        unfold X12_pass_b49 X12_pass_b103
        rw [M13_up12, lt_e, gdi (show i < 14 by omega), ix_n (by omega), M13_12, uo_f (by decide), z2, M13_up12, lt_e, M13_12, uo_s]
        by_cases e : r = 1
        · obtain ⟨q1, q2⟩ := s2 e
          obtain ⟨g', h', w1, w2, w3, w4⟩ := ih (i + 1) (mWork μ i) _ _ f (by omega) (by omega) hE2 q1 q2 hr2
          refine ⟨g', h', ?_, w2, w3, ?_⟩
          · rw [if_pos (by rw [e]; decide), M13_up12, lt_e, M13_up12, lt_e, M13_up13, lt_e, nar1, M13_12]
            rw [show (uo (uo (uo (uo h 0 11 (h 0 11 + (1 - fld μ i 11))) 2 i (nI r - 1)) 1 i 2) 3 i 0) 0 9 = h 0 9 by rw [uo_f (by decide), uo_f (by decide), uo_f (by decide), uo_o (by omega)], M13_up12, lt_e, nI_1]
            exact w1
          · rw [w4, uo_o (by omega), uo_f (by decide), uo_f (by decide), uo_f (by decide), uo_o (by omega)]
        · obtain ⟨q1, q2⟩ := s1 e
          obtain ⟨g', h', w1, w2, w3, w4⟩ := ih (i + 1) (mWork μ i) _ _ f (by omega) (by omega) hE2 q1 q2 hr2
          refine ⟨g', h', ?_, w2, w3, ?_⟩
          · rw [if_neg (by
              rw [show (1 : Int32) = nI 1 from rfl, pk_sub (by omega), show (0 : Int32) = nI 0 from rfl, nI_leI (by omega) (by omega)]
              omega), nI_1]
            exact w1
          · rw [w4, uo_f (by decide), uo_o (by omega)]
      rw [if_pos c, v_isUnattended (Inv_M13 g h hI) (by rw [M13_m]; exact hi), bd1_e, M13_m, ← f11]
      rcases h01 with z | z
      · rw [z, show bI ((0 : Int32) == 1) = 0 from rfl, if_pos rfl]
        exact key 1 (by rw [z]; decide)
      · rw [z, show bI ((1 : Int32) == 1) = 1 from rfl, if_neg (by decide)]
        exact key 0 (by rw [z]; decide)
    · obtain ⟨q1, q2⟩ := work_step hL hF (by omega) c
      obtain ⟨g', h', w1, w2, w3, w4⟩ := ih (i + 1) (mWork μ i) g h f (by omega) (by omega) hE2 q1 q2 hr2
      refine ⟨g', h', ?_, w2, w3, w4⟩
      unfold X12_pass_b103
      rw [if_neg c, nI_1]
      exact w1
theorem mCool_23 (m : Nat → Int32) (i k : Nat) : fld (mCool m i) k 23 = fld m k 23 := by
  unfold mCool
  split
  · rfl
  · split
    · split
      · rfl
      · split
        · rfl
        · split
          · rw [mC2_fld _ (by omega), if_neg (by omega), if_neg (by omega), if_neg (by omega), mC1_fld _ (by omega), if_neg (by omega)]
          · rw [mC1_fld _ (by omega), if_neg (by omega)]
    · rfl
theorem cool_age {h : Nat → Nat → Int32} {μ : Nat → Int32} {p : Nat → Nat} {i : Nat} (hL : LPk h μ p) (hi : i < nS μ) (h17 : fld μ i 17 = 2) : LPk (uo h 3 i (h 3 i + 1)) (mC1 μ i) p := by
  have hn9 : nS (mC1 μ i) = nS μ := re_nS (mC1_re μ i)
  obtain ⟨a1, a2, a3, a4, a5, a6, a7⟩ := hL
  refine ⟨by rw [uo_f (by decide), hn9]; exact a1, fun s hs => ?_, by rw [uo_f (by decide), mC1_lo _ (by omega)]; exact a3, by rw [uo_f (by decide), mC1_lo _ (by omega)]; exact a4, by rw [uo_f (by decide), mC1_lo _ (by omega)]; exact a5, by rw [uo_f (by decide), mC1_lo _ (by omega)]; exact a6, by rw [uo_f (by decide), mC1_lo _ (by omega)]; exact a7⟩
  rw [hn9] at hs
  obtain ⟨z1, z2, z3, z4⟩ := a2 s hs
  rw [mC1_fld _ (by omega), if_neg (by omega), mC1_fld _ (w := 18) (by omega), if_neg (by omega), mC1_fld _ (w := 19) (by omega)]
  refine ⟨by rw [uo_f (by decide)]; exact z1, fun q => by rw [uo_f (by decide)]; exact z2 q, ?_, by rw [uo_f (by decide)]; exact z4⟩
  by_cases e : s = i
  · subst e; rw [uo_s, if_pos ⟨rfl, rfl⟩, z3]
  · rw [uo_o (by omega), if_neg (by omega)]; exact z3
theorem cool_burn {h : Nat → Nat → Int32} {μ : Nat → Int32} {p : Nat → Nat} {i : Nat} (hL : LPk h μ p) (hi : i < nS μ) : LPk (uo (uo (uo h 1 i 3) 3 i 0) 0 10 (h 0 10 + 1)) (mC2 μ i) p := by
  have hn9 : nS (mC2 μ i) = nS μ := re_nS (mC2_re μ i)
  obtain ⟨a1, a2, a3, a4, a5, a6, a7⟩ := hL
  have lo : ∀ x, x < 46 → x ≠ 9 → (mC2 μ i) x = μ x := fun x hx h9 => by rw [mC2_lo _ hx, if_neg h9]
  refine ⟨by rw [uo_o (by omega), uo_f (by decide), uo_f (by decide), hn9]; exact a1, fun s hs => ?_, by rw [uo_o (by omega), uo_f (by decide), uo_f (by decide), lo 4 (by omega) (by omega)]; exact a3, by rw [uo_o (by omega), uo_f (by decide), uo_f (by decide), lo 7 (by omega) (by omega)]; exact a4, by rw [uo_o (by omega), uo_f (by decide), uo_f (by decide), lo 8 (by omega) (by omega)]; exact a5, by rw [uo_s, mC2_lo _ (by omega), if_pos rfl, a6], by rw [uo_o (by omega), uo_f (by decide), uo_f (by decide), lo 10 (by omega) (by omega)]; exact a7⟩
  rw [hn9] at hs
  obtain ⟨z1, z2, z3, z4⟩ := a2 s hs
  by_cases e : s = i
  · subst e
    refine ⟨?_, fun q => ?_, ?_, ?_⟩
    · rw [uo_f (by decide), uo_f (by decide), uo_s, mC2_fld _ (by omega), if_pos ⟨rfl, rfl⟩]
    · rw [mC2_fld _ (by omega), if_pos ⟨rfl, rfl⟩] at q
      exact absurd q (by decide)
    · rw [uo_f (by decide), uo_s, mC2_fld _ (by omega), if_neg (by omega), if_pos ⟨rfl, rfl⟩]
    · rw [uo_f (by decide), uo_f (by decide), uo_f (by decide)]; exact z4
  · have ef : ∀ w, w < 24 → fld (mC2 μ i) s w = fld μ s w := fun w hw => by rw [mC2_fld _ hw, if_neg (by omega), if_neg (by omega), if_neg (by omega)]
    rw [ef 17 (by omega), ef 18 (by omega), ef 19 (by omega)]
    refine ⟨?_, fun q => ?_, ?_, ?_⟩
    · rw [uo_f (by decide), uo_f (by decide), uo_o (by omega)]; exact z1
    · rw [uo_f (by decide), uo_f (by decide), uo_f (by decide)]; exact z2 q
    · rw [uo_f (by decide), uo_o (by omega), uo_f (by decide)]; exact z3
    · rw [uo_f (by decide), uo_f (by decide), uo_f (by decide)]; exact z4
theorem mCool_0 (m : Nat → Int32) (i : Nat) : mCool m i 0 = m 0 := mCool_lo m i (by omega) (by omega)
theorem cool_loop {Y : Mem} (hI : Inv Y) {p : Nat → Nat} {g : Nat → Int32} : ∀ d i μ h f, i + d = nS (Y 10 0 1) → d < f → RcE (Y 10 0 1) μ → LPk h μ p → (∀ s, s < nS (Y 10 0 1) → g s = bI (fld μ s 23 == 1)) → h 0 2 = Y 10 0 1 1 →
    ∃ h', X12_pass_b111 f (M13 Y g h) (nI i) = X12_pass_b219 FU (upR (M13 Y g h') 14 0 0 (fun _ => 0)) 0 ∧ LPk h' (mCools μ i d) p ∧ h' 0 2 = h 0 2 ∧ RcE (Y 10 0 1) (mCools μ i d) := by
  have h14 := nS_le hI
  have hR := Inv_R hI
  intro d
  induction d with
  | zero =>
    intro i μ h f hid f_h hE hL hF _
    obtain ⟨f, rfl⟩ := fuel_s f_h
    have hn : nS μ = nS (Y 10 0 1) := re_nS hE.1
    obtain rfl : i = nS (Y 10 0 1) := by omega
    refine ⟨h, ?_, hL, rfl, hE⟩
    rw [X12_pass_b111, M13_12, hL.1, hn, if_pos (Int32.le_refl _), lt_e]
  | succ d ih =>
    intro i μ h f hid f_h hE hL hF h2
    obtain ⟨f, rfl⟩ := fuel_s f_h
    have hn : nS μ = nS (Y 10 0 1) := re_nS hE.1
    have hi : i < nS (Y 10 0 1) := by omega
    have f10 : fld μ i 10 = fld (Y 10 0 1) i 10 := re_fld hE.1 (by omega) (by omega) (by omega)
    have h01 := (hR.2.2.2.2.2.2 i hi).1
    rw [← f10] at h01
    have hE2 : RcE (Y 10 0 1) (mCool μ i) := RcE_re hE (mCool_re μ i) (mCool_7 μ i) (mCool_0 μ i)
    have hF2 : ∀ s, s < nS (Y 10 0 1) → g s = bI (fld (mCool μ i) s 23 == 1) := fun s hs => by rw [mCool_23]; exact hF s hs
    have e1 : μ 1 = Y 10 0 1 1 := re_w hE.1 1 (by omega) (by decide)
    obtain ⟨z1, z2, z3, z4⟩ := hL.2.1 i (by omega)
    have hM := Inv_M13 g h hI
    have hS : LSt (M13 Y g h) μ := ⟨by rw [M13_12]; exact hL.1, fun s hs => by rw [M13_12]; exact (hL.2.1 s hs).1⟩
    have hEM : RcE ((M13 Y g h) 10 0 1) μ := by rw [M13_m]; exact hE
    have go : ∀ h', LPk h' (mCool μ i) p → h' 0 2 = h 0 2 → ∃ h'', X12_pass_b111 f (M13 Y g h') (nI (i + 1)) = X12_pass_b219 FU (upR (M13 Y g h'') 14 0 0 (fun _ => 0)) 0 ∧ LPk h'' (mCools μ i (d + 1)) p ∧ h'' 0 2 = h 0 2 ∧ RcE (Y 10 0 1) (mCools μ i (d + 1)) := fun h' q1 q2 => by
      obtain ⟨h'', w1, w2, w3, w4⟩ := ih (i + 1) (mCool μ i) h' f (by omega) (by omega) hE2 q1 hF2 (q2.trans h2)
      exact ⟨h'', w1, w2, w3.trans q2, w4⟩
    rw [X12_pass_b111, M13_12, hL.1, hn, if_neg (by rw [nI_leI (by omega) (by omega)]; omega), v_isHot hM (by rw [M13_m]; exact hi), bd1_e, M13_m, ← f10]
    unfold X12_pass_b206
    simp only [nI_1]
    rcases h01 with z | z
    · rw [z, show bI ((0 : Int32) == 1) = 0 from rfl, if_pos rfl]
      have e9 : mCool μ i = μ := by unfold mCool; rw [if_pos z]
      exact go h (by rw [e9]; exact hL) rfl
    · rw [z, show bI ((1 : Int32) == 1) = 1 from rfl, if_neg (by decide), gdi (show i < 14 by omega), ix_n (by omega), M13_12, z1]
      have z0 : ¬ fld μ i 10 = 0 := by rw [z]; decide
      by_cases c : fld μ i 17 = 2
      · rw [if_pos c, M13_13, hF i hi]
        by_cases c2 : fld μ i 23 = 1
        · rw [c2, show bI ((1 : Int32) == 1) = 1 from rfl, if_neg (by decide)]
          have e9 : mCool μ i = μ := by unfold mCool; rw [if_neg z0, if_pos c, if_pos c2]
          exact go h (by rw [e9]; exact hL) rfl
        · rw [beq_eq_false_iff_ne.mpr c2, bI_f, if_pos rfl, show X12_follows (M13 Y g h) (nI i) 1 2 = some (bI (hasSucc μ i 1 2)) from follows_ok hM hEM hS (by rw [M13_m]; exact hi) 1 2, bd1_e]
          cases c3 : hasSucc μ i 1 2
          · have t9 : isTaken μ i = false := by unfold isTaken; rw [c3, Bool.and_false]
            rw [bI_f, if_pos rfl, M13_12, M13_up12, lt_e, M13_12, M13_12, uo_s, uo_f (by decide)]
            have q1 := cool_age hL (by omega) c
            have e19 : fld (mC1 μ i) i 19 = h 3 i + 1 := by rw [mC1_fld _ (by omega), if_pos ⟨rfl, rfl⟩, z3]
            by_cases c4 : h 3 i + 1 ≤ h 0 2
            · rw [if_pos c4]
              have e9 : mCool μ i = mC1 μ i := by
                unfold mCool
                rw [if_neg z0, if_pos c, if_neg c2, t9, if_neg (by decide), e19, mC1_lo _ (by omega), e1, ← h2, if_neg (Int32.not_lt.mpr c4)]
              exact go _ (by rw [e9]; exact q1) (by rw [uo_f (by decide)])
            · rw [if_neg c4, M13_up12, lt_e, M13_up12, lt_e, M13_12]
              have q2 := cool_burn (i := i) q1 (by rw [re_nS (mC1_re μ i)]; omega)
              have e9 : mCool μ i = mC2 (mC1 μ i) i := by
                unfold mCool
                rw [if_neg z0, if_pos c, if_neg c2, t9, if_neg (by decide), e19, mC1_lo _ (by omega), e1, ← h2, if_pos (Int32.not_le.mp c4)]
              rw [show (uo (uo (uo h 3 i (h 3 i + 1)) 1 i 3) 3 i 0) 0 10 = (uo h 3 i (h 3 i + 1)) 0 10 by rw [uo_f (by decide), uo_f (by decide)], M13_up12, lt_e]
              exact go _ (by rw [e9]; exact q2) (by rw [uo_o (by omega), uo_f (by decide), uo_f (by decide), uo_f (by decide)])
          · rw [bI_t, if_neg (by decide)]
            have t9 : isTaken μ i = true := by unfold isTaken; rw [c3, c]; rfl
            have e9 : mCool μ i = μ := by unfold mCool; rw [if_neg z0, if_pos c, if_neg c2, if_pos t9]
            exact go h (by rw [e9]; exact hL) rfl
      · rw [if_neg c]
        have e9 : mCool μ i = μ := by unfold mCool; rw [if_neg z0, if_neg c]
        exact go h (by rw [e9]; exact hL) rfl
end
