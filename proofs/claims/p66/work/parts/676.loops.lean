section
/-! THE WHOLE SETUP is read -/
theorem rs_e {r : Nat} {Y : Mem} (h : Y 6 0 0 1 = 5) : X7_readStep Y r = some Y := by
  unfold X7_readStep; rw [lt_e, e_word h, bd1_e, if_pos rfl, e_fail h, bd1_e]
theorem b53_e {r : Nat} {Y : Mem} {f : Nat} (l : Int32) (hf : 0 < f) (h : Y 6 0 0 1 = 5) : X7_readInto_b53 r f Y l = some Y := by
  obtain ⟨f, rfl⟩ := fuel_s hf
  rw [X7_readInto_b53.eq_2]
  by_cases w : (14 : Int32) < l
  · rw [if_pos w]
  · rw [if_neg w, e_go h, bd1_e, if_pos rfl]
theorem b46_e {r : Nat} {Y : Mem} (h : Y 6 0 0 1 = 5) : X7_readInto_b46 r Y = some Y := by
  unfold X7_readInto_b46; rw [rs_e h, bd1_e, b53_e _ (by have := FU_big; omega) h]
theorem b18_e {r : Nat} {Y : Mem} {f : Nat} (l : Int32) (hf : 0 < f) (h : Y 6 0 0 1 = 5) : X7_readInto_b18 r f Y l = some Y := by
  obtain ⟨f, rfl⟩ := fuel_s hf
  rw [X7_readInto_b18.eq_2]
  by_cases w : (4 : Int32) < l
  · rw [if_pos w, b46_e h]
  · rw [if_neg w, e_word h, bd1_e, if_pos rfl, b46_e h]
def GoodI (r : Nat) (b : Nat → Nat) (n : Nat) (Y Z : Mem) (c : Option Mem) (p : Option (Int32 × Mem)) : Prop := ∃ Y' Z' K S k s e, c = some Y' ∧ p = some (1, Z') ∧ TJ Y' Z' b n k s e ∧ MID Y' r (Z' 10 0 1) K S ff false false 0 ff ∧ 1 ≤ S ∧ FrC r Y Y' ∧ FrL Z Z'
def OutI (r : Nat) (b : Nat → Nat) (n : Nat) (Y Z : Mem) (c : Option Mem) (p : Option (Int32 × Mem)) : Prop := GoodI r b n Y Z c p ∨ BadO r Y Z c p
theorem OutI_s {r n : Nat} {b : Nat → Nat} {Y Z Y1 Z1 : Mem} {c : Option Mem} {p : Option (Int32 × Mem)} (h1 : FrC r Y Y1) (h2 : FrL Z Z1) (h : OutI r b n Y1 Z1 c p) : OutI r b n Y Z c p := by
  rcases h with ⟨Y', Z', K, S, k, s, e, a1, a2, a3, a4, a5, a6, a7⟩ | h
  · exact Or.inl ⟨Y', Z', K, S, k, s, e, a1, a2, a3, a4, a5, FrC_trans h1 a6, FrL_trans h2 a7⟩
  · exact Or.inr (BadO_s h1 h2 h)
theorem go_on {Y Z : Mem} {b : Nat → Nat} {n k s e : Nat} (h : TJ Y Z b n k s e) (hk : k ≠ 0) : X10_mayGoOn Y = some 1 := by
  obtain ⟨h1, -, -, -, -, -, -, -, k4, -⟩ := TJ_k h
  unfold X10_mayGoOn
  rw [h1, if_neg (show ¬ nI k = 0 from by show ¬ nI k = nI 0; rw [nI_lit (by omega) (by omega)]; exact hk), if_neg (show ¬ nI k = 5 from by show ¬ nI k = nI 5; rw [nI_lit (by omega) (by omega)]; omega)]
theorem steps_b {r n K : Nat} {b : Nat → Nat} : ∀ d S Y Z k s e f f', S + d = 14 → d + 2 < f → d + 2 < f' → 1 ≤ S → TJ Y Z b n k s e → MID Y r (Z 10 0 1) K S ff false false 0 ff → OutI r b n Y Z (X7_readInto_b53 r f Y (nI S)) (M12_parseSetup_b131 f' Z) := by
  intro d
  induction d with
  | zero =>
    intro S Y Z k s e f f' hd hf hf' h1 h hM
    obtain ⟨f, rfl⟩ := fuel_s (n := 0) (f := f) (by omega)
    obtain ⟨f', rfl⟩ := fuel_s (n := 0) (f := f') (by omega)
    obtain ⟨q1, -, -, m1, -, -, -, -, k4, -⟩ := TJ_k h
    have l14 : ¬ (14 : Int32) < nI S := by show ¬ nI 14 < nI S; rw [nI_ltI (by omega) (by omega)]; omega
    obtain ⟨w1, w2⟩ := word_ok h.1 (w := 3) (by omega) (by omega)
    rw [X7_readInto_b53.eq_2, if_neg l14, M12_parseSetup_b131.eq_2, w2, bd1_e, m1]
    by_cases hk : k = 0
    · subst hk
      left
      have hw : isW b 0 s e 3 = false := by unfold isW; rw [if_neg (by omega)]
      rw [hw, bI_f, if_pos rfl, if_pos (show nI 0 = 0 from rfl)]
      refine ⟨Y, Z, K, S, 0, s, e, ?_, rfl, h, hM, h1, FrC_refl _ _, FrL_refl _⟩
      unfold X10_mayGoOn
      rw [q1, if_pos (show nI 0 = 0 from rfl), bd1_e, if_pos rfl]
    · have k0 : ¬ nI k = 0 := by show ¬ nI k = nI 0; rw [nI_lit (by omega) (by omega)]; exact hk
      rw [go_on h hk, bd1_e, if_neg (by decide), if_neg k0]
      right
      cases hw : isW b k s e 3
      · obtain ⟨f2, h2, a1, a2, a3, a4⟩ := fail_j h (c := 1) (by omega) (by omega)
        rw [bI_f, if_pos rfl, show M12_wrong Z 1 = _ from a2, bd2_e, if_pos rfl]
        unfold X7_readStep
        rw [lt_e, w1, hw, bd1_e, bI_f, if_pos rfl, show X10_fail Y 1 = _ from a1, bd1_e, bd1_e, b53_e _ (by omega) (by rw [u6]; exact a4.1)]
        exact BadO_e a3 a4 ⟨_, rfl, FrC_refl _ _, rfl⟩ rfl
      · rw [bI_t, if_neg (by decide)]
        rcases step_j h hM hw with ⟨q, -⟩ | ⟨Y', Z', c1, c2, c3, c4, c5⟩
        · omega
        · rw [c1, bd1_e, c2, bd2_e, if_pos rfl, b53_e _ (by omega) c3.1]
          exact ⟨Y', Z', rfl, rfl, c3, c4, c5⟩
  | succ d ih =>
    intro S Y Z k s e f f' hd hf hf' h1 h hM
    obtain ⟨f, rfl⟩ := fuel_s (n := 0) (f := f) (by omega)
    obtain ⟨f', rfl⟩ := fuel_s (n := 0) (f := f') (by omega)
    obtain ⟨q1, -, -, m1, -, -, -, -, k4, -⟩ := TJ_k h
    have l14 : ¬ (14 : Int32) < nI S := by show ¬ nI 14 < nI S; rw [nI_ltI (by omega) (by omega)]; omega
    obtain ⟨w1, w2⟩ := word_ok h.1 (w := 3) (by omega) (by omega)
    rw [X7_readInto_b53.eq_2, if_neg l14, M12_parseSetup_b131.eq_2, w2, bd1_e, m1]
    by_cases hk : k = 0
    · subst hk
      left
      have hw : isW b 0 s e 3 = false := by unfold isW; rw [if_neg (by omega)]
      rw [hw, bI_f, if_pos rfl, if_pos (show nI 0 = 0 from rfl)]
      refine ⟨Y, Z, K, S, 0, s, e, ?_, rfl, h, hM, h1, FrC_refl _ _, FrL_refl _⟩
      unfold X10_mayGoOn
      rw [q1, if_pos (show nI 0 = 0 from rfl), bd1_e, if_pos rfl]
    · have k0 : ¬ nI k = 0 := by show ¬ nI k = nI 0; rw [nI_lit (by omega) (by omega)]; exact hk
      rw [go_on h hk, bd1_e, if_neg (by decide), if_neg k0]
      cases hw : isW b k s e 3
      · right
        obtain ⟨f2, h2, a1, a2, a3, a4⟩ := fail_j h (c := 1) (by omega) (by omega)
        rw [bI_f, if_pos rfl, show M12_wrong Z 1 = _ from a2, bd2_e, if_pos rfl]
        unfold X7_readStep
        rw [lt_e, w1, hw, bd1_e, bI_f, if_pos rfl, show X10_fail Y 1 = _ from a1, bd1_e, bd1_e, b53_e _ (by omega) (by rw [u6]; exact a4.1)]
        exact BadO_e a3 a4 ⟨_, rfl, FrC_refl _ _, rfl⟩ rfl
      · rw [bI_t, if_neg (by decide)]
        rcases step_j h hM hw with ⟨q, Y', Z', k', s', e', c1, c2, c3, c4, c5, c6⟩ | ⟨Y', Z', c1, c2, c3, c4, c5⟩
        · rw [c1, bd1_e, c2, bd2_e, if_neg (by decide), nI_1]
          exact OutI_s c5 c6 (ih (S + 1) Y' Z' k' s' e' f f' (by omega) (by omega) (by omega) (by omega) c3 c4)
        · right
          rw [c1, bd1_e, c2, bd2_e, if_pos rfl, b53_e _ (by omega) c3.1]
          exact ⟨Y', Z', rfl, rfl, c3, c4, c5⟩
/-- the first step must be there -/
theorem first_j {Y Z : Mem} {r n K : Nat} {b : Nat → Nat} {k s e : Nat} (h : TJ Y Z b n k s e) (hM : MID Y r (Z 10 0 1) K 0 ff false false 0 ff) : OutI r b n Y Z (X7_readInto_b46 r Y) (bd1 (M12_isWord Z 3) fun r32 => if r32 = 0 then (bd2 (M12_wrong Z 1) fun r47 Y49 => gd (decide (r47 = 0 ∨ r47 = 1)) <| some (r47, Y49)) else (M12_parseSetup_b131 FU Z)) := by
  obtain ⟨w1, w2⟩ := word_ok h.1 (w := 3) (by omega) (by omega)
  unfold X7_readInto_b46
  rw [w2, bd1_e]
  cases hw : isW b k s e 3
  · right
    obtain ⟨f2, h2, a1, a2, a3, a4⟩ := fail_j h (c := 1) (by omega) (by omega)
    rw [bI_f, if_pos rfl, show M12_wrong Z 1 = _ from a2, bd2_e, gd_t (by decide)]
    unfold X7_readStep
    rw [lt_e, w1, hw, bd1_e, bI_f, if_pos rfl, show X10_fail Y 1 = _ from a1, bd1_e, bd1_e, b53_e _ (by have := FU_big; omega) (by rw [u6]; exact a4.1)]
    exact BadO_e a3 a4 ⟨_, rfl, FrC_refl _ _, rfl⟩ rfl
  · rw [bI_t, if_neg (by decide)]
    obtain ⟨f0, hf0⟩ : ∃ f0, FU = f0 + 1 := ⟨FU - 1, by have := FU_big; omega⟩
    have hM131 : M12_parseSetup_b131 FU Z = bd2 (M12_parseStep Z) fun r43 Y45 => if r43 = 0 then some (0, Y45) else M12_parseSetup_b131 f0 Y45 := by
      rw [hf0, M12_parseSetup_b131.eq_2, w2, hw, bd1_e, bI_t, if_neg (by decide)]
    rw [hM131]
    rcases step_j h hM hw with ⟨q, Y', Z', k', s', e', c1, c2, c3, c4, c5, c6⟩ | ⟨Y', Z', c1, c2, c3, c4, c5⟩
    · rw [c1, bd1_e, c2, bd2_e, if_neg (by decide)]
      exact OutI_s c5 c6 (steps_b 13 1 Y' Z' k' s' e' FU f0 (by omega) (by have := FU_big; omega) (by have := FU_big; omega) (by omega) c3 c4)
    · right
      rw [c1, bd1_e, c2, bd2_e, if_pos rfl, b53_e _ (by have := FU_big; omega) c3.1]
      exact ⟨Y', Z', rfl, rfl, c3, c4, c5⟩
theorem pans_b {r n : Nat} {b : Nat → Nat} : ∀ d K Y Z k s e f f', K + d = 4 → d + 2 < f → d + 2 < f' → TJ Y Z b n k s e → MID Y r (Z 10 0 1) K 0 ff false false 0 ff → OutI r b n Y Z (X7_readInto_b18 r f Y (nI K)) (M12_parseSetup_b98 f' Z) := by
  intro d
  induction d with
  | zero =>
    intro K Y Z k s e f f' hd hf hf' h hM
    obtain ⟨f, rfl⟩ := fuel_s (n := 0) (f := f) (by omega)
    obtain ⟨f', rfl⟩ := fuel_s (n := 0) (f := f') (by omega)
    have l4 : ¬ (4 : Int32) < nI K := by show ¬ nI 4 < nI K; rw [nI_ltI (by omega) (by omega)]; omega
    obtain ⟨w1, w2⟩ := word_ok h.1 (w := 2) (by omega) (by omega)
    rw [X7_readInto_b18.eq_2, if_neg l4, w1, bd1_e, M12_parseSetup_b98.eq_2, w2, bd1_e]
    cases hw : isW b k s e 2
    · rw [bI_f, if_pos rfl, if_pos rfl]
      exact first_j h hM
    · right
      rw [bI_t, if_neg (by decide), if_neg (by decide)]
      rcases pan_j h hM with ⟨q, -⟩ | ⟨Y', Z', c1, c2, c3, c4, c5⟩
      · omega
      · rw [c1, bd1_e, c2, bd2_e, if_pos rfl, b18_e _ (by omega) c3.1]
        exact ⟨Y', Z', rfl, rfl, c3, c4, c5⟩
  | succ d ih =>
    intro K Y Z k s e f f' hd hf hf' h hM
    obtain ⟨f, rfl⟩ := fuel_s (n := 0) (f := f) (by omega)
    obtain ⟨f', rfl⟩ := fuel_s (n := 0) (f := f') (by omega)
    have l4 : ¬ (4 : Int32) < nI K := by show ¬ nI 4 < nI K; rw [nI_ltI (by omega) (by omega)]; omega
    obtain ⟨w1, w2⟩ := word_ok h.1 (w := 2) (by omega) (by omega)
    rw [X7_readInto_b18.eq_2, if_neg l4, w1, bd1_e, M12_parseSetup_b98.eq_2, w2, bd1_e]
    cases hw : isW b k s e 2
    · rw [bI_f, if_pos rfl, if_pos rfl]
      exact first_j h hM
    · rw [bI_t, if_neg (by decide), if_neg (by decide)]
      rcases pan_j h hM with ⟨q, Y', Z', k', s', e', c1, c2, c3, c4, c5, c6⟩ | ⟨Y', Z', c1, c2, c3, c4, c5⟩
      · rw [c1, bd1_e, c2, bd2_e, if_neg (by decide), nI_1]
        exact OutI_s c5 c6 (ih (K + 1) Y' Z' k' s' e' f f' (by omega) (by omega) (by omega) c3 c4)
      · right
        rw [c1, bd1_e, c2, bd2_e, if_pos rfl, b18_e _ (by omega) c3.1]
        exact ⟨Y', Z', rfl, rfl, c3, c4, c5⟩
theorem setup_j {Y Z : Mem} {b : Nat → Nat} {n : Nat} (r : Nat) (hT : TT Y Z b n) : OutI r b n Y Z (X7_readInto Y r) (bd1 (M12_begin Z) fun Y6 => M12_parseSetup Y6) := by
  obtain ⟨Y3, c1, c2, c3, c4⟩ := clear_ok Y r
  have hT3 : TT Y3 Z b n := by
    unfold TT at hT ⊢
    have : ∀ o, Y3 5 0 o = Y 5 0 o := fun o => c2 5 0 o (by omega) (by omega) (by omega)
    rw [this, this]; exact hT
  obtain ⟨f, h, k, s, e, a1, a2, a3, a4⟩ := begin_j hT3
  obtain ⟨a', z1, z2, z3⟩ := zero_b 382 0 FU (upR Z 10 0 0 h) ((upR Z 10 0 0 h) 10 0 1) (by omega) (by have := FU_big; omega) (fun x hx => by omega)
  rw [upR_self] at z1
  have hC : FrC r Y (upR Y3 6 0 0 f) := FrC_trans c2 (FrC_6 _ _ f)
  have hL : FrL Z (upR (upR Z 10 0 0 h) 10 0 1 a') := FrL_trans (FrL_0 a3) (FrL_1 (fun x hx => z3 x hx))
  have hJ : TJ (upR Y3 6 0 0 f) (upR (upR Z 10 0 0 h) 10 0 1 a') b n k s e := TJ_fr rfl rfl (upR_o (by omega)) (upR_o (by omega)) a4
  have hcl : CLR (upR Y3 6 0 0 f) r := by
    unfold CLR at c4 ⊢
    rw [u6o _ _ (by omega), u6o _ _ (by omega)]; exact c4
  unfold X7_readInto M12_parseSetup
  rw [c1, bd1_e, a1, bd1_e, a2, bd1_e, show M12_parseSetup_b2 FU (upR Z 10 0 0 h) 0 = _ from z1]
  refine OutI_s hC hL ?_
  rcases head_j hJ hcl (fun x hx => by rw [upR_at]; exact z2 x hx) with ⟨Y', Z', k', s', e', q1, q2, q3, q4, q5, q6⟩ | ⟨Y', Z', q1, q2, q3, q4, q5⟩
  · rw [q1, bd1_e, q2]
    exact OutI_s q5 q6 (pans_b 4 0 Y' Z' k' s' e' FU FU (by omega) (by have := FU_big; omega) (by have := FU_big; omega) q3 q4)
  · right
    rw [q1, bd1_e, q2, b18_e _ (by have := FU_big; omega) q3.1]
    exact ⟨Y', Z', rfl, rfl, q3, q4, q5⟩
/-! what is read is a recipe -/
theorem MID_WF {Y : Mem} {r K S : Nat} {m : Nat → Int32} (q : MID Y r m K S ff false false 0 ff) : WF m ∧ nS m = S ∧ nP m = K := by
  obtain ⟨⟨a1, a2, a3, a4⟩, -, -, -, -, f1, -⟩ := q
  have en : nS m = S := by unfold nS; rw [a4, nI_clamp (by omega)]
  have ep : nP m = K := by unfold nP; rw [a3, nI_clamp (by omega)]
  unfold WF
  rw [en, ep]
  exact ⟨⟨a4, a2, a3, a1, fun s hs => (f1 s hs).2.2.2.2.1, fun s hs k hk => ⟨((f1 s hs).2.2.2.2.2.1 k hk).1, ((f1 s hs).2.2.2.2.2.1 k hk).2.1⟩, fun s hs => (f1 s hs).2.2.2.2.2.2.1⟩, rfl, rfl⟩
theorem dec_f {a b : Bool} : (a || (b && false)) = a := by simp
theorem MID_RR {Y : Mem} {r K S : Nat} {m : Nat → Int32} (hr : r < 2) (q : MID Y r m K S ff false false 0 ff) : RR Y r m ∧ NM Y r m := by
  obtain ⟨W, en, ep⟩ := MID_WF q
  obtain ⟨⟨a1, a2, a3, a4⟩, ⟨b1, b2⟩, c1, d1, e1, f1, g1, h1, i1, j1, k1, l1⟩ := q
  unfold RR NM
  rw [en, ep]
  refine ⟨⟨⟨hr, b2.2.1, b1.2.1⟩, ⟨c1.2.1, c1.2.2.1, c1.2.2.2⟩, fun q hq => ⟨e1 q hq, fun k hk => ?_⟩, fun s hs => ⟨(f1 s hs).2.1, (f1 s hs).2.2.1, (f1 s hs).2.2.2.1, fun k hk => ((f1 s hs).2.2.2.2.2.1 k hk).2.2⟩, fun s hs k hk => ⟨i1 s hs k hk, ?_⟩, fun k hk => ⟨?_, ?_⟩, fun s hs => ⟨(f1 s hs).2.2.2.2.2.2.2.1, (f1 s hs).2.2.2.2.2.2.2.2.1⟩⟩, b1.2.2, b2.2.2⟩
  · rw [g1 q (by omega) k hk]
    show (_ || (decide (k = S) && false)) = _
    exact dec_f
  · rw [j1 s (by omega) k hk]
    show (_ || (decide (k = S) && false)) = _
    exact dec_f
  · rw [(h1 k hk).1]; exact dec_f
  · rw [(h1 k hk).2]; exact dec_f
/-- a fresh state stands for a fresh block -/
def Fresh (σ : Nat → Nat → Int32) (m : Nat → Int32) : Prop := σ 0 0 = m 0 ∧ (∀ x, 1 ≤ x → x ≤ 8 → σ 0 x = 0) ∧ (∀ s, s < nS m → σ 1 s = fld m s 7) ∧ ∀ o, 2 ≤ o → o ≤ 6 → ∀ j, j < 14 → σ o j = 0
theorem sm_0 {f : Nat → Int32} : ∀ {n : Nat}, (∀ i, i < n → f i = 0) → sm 0 f n = 0 := by
  intro n
  induction n with
  | zero => intro _; rfl
  | succ n ih =>
    intro h
    show sm 0 f n + f n = 0
    rw [ih (fun i hi => h i (by omega)), h n (by omega)]; rfl
theorem KS_fresh {Y : Mem} {r K S : Nat} {m : Nat → Int32} {σ : Nat → Nat → Int32} (q : MID Y r m K S ff false false 0 ff) (hσ : Fresh σ m) : KS σ m m := by
  obtain ⟨W, en, ep⟩ := MID_WF q
  obtain ⟨⟨a1, a2, a3, a4⟩, -, -, d1, -, f1, -⟩ := q
  obtain ⟨s0, s1, s2, s3⟩ := hσ
  have fz : ∀ s, s < nS m → ∀ w, 17 ≤ w → w < 24 → fld m s w = 0 := fun s hs w w1 w2 => (f1 s (by omega)).2.2.2.2.2.2.2.2.2.2 w w1 w2
  refine ⟨re_refl m, ⟨0, by omega, by rw [d1 4 (by omega) (by omega)]; rfl, ⟨⟨s0, ?_, ?_, ?_, ?_⟩, ?_, ?_, ?_, ⟨?_, ?_, ?_⟩, ?_, ?_⟩, ?_⟩, ?_, Or.inl (d1 6 (by omega) (by omega))⟩
  · rw [s1 1 (by omega) (by omega), d1 4 (by omega) (by omega)]
  · rw [s1 2 (by omega) (by omega), d1 5 (by omega) (by omega)]
  · rw [s1 4 (by omega) (by omega), d1 11 (by omega) (by omega)]
  · rw [s1 5 (by omega) (by omega), d1 6 (by omega) (by omega)]
  · intro k hk
    have z : ∀ u : Int32, u ≠ 0 → stB m u k = false := fun u hu => by
      by_cases e : k < nS m
      · rw [stB_in e, fz k e 17 (by omega) (by omega), beq_eq_false_iff_ne.mpr (fun w => hu w.symm)]
      · exact stB_out e
    rw [s1 6 (by omega) (by omega), s1 7 (by omega) (by omega), s1 8 (by omega) (by omega), b_0, z 1 (by decide), z 2 (by decide), z 3 (by decide)]
    exact ⟨rfl, rfl, rfl⟩
  · intro s hs
    rw [s2 s hs, s3 2 (by omega) (by omega) s (by omega), s3 3 (by omega) (by omega) s (by omega), s3 4 (by omega) (by omega) s (by omega), s3 6 (by omega) (by omega) s (by omega), fz s hs 18 (by omega) (by omega), fz s hs 19 (by omega) (by omega), fz s hs 20 (by omega) (by omega), fz s hs 22 (by omega) (by omega)]
    exact ⟨rfl, rfl, rfl, rfl, rfl⟩
  · intro s hs
    exact ⟨0, by rw [s3 5 (by omega) (by omega) s (by omega)]; rfl, by omega, by rw [fz s hs 21 (by omega) (by omega)]; rfl⟩
  · rw [d1 7 (by omega) (by omega)]; exact sm_0 fun i hi => s3 4 (by omega) (by omega) i (by omega)
  · rw [d1 8 (by omega) (by omega)]; exact sm_0 fun i hi => s3 5 (by omega) (by omega) i (by omega)
  · rw [d1 9 (by omega) (by omega)]; exact sm_0 fun i hi => s3 6 (by omega) (by omega) i (by omega)
  · intro s hs
    refine ⟨fun h => ?_, fun _ => fz s hs 19 (by omega) (by omega), (f1 s (by omega)).2.2.2.2.2.2.2.2.2.1⟩
    rw [fz s hs 17 (by omega) (by omega)] at h
    exact absurd h (by decide)
  · intro s hs
    exact Or.inl (fz s hs 17 (by omega) (by omega))
  · intro s hs
    exact ⟨0, by rw [fz s hs 22 (by omega) (by omega)]; rfl, Nat.le_refl _⟩
  · rw [s1 3 (by omega) (by omega), d1 10 (by omega) (by omega)]
theorem beginS_ok (Y : Mem) (r : Nat) : ∃ σ, X8_begin Y 0 r = some (wS Y 0 σ) ∧ σ 0 0 = Y 3 r 0 0 ∧ (∀ x, 1 ≤ x → x ≤ 8 → σ 0 x = 0) ∧ (∀ j, j < 14 → σ 1 j = Y 3 r 3 j) ∧ ∀ o, 2 ≤ o → o ≤ 6 → ∀ j, j < 14 → σ o j = 0 := by
  unfold X8_begin
  rw [lt_e, lt_e, lt_e, lt_e, lt_e, lt_e, lt_e, lt_e, lt_e, lt_e, up_self Y 0 0 0, up_wS, up_wS, up_wS, up_wS, up_wS, up_wS, up_wS, up_wS]
  generalize hσ : uo (uo (uo (uo (uo (uo (uo (uo (uo (Y 2 0) 0 0 (Y 3 r 0 0)) 0 1 0) 0 2 0) 0 3 0) 0 4 0) 0 5 0) 0 6 0) 0 7 0) 0 8 0 = σ
  have s00 : σ 0 0 = Y 3 r 0 0 := by rw [← hσ]; simp (disch := omega) only [uo_s, uo_o]
  have s0 : ∀ x, 1 ≤ x → x ≤ 8 → σ 0 x = 0 := fun x x1 x2 => by
    rw [← hσ]
    rcases (show x = 1 ∨ x = 2 ∨ x = 3 ∨ x = 4 ∨ x = 5 ∨ x = 6 ∨ x = 7 ∨ x = 8 by omega) with h | h | h | h | h | h | h | h <;> subst h <;> simp (disch := omega) only [uo_s, uo_o]
  rw [upR_wS, wS_k (k' := 3) (by omega)]
  generalize hg : va_cpy (Y 3 r 3) ((wS Y 0 σ) 2 0 1) 0 0 14 = g
  have hg2 : ∀ j, j < 14 → g j = Y 3 r 3 j := fun j hj => by rw [← hg]; exact va_cpy_in _ _ hj
  obtain ⟨h2, a1, a2, -⟩ := fill_ok (wS Y 0 (uf σ 1 g)) 2 0 2 14 0 (by omega)
  obtain ⟨h3, b1, b2, -⟩ := fill_ok (wS Y 0 (uf (uf σ 1 g) 2 h2)) 2 0 3 14 0 (by omega)
  obtain ⟨h4, c1, c2, -⟩ := fill_ok (wS Y 0 (uf (uf (uf σ 1 g) 2 h2) 3 h3)) 2 0 4 14 0 (by omega)
  obtain ⟨h5, d1, d2, -⟩ := fill_ok (wS Y 0 (uf (uf (uf (uf σ 1 g) 2 h2) 3 h3) 4 h4)) 2 0 5 14 0 (by omega)
  obtain ⟨h6, e1, e2, -⟩ := fill_ok (wS Y 0 (uf (uf (uf (uf (uf σ 1 g) 2 h2) 3 h3) 4 h4) 5 h5)) 2 0 6 14 0 (by omega)
  refine ⟨uf (uf (uf (uf (uf (uf σ 1 g) 2 h2) 3 h3) 4 h4) 5 h5) 6 h6, ?_, ?_, fun x x1 x2 => ?_, fun j hj => ?_, fun o o1 o2 j hj => ?_⟩
  · rw [a1, bd1_e, upR_wS, b1, bd1_e, upR_wS, c1, bd1_e, upR_wS, d1, bd1_e, upR_wS, e1, bd1_e, upR_wS]
  · rw [uf_o (by omega), uf_o (by omega), uf_o (by omega), uf_o (by omega), uf_o (by omega), uf_o (by omega)]; exact s00
  · rw [uf_o (by omega), uf_o (by omega), uf_o (by omega), uf_o (by omega), uf_o (by omega), uf_o (by omega)]; exact s0 x x1 x2
  · rw [uf_o (by omega), uf_o (by omega), uf_o (by omega), uf_o (by omega), uf_o (by omega), uf_s]; exact hg2 j hj
  · rcases (show o = 2 ∨ o = 3 ∨ o = 4 ∨ o = 5 ∨ o = 6 by omega) with h | h | h | h | h <;> subst h
    · rw [uf_o (by omega), uf_o (by omega), uf_o (by omega), uf_o (by omega), uf_s]; exact a2 j hj
    · rw [uf_o (by omega), uf_o (by omega), uf_o (by omega), uf_s]; exact b2 j hj
    · rw [uf_o (by omega), uf_o (by omega), uf_s]; exact c2 j hj
    · rw [uf_o (by omega), uf_s]; exact d2 j hj
    · rw [uf_s]; exact e2 j hj
end
