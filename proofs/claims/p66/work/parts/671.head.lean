section
/-! THE HEAD of a setup -/
/-- class: goes on after an error -/
def EM (r : Nat) (Y : Mem) (c : Option Mem) : Prop := ∃ Y', c = some Y' ∧ FrC r Y Y' ∧ Y' 6 0 0 = Y 6 0 0
theorem EM_s {r : Nat} {Y Y1 : Mem} {c : Option Mem} (h1 : FrC r Y Y1) (h6 : Y1 6 0 0 = Y 6 0 0) (h : EM r Y1 c) : EM r Y c := by
  obtain ⟨Y', a1, a2, a3⟩ := h
  exact ⟨Y', a1, FrC_trans h1 a2, a3.trans h6⟩
theorem up3_6 (Y : Mem) (r o j : Nat) (v : Int32) : (up Y 3 r o j v) 6 0 0 = Y 6 0 0 := by rw [up_eq, upR_o (by omega)]
theorem up4_6 (Y : Mem) (g o j : Nat) (v : Int32) : (up Y 4 g o j v) 6 0 0 = Y 6 0 0 := by rw [up_eq, upR_o (by omega)]
theorem FrC_u3 (r : Nat) (Y : Mem) (o j : Nat) (v : Int32) : FrC r Y (up Y 3 r o j v) := by rw [up_eq]; exact FrC_3 r Y o _
theorem FrC_u4 {r g : Nat} (Y : Mem) (o j : Nat) (v : Int32) (hg : g = 2 * r ∨ g = 2 * r + 1) : FrC r Y (up Y 4 g o j v) := by rw [up_eq]; exact FrC_4 Y o _ hg
theorem up3_5 {Y : Mem} (h : Y 6 0 0 1 = 5) (r o j : Nat) (v : Int32) : (up Y 3 r o j v) 6 0 0 1 = 5 := by rw [up3_6]; exact h
theorem fill_b (k g o n : Nat) (a : Int32) (hn : n < 2 ^ 30) : ∀ d i f Y h, i + d = n → d < f → (∀ j, j < i → h j = a) → ∃ h', J7_fill_53178_b5 k g o n a f (upR Y k g o h) (nI n) (nI i) = some (upR Y k g o h') ∧ (∀ j, j < n → h' j = a) ∧ ∀ j, n ≤ j → h' j = h j := by
  intro d
  induction d with
  | zero =>
    intro i f Y h hi f_h hh
    obtain ⟨f, rfl⟩ := fuel_s f_h
    refine ⟨h, ?_, fun j hj => hh j (by omega), fun _ _ => rfl⟩
    unfold J7_fill_53178_b5
    rw [if_pos (by rw [nI_leI (by omega) (by omega)]; omega)]
  | succ d ih =>
    intro i f Y h hi f_h hh
    obtain ⟨f, rfl⟩ := fuel_s f_h
    unfold J7_fill_53178_b5
    rw [if_neg (by rw [nI_leI (by omega) (by omega)]; omega), gd_t (inb_n (show i < n by omega) (by omega)), ix_n (by omega), up_upR, lt_e, nI_1]
    obtain ⟨h', q1, q2, q3⟩ := ih (i + 1) f Y (upd h i a) (by omega) (by omega) (fun j hj => by
      by_cases e : j = i
      · subst e; rw [pk_us]
      · rw [pk_un e]; exact hh j (by omega))
    exact ⟨h', q1, q2, fun j hj => by rw [q3 j hj, pk_un (by omega)]⟩
theorem fill_ok (Y : Mem) (k g o n : Nat) (a : Int32) (hn : n < 5000) : ∃ h', J7_fill_53178 Y k g o n a = some (upR Y k g o h') ∧ (∀ j, j < n → h' j = a) ∧ ∀ j, n ≤ j → h' j = Y k g o j := by
  unfold J7_fill_53178
  rw [lt_e]
  obtain ⟨h', q1, q2, q3⟩ := fill_b k g o n a (by omega) n 0 FU Y (Y k g o) (by omega) (by have := FU_big; omega) (fun j hj => by omega)
  rw [upR_self] at q1
  exact ⟨h', q1, q2, q3⟩
/-- a recipe that is cleared -/
def CLR (Y : Mem) (r : Nat) : Prop := Y 4 (2 * r) 0 2 = 0 ∧ Y 4 (2 * r + 1) 0 2 = 0 ∧ Y 3 r 0 15 = 0 ∧ Y 3 r 0 16 = 0 ∧ (∀ q, q < 4 → Y 3 r 2 q = 0) ∧ ∀ s, s < 14 → Y 3 r 7 s = 0 ∧ Y 3 r 8 s = 0 ∧ Y 3 r 9 s = 0
theorem clear_ok (Y : Mem) (r : Nat) : ∃ Y', X5_clear Y r = some Y' ∧ FrC r Y Y' ∧ Y' 6 0 0 = Y 6 0 0 ∧ CLR Y' r := by
  unfold X5_clear
  rw [lt_e, lt_e, lt_e, lt_e]
  generalize hW : up (up (up (up Y 4 (2 * r) 0 2 0) 4 (2 * r + 1) 0 2 0) 3 r 0 15 0) 3 r 0 16 0 = W
  have w0 : W 4 (2 * r) 0 2 = 0 := by rw [← hW, up_eq, upR_o (by omega), up_eq, upR_o (by omega), up_eq, upR_o (by omega), up_at, pk_us]
  have w1 : W 4 (2 * r + 1) 0 2 = 0 := by rw [← hW, up_eq, upR_o (by omega), up_eq, upR_o (by omega), up_at, pk_us]
  have w2 : W 3 r 0 15 = 0 := by rw [← hW, up_at, pk_un (by omega), up_at, pk_us]
  have w3 : W 3 r 0 16 = 0 := by rw [← hW, up_at, pk_us]
  have wf : FrC r Y W := by
    rw [← hW]
    exact FrC_trans (FrC_trans (FrC_trans (FrC_u4 _ _ _ _ (Or.inl rfl)) (FrC_u4 _ _ _ _ (Or.inr rfl))) (FrC_u3 _ _ _ _ _)) (FrC_u3 _ _ _ _ _)
  have w6 : W 6 0 0 = Y 6 0 0 := by rw [← hW, up3_6, up3_6, up4_6, up4_6]
  obtain ⟨f1, a1, a2, -⟩ := fill_ok W 3 r 2 4 0 (by omega)
  obtain ⟨f2, b1, b2, -⟩ := fill_ok (upR W 3 r 2 f1) 3 r 7 14 0 (by omega)
  obtain ⟨f3, c1, c2, -⟩ := fill_ok (upR (upR W 3 r 2 f1) 3 r 7 f2) 3 r 8 14 0 (by omega)
  obtain ⟨f4, d1, d2, -⟩ := fill_ok (upR (upR (upR W 3 r 2 f1) 3 r 7 f2) 3 r 8 f3) 3 r 9 14 0 (by omega)
  refine ⟨_, by rw [a1, bd1_e, b1, bd1_e, c1, bd1_e, d1, bd1_e], FrC_trans wf (FrC_trans (FrC_trans (FrC_trans (FrC_3 _ _ _ _) (FrC_3 _ _ _ _)) (FrC_3 _ _ _ _)) (FrC_3 _ _ _ _)), ?_, ?_, ?_, ?_, ?_, fun q hq => ?_, fun s hs => ⟨?_, ?_, ?_⟩⟩
  · rw [upR_o (by omega), upR_o (by omega), upR_o (by omega), upR_o (by omega)]; exact w6
  · rw [upR_o (by omega), upR_o (by omega), upR_o (by omega), upR_o (by omega)]; exact w0
  · rw [upR_o (by omega), upR_o (by omega), upR_o (by omega), upR_o (by omega)]; exact w1
  · rw [upR_o (by omega), upR_o (by omega), upR_o (by omega), upR_o (by omega)]; exact w2
  · rw [upR_o (by omega), upR_o (by omega), upR_o (by omega), upR_o (by omega)]; exact w3
  · rw [upR_o (by omega), upR_o (by omega), upR_o (by omega), upR_at]; exact a2 q hq
  · rw [upR_o (by omega), upR_o (by omega), upR_at]; exact b2 s hs
  · rw [upR_o (by omega), upR_at]; exact c2 s hs
  · rw [upR_at]; exact d2 s hs
/-- the stages of the head -/
noncomputable def hd4 (Y : Mem) : Option Mem := bd1 (X10_expectSemicolon Y) fun Y27 => some Y27
noncomputable def hd3 (r : Nat) (Y : Mem) : Option Mem := bd2 (X10_expectNumber Y (Y 3 r 0 2) 99) fun x Y22 => lt_ (up Y22 3 r 0 3 x) fun Y23 => hd4 Y23
noncomputable def hd2 (r : Nat) (Y : Mem) : Option Mem := bd2 (X10_expectNumber Y 0 99) fun x Y22 => lt_ (up Y22 3 r 0 2 x) fun Y23 => hd3 r Y23
noncomputable def hd1 (r : Nat) (Y : Mem) : Option Mem := bd2 (X10_expectNumber Y 0 30) fun x Y22 => lt_ (up Y22 3 r 0 1 x) fun Y23 => hd2 r Y23
noncomputable def hd0 (r : Nat) (Y : Mem) : Option Mem := bd2 (X10_expectNumber Y 1 4) fun x Y22 => lt_ (up Y22 3 r 0 0 x) fun Y23 => hd1 r Y23
theorem hd0_e (r : Nat) (Y : Mem) : X7_readHead_b20 r Y = hd0 r Y := rfl
theorem hd4_m {r : Nat} {Y : Mem} (h : Y 6 0 0 1 = 5) : EM r Y (hd4 Y) := by
  unfold hd4; rw [e_semi h, bd1_e]; exact ⟨Y, rfl, FrC_refl _ _, rfl⟩
theorem hd3_m {r : Nat} {Y : Mem} (h : Y 6 0 0 1 = 5) : EM r Y (hd3 r Y) := by
  unfold hd3; rw [e_num h, bd2_e, lt_e]; exact EM_s (FrC_u3 _ _ _ _ _) (up3_6 _ _ _ _ _) (hd4_m (up3_5 h _ _ _ _))
theorem hd2_m {r : Nat} {Y : Mem} (h : Y 6 0 0 1 = 5) : EM r Y (hd2 r Y) := by
  unfold hd2; rw [e_num h, bd2_e, lt_e]; exact EM_s (FrC_u3 _ _ _ _ _) (up3_6 _ _ _ _ _) (hd3_m (up3_5 h _ _ _ _))
theorem hd1_m {r : Nat} {Y : Mem} (h : Y 6 0 0 1 = 5) : EM r Y (hd1 r Y) := by
  unfold hd1; rw [e_num h, bd2_e, lt_e]; exact EM_s (FrC_u3 _ _ _ _ _) (up3_6 _ _ _ _ _) (hd2_m (up3_5 h _ _ _ _))
theorem hd0_m {r : Nat} {Y : Mem} (h : Y 6 0 0 1 = 5) : EM r Y (hd0 r Y) := by
  unfold hd0; rw [e_num h, bd2_e, lt_e]; exact EM_s (FrC_u3 _ _ _ _ _) (up3_6 _ _ _ _ _) (hd1_m (up3_5 h _ _ _ _))
noncomputable def md4 (Z : Mem) : Option (Int32 × Mem) := bd2 (M12_semicolon Z) fun r25 Y27 => if r25 = 0 then some (0, Y27) else M12_parseSetup_b98 FU Y27
noncomputable def md3 (Z : Mem) : Option (Int32 × Mem) := gd (inb 2 4202) <| bd2 (M12_parseRanged Z 3 (Z 10 0 1 (ix 2)) 99) fun x Y23 => if x = 0 then some (0, Y23) else md4 Y23
noncomputable def md2 (Z : Mem) : Option (Int32 × Mem) := bd2 (M12_parseRanged Z 2 0 99) fun x Y23 => if x = 0 then some (0, Y23) else md3 Y23
noncomputable def md1 (Z : Mem) : Option (Int32 × Mem) := bd2 (M12_parseRanged Z 1 0 30) fun x Y23 => if x = 0 then some (0, Y23) else md2 Y23
noncomputable def md0 (Z : Mem) : Option (Int32 × Mem) := bd2 (M12_parseRanged Z 0 1 4) fun x Y23 => if x = 0 then some (0, Y23) else md1 Y23
/-- how a part of the reading may end: badly -/
def BadO (r : Nat) (Y Z : Mem) (c : Option Mem) (p : Option (Int32 × Mem)) : Prop := ∃ Y' Z', c = some Y' ∧ p = some (0, Z') ∧ BP Y' Z' ∧ FrC r Y Y' ∧ FrL Z Z'
theorem BadO_s {r : Nat} {Y Z Y1 Z1 : Mem} {c : Option Mem} {p : Option (Int32 × Mem)} (h1 : FrC r Y Y1) (h2 : FrL Z Z1) (h : BadO r Y1 Z1 c p) : BadO r Y Z c p := by
  obtain ⟨Y', Z', a1, a2, a3, a4, a5⟩ := h
  exact ⟨Y', Z', a1, a2, a3, FrC_trans h1 a4, FrL_trans h2 a5⟩
/-- class goes on after an error of both -/
theorem BadO_e {r : Nat} {Y Z : Mem} {c : Option Mem} {p : Option (Int32 × Mem)} {f h : Nat → Int32} (hh : HF Z h) (hb : BF f h) (hc : EM r (upR Y 6 0 0 f) c) (hp : p = some (0, upR Z 10 0 0 h)) : BadO r Y Z c p := by
  obtain ⟨Y', a1, a2, a3⟩ := hc
  exact ⟨Y', _, a1, hp, BP_8 a3 (BP_of hb), FrC_trans (FrC_6 _ _ _) a2, FrL_0 hh⟩
def GoodH (r : Nat) (b : Nat → Nat) (n : Nat) (Y Z : Mem) (c : Option Mem) (p : Option (Int32 × Mem)) : Prop := ∃ Y' Z' k s e, c = some Y' ∧ p = M12_parseSetup_b98 FU Z' ∧ TJ Y' Z' b n k s e ∧ MID Y' r (Z' 10 0 1) 0 0 ff false false 0 ff ∧ FrC r Y Y' ∧ FrL Z Z'
theorem GoodH_s {r n : Nat} {b : Nat → Nat} {Y Z Y1 Z1 : Mem} {c : Option Mem} {p : Option (Int32 × Mem)} (h1 : FrC r Y Y1) (h2 : FrL Z Z1) (h : GoodH r b n Y1 Z1 c p) : GoodH r b n Y Z c p := by
  obtain ⟨Y', Z', k, s, e, a1, a2, a3, a4, a5, a6⟩ := h
  exact ⟨Y', Z', k, s, e, a1, a2, a3, a4, FrC_trans h1 a5, FrL_trans h2 a6⟩
/-- on the way through the head: j words are read -/
def PH (Y : Mem) (r : Nat) (m : Nat → Int32) (j : Nat) : Prop := CLR Y r ∧ (∀ i, i < j → Y 3 r 0 i = m i) ∧ ∀ x, 4 ≤ x → x < 382 → m x = 0
theorem PH_6 {Y : Mem} {r j : Nat} {m : Nat → Int32} (f : Nat → Int32) (h : PH Y r m j) : PH (upR Y 6 0 0 f) r m j := by
  unfold PH CLR at h ⊢
  rw [u6o _ _ (by omega), u6o _ _ (by omega)]; exact h
theorem PH_s {Y : Mem} {r j : Nat} {m : Nat → Int32} {v : Int32} (hj : j < 4) (h : PH Y r m j) : PH (up Y 3 r 0 j v) r (upd m j v) (j + 1) := by
  obtain ⟨⟨h1, h2, h3, h4, h5, h6⟩, h7, h8⟩ := h
  have e4 : (up Y 3 r 0 j v) 4 = Y 4 := by funext g o; rw [up_eq, upR_o (by omega)]
  have e3 : ∀ o, o ≠ 0 → (up Y 3 r 0 j v) 3 r o = Y 3 r o := fun o ho => by rw [up_eq, upR_o (by omega)]
  refine ⟨⟨by rw [e4]; exact h1, by rw [e4]; exact h2, by rw [up_at, pk_un (by omega)]; exact h3, by rw [up_at, pk_un (by omega)]; exact h4, fun q hq => by rw [e3 2 (by omega)]; exact h5 q hq, fun s hs => by rw [e3 7 (by omega), e3 8 (by omega), e3 9 (by omega)]; exact h6 s hs⟩, fun i hi => ?_, fun x x1 x2 => by rw [pk_un (by omega)]; exact h8 x x1 x2⟩
  rw [up_at]
  by_cases e : i = j
  · subst e; rw [pk_us, pk_us]
  · rw [pk_un e, pk_un e]; exact h7 i (by omega)
theorem MID_0 {Y : Mem} {r : Nat} {m : Nat → Int32} (h : PH Y r m 4) : MID Y r m 0 0 ff false false 0 ff := by
  obtain ⟨⟨h1, h2, h3, h4, h5, h6⟩, h7, h8⟩ := h
  refine ⟨⟨by omega, by omega, by rw [h8 12 (by omega) (by omega)]; rfl, by rw [h8 13 (by omega) (by omega)]; rfl⟩, ⟨⟨by omega, by rw [h1]; rfl, fun q hq => by omega⟩, ⟨by omega, by rw [h2]; rfl, fun q hq => by omega⟩⟩, ⟨h7 0 (by omega), h7 1 (by omega), h7 2 (by omega), h7 3 (by omega)⟩, fun x x1 x2 => h8 x x1 (by omega), fun q hq => by omega, fun s hs => by omega, fun q hq k hk => ?_, fun k hk => ⟨?_, ?_⟩, fun s hs => by omega, fun s hs k hk => ?_, fun _ => ⟨by rw [(h6 0 (by omega)).1]; rfl, fun k hk => by rw [(h6 0 (by omega)).2.1, b_0]; rfl⟩, fun s s1 s2 => ⟨(h6 s s2).1, (h6 s s2).2.1⟩⟩
  · rw [h5 q hq, b_0, decide_eq_false (show ¬ k < 0 by omega)]
    show false = (false && _ || decide (k = 0) && false)
    rw [Bool.and_false, Bool.false_and]; rfl
  · rw [h3, b_0, decide_eq_false (show ¬ k < 0 by omega), Bool.and_false, Bool.false_and]; rfl
  · rw [h4, b_0, decide_eq_false (show ¬ k < 0 by omega), Bool.and_false, Bool.false_and]; rfl
  · rw [(h6 s hs).2.2, b_0, decide_eq_false (show ¬ k < 0 by omega)]
    show false = (false && _ || decide (k = 0) && false)
    rw [Bool.and_false, Bool.false_and]; rfl
theorem fr_num {Z : Mem} {w : Nat} {v : Int32} {h : Nat → Int32} (hw : w < 382) (hh : HF Z h) : FrL Z (upR (upR Z 10 0 1 (upd (Z 10 0 1) w v)) 10 0 0 h) :=
  FrL_trans (FrL_1 (fun x hx => pk_un (by omega))) (FrL_0 (fun x q1 q2 q3 q4 q5 q6 => by rw [upR_o (by omega)]; exact hh x q1 q2 q3 q4 q5 q6))
theorem h4_j {Y Z : Mem} {b : Nat → Nat} {n k s e r : Nat} (h : TJ Y Z b n k s e) (hP : PH Y r (Z 10 0 1) 4) : GoodH r b n Y Z (hd4 Y) (md4 Z) ∨ BadO r Y Z (hd4 Y) (md4 Z) := by
  unfold hd4 md4
  rcases semi_j h with ⟨f, h', k', s', e', a1, a2, a3, a4⟩ | ⟨f, h', a1, a2, a3, a4⟩
  · left
    refine ⟨_, upR Z 10 0 0 h', k', s', e', by rw [a1, bd1_e], by rw [a2, bd2_e, if_neg (by decide)], a4, MID_6 f (MID_0 ?_), FrC_6 _ _ _, FrL_0 a3⟩
    rw [upR_o (by omega)]; exact hP
  · right
    refine BadO_e a3 a4 ?_ (by rw [a2, bd2_e, if_pos rfl])
    rw [a1, bd1_e]
    exact ⟨_, rfl, FrC_refl _ _, rfl⟩
/-- one number of the head -/
theorem hn_j {Y Z : Mem} {b : Nat → Nat} {n k s e r j lo hi : Nat} (hj : j < 4) (hl : lo < 1000) (hh : hi < 1000) (h : TJ Y Z b n k s e) (hP : PH Y r (Z 10 0 1) j) {C : Mem → Option Mem} {M : Mem → Option (Int32 × Mem)} (hm : ∀ {Y}, Y 6 0 0 1 = 5 → EM r Y (C Y)) (hn : ∀ {Y Z k s e}, TJ Y Z b n k s e → PH Y r (Z 10 0 1) (j + 1) → GoodH r b n Y Z (C Y) (M Z) ∨ BadO r Y Z (C Y) (M Z)) : GoodH r b n Y Z (bd2 (X10_expectNumber Y (nI lo) (nI hi)) fun x Y22 => lt_ (up Y22 3 r 0 j x) fun Y23 => C Y23) (bd2 (M12_parseRanged Z (nI j) (nI lo) (nI hi)) fun x Y23 => if x = 0 then some (0, Y23) else M Y23) ∨ BadO r Y Z (bd2 (X10_expectNumber Y (nI lo) (nI hi)) fun x Y22 => lt_ (up Y22 3 r 0 j x) fun Y23 => C Y23) (bd2 (M12_parseRanged Z (nI j) (nI lo) (nI hi)) fun x Y23 => if x = 0 then some (0, Y23) else M Y23) := by
  rcases num_j (w := j) h hl hh (by omega) with ⟨v, f, h', k', s', e', v1, v2, a1, a2, a3, a4⟩ | ⟨f, h', a1, a2, a3, a4⟩
  · rw [a1, a2, bd2_e, bd2_e, if_neg (by decide), lt_e]
    have hJ : TJ (up (upR Y 6 0 0 f) 3 r 0 j (nI v)) (upR (upR Z 10 0 1 (upd (Z 10 0 1) j (nI v))) 10 0 0 h') b n k' s' e' := TJ_fr (by funext o; rw [up_eq, upR_o (by omega)]) (up3_6 _ _ _ _ _) rfl rfl a4
    have hP' : PH (up (upR Y 6 0 0 f) 3 r 0 j (nI v)) r ((upR (upR Z 10 0 1 (upd (Z 10 0 1) j (nI v))) 10 0 0 h') 10 0 1) (j + 1) := by
      rw [upR_o (by omega), upR_at]
      exact PH_s hj (PH_6 f hP)
    have hC : FrC r Y (up (upR Y 6 0 0 f) 3 r 0 j (nI v)) := FrC_trans (FrC_6 _ _ _) (FrC_u3 _ _ _ _ _)
    have hL := fr_num (v := nI v) (show j < 382 by omega) a3
    rcases hn hJ hP' with q | q
    · exact Or.inl (GoodH_s hC hL q)
    · exact Or.inr (BadO_s hC hL q)
  · right
    rw [a1, a2, bd2_e, bd2_e, if_pos rfl, lt_e]
    have e5 : (upR Y 6 0 0 f) 6 0 0 1 = 5 := by rw [u6]; exact a4.1
    exact BadO_e a3 a4 (EM_s (FrC_u3 _ _ _ _ _) (up3_6 _ _ _ _ _) (hm (up3_5 e5 _ _ _ _))) rfl
theorem h3_j {Y Z : Mem} {b : Nat → Nat} {n k s e r : Nat} (h : TJ Y Z b n k s e) (hP : PH Y r (Z 10 0 1) 3) (h2 : ∃ v, v < 1000 ∧ Z 10 0 1 2 = nI v) : GoodH r b n Y Z (hd3 r Y) (md3 Z) ∨ BadO r Y Z (hd3 r Y) (md3 Z) := by
  obtain ⟨v, v1, v2⟩ := h2
  have g2 : inb 2 4202 = true := inb_n (j := 2) (by omega) (by omega)
  have i2 : ix 2 = 2 := ix_n (j := 2) (by omega)
  unfold hd3 md3
  rw [gd_t g2, i2, hP.2.1 2 (by omega), v2]
  exact hn_j (j := 3) (hi := 99) (by omega) v1 (by omega) h hP (fun q => hd4_m q) (fun p q => h4_j p q)
/-- the second bound lies in range -/
theorem hn2_j {Y Z : Mem} {b : Nat → Nat} {n k s e r : Nat} (h : TJ Y Z b n k s e) (hP : PH Y r (Z 10 0 1) 2) : GoodH r b n Y Z (hd2 r Y) (md2 Z) ∨ BadO r Y Z (hd2 r Y) (md2 Z) := by
  unfold hd2 md2
  rcases num_j (w := 2) (lo := 0) (hi := 99) h (by omega) (by omega) (by omega) with ⟨v, f, h', k', s', e', v1, v2, a1, a2, a3, a4⟩ | ⟨f, h', a1, a2, a3, a4⟩
  · rw [show X10_expectNumber Y 0 99 = _ from a1, show M12_parseRanged Z 2 0 99 = _ from a2, bd2_e, bd2_e, if_neg (by decide), lt_e]
    have hJ : TJ (up (upR Y 6 0 0 f) 3 r 0 2 (nI v)) (upR (upR Z 10 0 1 (upd (Z 10 0 1) 2 (nI v))) 10 0 0 h') b n k' s' e' := TJ_fr (by funext o; rw [up_eq, upR_o (by omega)]) (up3_6 _ _ _ _ _) rfl rfl a4
    have hP' : PH (up (upR Y 6 0 0 f) 3 r 0 2 (nI v)) r ((upR (upR Z 10 0 1 (upd (Z 10 0 1) 2 (nI v))) 10 0 0 h') 10 0 1) 3 := by
      rw [upR_o (by omega), upR_at]
      exact PH_s (by omega) (PH_6 f hP)
    have hC : FrC r Y (up (upR Y 6 0 0 f) 3 r 0 2 (nI v)) := FrC_trans (FrC_6 _ _ _) (FrC_u3 _ _ _ _ _)
    have hL := fr_num (v := nI v) (show 2 < 382 by omega) a3
    rcases h3_j hJ hP' ⟨v, by omega, by rw [upR_o (by omega), upR_at, pk_us]⟩ with q | q
    · exact Or.inl (GoodH_s hC hL q)
    · exact Or.inr (BadO_s hC hL q)
  · right
    rw [show X10_expectNumber Y 0 99 = _ from a1, show M12_parseRanged Z 2 0 99 = _ from a2, bd2_e, bd2_e, if_pos rfl, lt_e]
    have e5 : (upR Y 6 0 0 f) 6 0 0 1 = 5 := by rw [u6]; exact a4.1
    exact BadO_e a3 a4 (EM_s (FrC_u3 _ _ _ _ _) (up3_6 _ _ _ _ _) (hd3_m (up3_5 e5 _ _ _ _))) rfl
theorem h1_j {Y Z : Mem} {b : Nat → Nat} {n k s e r : Nat} (h : TJ Y Z b n k s e) (hP : PH Y r (Z 10 0 1) 1) : GoodH r b n Y Z (hd1 r Y) (md1 Z) ∨ BadO r Y Z (hd1 r Y) (md1 Z) := by
  unfold hd1 md1
  exact hn_j (j := 1) (lo := 0) (hi := 30) (by omega) (by omega) (by omega) h hP (fun q => hd2_m q) (fun p q => hn2_j p q)
theorem h0_j {Y Z : Mem} {b : Nat → Nat} {n k s e r : Nat} (h : TJ Y Z b n k s e) (hP : PH Y r (Z 10 0 1) 0) : GoodH r b n Y Z (hd0 r Y) (md0 Z) ∨ BadO r Y Z (hd0 r Y) (md0 Z) := by
  unfold hd0 md0
  exact hn_j (j := 0) (lo := 1) (hi := 4) (by omega) (by omega) (by omega) h hP (fun q => hd1_m q) (fun p q => h1_j p q)
/-- the head -/
noncomputable def mdh (Z : Mem) : Option (Int32 × Mem) := bd1 (M12_isWord Z 1) fun r2 => if r2 = 0 then (bd2 (M12_wrong Z 1) fun r55 Y57 => gd (decide (r55 = 0 ∨ r55 = 1)) <| some (r55, Y57)) else (bd1 (M12_token Z) fun Y7 => md0 Y7)
theorem head_j {Y Z : Mem} {b : Nat → Nat} {n k s e r : Nat} (h : TJ Y Z b n k s e) (hC : CLR Y r) (hm : ∀ x, x < 382 → Z 10 0 1 x = 0) : GoodH r b n Y Z (X7_readHead Y r) (mdh Z) ∨ BadO r Y Z (X7_readHead Y r) (mdh Z) := by
  obtain ⟨w1, w2⟩ := word_ok h.1 (w := 1) (by omega) (by omega)
  unfold X7_readHead mdh X10_accept
  rw [w1, w2, bd1_e, bd1_e]
  cases isW b k s e 1
  · right
    rw [bI_f, if_pos rfl, if_pos rfl, gd_t (by decide), bd2_e, if_pos rfl]
    obtain ⟨f, h', a1, a2, a3, a4⟩ := fail_j h (c := 1) (by omega) (by omega)
    rw [show X10_fail Y 1 = _ from a1, bd1_e, show M12_wrong Z 1 = _ from a2, bd2_e, gd_t (by decide), hd0_e]
    exact BadO_e a3 a4 (hd0_m (by rw [u6]; exact a4.1)) rfl
  · rw [bI_t, if_neg (by decide), if_neg (by decide)]
    obtain ⟨f, h', k', s', e', a1, a2, a3, a4⟩ := adv_j h
    rw [a1, bd1_e, gd_t (by decide), bd2_e, if_neg (by decide), a2, bd1_e, hd0_e]
    have hP : PH (upR Y 6 0 0 f) r ((upR Z 10 0 0 h') 10 0 1) 0 := PH_6 f ⟨hC, fun i hi => by omega, fun x x1 x2 => by rw [upR_o (by omega)]; exact hm x x2⟩
    rcases h0_j a4 hP with q | q
    · exact Or.inl (GoodH_s (FrC_6 _ _ _) (FrL_0 a3) q)
    · exact Or.inr (BadO_s (FrC_6 _ _ _) (FrL_0 a3) q)
/-- the model clears the block -/
theorem zero_b : ∀ d i f Z a, i + d = 382 → d < f → (∀ x, x < i → a x = 0) → ∃ a', M12_parseSetup_b2 f (upR Z 10 0 1 a) (nI i) = mdh (upR Z 10 0 1 a') ∧ (∀ x, x < 382 → a' x = 0) ∧ ∀ x, 382 ≤ x → a' x = a x := by
  intro d
  induction d with
  | zero =>
    intro i f Z a hi f_h ha
    obtain ⟨f, rfl⟩ := fuel_s f_h
    refine ⟨a, ?_, fun x hx => ha x (by omega), fun _ _ => rfl⟩
    rw [M12_parseSetup_b2.eq_2, if_pos (show (382 : Int32) ≤ nI i from (nI_leI (a := 382) (by omega) (by omega)).mpr (by omega))]
    rfl
  | succ d ih =>
    intro i f Z a hi f_h ha
    obtain ⟨f, rfl⟩ := fuel_s f_h
    rw [M12_parseSetup_b2.eq_2, if_neg (show ¬ (382 : Int32) ≤ nI i from by show ¬ nI 382 ≤ nI i; rw [nI_leI (by omega) (by omega)]; omega), gdi (show i < 4202 by omega), ix_n (by omega), up_upR, lt_e, nI_1]
    obtain ⟨a', q1, q2, q3⟩ := ih (i + 1) f Z (upd a i 0) (by omega) (by omega) (fun x hx => by
      by_cases e : x = i
      · subst e; rw [pk_us]
      · rw [pk_un e]; exact ha x (by omega))
    exact ⟨a', q1, q2, fun x hx => by rw [q3 x hx, pk_un (by omega)]⟩
end
