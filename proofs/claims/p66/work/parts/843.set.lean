section
/-! THE MADE TEXT, READ BY THE MODEL: all of it -/
def wRec : List Nat := [114, 101, 99, 105, 112, 101]
def stpsT (D T : Nat → Nat) (U : Nat → List (List Nat)) : Nat → Nat → List Nat
  | 0, _ => []
  | n + 1, k => wStep ++ stT k (D k) (T k) (U k) (stpsT D T U n (k + 1))
def pansT (V : Nat → Nat) (r : List Nat) : Nat → Nat → List Nat
  | 0, _ => r
  | n + 1, k => wPan ++ 32 :: 112 :: (97 + k) :: 32 :: (dg (V k) ++ 59 :: pansT V r n (k + 1))
def headN (c h l u : Nat) (r : List Nat) : List Nat := wRec ++ 32 :: (dg c ++ 32 :: (dg h ++ 32 :: (dg l ++ 32 :: (dg u ++ 59 :: r))))
theorem w3_tab : isWl wStep 3 = true ∧ isWl wStep 2 = false ∧ isWl wPan 2 = true ∧ isWl wRec 1 = true := by decide +kernel
theorem RH_st (D T : Nat → Nat) (U : Nat → List (List Nat)) (n k : Nat) : RH (stpsT D T U n k) := by
  cases n with
  | zero => exact Or.inl rfl
  | succ n => exact Or.inr ⟨wStep, _, rfl, Or.inr rfl⟩
theorem RH_pn (V : Nat → Nat) {r : List Nat} (hr : RH r) (n k : Nat) : RH (pansT V r n k) := by
  cases n with
  | zero => exact hr
  | succ n => exact Or.inr ⟨wPan, _, rfl, Or.inl rfl⟩
theorem TS_step {L r : List Nat} {Z : Mem} (h : TS L (wStep ++ 32 :: r) Z) : WT L wStep (32 :: r) Z := by
  rcases h with ⟨h1, -⟩ | ⟨w, r2, h1, h2, h3⟩
  · exact absurd h1 (List.cons_ne_nil _ _)
  · rcases h2 with rfl | rfl
    · exact absurd (List.cons.inj h1).1 (by decide)
    · rw [← List.append_cancel_left h1] at h3; exact h3
theorem TS_pan {L r : List Nat} {Z : Mem} (h : TS L (wPan ++ 32 :: r) Z) : WT L wPan (32 :: r) Z := by
  rcases h with ⟨h1, -⟩ | ⟨w, r2, h1, h2, h3⟩
  · exact absurd h1 (List.cons_ne_nil _ _)
  · rcases h2 with rfl | rfl
    · rw [← List.append_cancel_left h1] at h3; exact h3
    · exact absurd (List.cons.inj h1).1 (by decide)
section
variable {L : List Nat} {D T V : Nat → Nat} {O : Nat → Option Nat} {H A : Nat → Bool} {X : Nat → List Nat} {K : Nat}
def UU (O : Nat → Option Nat) (H A : Nat → Bool) (X : Nat → List Nat) (k : Nat) : List (List Nat) := inU (O k) ++ (hoU (H k) ++ (alU (A k) ++ prU (X k)))
theorem steps_t (hD : ∀ k, 1 ≤ D k ∧ D k ≤ 60) (hT : ∀ k, T k ≤ 9) (hK : K ≤ 4) (hO : ∀ k p, O k = some p → p < K) (hX : ∀ k, (X k).Nodup ∧ (∀ x ∈ X k, x < k) ∧ (X k).length ≤ 4) : ∀ n k f Z, n < f → k + n ≤ 14 → TS L (stpsT D T (UU O H A X) n k) Z → NmT (Z 10 0 1) 46 24 115 k → NmT (Z 10 0 1) 14 8 112 K → Z 10 0 1 12 = nI K → Z 10 0 1 13 = nI k → ∃ Z', M12_parseSetup_b131 f Z = some (1, Z') ∧ Z' 10 0 1 13 = nI (k + n) ∧ ∀ x, x < 46 → x ≠ 13 → Z' 10 0 1 x = Z 10 0 1 x := by
  intro n
  induction n with
  | zero =>
    intro k f Z hf hk h hN hP h12 h13
    obtain ⟨f, rfl⟩ := fuel_s (n := 0) (f := f) (by omega)
    rcases h with ⟨-, s, e, h⟩ | ⟨w, r2, h1, -⟩
    · refine ⟨Z, ?_, h13, fun _ _ _ => rfl⟩
      rw [M12_parseSetup_b131.eq_2, wd_k h (by omega) (by omega), bd1_e, if_pos rfl, h.1.2.1, if_pos (show nI 0 = 0 from rfl)]
      rfl
    · exact absurd (show w ++ 32 :: r2 = [] from h1.symm) (fun q => List.cons_ne_nil _ _ (List.append_eq_nil_iff.mp q).2)
  | succ n ih =>
    intro k f Z hf hk h hN hP h12 h13
    obtain ⟨f, rfl⟩ := fuel_s (n := 0) (f := f) (by omega)
    have hw := TS_step (r := nm k ++ 32 :: (dg (D k) ++ 32 :: (dg (T k) ++ txt (UU O H A X k) (stpsT D T (UU O H A X) n (k + 1))))) h
    obtain ⟨x1, x2, x3⟩ := hX k
    obtain ⟨Z1, a1, a2, a3, a4, a5⟩ := step_t (o := O k) (ho := H k) (al := A k) (xs := X k) hw (hD k).1 (hD k).2 (hT k) (RH_st _ _ _ _ _) (by omega) hK (hO k) x1 x2 x3 hN hP h12 h13
    obtain ⟨Z', b1, b2, b3⟩ := ih (k + 1) f Z1 (by omega) (by omega) a2 a4 (fun q hq => by
      obtain ⟨y0, y1, y2⟩ := hP q hq
      exact ⟨by rw [a5 _ (by omega) (by omega)]; exact y0, by rw [a5 _ (by omega) (by omega)]; exact y1, by rw [a5 _ (by omega) (by omega)]; exact y2⟩) (by rw [a5 12 (by omega) (by omega)]; exact h12) a3
    refine ⟨Z', ?_, by rw [b2, show k + 1 + n = k + (n + 1) by omega], fun x hx h => by rw [b3 x hx h, a5 x hx h]⟩
    rw [M12_parseSetup_b131.eq_2, wd hw (by omega) (by omega), w3_tab.1, bd1_e, bI_t, if_neg (by decide), a1, bd2_e, if_neg (by decide), b1]
theorem pans_t (hV : ∀ k, 1 ≤ V k ∧ V k ≤ 5) (hD : ∀ k, 1 ≤ D k ∧ D k ≤ 60) (hT : ∀ k, T k ≤ 9) (hO : ∀ k p, O k = some p → p < K) (hX : ∀ k, (X k).Nodup ∧ (∀ x ∈ X k, x < k) ∧ (X k).length ≤ 4) (hK : K ≤ 4) {m : Nat} (hm : m + 1 ≤ 14) : ∀ n k f Z, n < f → k + n = K → TS L (pansT V (stpsT D T (UU O H A X) (m + 1) 0) n k) Z → NmT (Z 10 0 1) 14 8 112 k → Z 10 0 1 12 = nI k → Z 10 0 1 13 = nI 0 → ∃ Z', M12_parseSetup_b98 f Z = some (1, Z') ∧ Z' 10 0 1 13 = nI (m + 1) ∧ ∀ x, x < 12 → Z' 10 0 1 x = Z 10 0 1 x := by
  intro n
  induction n with
  | zero =>
    intro k f Z hf hk h hP h12 h13
    obtain ⟨f, rfl⟩ := fuel_s (n := 0) (f := f) (by omega)
    have ek : k = K := by omega
    subst ek
    have hw := TS_step (r := nm 0 ++ 32 :: (dg (D 0) ++ 32 :: (dg (T 0) ++ txt (UU O H A X 0) (stpsT D T (UU O H A X) m 1)))) h
    obtain ⟨Z', b1, b2, b3⟩ := steps_t (L := L) hD hT hK hO hX (m + 1) 0 FU Z (by have := FU_big; omega) (by omega) h (fun q hq => absurd hq (Nat.not_lt_zero _)) hP h12 h13
    refine ⟨Z', ?_, by rw [b2, Nat.zero_add], fun x hx => b3 x (by omega) (by omega)⟩
    rw [M12_parseSetup_b98.eq_2, wd hw (by omega) (by omega), w3_tab.2.1, bd1_e, bI_f, if_pos rfl, wd hw (by omega) (by omega), w3_tab.1, bd1_e, bI_t, if_neg (by decide), b1]
  | succ n ih =>
    intro k f Z hf hk h hP h12 h13
    obtain ⟨f, rfl⟩ := fuel_s (n := 0) (f := f) (by omega)
    have hw := TS_pan (r := 112 :: (97 + k) :: 32 :: (dg (V k) ++ 59 :: pansT V (stpsT D T (UU O H A X) (m + 1) 0) n (k + 1))) h
    obtain ⟨Z1, a1, a2, a3, a4, a5⟩ := pan_t hw (RH_pn V (RH_st _ _ _ _ _) _ _) (by omega) h12 hP (hV k).1 (hV k).2
    obtain ⟨Z', b1, b2, b3⟩ := ih (k + 1) f Z1 (by omega) (by omega) a2 a4 a3 (by rw [a5 13 (Or.inr rfl)]; exact h13)
    refine ⟨Z', ?_, b2, fun x hx => by rw [b3 x hx, a5 x (Or.inl hx)]⟩
    rw [M12_parseSetup_b98.eq_2, wd hw (by omega) (by omega), w3_tab.2.2.1, bd1_e, bI_t, if_neg (by decide), a1, bd2_e, if_neg (by decide), b1]
/-- one number of the head -/
theorem hd_n {Z : Mem} {r g : List Nat} {v a lo hi : Nat} (h : NT L v r Z) (ha : a < 14) (hl : lo ≤ v) (hh : v ≤ hi) (h30 : hi < 100) {P : Mem → Prop} (hn : ∀ Z0, PT L r Z0 → ∃ Z', M12_token Z0 = some Z' ∧ TkF Z0 Z' ∧ P Z') : ∃ Z', M12_parseRanged Z (nI a) (nI lo) (nI hi) = some (1, Z') ∧ P Z' ∧ Z' 10 0 1 = upd (Z 10 0 1) a (nI v) := by
  obtain ⟨Z', b1, b2, b3⟩ := hn _ (PT_m (upd (Z 10 0 1) a (nI v)) (NT_P h))
  exact ⟨Z', by rw [rng h (by omega) hl hh (by omega), b1, bd1_e], b3, by rw [TkF_m b2, upR_at]⟩
theorem set_t {Z : Mem} {n c h l u m : Nat} (hc : 1 ≤ c ∧ c ≤ 4) (hh : h ≤ 30) (hl : l ≤ u) (hu : u ≤ 99) (hV : ∀ k, 1 ≤ V k ∧ V k ≤ 5) (hD : ∀ k, 1 ≤ D k ∧ D k ≤ 60) (hT : ∀ k, T k ≤ 9) (hO : ∀ k p, O k = some p → p < K) (hX : ∀ k, (X k).Nodup ∧ (∀ x ∈ X k, x < k) ∧ (X k).length ≤ 4) (hK : K ≤ 4) (hm : m + 1 ≤ 14) (hL : L = headN c h l u (pansT V (stpsT D T (UU O H A X) (m + 1) 0) K 0)) (hM : TM (bL L) L.length Z) : ∃ Z', (bd1 (M12_begin Z) fun Y6 => M12_parseSetup Y6) = some (1, Z') ∧ Z' 10 0 1 13 = nI (m + 1) ∧ Z' 10 0 1 1 = nI h := by
  have s32 : ∀ (w : List Nat), ∀ x ∈ (32 :: w).head?, ¬ (48 ≤ x ∧ x ≤ 57) := fun w => hd_c (by omega)
  have b0 : M12_begin Z = bd1 (M12_token (upR Z 10 0 0 (upd (upd (upd (Z 10 0 0) 5 0) 6 (-1)) 14 0))) fun Y9 => some Y9 := by
    unfold M12_begin
    rw [up_eq, lt_e, up_upR, lt_e, up_upR, lt_e]
  have p0 : PT L (wRec ++ 32 :: (dg c ++ 32 :: (dg h ++ 32 :: (dg l ++ 32 :: (dg u ++ 59 :: pansT V (stpsT D T (UU O H A X) (m + 1) 0) K 0))))) (upR Z 10 0 0 (upd (upd (upd (Z 10 0 0) 5 0) 6 (-1)) 14 0)) := by
    obtain ⟨t1, t2, t3⟩ := hM
    refine ⟨⟨t1, fun j hj => by rw [u10o _ _ (by omega)]; exact t2 j hj, by rw [u10, pk_un (by omega), pk_un (by omega), pk_un (by omega)]; exact t3⟩, 0, by rw [u10, pk_us]; rfl, ?_, Nat.zero_le _⟩
    rw [List.drop_zero, hL]; rfl
  obtain ⟨Z1, a1, -, a3⟩ := nx_w (g := []) (w := wRec) p0 g0l (by decide) (by decide) (by decide) (hd_c (by omega))
  obtain ⟨a', z1, z2, -⟩ := zero_b 382 0 FU Z1 (Z1 10 0 1) (by omega) (by have := FU_big; omega) (fun x hx => by omega)
  rw [upR_self] at z1
  have a4 := WT_m a' a3
  obtain ⟨Z2, c1, c2, c3⟩ := nx_n (g := [32]) (v := c) (by omega) (WT_P a4) g32 (s32 _)
  have m2 : Z2 10 0 1 = a' := by rw [TkF_m c2, upR_at]
  obtain ⟨Z3, d1, d2, d3⟩ := hd_n (a := 0) (lo := 1) (hi := 4) (g := []) c3 (by omega) hc.1 hc.2 (by omega) (fun Z0 h0 => nx_n (g := [32]) (v := h) (by omega) h0 g32 (s32 _))
  obtain ⟨Z4, e1, e2, e3⟩ := hd_n (a := 1) (lo := 0) (hi := 30) (g := []) d2 (by omega) (Nat.zero_le _) hh (by omega) (fun Z0 h0 => nx_n (g := [32]) (v := l) (by omega) h0 g32 (s32 _))
  obtain ⟨Z5, f1, f2, f3⟩ := hd_n (a := 2) (lo := 0) (hi := 99) (g := []) e2 (by omega) (Nat.zero_le _) (by omega) (by omega) (fun Z0 h0 => nx_n (g := [32]) (v := u) (by omega) h0 g32 (hd_c (by omega)))
  obtain ⟨Z6, g1, g2, g3⟩ := hd_n (a := 3) (lo := l) (hi := 99) (g := []) f2 (by omega) hl hu (by omega) (fun Z0 h0 => nx_s (g := []) h0 g0l)
  obtain ⟨Z7, i1, i2, i3⟩ := nxt (CT_P g2) (RH_pn V (RH_st D T (UU O H A X) (m + 1) 0) K 0)
  have m7 : Z7 10 0 1 = upd (upd (upd (upd a' 0 (nI c)) 1 (nI h)) 2 (nI l)) 3 (nI u) := by rw [TkF_m i2, g3, f3, e3, d3, m2]
  have l2 : Z5 10 0 1 2 = nI l := by rw [f3, pk_us]
  obtain ⟨Z8, j1, j2, j3⟩ := pans_t (L := L) hV hD hT hO hX hK hm K 0 FU Z7 (by have := FU_big; omega) (Nat.zero_add _) i3 (fun q hq => absurd hq (Nat.not_lt_zero _)) (by rw [m7, pk_un (by omega), pk_un (by omega), pk_un (by omega), pk_un (by omega), z2 12 (by omega)]; rfl) (by rw [m7, pk_un (by omega), pk_un (by omega), pk_un (by omega), pk_un (by omega), z2 13 (by omega)]; rfl)
  refine ⟨Z8, ?_, j2, by rw [j3 1 (by omega), m7, pk_un (by omega), pk_un (by omega), pk_us]⟩
  have g2' : inb 2 4202 = true := inb_n (j := 2) (by omega) (by omega)
  have i2' : ix 2 = 2 := ix_n (j := 2) (by omega)
  rw [b0, a1, bd1_e, bd1_e]
  unfold M12_parseSetup
  rw [show M12_parseSetup_b2 FU Z1 0 = _ from z1]
  unfold mdh
  rw [wd a4 (by omega) (by omega), w3_tab.2.2.2, bd1_e, bI_t, if_neg (by decide), c1, bd1_e]
  unfold md0
  rw [show M12_parseRanged Z2 0 1 4 = _ from d1, bd2_e, if_neg (by decide)]
  unfold md1
  rw [show M12_parseRanged Z3 1 0 30 = _ from e1, bd2_e, if_neg (by decide)]
  unfold md2
  rw [show M12_parseRanged Z4 2 0 99 = _ from f1, bd2_e, if_neg (by decide)]
  unfold md3
  rw [gd_t g2', i2', l2, show M12_parseRanged Z5 3 (nI l) 99 = _ from g1, bd2_e, if_neg (by decide)]
  unfold md4
  rw [semi g2, i1, bd1_e, bd2_e, if_neg (by decide), j1]
end
end
