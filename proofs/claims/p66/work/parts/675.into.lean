section
/-! A STEP of a setup: its begin; the whole setup -/
theorem m1_ne {q : Nat} (h : q < 4) : ¬ (-1 : Int32) = nI q := fun e => oI_some (i := q) (by omega) e.symm
theorem s3_j {Y Z : Mem} {b : Nat → Nat} {n k s e r K S : Nat} (hS : S < 14) (h : TJ Y Z b n k s e) (hM : MID Y r (Z 10 0 1) K S ff false false 0 ff) (hX : SX Y r (Z 10 0 1) K S 2) (h12 : fld (Z 10 0 1) S 12 = 0) : OutS r b n K S Y Z (sc3 r (nI S) Y) (sm3 (nI (46 + S * 24)) Z) := by
  obtain ⟨⟨hK4, hS14, m12, m13⟩, ⟨hN0, hN1⟩, -⟩ := id hM
  have w9 : nI (46 + S * 24) + 9 = nI (46 + S * 24 + 9) := nI_add _ 9
  unfold sc3 sm3 X7_readPanOf M12_parsePanType
  rw [gdi hS, ix_n (show S < 2 ^ 31 by omega), lt_e, w9, gdi (show 46 + S * 24 + 9 < 4202 by omega), ix_n (show 46 + S * 24 + 9 < 2 ^ 31 by omega), up_eq _ 10 0 1, lt_e]
  have efl : ∀ v w, w ≠ 9 → w < 24 → fld (upd (Z 10 0 1) (46 + S * 24 + 9) v) S w = fld (Z 10 0 1) S w := fun v w w1 w2 => fld_upd_o _ _ (by omega) w2 (by omega)
  have hJ : TJ (up Y 3 r 5 S (-1)) (upR Z 10 0 1 (upd (Z 10 0 1) (46 + S * 24 + 9) (-1))) b n k s e := TJ_fr (by funext o; rw [up_eq, upR_o (by omega)]) (up3_6 _ _ _ _ _) (upR_o (by omega)) (upR_o (by omega)) h
  have em : (upR Z 10 0 1 (upd (Z 10 0 1) (46 + S * 24 + 9) (-1))) 10 0 1 = upd (Z 10 0 1) (46 + S * 24 + 9) (-1) := upR_at _ _ _ _ _
  have hM1 : MID (up Y 3 r 5 S (-1)) r (upd (Z 10 0 1) (46 + S * 24 + 9) (-1)) K S ff false false 0 ff := MID_own _ hS (by omega) (MID_m (fun x hx => pk_un (by omega)) hM)
  have hL : FrL Z (upR Z 10 0 1 (upd (Z 10 0 1) (46 + S * 24 + 9) (-1))) := FrL_1 (fun x hx => pk_un (by omega))
  have hC : FrC r Y (up Y 3 r 5 S (-1)) := FrC_u3 _ _ _ _ _
  have hX3 : ∀ {Y' : Mem} {v : Int32}, Y' 4 = Y 4 → Y' 3 r 3 = Y 3 r 3 → Y' 3 r 4 = Y 3 r 4 → Y' 3 r 5 S = v → (v = -1 ∨ ∃ q, q < K ∧ v = nI q) → SX Y' r (upd (Z 10 0 1) (46 + S * 24 + 9) v) K S 3 := fun {Y' v} e4 e3 e34 e5 hv => by
    have h2 : SX Y r (upd (Z 10 0 1) (46 + S * 24 + 9) v) K S 2 := SX_m (fun w hw => efl v w (by omega) (by omega)) hX
    have h2' : SX Y' r (upd (Z 10 0 1) (46 + S * 24 + 9) v) K S 2 := SX_c (fun o _ => by rw [e4]) (fun o o1 o2 _ => by
      rcases (by omega : o = 3 ∨ o = 4) with rfl | rfl
      · rw [e3]
      · rw [e34]) h2
    refine ⟨h2'.1, h2'.2.1, fun _ => h2'.2.2.1 (by omega), fun _ => h2'.2.2.2.1 (by omega), fun _ => ?_⟩
    rw [fld_upd_same, e5]
    exact ⟨rfl, hv⟩
  rcases acc_j hJ (w := 4) (by omega) (by omega) with ⟨f, h', k', s', e', a1, a2, a3, a4⟩ | ⟨a1, a2⟩
  · rw [a1, a2, bd2_e, bd2_e, if_neg (by decide), if_neg (by decide)]
    have em2 : (upR (upR Z 10 0 1 (upd (Z 10 0 1) (46 + S * 24 + 9) (-1))) 10 0 0 h') 10 0 1 = upd (Z 10 0 1) (46 + S * 24 + 9) (-1) := by rw [upR_o (by omega), upR_at]
    have hM2 := MID_6 f hM1
    have hNp : NN (upR (up Y 3 r 5 S (-1)) 6 0 0 f) (2 * r) ((upR (upR Z 10 0 1 (upd (Z 10 0 1) (46 + S * 24 + 9) (-1))) 10 0 0 h') 10 0 1) 14 8 K := by rw [em2]; exact hM2.2.1.1
    have m12' : (upR (upR Z 10 0 1 (upd (Z 10 0 1) (46 + S * 24 + 9) (-1))) 10 0 0 h') 10 0 1 12 = nI K := by rw [em2]; exact hM2.1.2.2.1
    obtain ⟨-, -, -, -, t2, t3, hse, -, -, -⟩ := TJ_k a4
    have hC2 : FrC r Y (upR (up Y 3 r 5 S (-1)) 6 0 0 f) := FrC_trans hC (FrC_6 _ _ f)
    have hL2 : FrL Z (upR (upR Z 10 0 1 (upd (Z 10 0 1) (46 + S * 24 + 9) (-1))) 10 0 0 h') := FrL_trans hL (FrL_0 a3)
    rcases find_j a4 hNp with ⟨q, hq, nq, c1, m1⟩ | ⟨f2, h2, c1, c2, c3, c4⟩
    · -- the pan type is there
      have hq4 : q < 4 := by omega
      rw [c1, bd2_e, if_neg (show ¬ nI q = -1 from oI_some (i := q) (by omega)), lt_e, gdi hq4, ix_n (show q < 2 ^ 31 by omega), m1, bd2_e, if_neg (by decide), t2, t3, pk_sub hse, pnNm_ok a4 hNp m12' hK4, bd1_e, nq, show oI (some q) = nI q from rfl, up_eq _ 10 0 1, em2, lt_e, lt_e, upR_at, pk_us, if_neg (show ¬ nI q = -1 from oI_some (i := q) (by omega))]
      have euu : upd (upd (Z 10 0 1) (46 + S * 24 + 9) (-1)) (46 + S * 24 + 9) (nI q) = upd (Z 10 0 1) (46 + S * 24 + 9) (nI q) := by
        funext x
        by_cases ex : x = 46 + S * 24 + 9
        · subst ex; rw [pk_us, pk_us]
        · rw [pk_un ex, pk_un ex, pk_un ex]
      rw [euu]
      have hM3 : MID (up (upR (up Y 3 r 5 S (-1)) 6 0 0 f) 3 r 5 S (nI q)) r (upd (Z 10 0 1) (46 + S * 24 + 9) (nI q)) K S ff false false 0 ff := MID_own _ hS (by omega) (MID_m (fun x hx => by rw [pk_un (by omega), pk_un (by omega)]) hM2)
      have hM4 := MID_use hS hq4 hM3
      generalize hW : up (up (upR (up Y 3 r 5 S (-1)) 6 0 0 f) 3 r 5 S (nI q)) 3 r 2 q ((up (upR (up Y 3 r 5 S (-1)) 6 0 0 f) 3 r 5 S (nI q)) 3 r 2 q ||| (1 <<< (nI S &&& 31))) = W at hM4
      have w4 : W 4 = Y 4 := by rw [← hW]; funext g o; rw [up_eq, upR_o (by omega), up_eq, upR_o (by omega), upR_o (by omega), up_eq, upR_o (by omega)]
      have w3 : ∀ o, o ≠ 2 → o ≠ 5 → W 3 r o = Y 3 r o := fun o o2 o5 => by rw [← hW, up_eq, upR_o (by omega), up_eq, upR_o (by omega), upR_o (by omega), up_eq, upR_o (by omega)]
      have w5 : W 3 r 5 S = nI q := by rw [← hW, up_eq, upR_o (by omega), up_at, pk_us]
      have w6 : W 6 0 0 = (upR (up Y 3 r 5 S (-1)) 6 0 0 f) 6 0 0 := by rw [← hW, up3_6, up3_6]
      have w50 : W 5 0 = (upR (up Y 3 r 5 S (-1)) 6 0 0 f) 5 0 := by rw [← hW]; funext o; rw [up_eq, upR_o (by omega), up_eq, upR_o (by omega)]
      have hCW : FrC r Y W := by rw [← hW]; exact FrC_trans (FrC_trans hC2 (FrC_u3 _ _ _ _ _)) (FrC_u3 _ _ _ _ _)
      have hJ2 : TJ W (upR (upR (upR Z 10 0 1 (upd (Z 10 0 1) (46 + S * 24 + 9) (-1))) 10 0 0 h') 10 0 1 (upd (Z 10 0 1) (46 + S * 24 + 9) (nI q))) b n k' s' e' := TJ_fr w50 w6 (upR_o (by omega)) (upR_o (by omega)) a4
      obtain ⟨f3, h3, k3, s3, e3, d1, d2, d3, d4⟩ := adv_j hJ2
      rw [d1, bd1_e, bd1_e, d2, bd1_e, bd2_e, if_neg (by decide)]
      have em3 : (upR (upR (upR (upR Z 10 0 1 (upd (Z 10 0 1) (46 + S * 24 + 9) (-1))) 10 0 0 h') 10 0 1 (upd (Z 10 0 1) (46 + S * 24 + 9) (nI q))) 10 0 0 h3) 10 0 1 = upd (Z 10 0 1) (46 + S * 24 + 9) (nI q) := by rw [upR_o (by omega), upR_at]
      have hLW : FrL Z (upR (upR (upR (upR Z 10 0 1 (upd (Z 10 0 1) (46 + S * 24 + 9) (-1))) 10 0 0 h') 10 0 1 (upd (Z 10 0 1) (46 + S * 24 + 9) (nI q))) 10 0 0 h3) := FrL_trans (FrL_trans hL2 (FrL_1 (fun x hx => by rw [em2, pk_un (by omega), pk_un (by omega)]))) (FrL_0 d3)
      have hX4 : SX W r (upd (Z 10 0 1) (46 + S * 24 + 9) (nI q)) K S 3 := hX3 w4 (w3 3 (by omega) (by omega)) (w3 4 (by omega) (by omega)) w5 (Or.inr ⟨q, hq, rfl⟩)
      refine OutS_s (FrC_trans hCW (FrC_6 _ _ f3)) hLW ?_
      refine s4_j hS d4 (by rw [em3]; exact MID_6 f3 hM4) (by rw [em3]; exact SX_6 f3 hX4) (fun x hx => ?_) (by rw [em3, efl _ 12 (by omega) (by omega)]; exact h12)
      rw [em3, fld_upd_same]
      show (x == q) = (nI q == nI x)
      by_cases ex : x = q
      · subst ex; simp
      · rw [beq_eq_false_iff_ne.mpr ex, beq_eq_false_iff_ne.mpr (fun w => ex ((nI_eq (by omega) (by omega)).mp w).symm)]
    · right
      refine BadO_s hC2 hL2 ?_
      rw [c1, bd2_e, if_pos rfl, bd1_e]
      have e5 : (upR (upR (up Y 3 r 5 S (-1)) 6 0 0 f) 6 0 0 f2) 6 0 0 1 = 5 := by rw [u6]; exact c3.1
      rcases c4 with c4 | ⟨c4, c5, c6⟩
      · refine BadO_e c2 c3 (sc4_m _ e5) ?_
        rw [c4, bd2_e, if_pos rfl, bd2_e, if_pos rfl]
      · rw [c4, bd2_e, if_neg (by decide), t2, t3, pk_sub hse, pnNm_ok a4 hNp m12' hK4, bd1_e, c5, show oI none = -1 from rfl, up_eq _ 10 0 1, em2, lt_e, upR_at, pk_us, if_pos rfl]
        have hJ5 : TJ (upR (up Y 3 r 5 S (-1)) 6 0 0 f) (upR (upR (upR Z 10 0 1 (upd (Z 10 0 1) (46 + S * 24 + 9) (-1))) 10 0 0 h') 10 0 1 (upd (upd (Z 10 0 1) (46 + S * 24 + 9) (-1)) (46 + S * 24 + 9) (-1))) b n k' s' e' := TJ_fr rfl rfl (upR_o (by omega)) (upR_o (by omega)) a4
        obtain ⟨f3, h3, d1, d2, d3, d4⟩ := fail_j hJ5 (c := 3) (by omega) (by omega)
        have ef : upR (upR (up Y 3 r 5 S (-1)) 6 0 0 f) 6 0 0 f3 = upR (upR (up Y 3 r 5 S (-1)) 6 0 0 f) 6 0 0 f2 := by
          have c2' := c1
          unfold X10_findName at c2'
          obtain ⟨e1, e2, e3, -⟩ := TJ_k a4
          rcases short_j a4 with ⟨k1, _, _⟩ | ⟨_, _, _, _, _, m1', _⟩
          · subst k1
            rw [e1, if_pos (show nI 1 = 1 from rfl), e2, e3, idxC_ok a4 hNp, bd1_e, c5, if_pos (show oI none = -1 from rfl), show X10_fail (upR (up Y 3 r 5 S (-1)) 6 0 0 f) 3 = _ from d1, bd1_e] at c2'
            exact (Prod.mk.inj (Option.some.inj c2')).2
          · rw [c4] at m1'
            exact absurd (Prod.mk.inj (Option.some.inj m1')).1 (by decide)
        rw [show M12_wrong _ 3 = _ from d2, bd2_e, gd_t (by decide), bd2_e, if_pos rfl]
        obtain ⟨Y2, z1, z2, z3⟩ := sc4_m (r := r) (nI S) e5
        refine ⟨Y2, _, z1, rfl, BP_8 z3 (by rw [← ef]; exact BP_of d4), FrC_trans (FrC_6 _ _ _) z2, FrL_trans (FrL_1 (fun x hx => ?_)) (FrL_0 d3)⟩
        rw [em2, pk_un (by omega)]
  · rw [a1, a2, bd2_e, bd2_e, if_pos rfl, if_pos rfl, bd1_e, bd2_e, if_neg (by decide)]
    refine OutS_s hC hL ?_
    refine s4_j hS hJ (by rw [em]; exact hM1) ?_ (fun x hx => ?_) (by rw [em, efl _ 12 (by omega) (by omega)]; exact h12)
    · rw [em]
      refine hX3 ?_ ?_ ?_ ?_ (Or.inl rfl)
      · funext g o; rw [up_eq, upR_o (by omega)]
      · rw [up_eq, upR_o (by omega)]
      · rw [up_eq, upR_o (by omega)]
      · rw [up_at, pk_us]
    · rw [em, fld_upd_same]
      show false = ((-1 : Int32) == nI x)
      rw [beq_eq_false_iff_ne.mpr (m1_ne hx)]
theorem s2_j {Y Z : Mem} {b : Nat → Nat} {n k s e r K S : Nat} (hS : S < 14) (h : TJ Y Z b n k s e) (hM : MID Y r (Z 10 0 1) K S ff false false 0 ff) (hX : SX Y r (Z 10 0 1) K S 1) (h12 : fld (Z 10 0 1) S 12 = 0) : OutS r b n K S Y Z (sc2 r (nI S) Y) (sm2 (nI (46 + S * 24)) Z) := by
  have w8 : nI (46 + S * 24) + 8 = nI (46 + S * 24 + 8) := nI_add _ 8
  unfold sc2 sm2
  rw [w8, ix_n (show S < 2 ^ 31 by omega)]
  rcases num_j (w := 46 + S * 24 + 8) (lo := 0) (hi := 9) h (by omega) (by omega) (by omega) with ⟨v, f, h', k', s', e', v1, v2, a1, a2, a3, a4⟩ | ⟨f, h', a1, a2, a3, a4⟩
  · rw [show X10_expectNumber Y 0 9 = _ from a1, show M12_parseRanged Z (nI (46 + S * 24 + 8)) 0 9 = _ from a2, bd2_e, bd2_e, if_neg (by decide), lt_e]
    have hJ : TJ (up (upR Y 6 0 0 f) 3 r 4 S (nI v)) (upR (upR Z 10 0 1 (upd (Z 10 0 1) (46 + S * 24 + 8) (nI v))) 10 0 0 h') b n k' s' e' := TJ_fr (by funext o; rw [up_eq, upR_o (by omega)]) (up3_6 _ _ _ _ _) rfl rfl a4
    have em : (upR (upR Z 10 0 1 (upd (Z 10 0 1) (46 + S * 24 + 8) (nI v))) 10 0 0 h') 10 0 1 = upd (Z 10 0 1) (46 + S * 24 + 8) (nI v) := by rw [upR_o (by omega), upR_at]
    have efl : ∀ w, w ≠ 8 → w < 24 → fld (upd (Z 10 0 1) (46 + S * 24 + 8) (nI v)) S w = fld (Z 10 0 1) S w := fun w w1 w2 => fld_upd_o _ _ (by omega) w2 (by omega)
    have hM1 : MID (up (upR Y 6 0 0 f) 3 r 4 S (nI v)) r (upd (Z 10 0 1) (46 + S * 24 + 8) (nI v)) K S ff false false 0 ff := MID_own _ hS (by omega) (MID_m (fun x hx => pk_un (by omega)) (MID_6 f hM))
    have hX1 : SX (up (upR Y 6 0 0 f) 3 r 4 S (nI v)) r (upd (Z 10 0 1) (46 + S * 24 + 8) (nI v)) K S 1 := SX_c (fun o _ => by rw [up_eq, upR_o (by omega)]) (fun o o1 o2 _ => by rw [up_eq, upR_o (by omega)]) (SX_m (fun w hw => efl w (by omega) (by omega)) (SX_6 f hX))
    have hX2 : SX (up (upR Y 6 0 0 f) 3 r 4 S (nI v)) r (upd (Z 10 0 1) (46 + S * 24 + 8) (nI v)) K S 2 := ⟨hX1.1, hX1.2.1, fun _ => hX1.2.2.1 (by omega), fun _ => by rw [up_at, pk_us, fld_upd_same], fun q => by omega⟩
    refine OutS_s (FrC_trans (FrC_6 _ _ f) (FrC_u3 _ _ 4 S (nI v))) (fr_num (v := nI v) (show 46 + S * 24 + 8 < 382 by omega) a3) ?_
    exact s3_j hS hJ (by rw [em]; exact hM1) (by rw [em]; exact hX2) (by rw [em, efl 12 (by omega) (by omega)]; exact h12)
  · right
    rw [show X10_expectNumber Y 0 9 = _ from a1, show M12_parseRanged Z (nI (46 + S * 24 + 8)) 0 9 = _ from a2, bd2_e, bd2_e, if_pos rfl, lt_e]
    have e5 : (upR Y 6 0 0 f) 6 0 0 1 = 5 := by rw [u6]; exact a4.1
    exact BadO_e a3 a4 (EM_s (FrC_u3 _ _ _ _ _) (up3_6 _ _ _ _ _) (sc3_m hS (up3_5 e5 _ _ _ _))) rfl
theorem s1_j {Y Z : Mem} {b : Nat → Nat} {n k s e r K S : Nat} (hS : S < 14) (h : TJ Y Z b n k s e) (hM : MID Y r (Z 10 0 1) K S ff false false 0 ff) (hX : SX Y r (Z 10 0 1) K S 0) (h12 : fld (Z 10 0 1) S 12 = 0) : OutS r b n K S Y Z (sc1 r (nI S) Y) (sm1 (nI (46 + S * 24)) Z) := by
  have w8 : nI (46 + S * 24) + 7 = nI (46 + S * 24 + 7) := nI_add _ 7
  unfold sc1 sm1
  rw [w8, ix_n (show S < 2 ^ 31 by omega)]
  rcases num_j (w := 46 + S * 24 + 7) (lo := 1) (hi := 60) h (by omega) (by omega) (by omega) with ⟨v, f, h', k', s', e', v1, v2, a1, a2, a3, a4⟩ | ⟨f, h', a1, a2, a3, a4⟩
  · rw [show X10_expectNumber Y 1 60 = _ from a1, show M12_parseRanged Z (nI (46 + S * 24 + 7)) 1 60 = _ from a2, bd2_e, bd2_e, if_neg (by decide), gdi hS, lt_e]
    have hJ : TJ (up (upR Y 6 0 0 f) 3 r 3 S (nI v)) (upR (upR Z 10 0 1 (upd (Z 10 0 1) (46 + S * 24 + 7) (nI v))) 10 0 0 h') b n k' s' e' := TJ_fr (by funext o; rw [up_eq, upR_o (by omega)]) (up3_6 _ _ _ _ _) rfl rfl a4
    have em : (upR (upR Z 10 0 1 (upd (Z 10 0 1) (46 + S * 24 + 7) (nI v))) 10 0 0 h') 10 0 1 = upd (Z 10 0 1) (46 + S * 24 + 7) (nI v) := by rw [upR_o (by omega), upR_at]
    have efl : ∀ w, w ≠ 7 → w < 24 → fld (upd (Z 10 0 1) (46 + S * 24 + 7) (nI v)) S w = fld (Z 10 0 1) S w := fun w w1 w2 => fld_upd_o _ _ (by omega) w2 (by omega)
    have hM1 : MID (up (upR Y 6 0 0 f) 3 r 3 S (nI v)) r (upd (Z 10 0 1) (46 + S * 24 + 7) (nI v)) K S ff false false 0 ff := MID_own _ hS (by omega) (MID_m (fun x hx => pk_un (by omega)) (MID_6 f hM))
    have hX1 : SX (up (upR Y 6 0 0 f) 3 r 3 S (nI v)) r (upd (Z 10 0 1) (46 + S * 24 + 7) (nI v)) K S 0 := SX_c (fun o _ => by rw [up_eq, upR_o (by omega)]) (fun o o1 o2 _ => by omega) (SX_m (fun w hw => efl w (by omega) (by omega)) (SX_6 f hX))
    have hX2 : SX (up (upR Y 6 0 0 f) 3 r 3 S (nI v)) r (upd (Z 10 0 1) (46 + S * 24 + 7) (nI v)) K S 1 := ⟨hX1.1, hX1.2.1, fun _ => ⟨⟨v, fld_upd_same _ _ _ _, v1, v2⟩, by rw [up_at, pk_us, fld_upd_same]⟩, fun q => by omega, fun q => by omega⟩
    refine OutS_s (FrC_trans (FrC_6 _ _ f) (FrC_u3 _ _ 3 S (nI v))) (fr_num (v := nI v) (show 46 + S * 24 + 7 < 382 by omega) a3) ?_
    exact s2_j hS hJ (by rw [em]; exact hM1) (by rw [em]; exact hX2) (by rw [em, efl 12 (by omega) (by omega)]; exact h12)
  · right
    rw [show X10_expectNumber Y 1 60 = _ from a1, show M12_parseRanged Z (nI (46 + S * 24 + 7)) 1 60 = _ from a2, bd2_e, bd2_e, if_pos rfl, gdi hS, lt_e]
    have e5 : (upR Y 6 0 0 f) 6 0 0 1 = 5 := by rw [u6]; exact a4.1
    exact BadO_e a3 a4 (EM_s (FrC_u3 _ _ _ _ _) (up3_6 _ _ _ _ _) (sc2_m hS (up3_5 e5 _ _ _ _))) rfl
theorem stz_b {S : Nat} (hS : S < 14) : ∀ d i f Z a, i + d = 24 → d < f → ∃ a', M12_parseStep_b74 f (upR Z 10 0 1 a) (nI i) (nI (46 + S * 24)) = (bd1 (M12_putName (upR Z 10 0 1 a') (nI (46 + S * 24))) fun Y18 => sm1 (nI (46 + S * 24)) Y18) ∧ ∀ x, a' x = if 46 + S * 24 + i ≤ x ∧ x < 46 + S * 24 + 24 then 0 else a x := by
  intro d
  induction d with
  | zero =>
    intro i f Z a hi f_h
    obtain ⟨f, rfl⟩ := fuel_s f_h
    refine ⟨a, ?_, fun x => by rw [if_neg (by omega)]⟩
    rw [M12_parseStep_b74.eq_2, if_pos (show (24 : Int32) ≤ nI i from (nI_leI (a := 24) (by omega) (by omega)).mpr (by omega))]
    rfl
  | succ d ih =>
    intro i f Z a hi f_h
    obtain ⟨f, rfl⟩ := fuel_s f_h
    rw [M12_parseStep_b74.eq_2, if_neg (show ¬ (24 : Int32) ≤ nI i from by show ¬ nI 24 ≤ nI i; rw [nI_leI (by omega) (by omega)]; omega), nI_add, gdi (show 46 + S * 24 + i < 4202 by omega), ix_n (by omega), up_upR, lt_e, nI_1]
    obtain ⟨a', q1, q2⟩ := ih (i + 1) f Z (upd a (46 + S * 24 + i) 0) (by omega) (by omega)
    refine ⟨a', q1, fun x => ?_⟩
    rw [q2 x]
    by_cases ex : x = 46 + S * 24 + i
    · subst ex; rw [if_neg (by omega), if_pos (by omega), pk_us]
    · rw [pk_un ex]
      by_cases w : 46 + S * 24 + (i + 1) ≤ x ∧ x < 46 + S * 24 + 24
      · rw [if_pos w, if_pos (by omega)]
      · rw [if_neg w, if_neg (by omega)]
theorem step_j {Y Z : Mem} {b : Nat → Nat} {n k s e r K S : Nat} (h : TJ Y Z b n k s e) (hM : MID Y r (Z 10 0 1) K S ff false false 0 ff) (hw : isW b k s e 3 = true) : (S < 14 ∧ GoodS r b n K S Y Z (X7_readStep Y r) (M12_parseStep Z)) ∨ BadO r Y Z (X7_readStep Y r) (M12_parseStep Z) := by
  obtain ⟨⟨hK4, hS14, m12, m13⟩, ⟨hN0, hN1⟩, -⟩ := id hM
  have g13 : inb 13 4202 = true := inb_n (j := 13) (by omega) (by omega)
  have i13 : ix 13 = 13 := ix_n (j := 13) (by omega)
  have k4 : nI S = 14 ↔ S = 14 := nI_lit (c := 14) (by omega) (by omega)
  have hc : X7_readStep Y r = bd1 (X4_isFull Y (2*r+1)) fun r6 => if r6 = 0 then (bd1 (X10_advance Y) fun Y11 => bd1 (X10_expectNewName Y11 (2*r+1)) fun Y14 => sc1 r (nI S) Y14) else (bd1 (X10_fail Y 5) fun Y55 => some Y55) := by
    unfold X7_readStep
    rw [lt_e, hN1.2.1, (word_ok h.1 (w := 3) (by omega) (by omega)).1, hw, bd1_e, bI_t, if_neg (by decide)]
    rfl
  rw [hc]
  unfold X4_isFull M12_parseStep
  rw [hN1.2.1, gd_t g13, i13, m13]
  by_cases hS : S < 14
  · rw [if_pos (show nI S < Int32.ofNat (ncap (2 * r + 1)) from by rw [ncap_s]; exact (nI_ltI (by omega) (by omega)).mpr hS), bd1_e, if_pos rfl, if_neg (fun w => by have := k4.mp w; omega)]
    obtain ⟨f, h', k1, s1, e1, a1, a2, a3, a4⟩ := adv_j h
    rw [a1, bd1_e, a2, bd1_e]
    have em : (upR Z 10 0 0 h') 10 0 1 = Z 10 0 1 := upR_o (by omega)
    have hM1 : MID (upR Y 6 0 0 f) r (Z 10 0 1) K S ff false false 0 ff := MID_6 f hM
    have hN2 : NN (upR Y 6 0 0 f) (2 * r + 1) ((upR Z 10 0 0 h') 10 0 1) 46 24 S := by rw [em]; exact hM1.2.1.2
    obtain ⟨-, -, -, -, t2, t3, hse, -, -, -⟩ := TJ_k a4
    have hC := FrC_6 r Y f
    have hL := FrL_0 a3
    have at13 : (46 : Int32) + (upR Z 10 0 0 h') 10 0 1 13 * 24 = nI (46 + S * 24) := by
      rw [em, m13]
      show nI 46 + nI S * nI 24 = _
      rw [pk_mul, nI_add]
    obtain ⟨a0, y1, y2⟩ := stz_b hS 24 0 FU (upR Z 10 0 0 h') (Z 10 0 1) (by omega) (by have := FU_big; omega)
    have eself : upR (upR Z 10 0 0 h') 10 0 1 (Z 10 0 1) = upR Z 10 0 0 h' := by
      have := upR_self (upR Z 10 0 0 h') 10 0 1
      rw [em] at this
      exact this
    rw [eself] at y1
    have z0 : (upR (upR Z 10 0 0 h') 10 0 1 a0) 10 0 0 = (upR Z 10 0 0 h') 10 0 0 := upR_o (by omega)
    have z3 : (upR (upR Z 10 0 0 h') 10 0 1 a0) 10 0 3 = (upR Z 10 0 0 h') 10 0 3 := upR_o (by omega)
    have z1 : (upR (upR Z 10 0 0 h') 10 0 1 a0) 10 0 1 = a0 := upR_at _ _ _ _ _
    rcases new_j (at_ := 46 + S * 24) a4 hN2 (by rw [ncap_s]; exact hS) (by omega) z0 z3 with ⟨a, f2, h2, k2, s2, e2, q1, q2, q3, q4, q5, q6, q7, q8, q9, q10⟩ | ⟨f2, h2, c1, c2, c3, c4⟩
    · rw [z1] at q8 q10
      rw [q7, bd1_e, q4, bd2_e, if_neg (by decide), t2, t3, pk_sub hse, stNm_ok a4 hN2 (by rw [em]; exact m13) hS14, bd1_e, q5, if_pos (show oI none = -1 from rfl), at13, lt_e, show M12_parseStep_b74 FU (upR Z 10 0 0 h') 0 (nI (46 + S * 24)) = _ from y1, q8, bd1_e]
      have em2 : (upR (upR (upR (upR Z 10 0 0 h') 10 0 1 a0) 10 0 1 (nmW a0 (46 + S * 24) b s1 (e1 - s1))) 10 0 0 h2) 10 0 1 = nmW a0 (46 + S * 24) b s1 (e1 - s1) := by rw [upR_o (by omega), upR_at]
      have hlo : ∀ x, x < 46 + S * 24 → nmW a0 (46 + S * 24) b s1 (e1 - s1) x = Z 10 0 1 x := fun x hx => by
        rw [nmW_o (Or.inl hx), y2 x, if_neg (by omega)]
      have hmid : ∀ w, 7 ≤ w → w < 24 → fld (nmW a0 (46 + S * 24) b s1 (e1 - s1)) S w = 0 := fun w w1 w2 => by
        unfold fld
        rw [nmW_o (Or.inr (by omega)), y2, if_pos (by omega)]
      have hM2 : MID (upR (upR (upR (upR Y 6 0 0 f) 4 (2 * r + 1) 2 (upd ((upR Y 6 0 0 f) 4 (2 * r + 1) 2) S (nI (e1 - s1)))) 4 (2 * r + 1) (10 + S) a) 6 0 0 f2) r (nmW a0 (46 + S * 24) b s1 (e1 - s1)) K S ff false false 0 ff := by
        refine MID_6 f2 (MID_m (fun x hx => hlo x hx) (MID_c (Y := upR Y 6 0 0 f) ?_ ?_ ?_ ?_ ?_ ?_ ?_ ?_ ?_ hM1))
        · intro x _; rw [upR_o (by omega), upR_o (by omega)]
        · intro x _; rw [upR_o (by omega), upR_o (by omega)]
        · rw [upR_o (by omega), upR_o (by omega)]
        · intro s hs; rw [upR_o (by omega), upR_o (by omega), upR_o (by omega), upR_o (by omega), upR_o (by omega), upR_o (by omega), upR_o (by omega), upR_o (by omega)]; exact ⟨rfl, rfl, rfl, rfl⟩
        · rw [upR_o (by omega), upR_o (by omega)]
        · rw [upR_o (by omega), upR_o (by omega)]
        · rw [upR_o (by omega), upR_o (by omega)]
        · refine ⟨by rw [upR_o (by omega), upR_o (by omega)], fun q hq => ⟨by rw [upR_o (by omega), upR_o (by omega)], by rw [upR_o (by omega), upR_o (by omega)]⟩⟩
        · refine ⟨by rw [upR_o (by omega), upR_o (by omega)], fun q hq => ⟨by rw [upR_o (by omega), upR_at, pk_un (by omega)], by rw [upR_o (by omega), upR_o (by omega)]⟩⟩
      have hnm := new_nameP (Y := upR Y 6 0 0 f) (g := 2 * r + 1) (c := S) (at_ := 46 + S * 24) (f := f2) (m := a0) q1 q2 (fun j j1 j2 => q3 j j1 (by omega)) q6
      have hX : SX (upR (upR (upR (upR Y 6 0 0 f) 4 (2 * r + 1) 2 (upd ((upR Y 6 0 0 f) 4 (2 * r + 1) 2) S (nI (e1 - s1)))) 4 (2 * r + 1) (10 + S) a) 6 0 0 f2) r (nmW a0 (46 + S * 24) b s1 (e1 - s1)) K S 0 := ⟨hnm, fun w w1 w2 => hmid w (by omega) w2, fun q => by omega, fun q => by omega, fun q => by omega⟩
      have hC2 : FrC r Y (upR (upR (upR (upR Y 6 0 0 f) 4 (2 * r + 1) 2 (upd ((upR Y 6 0 0 f) 4 (2 * r + 1) 2) S (nI (e1 - s1)))) 4 (2 * r + 1) (10 + S) a) 6 0 0 f2) := FrC_trans (FrC_trans (FrC_trans hC (FrC_4 _ _ _ (Or.inr rfl))) (FrC_4 _ _ _ (Or.inr rfl))) (FrC_6 _ _ _)
      have hL2 : FrL Z (upR (upR (upR (upR Z 10 0 0 h') 10 0 1 a0) 10 0 1 (nmW a0 (46 + S * 24) b s1 (e1 - s1))) 10 0 0 h2) := by
        refine FrL_trans (FrL_trans (FrL_trans hL (FrL_1 (fun x hx => ?_))) (FrL_1 (fun x hx => ?_))) (FrL_0 (fun x x1 x2 x3 x4 x5 x6 => ?_))
        · rw [y2, if_neg (by omega), em]
        · rw [nmW_o (by omega), z1]
        · rw [upR_o (by omega), z0]; exact q9 x x1 x2 x3 x4 x5 x6
      rcases s1_j hS q10 (by rw [em2]; exact hM2) (by rw [em2]; exact hX) (by rw [em2]; exact hmid 12 (by omega) (by omega)) with w | w
      · left
        obtain ⟨Y', Z', k', s', e', b1, b2, b3, b4, b5, b6⟩ := w
        exact ⟨hS, Y', Z', k', s', e', b1, b2, b3, b4, FrC_trans hC2 b5, FrL_trans hL2 b6⟩
      · exact Or.inr (BadO_s hC2 hL2 w)
    · right
      refine BadO_s hC hL ?_
      rw [c1, bd1_e]
      have e5 : (upR (upR Y 6 0 0 f) 6 0 0 f2) 6 0 0 1 = 5 := by rw [u6]; exact c3.1
      refine BadO_e c2 c3 (sc1_m hS e5) ?_
      rcases c4 with c4 | ⟨i, hi, c4, c5, c6⟩
      · rw [c4, bd2_e, if_pos rfl]
      · rw [c4, bd2_e, if_neg (by decide), t2, t3, pk_sub hse, stNm_ok a4 hN2 (by rw [em]; exact m13) hS14, bd1_e, c5, if_neg (oI_some (by omega)), c6, bd2_e, gd_t (by decide)]
  · right
    obtain ⟨f, h', a1, a2, a3, a4⟩ := fail_j h (c := 5) (by omega) (by omega)
    rw [if_neg (show ¬ nI S < Int32.ofNat (ncap (2 * r + 1)) from by rw [ncap_s]; exact fun w => hS ((nI_ltI (a := S) (b := 14) (by omega) (by omega)).mp w)), bd1_e, if_neg (by decide), if_pos (k4.mpr (by omega)), show X10_fail Y 5 = _ from a1, bd1_e, show M12_wrong Z 5 = _ from a2, bd2_e, gd_t (by decide)]
    exact BadO_e a3 a4 ⟨_, rfl, FrC_refl _ _, rfl⟩ rfl
end
