section
/-! A PAN TYPE of a setup -/
theorem new_nameP {Y : Mem} {g c at_ s len : Nat} {a f m : Nat → Int32} {b : Nat → Nat} (h1 : 1 ≤ len) (h6 : len ≤ 6) (hb : ∀ j, s ≤ j → j < s + len → 97 ≤ b j ∧ b j ≤ 122) (ha : ∀ j, j < len → a j = nI (b (s + j))) : nameP (upR (upR (upR Y 4 g 2 (upd (Y 4 g 2) c (nI len))) 4 g (10 + c) a) 6 0 0 f) g (nmW m at_ b s len) at_ c := by
  refine ⟨len, h1, h6, ?_, ?_, fun k hk => ?_⟩
  · rw [upR_o (by omega), upR_o (by omega), upR_at, pk_us]
  · unfold nmW; rw [if_pos rfl]
  · have e : nmW m at_ b s len (at_ + 1 + k) = nI (b (s + k)) := by
      unfold nmW
      rw [if_neg (by omega), if_pos (by omega), show s + (at_ + 1 + k - (at_ + 1)) = s + k by omega]
    rw [e, upR_o (by omega), upR_at, ha k hk]
    have := hb (s + k) (by omega) (by omega)
    exact ⟨rfl, b (s + k), this.1, this.2, rfl⟩
theorem nmW_o {m : Nat → Int32} {at_ s len x : Nat} {b : Nat → Nat} (h : x < at_ ∨ at_ + 1 + len ≤ x) : nmW m at_ b s len x = m x := by
  unfold nmW
  rw [if_neg (by omega), if_neg (by omega)]
/-- before the first step: only the pan types read count -/
theorem MID_mp {Y : Mem} {r K : Nat} {m m' : Nat → Int32} (h : ∀ x, x < 14 + K * 8 → m' x = m x) (q : MID Y r m K 0 ff false false 0 ff) : MID Y r m' K 0 ff false false 0 ff := by
  obtain ⟨⟨a1, a2, a3, a4⟩, ⟨b1, b2⟩, c1, d1, e1, f1, g1, h1, i1, j1, k1, l1⟩ := q
  have z : ∀ {a a' b : Bool} {k : Nat}, ((decide (k < 0) && a) || b) = ((decide (k < 0) && a') || b) := fun {a a' b k} => by
    rw [decide_eq_false (show ¬ k < 0 by omega)]; simp
  refine ⟨⟨a1, a2, by rw [h 12 (by omega)]; exact a3, by rw [h 13 (by omega)]; exact a4⟩, ⟨NN_cg (fun q hq x x1 x2 => h x (by omega)) b1, ⟨b2.1, b2.2.1, fun q hq => by omega⟩⟩, by rw [h 0 (by omega), h 1 (by omega), h 2 (by omega), h 3 (by omega)]; exact c1, fun x x1 x2 => by rw [h x (by omega)]; exact d1 x x1 x2, fun q hq => by rw [h _ (by omega)]; exact e1 q hq, fun s hs => by omega, fun q hq k hk => by rw [g1 q hq k hk]; exact z, fun k hk => ⟨by rw [(h1 k hk).1]; exact z, by rw [(h1 k hk).2]; exact z⟩, fun s hs => by omega, fun s hs k hk => by rw [j1 s hs k hk]; exact z, k1, l1⟩
theorem MID_pan {Y : Mem} {r K : Nat} {m : Nat → Int32} (hK : K < 4) (q : MID Y r m K 0 ff false false 0 ff) (hnm : nameP Y (2 * r) m (14 + K * 8) K) (hcp : Y 3 r 1 K = m (14 + K * 8 + 7)) : MID (up Y 4 (2 * r) 0 2 (nI (K + 1))) r (upd m 12 (nI (K + 1))) (K + 1) 0 ff false false 0 ff := by
  obtain ⟨⟨a1, a2, a3, a4⟩, ⟨b1, b2⟩, c1, d1, e1, f1, g1, h1, i1, j1, k1, l1⟩ := q
  have e3 : (up Y 4 (2 * r) 0 2 (nI (K + 1))) 3 = Y 3 := by funext g o; rw [up_eq, upR_o (by omega)]
  have e4 : ∀ g o, ¬ (g = 2 * r ∧ o = 0) → (up Y 4 (2 * r) 0 2 (nI (K + 1))) 4 g o = Y 4 g o := fun g o h => by rw [up_eq, upR_o (by omega)]
  have z : ∀ {a a' b : Bool} {k : Nat}, ((decide (k < 0) && a) || b) = ((decide (k < 0) && a') || b) := fun {a a' b k} => by
    rw [decide_eq_false (show ¬ k < 0 by omega)]; simp
  refine ⟨⟨by omega, a2, pk_us, by rw [pk_un (by omega)]; exact a4⟩, ⟨⟨by rw [ncap_p]; omega, by rw [up_at, pk_us], fun q hq => ?_⟩, ⟨b2.1, by rw [e4 _ _ (by omega)]; exact b2.2.1, fun q hq => by omega⟩⟩, by rw [e3, pk_un (by omega), pk_un (by omega), pk_un (by omega), pk_un (by omega)]; exact c1, fun x x1 x2 => by rw [pk_un (by omega)]; exact d1 x x1 x2, fun q hq => ?_, fun s hs => by omega, fun q hq k hk => by rw [e3, g1 q hq k hk]; exact z, fun k hk => ⟨by rw [e3, (h1 k hk).1]; exact z, by rw [e3, (h1 k hk).2]; exact z⟩, fun s hs => by omega, fun s hs k hk => by rw [e3, j1 s hs k hk]; exact z, by rw [e3]; exact k1, by rw [e3]; exact l1⟩
  · have hp : nameP Y (2 * r) m (14 + q * 8) q := by
      by_cases e : q = K
      · subst e; exact hnm
      · exact b1.2.2 q (by omega)
    have hp2 := nameP_cg (m' := upd m 12 (nI (K + 1))) (fun x x1 x2 => pk_un (by omega)) hp
    unfold nameP at hp2 ⊢
    rw [e4 _ 2 (by omega), e4 _ (10 + q) (by omega)]; exact hp2
  · rw [e3, pk_un (by omega)]
    by_cases e : q = K
    · subst e; exact hcp
    · exact e1 q (by omega)
noncomputable def pc2 (r : Nat) (Y : Mem) : Option Mem := bd1 (X10_expectSemicolon Y) fun Y20 => lt_ (up Y20 4 (2*r) 0 2 ((Y20 4 (2*r) 0 2) + 1)) fun Y21 => some Y21
noncomputable def pc1 (r : Nat) (v1 : Int32) (Y : Mem) : Option Mem := bd2 (X10_expectNumber Y 1 5) fun r12 Y14 => gd (inb v1 4) <| lt_ (up Y14 3 r 1 (ix v1) r12) fun Y16 => pc2 r Y16
noncomputable def pm2 (Z : Mem) : Option (Int32 × Mem) := bd2 (M12_semicolon Z) fun r22 Y24 => if r22 = 0 then some (0, Y24) else lt_ (up Y24 10 0 1 (ix 12) ((Y24 10 0 1 (ix 12)) + 1)) fun Y26 => some (1, Y26)
noncomputable def pm1 (v : Int32) (Z : Mem) : Option (Int32 × Mem) := bd2 (M12_parseRanged Z (v + 7) 1 5) fun r18 Y20 => if r18 = 0 then some (0, Y20) else pm2 Y20
theorem pc2_m {r : Nat} {Y : Mem} (h : Y 6 0 0 1 = 5) : EM r Y (pc2 r Y) := by
  unfold pc2; rw [e_semi h, bd1_e, lt_e]; exact ⟨_, rfl, FrC_u4 _ _ _ _ (Or.inl rfl), up4_6 _ _ _ _ _⟩
theorem pc1_m {r K : Nat} {Y : Mem} (hK : K < 4) (h : Y 6 0 0 1 = 5) : EM r Y (pc1 r (nI K) Y) := by
  unfold pc1; rw [e_num h, bd2_e, gdi hK, lt_e]; exact EM_s (FrC_u3 _ _ _ _ _) (up3_6 _ _ _ _ _) (pc2_m (up3_5 h _ _ _ _))
def GoodP (r : Nat) (b : Nat → Nat) (n K : Nat) (Y Z : Mem) (c : Option Mem) (p : Option (Int32 × Mem)) : Prop := ∃ Y' Z' k s e, c = some Y' ∧ p = some (1, Z') ∧ TJ Y' Z' b n k s e ∧ MID Y' r (Z' 10 0 1) (K + 1) 0 ff false false 0 ff ∧ FrC r Y Y' ∧ FrL Z Z'
theorem GoodP_s {r n K : Nat} {b : Nat → Nat} {Y Z Y1 Z1 : Mem} {c : Option Mem} {p : Option (Int32 × Mem)} (h1 : FrC r Y Y1) (h2 : FrL Z Z1) (h : GoodP r b n K Y1 Z1 c p) : GoodP r b n K Y Z c p := by
  obtain ⟨Y', Z', k, s, e, a1, a2, a3, a4, a5, a6⟩ := h
  exact ⟨Y', Z', k, s, e, a1, a2, a3, a4, FrC_trans h1 a5, FrL_trans h2 a6⟩
theorem p2_j {Y Z : Mem} {b : Nat → Nat} {n k s e r K : Nat} (hK : K < 4) (h : TJ Y Z b n k s e) (hM : MID Y r (Z 10 0 1) K 0 ff false false 0 ff) (hnm : nameP Y (2 * r) (Z 10 0 1) (14 + K * 8) K) (hcp : Y 3 r 1 K = Z 10 0 1 (14 + K * 8 + 7)) : GoodP r b n K Y Z (pc2 r Y) (pm2 Z) ∨ BadO r Y Z (pc2 r Y) (pm2 Z) := by
  have i12 : ix 12 = 12 := ix_n (j := 12) (by omega)
  unfold pc2 pm2
  rcases semi_j h with ⟨f, h', k', s', e', a1, a2, a3, a4⟩ | ⟨f, h', a1, a2, a3, a4⟩
  · left
    have ec : (upR Y 6 0 0 f) 4 (2 * r) 0 2 = nI K := by rw [upR_o (by omega)]; exact hM.2.1.1.2.1
    have em : (upR Z 10 0 0 h') 10 0 1 = Z 10 0 1 := upR_o (by omega)
    have em12 : (upR Z 10 0 0 h') 10 0 1 12 = nI K := by rw [em]; exact hM.1.2.2.1
    refine ⟨up (upR Y 6 0 0 f) 4 (2 * r) 0 2 (nI (K + 1)), up (upR Z 10 0 0 h') 10 0 1 12 (nI (K + 1)), k', s', e', ?_, ?_, TJ_fr (by funext o; rw [up_eq, upR_o (by omega)]) (up4_6 _ _ _ _ _) (by rw [up_eq, upR_o (by omega)]) (by rw [up_eq, upR_o (by omega)]) a4, ?_, FrC_trans (FrC_6 _ _ _) (FrC_u4 _ _ _ _ (Or.inl rfl)), FrL_trans (FrL_0 a3) (by rw [up_eq]; exact FrL_1 (fun x hx => pk_un (by omega)))⟩
    · rw [a1, bd1_e, ec, nI_1, lt_e]
    · rw [a2, bd2_e, if_neg (by decide), i12, em12, nI_1, lt_e]
    · rw [up_at, em]
      refine MID_pan hK (MID_6 f hM) ?_ ?_
      · unfold nameP at hnm ⊢; rw [u6o _ _ (by omega)]; exact hnm
      · rw [u6o _ _ (by omega)]; exact hcp
  · right
    refine BadO_e a3 a4 ?_ (by rw [a2, bd2_e, if_pos rfl])
    rw [a1, bd1_e, lt_e]
    exact ⟨_, rfl, FrC_u4 _ _ _ _ (Or.inl rfl), up4_6 _ _ _ _ _⟩
theorem p1_j {Y Z : Mem} {b : Nat → Nat} {n k s e r K : Nat} (hK : K < 4) (h : TJ Y Z b n k s e) (hM : MID Y r (Z 10 0 1) K 0 ff false false 0 ff) (hnm : nameP Y (2 * r) (Z 10 0 1) (14 + K * 8) K) : GoodP r b n K Y Z (pc1 r (nI K) Y) (pm1 (nI (14 + K * 8)) Z) ∨ BadO r Y Z (pc1 r (nI K) Y) (pm1 (nI (14 + K * 8)) Z) := by
  unfold pc1 pm1
  have e7 : nI (14 + K * 8) + 7 = nI (14 + K * 8 + 7) := nI_add _ 7
  rw [e7]
  rcases num_j (w := 14 + K * 8 + 7) (lo := 1) (hi := 5) h (by omega) (by omega) (by omega) with ⟨v, f, h', k', s', e', v1, v2, a1, a2, a3, a4⟩ | ⟨f, h', a1, a2, a3, a4⟩
  · rw [show X10_expectNumber Y 1 5 = _ from a1, show M12_parseRanged Z (nI (14 + K * 8 + 7)) 1 5 = _ from a2, bd2_e, bd2_e, if_neg (by decide), gdi hK, ix_n (by omega), lt_e]
    have hJ : TJ (up (upR Y 6 0 0 f) 3 r 1 K (nI v)) (upR (upR Z 10 0 1 (upd (Z 10 0 1) (14 + K * 8 + 7) (nI v))) 10 0 0 h') b n k' s' e' := TJ_fr (by funext o; rw [up_eq, upR_o (by omega)]) (up3_6 _ _ _ _ _) rfl rfl a4
    have em : (upR (upR Z 10 0 1 (upd (Z 10 0 1) (14 + K * 8 + 7) (nI v))) 10 0 0 h') 10 0 1 = upd (Z 10 0 1) (14 + K * 8 + 7) (nI v) := by rw [upR_o (by omega), upR_at]
    have e4 : (up (upR Y 6 0 0 f) 3 r 1 K (nI v)) 4 = Y 4 := by funext g o; rw [up_eq, upR_o (by omega), upR_o (by omega)]
    have e3 : ∀ o, o ≠ 1 → (up (upR Y 6 0 0 f) 3 r 1 K (nI v)) 3 r o = Y 3 r o := fun o ho => by rw [up_eq, upR_o (by omega), upR_o (by omega)]
    have hM' : MID (up (upR Y 6 0 0 f) 3 r 1 K (nI v)) r (upd (Z 10 0 1) (14 + K * 8 + 7) (nI v)) K 0 ff false false 0 ff := by
      refine MID_c (Y := Y) (fun x _ => by rw [e3 0 (by omega)]) (fun q hq => by rw [up_at, pk_un (by omega), upR_o (by omega)]) (e3 2 (by omega)) (fun s hs => by omega) (e3 7 (by omega)) (e3 8 (by omega)) (e3 9 (by omega)) (by rw [e4]; exact ⟨rfl, fun _ _ => ⟨rfl, rfl⟩⟩) (by rw [e4]; exact ⟨rfl, fun _ _ => ⟨rfl, rfl⟩⟩) (MID_mp (fun x hx => pk_un (by omega)) hM)
    have hC : FrC r Y (up (upR Y 6 0 0 f) 3 r 1 K (nI v)) := FrC_trans (FrC_6 _ _ _) (FrC_u3 _ _ _ _ _)
    have hL := fr_num (v := nI v) (show 14 + K * 8 + 7 < 382 by omega) a3
    rcases p2_j hK hJ (by rw [em]; exact hM') (by
      rw [em]
      have := nameP_cg (m' := upd (Z 10 0 1) (14 + K * 8 + 7) (nI v)) (fun x x1 x2 => pk_un (by omega)) hnm
      unfold nameP at this ⊢
      rw [e4]; exact this) (by rw [em, up_at, pk_us, pk_us]) with q | q
    · exact Or.inl (GoodP_s hC hL q)
    · exact Or.inr (BadO_s hC hL q)
  · right
    rw [show X10_expectNumber Y 1 5 = _ from a1, show M12_parseRanged Z (nI (14 + K * 8 + 7)) 1 5 = _ from a2, bd2_e, bd2_e, if_pos rfl, gdi hK, lt_e]
    have e5 : (upR Y 6 0 0 f) 6 0 0 1 = 5 := by rw [u6]; exact a4.1
    exact BadO_e a3 a4 (EM_s (FrC_u3 _ _ _ _ _) (up3_6 _ _ _ _ _) (pc2_m (up3_5 e5 _ _ _ _))) rfl
theorem pan_j {Y Z : Mem} {b : Nat → Nat} {n k s e r K : Nat} (h : TJ Y Z b n k s e) (hM : MID Y r (Z 10 0 1) K 0 ff false false 0 ff) : (K < 4 ∧ GoodP r b n K Y Z (X7_readPan Y r) (M12_parsePan Z)) ∨ BadO r Y Z (X7_readPan Y r) (M12_parsePan Z) := by
  obtain ⟨⟨hK4, -, m12, -⟩, ⟨hN, -⟩, -⟩ := id hM
  have g12 : inb 12 4202 = true := inb_n (j := 12) (by omega) (by omega)
  have i12 : ix 12 = 12 := ix_n (j := 12) (by omega)
  have k4 : nI K = 4 ↔ K = 4 := nI_lit (c := 4) (by omega) (by omega)
  have hc : X7_readPan Y r = bd1 (X4_isFull Y (2*r)) fun r3 => if r3 = 0 then (bd1 (X10_advance Y) fun Y8 => bd1 (X10_expectNewName Y8 (2*r)) fun Y11 => pc1 r (nI K) Y11) else (bd1 (X10_fail Y 5) fun Y25 => some Y25) := by
    unfold X7_readPan
    rw [lt_e, hN.2.1]
    rfl
  rw [hc]
  unfold X4_isFull M12_parsePan
  rw [hN.2.1, gd_t g12, i12, m12]
  by_cases hK : K < 4
  · rw [if_pos (show nI K < Int32.ofNat (ncap (2 * r)) from by rw [ncap_p]; exact (nI_ltI (by omega) (by omega)).mpr hK), bd1_e, if_pos rfl, if_neg (fun w => by have := k4.mp w; omega)]
    obtain ⟨f, h', k1, s1, e1, a1, a2, a3, a4⟩ := adv_j h
    rw [a1, bd1_e, a2, bd1_e]
    have em : (upR Z 10 0 0 h') 10 0 1 = Z 10 0 1 := upR_o (by omega)
    have hN1 : NN (upR Y 6 0 0 f) (2 * r) ((upR Z 10 0 0 h') 10 0 1) 14 8 K := by rw [em]; exact NN_fr (by rw [u6o _ _ (by omega)]) hN
    have hM1 : MID (upR Y 6 0 0 f) r ((upR Z 10 0 0 h') 10 0 1) K 0 ff false false 0 ff := by rw [em]; exact MID_6 f hM
    obtain ⟨-, -, -, -, m2, m3, hse, -, -, -⟩ := TJ_k a4
    have hC := FrC_6 r Y f
    have hL := FrL_0 a3
    have at13 : (14 : Int32) + (upR Z 10 0 0 h') 10 0 1 12 * 8 = nI (14 + K * 8) := by
      rw [em, m12]
      show nI 14 + nI K * nI 8 = _
      rw [pk_mul, nI_add]
    rcases new_j (Z2 := upR Z 10 0 0 h') (at_ := 14 + K * 8) a4 hN1 (by rw [ncap_p]; exact hK) (by omega) rfl rfl with ⟨a, f2, h2, k2, s2, e2, q1, q2, q3, q4, q5, q6, q7, q8, q9, q10⟩ | ⟨f2, h2, c1, c2, c3, c4⟩
    · rw [q7, bd1_e, q4, bd2_e, if_neg (by decide), m2, m3, pk_sub hse, pnNm_ok a4 hN1 (by rw [em]; exact m12) (by omega), bd1_e, q5, if_pos (show oI none = -1 from rfl), at13, lt_e, q8, bd1_e]
      have em2 : (upR (upR (upR Z 10 0 0 h') 10 0 1 (nmW ((upR Z 10 0 0 h') 10 0 1) (14 + K * 8) b s1 (e1 - s1))) 10 0 0 h2) 10 0 1 = nmW ((upR Z 10 0 0 h') 10 0 1) (14 + K * 8) b s1 (e1 - s1) := by rw [upR_o (by omega), upR_at]
      have hM2 : MID (upR (upR (upR (upR Y 6 0 0 f) 4 (2 * r) 2 (upd ((upR Y 6 0 0 f) 4 (2 * r) 2) K (nI (e1 - s1)))) 4 (2 * r) (10 + K) a) 6 0 0 f2) r (nmW ((upR Z 10 0 0 h') 10 0 1) (14 + K * 8) b s1 (e1 - s1)) K 0 ff false false 0 ff := by
        refine MID_6 f2 (MID_mp (fun x hx => nmW_o (by omega)) (MID_c (Y := upR Y 6 0 0 f) ?_ ?_ ?_ ?_ ?_ ?_ ?_ ?_ ?_ hM1))
        · intro x _; rw [upR_o (by omega), upR_o (by omega)]
        · intro x _; rw [upR_o (by omega), upR_o (by omega)]
        · rw [upR_o (by omega), upR_o (by omega)]
        · intro s hs; omega
        · rw [upR_o (by omega), upR_o (by omega)]
        · rw [upR_o (by omega), upR_o (by omega)]
        · rw [upR_o (by omega), upR_o (by omega)]
        · refine ⟨by rw [upR_o (by omega), upR_o (by omega)], fun q hq => ⟨by rw [upR_o (by omega), upR_at, pk_un (by omega)], by rw [upR_o (by omega), upR_o (by omega)]⟩⟩
        · refine ⟨by rw [upR_o (by omega), upR_o (by omega)], fun q hq => by omega⟩
      have hnm := new_nameP (Y := upR Y 6 0 0 f) (g := 2 * r) (c := K) (at_ := 14 + K * 8) (f := f2) (m := (upR Z 10 0 0 h') 10 0 1) q1 q2 (fun j j1 j2 => q3 j j1 (by omega)) q6
      have hC2 : FrC r Y (upR (upR (upR (upR Y 6 0 0 f) 4 (2 * r) 2 (upd ((upR Y 6 0 0 f) 4 (2 * r) 2) K (nI (e1 - s1)))) 4 (2 * r) (10 + K) a) 6 0 0 f2) := FrC_trans (FrC_trans (FrC_trans hC (FrC_4 _ _ _ (Or.inl rfl))) (FrC_4 _ _ _ (Or.inl rfl))) (FrC_6 _ _ _)
      have hL2 : FrL Z (upR (upR (upR Z 10 0 0 h') 10 0 1 (nmW ((upR Z 10 0 0 h') 10 0 1) (14 + K * 8) b s1 (e1 - s1))) 10 0 0 h2) := FrL_trans (FrL_trans hL (FrL_1 (fun x hx => nmW_o (by omega)))) (FrL_0 (fun x x1 x2 x3 x4 x5 x6 => by rw [upR_o (by omega)]; exact q9 x x1 x2 x3 x4 x5 x6))
      rcases p1_j hK q10 (by rw [em2]; exact hM2) (by rw [em2]; exact hnm) with w | w
      · exact Or.inl ⟨hK, GoodP_s hC2 hL2 w⟩
      · exact Or.inr (BadO_s hC2 hL2 w)
    · right
      refine BadO_s hC hL ?_
      rw [c1, bd1_e]
      have e5 : (upR (upR Y 6 0 0 f) 6 0 0 f2) 6 0 0 1 = 5 := by rw [u6]; exact c3.1
      refine BadO_e c2 c3 (pc1_m hK e5) ?_
      rcases c4 with c4 | ⟨i, hi, c4, c5, c6⟩
      · rw [c4, bd2_e, if_pos rfl]
      · rw [c4, bd2_e, if_neg (by decide), m2, m3, pk_sub hse, pnNm_ok a4 hN1 (by rw [em]; exact m12) (by omega), bd1_e, c5, if_neg (oI_some (by omega)), c6, bd2_e, gd_t (by decide)]
  · right
    obtain ⟨f, h', a1, a2, a3, a4⟩ := fail_j h (c := 5) (by omega) (by omega)
    rw [if_neg (show ¬ nI K < Int32.ofNat (ncap (2 * r)) from by rw [ncap_p]; exact fun w => hK ((nI_ltI (a := K) (b := 4) (by omega) (by omega)).mp w)), bd1_e, if_neg (by decide), if_pos (k4.mpr (by omega)), show X10_fail Y 5 = _ from a1, bd1_e, show M12_wrong Z 5 = _ from a2, bd2_e, gd_t (by decide)]
    exact BadO_e a3 a4 ⟨_, rfl, FrC_refl _ _, rfl⟩ rfl
end
