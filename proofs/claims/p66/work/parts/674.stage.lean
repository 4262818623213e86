section
/-! A STEP of a setup, from its end to its begin -/
def GoodS (r : Nat) (b : Nat → Nat) (n K S : Nat) (Y Z : Mem) (c : Option Mem) (p : Option (Int32 × Mem)) : Prop := ∃ Y' Z' k s e, c = some Y' ∧ p = some (1, Z') ∧ TJ Y' Z' b n k s e ∧ MID Y' r (Z' 10 0 1) K (S + 1) ff false false 0 ff ∧ FrC r Y Y' ∧ FrL Z Z'
def OutS (r : Nat) (b : Nat → Nat) (n K S : Nat) (Y Z : Mem) (c : Option Mem) (p : Option (Int32 × Mem)) : Prop := GoodS r b n K S Y Z c p ∨ BadO r Y Z c p
theorem OutS_s {r n K S : Nat} {b : Nat → Nat} {Y Z Y1 Z1 : Mem} {c : Option Mem} {p : Option (Int32 × Mem)} (h1 : FrC r Y Y1) (h2 : FrL Z Z1) (h : OutS r b n K S Y1 Z1 c p) : OutS r b n K S Y Z c p := by
  rcases h with ⟨Y', Z', k, s, e, a1, a2, a3, a4, a5, a6⟩ | h
  · exact Or.inl ⟨Y', Z', k, s, e, a1, a2, a3, a4, FrC_trans h1 a5, FrL_trans h2 a6⟩
  · exact Or.inr (BadO_s h1 h2 h)
theorem b170_m {r : Nat} {Y : Mem} (h : Y 6 0 0 1 = 5) : EM r Y (X7_readStep_b170 r Y) := by
  unfold X7_readStep_b170; rw [e_semi h, bd1_e, lt_e]; exact ⟨_, rfl, FrC_u4 _ _ _ _ (Or.inr rfl), up4_6 _ _ _ _ _⟩
theorem b152_m {r : Nat} {Y : Mem} (v : Int32) (h : Y 6 0 0 1 = 5) : EM r Y (X7_readStep_b152 r Y v) := by
  unfold X7_readStep_b152; rw [e_acc h, bd2_e, if_pos rfl]; exact b170_m h
theorem b128_m {r : Nat} {Y : Mem} (v : Int32) (h : Y 6 0 0 1 = 5) : EM r Y (X7_readStep_b128 r Y v) := by
  unfold X7_readStep_b128; rw [e_acc h, bd2_e, if_pos rfl]; exact b152_m v h
noncomputable def sc4 (r : Nat) (v1 : Int32) (Y : Mem) : Option Mem := bd2 (X10_accept Y 5) fun r29 Y31 => if r29 = 0 then (X7_readStep_b128 r Y31 v1) else (lt_ (up Y31 3 r 0 15 ((Y31 3 r 0 15) ||| (1 <<< (v1 &&& 31)))) fun Y51 => X7_readStep_b128 r Y51 v1)
noncomputable def sc3 (r : Nat) (v1 : Int32) (Y : Mem) : Option Mem := bd1 (X7_readPanOf Y r v1) fun Y28 => sc4 r v1 Y28
noncomputable def sc2 (r : Nat) (v1 : Int32) (Y : Mem) : Option Mem := bd2 (X10_expectNumber Y 0 9) fun r21 Y23 => lt_ (up Y23 3 r 4 (ix v1) r21) fun Y24 => sc3 r v1 Y24
noncomputable def sc1 (r : Nat) (v1 : Int32) (Y : Mem) : Option Mem := bd2 (X10_expectNumber Y 1 60) fun r15 Y17 => gd (inb v1 14) <| lt_ (up Y17 3 r 3 (ix v1) r15) fun Y19 => sc2 r v1 Y19
theorem sc4_m {r : Nat} {Y : Mem} (v : Int32) (h : Y 6 0 0 1 = 5) : EM r Y (sc4 r v Y) := by
  unfold sc4; rw [e_acc h, bd2_e, if_pos rfl]; exact b128_m v h
theorem panOf_m {r S : Nat} {Y : Mem} (hS : S < 14) (h : Y 6 0 0 1 = 5) : X7_readPanOf Y r (nI S) = some (up Y 3 r 5 S (-1)) := by
  unfold X7_readPanOf; rw [gdi hS, ix_n (by omega), lt_e, e_acc (up3_5 h _ _ _ _), bd2_e, if_pos rfl]
theorem sc3_m {r S : Nat} {Y : Mem} (hS : S < 14) (h : Y 6 0 0 1 = 5) : EM r Y (sc3 r (nI S) Y) := by
  unfold sc3; rw [panOf_m hS h, bd1_e]; exact EM_s (FrC_u3 _ _ _ _ _) (up3_6 _ _ _ _ _) (sc4_m _ (up3_5 h _ _ _ _))
theorem sc2_m {r S : Nat} {Y : Mem} (hS : S < 14) (h : Y 6 0 0 1 = 5) : EM r Y (sc2 r (nI S) Y) := by
  unfold sc2; rw [e_num h, bd2_e, lt_e]; exact EM_s (FrC_u3 _ _ _ _ _) (up3_6 _ _ _ _ _) (sc3_m hS (up3_5 h _ _ _ _))
theorem sc1_m {r S : Nat} {Y : Mem} (hS : S < 14) (h : Y 6 0 0 1 = 5) : EM r Y (sc1 r (nI S) Y) := by
  unfold sc1; rw [e_num h, bd2_e, gdi hS, lt_e]; exact EM_s (FrC_u3 _ _ _ _ _) (up3_6 _ _ _ _ _) (sc2_m hS (up3_5 h _ _ _ _))
/-! the end -/
theorem end_j {Y Z : Mem} {b : Nat → Nat} {n k s e r K S pc : Nat} {pu pp : Nat → Bool} {ho al : Bool} (hS : S < 14) (h : TJ Y Z b n k s e) (hM : MID Y r (Z 10 0 1) K S pu ho al pc pp) (hX : SX Y r (Z 10 0 1) K S 3) (h10 : fld (Z 10 0 1) S 10 = bI ho) (h11 : fld (Z 10 0 1) S 11 = bI al) (hpu : ∀ q, q < 4 → pu q = (fld (Z 10 0 1) S 9 == nI q)) (hP : SP Y r (Z 10 0 1) S pc pp) : OutS r b n K S Y Z (X7_readStep_b170 r Y) (M12_parseStep_b221 Z) := by
  have g13 : inb 13 4202 = true := inb_n (j := 13) (by omega) (by omega)
  have i13 : ix 13 = 13 := ix_n (j := 13) (by omega)
  unfold X7_readStep_b170 M12_parseStep_b221
  rcases semi_j h with ⟨f, h', k', s', e', a1, a2, a3, a4⟩ | ⟨f, h', a1, a2, a3, a4⟩
  · left
    have ec : (upR Y 6 0 0 f) 4 (2 * r + 1) 0 2 = nI S := by rw [upR_o (by omega)]; exact hM.2.1.2.2.1
    have em : (upR Z 10 0 0 h') 10 0 1 = Z 10 0 1 := upR_o (by omega)
    have em13 : (upR Z 10 0 0 h') 10 0 1 13 = nI S := by rw [em]; exact hM.1.2.2.2
    refine ⟨up (upR Y 6 0 0 f) 4 (2 * r + 1) 0 2 (nI (S + 1)), up (upR Z 10 0 0 h') 10 0 1 13 (nI (S + 1)), k', s', e', ?_, ?_, TJ_fr (by funext o; rw [up_eq, upR_o (by omega)]) (up4_6 _ _ _ _ _) (by rw [up_eq, upR_o (by omega)]) (by rw [up_eq, upR_o (by omega)]) a4, ?_, FrC_trans (FrC_6 _ _ _) (FrC_u4 _ _ _ _ (Or.inr rfl)), FrL_trans (FrL_0 a3) (by rw [up_eq]; exact FrL_1 (fun x hx => pk_un (by omega)))⟩
    · rw [a1, bd1_e, ec, nI_1, lt_e]
    · rw [a2, bd2_e, if_neg (by decide), gd_t g13, i13, em13, nI_1, lt_e]
    · rw [up_at, em]
      have hM1 := MID_6 f hM
      have hX1 := SX_6 f hX
      have hP1 : SP (upR Y 6 0 0 f) r (Z 10 0 1) S pc pp := SP_c (by rw [u6o _ _ (by omega)]) hP
      obtain ⟨st, en⟩ := ST1_of hS hM1 hX1 h10 h11 hP1
      refine MID_end hS hM1 st hX1.1 hpu ?_ ?_ (fun k hk => ?_)
      · rw [h10]; cases ho <;> rfl
      · rw [h11]; cases al <;> rfl
      · rw [hP.2.2.2 k]
        unfold isPred
        rw [en]
  · right
    refine BadO_e a3 a4 ?_ (by rw [a2, bd2_e, if_pos rfl])
    rw [a1, bd1_e, lt_e]
    exact ⟨_, rfl, FrC_u4 _ _ _ _ (Or.inr rfl), up4_6 _ _ _ _ _⟩
/-! the predecessors -/
theorem predM_b {Z : Mem} {m : Nat → Int32} {S pc p : Nat} (hm : Z 10 0 1 = m) (hS : S < 14) (h12 : fld m S 12 = nI pc) (hpc : pc ≤ 4) (hpr : ∀ i, i < pc → fld m S (13 + i) = nI (pr m S i) ∧ pr m S i < S) (hp : p < 2 ^ 30) : ∀ i, i ≤ pc → ∀ f, pc - i < f → anyB (fun i => pr m S i == p) i = false → M12_parsePredecessor_b40 (nI (46 + S * 24)) f Z (nI i) (nI p) = if anyB (fun i => pr m S i == p) pc = true then (bd2 (M12_wrong Z 4) fun r25 Y27 => gd (decide (r25 = 0 ∨ r25 = 1)) <| some (r25, Y27)) else if pc = 4 then (bd2 (M12_wrong Z 5) fun r19 Y21 => gd (decide (r19 = 0 ∨ r19 = 1)) <| some (r19, Y21)) else (bd1 (M12_token (upR Z 10 0 1 (upd (upd m (46 + S * 24 + (13 + pc)) (nI p)) (46 + S * 24 + 12) (nI (pc + 1))))) fun Y18 => some (1, Y18)) := by
  have w12 : nI (46 + S * 24) + 12 = nI (46 + S * 24 + 12) := nI_add _ 12
  have w13 : nI (46 + S * 24) + 13 = nI (46 + S * 24 + 13) := nI_add _ 13
  have m12 : m (46 + S * 24 + 12) = nI pc := h12
  have k4 : nI pc = 4 ↔ pc = 4 := nI_lit (c := 4) (by omega) (by omega)
  refine upl ?_ ?_
  · intro f f_h ha
    obtain ⟨f, rfl⟩ := fuel_s f_h
    unfold M12_parsePredecessor_b40
    rw [w12, w13, gdi (show 46 + S * 24 + 12 < 4202 by omega), ix_n (by omega), hm, m12, if_pos (Int32.le_refl _), ha, if_neg (show ¬ (false = true) by decide)]
    by_cases e : pc = 4
    · rw [if_pos (k4.mpr e), if_pos e]
    · rw [if_neg (fun w => e (k4.mp w)), if_neg e, nI_add, gdi (show 46 + S * 24 + 13 + pc < 4202 by omega), ix_n (by omega), up_eq, hm, lt_e, upR_at, pk_un (by omega), m12, nI_1, up_upR, lt_e, show 46 + S * 24 + 13 + pc = 46 + S * 24 + (13 + pc) by omega]
  · intro i hi ih f f_h ha
    obtain ⟨f, rfl⟩ := fuel_s f_h
    unfold M12_parsePredecessor_b40
    obtain ⟨q1, q2⟩ := hpr i hi
    have mi : m (46 + S * 24 + 13 + i) = nI (pr m S i) := by rw [Nat.add_assoc]; exact q1
    rw [w12, w13, gdi (show 46 + S * 24 + 12 < 4202 by omega), ix_n (by omega), hm, m12, if_neg (by rw [nI_leI (by omega) (by omega)]; omega), nI_add, gdi (show 46 + S * 24 + 13 + i < 4202 by omega), ix_n (by omega), mi]
    by_cases e : pr m S i = p
    · have : anyB (fun i => pr m S i == p) pc = true := anyB_iff.mpr ⟨i, hi, by simp [e]⟩
      rw [if_pos (by rw [e]), this, if_pos rfl]
    · rw [if_neg (fun w => e ((nI_eq (by omega) (by omega)).mp w)), nI_1]
      exact ih f (by omega) (by rw [anyB_s, ha]; simp [e])
theorem pr_upd {m : Nat → Int32} {S pc p i : Nat} {v : Int32} (hp : p < 2 ^ 31) (hpc : pc < 4) (hi : i ≤ pc) : pr (upd (upd m (46 + S * 24 + (13 + pc)) (nI p)) (46 + S * 24 + 12) v) S i = if i = pc then p else pr m S i := by
  unfold pr
  rw [fld_upd_o _ _ (by omega) (by omega) (by omega)]
  by_cases e : i = pc
  · subst e; rw [fld_upd_same, nI_clamp hp, if_pos rfl]
  · rw [fld_upd_o _ _ (by omega) (by omega) (by omega), if_neg e]
theorem SP_add {Y : Mem} {r S pc p : Nat} {m : Nat → Int32} {pp : Nat → Bool} (hS : S < 14) (hp : p < S) (hpc : pc < 4) (q : SP Y r m S pc pp) : SP (addP Y r S pc p) r (upd (upd m (46 + S * 24 + (13 + pc)) (nI p)) (46 + S * 24 + 12) (nI (pc + 1))) S (pc + 1) (fun k => pp k || (k == p)) := by
  obtain ⟨q1, q2, q3, q4⟩ := q
  have ep : ∀ i, i ≤ pc → pr (upd (upd m (46 + S * 24 + (13 + pc)) (nI p)) (46 + S * 24 + 12) (nI (pc + 1))) S i = if i = pc then p else pr m S i := fun i hi => pr_upd (by omega) hpc hi
  refine ⟨fld_upd_same _ _ _ _, by omega, fun i hi => ?_, fun k => ?_⟩
  · rw [ep i (by omega), fld_upd_o _ _ (by omega) (by omega) (by omega), addP_20]
    by_cases e : i = pc
    · subst e
      rw [fld_upd_same, if_pos rfl, pk_us]
      exact ⟨rfl, hp, rfl⟩
    · rw [fld_upd_o _ _ (by omega) (by omega) (by omega), if_neg e, pk_un e]
      exact q3 i (by omega)
  · show (pp k || (k == p)) = anyB _ (pc + 1)
    rw [anyB_s, ep pc (Nat.le_refl _), if_pos rfl, q4 k]
    have : anyB (fun i => pr (upd (upd m (46 + S * 24 + (13 + pc)) (nI p)) (46 + S * 24 + 12) (nI (pc + 1))) S i == k) pc = anyB (fun i => pr m S i == k) pc := anyB_congr fun i hi => by rw [ep i (by omega), if_neg (by omega)]
    rw [this]
    congr 1
    rw [Bool.eq_iff_iff, beq_iff_eq, beq_iff_eq]
    exact eq_comm
/-- one predecessor -/
theorem one_j {Y Z : Mem} {b : Nat → Nat} {n k s e r K S pc f : Nat} {pu pp : Nat → Bool} {ho al : Bool} (hS : S < 14) (h : TJ Y Z b n k s e) (hM : MID Y r (Z 10 0 1) K S pu ho al pc pp) (hX : SX Y r (Z 10 0 1) K S 3) (hP : SP Y r (Z 10 0 1) S pc pp) : (∃ Y' Z' k' s' e' pp', pc < 4 ∧ X7_readPredecessors_b21 r (nI S) (X7_readPredecessors_b2 r (nI S) (f + 1)) Y (nI pc) = X7_readPredecessors_b2 r (nI S) (f + 1) Y' (nI (pc + 1)) ∧ M12_parsePredecessor Z (nI (46 + S * 24)) = some (1, Z') ∧ TJ Y' Z' b n k' s' e' ∧ MID Y' r (Z' 10 0 1) K S pu ho al (pc + 1) pp' ∧ SX Y' r (Z' 10 0 1) K S 3 ∧ SP Y' r (Z' 10 0 1) S (pc + 1) pp' ∧ FrC r Y Y' ∧ FrL Z Z' ∧ fld (Z' 10 0 1) S 9 = fld (Z 10 0 1) S 9 ∧ fld (Z' 10 0 1) S 10 = fld (Z 10 0 1) S 10 ∧ fld (Z' 10 0 1) S 11 = fld (Z 10 0 1) S 11) ∨ BadO r Y Z (X7_readPredecessors_b21 r (nI S) (X7_readPredecessors_b2 r (nI S) (f + 1)) Y (nI pc)) (M12_parsePredecessor Z (nI (46 + S * 24))) := by
  obtain ⟨⟨hK4, hS14, m12, m13⟩, ⟨hN0, hN1⟩, -⟩ := id hM
  obtain ⟨-, -, -, -, t2, t3, hse, -, -, -⟩ := TJ_k h
  obtain ⟨p1, p2, p3, p4⟩ := id hP
  have hk8 := (hM.2.2.2.2.2.2.2.2.2.2.1 hS)
  -- class: after a second error kind the loop ends
  have hstop : ∀ {Y' : Mem}, Y' 6 0 0 1 = 5 → X7_readPredecessors_b2 r (nI S) (f + 1) Y' (nI (pc + 1)) = some Y' := fun {Y'} q => by
    rw [X7_readPredecessors_b2.eq_2]
    by_cases w : (4 : Int32) < nI (pc + 1)
    · rw [if_pos w]
    · rw [if_neg w, if_neg (show ¬ nI (pc + 1) = 0 from by show ¬ nI (pc + 1) = nI 0; rw [nI_lit (by omega) (by omega)]; omega), e_any q, bd1_e, if_pos rfl]
  unfold X7_readPredecessors_b21 M12_parsePredecessor X7_readPredecessors_b101
  rcases find_j h hN1 with ⟨p, hp, q, c1, m1⟩ | ⟨f2, h2, c1, c2, c3, c4⟩
  · have hb : bt (Y 3 r 8 S) p = anyB (fun i => pr (Z 10 0 1) S i == p) pc := by rw [hk8.2 p (by omega), p4 p]
    have hnp : oI (some p) = nI p := rfl
    have hpm := predM_b (p := p) (Z := Z) rfl hS p1 p2 (fun i hi => ⟨(p3 i hi).1, (p3 i hi).2.1⟩) (by omega) 0 (by omega) FU (by have := FU_big; omega) rfl
    have hmod : (bd2 (M12_isShortWord Z) fun r1 Y3 => if r1 = 0 then some (0, Y3) else bd1 (M12_stepNamed Y3 (Y3 10 0 0 16) (Y3 10 0 0 14 - Y3 10 0 0 16)) fun r5 => if r5 = -1 then (bd2 (M12_wrong Y3 3) fun r29 Y31 => gd (decide (r29 = 0 ∨ r29 = 1)) <| some (r29, Y31)) else M12_parsePredecessor_b40 (nI (46 + S * 24)) FU Y3 0 r5) = M12_parsePredecessor_b40 (nI (46 + S * 24)) FU Z (nI 0) (nI p) := by
      rw [m1, bd2_e, if_neg (by decide), t2, t3, pk_sub hse, stNm_ok h hN1 m13 hS14, bd1_e, q, if_neg (oI_some (by omega)), hnp]
      rfl
    rw [hmod, hpm, c1, bd2_e, if_neg (show ¬ nI p = -1 from oI_some (i := p) (by omega)), gdi hS, ix_n (by omega), contains_ok Y _ (by omega), bd1_e, hb]
    cases hd : anyB (fun i => pr (Z 10 0 1) S i == p) pc
    · rw [bI_f, if_pos rfl, if_neg (show ¬ (false = true) by decide), hk8.1]
      by_cases h4 : pc = 4
      · -- too many
        right
        obtain ⟨f2, h2, a1, a2, a3, a4⟩ := fail_j h (c := 5) (by omega) (by omega)
        rw [if_pos h4, if_neg (show ¬ nI pc < 4 from by show ¬ nI pc < nI 4; rw [nI_ltI (by omega) (by omega)]; omega), show X10_fail Y 5 = _ from a1, bd1_e, nI_1, show M12_wrong Z 5 = _ from a2, bd2_e, gd_t (by decide)]
        refine BadO_e a3 a4 ?_ rfl
        rw [hstop (by rw [u6]; exact a4.1)]
        exact ⟨_, rfl, FrC_refl _ _, rfl⟩
      · left
        have hpc : pc < 4 := by omega
        rw [if_neg h4, if_pos (show nI pc < 4 from (nI_ltI (b := 4) (by omega) (by omega)).mpr hpc), addP_ok hS hp hpc hM, bd1_e]
        have hJ : TJ (addP Y r S pc p) (upR Z 10 0 1 (upd (upd (Z 10 0 1) (46 + S * 24 + (13 + pc)) (nI p)) (46 + S * 24 + 12) (nI (pc + 1)))) b n k s e := TJ_fr (by rw [addP_k (by omega)]) (by rw [addP_k (by omega)]) (upR_o (by omega)) (upR_o (by omega)) h
        obtain ⟨f2, h2, k2, s2, e2, a1, a2, a3, a4⟩ := adv_j hJ
        have em : (upR (upR Z 10 0 1 (upd (upd (Z 10 0 1) (46 + S * 24 + (13 + pc)) (nI p)) (46 + S * 24 + 12) (nI (pc + 1)))) 10 0 0 h2) 10 0 1 = upd (upd (Z 10 0 1) (46 + S * 24 + (13 + pc)) (nI p)) (46 + S * 24 + 12) (nI (pc + 1)) := by rw [upR_o (by omega), upR_at]
        have efl : ∀ w, w < 12 ∨ 17 ≤ w → w < 24 → fld (upd (upd (Z 10 0 1) (46 + S * 24 + (13 + pc)) (nI p)) (46 + S * 24 + 12) (nI (pc + 1))) S w = fld (Z 10 0 1) S w := fun w w1 w2 => by
          rw [fld_upd_o _ _ (by omega) w2 (by omega), fld_upd_o _ _ (by omega) w2 (by omega)]
        refine ⟨_, _, k2, s2, e2, fun k => pp k || (k == p), hpc, ?_, ?_, a4, ?_, ?_, ?_, FrC_trans (FrC_addP _ _ _ _ _) (FrC_6 _ _ _), FrL_trans (FrL_1 (fun x hx => by rw [pk_un (by omega), pk_un (by omega)])) (FrL_0 a3), ?_, ?_, ?_⟩
        · rw [a1, bd1_e, nI_1]
        · rw [a2, bd1_e]
        · rw [em]
          exact MID_6 f2 (MID_pred hS hp (MID_m (fun x hx => by rw [pk_un (by omega), pk_un (by omega)]) hM))
        · rw [em]
          refine SX_6 f2 (SX_c (Y := Y) (fun o _ => by rw [addP_k (by omega)]) (fun o o1 o2 o3 => by rw [addP_o (by omega) (by omega) (by omega) (by omega)]) (SX_m (fun w hw => efl w (by omega) (by omega)) hX))
        · rw [em]
          exact SP_c (by rw [u6o _ _ (by omega)]) (SP_add hS hp hpc hP)
        · rw [em]; exact efl 9 (by omega) (by omega)
        · rw [em]; exact efl 10 (by omega) (by omega)
        · rw [em]; exact efl 11 (by omega) (by omega)
    · -- repeated
      right
      obtain ⟨f2, h2, a1, a2, a3, a4⟩ := fail_j h (c := 4) (by omega) (by omega)
      rw [bI_t, if_neg (by decide), if_pos rfl, show X10_fail Y 4 = _ from a1, bd1_e, nI_1, show M12_wrong Z 4 = _ from a2, bd2_e, gd_t (by decide)]
      refine BadO_e a3 a4 ?_ rfl
      rw [hstop (by rw [u6]; exact a4.1)]
      exact ⟨_, rfl, FrC_refl _ _, rfl⟩
  · right
    refine BadO_e c2 c3 ?_ ?_
    · rw [c1, bd2_e, if_pos rfl]
      exact ⟨_, rfl, FrC_refl _ _, rfl⟩
    · rcases c4 with c4 | ⟨c4, c5, c6⟩
      · rw [c4, bd2_e, if_pos rfl]
      · rw [c4, bd2_e, if_neg (by decide), t2, t3, pk_sub hse, stNm_ok h hN1 m13 hS14, bd1_e, c5, if_pos (show oI none = -1 from rfl), c6, bd2_e, gd_t (by decide)]
/-- after the first predecessor -/
theorem preds_b {b : Nat → Nat} {n r K S : Nat} {pu : Nat → Bool} {ho al : Bool} (hS : S < 14) : ∀ d pc Y Z k s e pp f f', pc + d = 5 → d + 1 < f → d < f' → 1 ≤ pc → TJ Y Z b n k s e → MID Y r (Z 10 0 1) K S pu ho al pc pp → SX Y r (Z 10 0 1) K S 3 → fld (Z 10 0 1) S 10 = bI ho → fld (Z 10 0 1) S 11 = bI al → (∀ q, q < 4 → pu q = (fld (Z 10 0 1) S 9 == nI q)) → SP Y r (Z 10 0 1) S pc pp → OutS r b n K S Y Z (bd1 (X7_readPredecessors_b2 r (nI S) f Y (nI pc)) fun Y48 => X7_readStep_b170 r Y48) (M12_parseStep_b203 f' Z (nI (46 + S * 24))) := by
  intro d
  induction d with
  | zero =>
    intro pc Y Z k s e pp f f' hd _ _ _ h hM hX h10 h11 hpu hP
    have := hP.2.1
    omega
  | succ d ih =>
    intro pc Y Z k s e pp f f' hd hf hf' hp1 h hM hX h10 h11 hpu hP
    obtain ⟨f, rfl⟩ := fuel_s (n := 0) (f := f) (by omega)
    obtain ⟨f, rfl⟩ := fuel_s (n := 0) (f := f) (by omega)
    obtain ⟨f', rfl⟩ := fuel_s (n := 0) (f := f') (by omega)
    obtain ⟨h1, -, -, m1, -, -, -, -, k4, -⟩ := TJ_k h
    have k1 : nI k = 1 ↔ k = 1 := nI_lit (c := 1) (by omega) (by omega)
    have l4 : ¬ (4 : Int32) < nI pc := by show ¬ nI 4 < nI pc; rw [nI_ltI (by omega) (by omega)]; omega
    rw [X7_readPredecessors_b2.eq_2, if_neg l4, if_neg (show ¬ nI pc = 0 from by show ¬ nI pc = nI 0; rw [nI_lit (by omega) (by omega)]; omega), M12_parseStep_b203.eq_2]
    unfold X10_isAnyWord
    rw [h1, m1]
    by_cases ek : k = 1
    · rw [if_pos (k1.mpr ek), bd1_e, if_neg (by decide), if_pos (k1.mpr ek)]
      rcases one_j (f := f) hS h hM hX hP with ⟨Y', Z', k', s', e', pp', q1, q2, q3, q4, q5, q6, q7, q8, q9, q10, q11, q12⟩ | ⟨Y', Z', q1, q2, q3, q4, q5⟩
      · rw [q2, q3, bd2_e, if_neg (by decide)]
        exact OutS_s q8 q9 (ih (pc + 1) Y' Z' k' s' e' pp' (f + 1) f' (by omega) (by omega) (by omega) (by omega) q4 q5 q6 (by rw [q11]; exact h10) (by rw [q12]; exact h11) (fun q hq => by rw [q10]; exact hpu q hq) q7)
      · right
        rw [q1, q2, bd1_e, bd2_e, if_pos rfl]
        obtain ⟨Y2, w1, w2, w3⟩ := b170_m (r := r) q3.1
        exact ⟨Y2, Z', w1, rfl, BP_8 w3 q3, FrC_trans q4 w2, q5⟩
    · rw [if_neg (fun w => ek (k1.mp w)), bd1_e, if_pos rfl, bd1_e, if_neg (fun w => ek (k1.mp w))]
      exact end_j hS h hM hX h10 h11 hpu hP
/-! alone, after -/
theorem s11_j {Y Z : Mem} {b : Nat → Nat} {n k s e r K S : Nat} {pu : Nat → Bool} {ho al : Bool} (hS : S < 14) (h : TJ Y Z b n k s e) (hM : MID Y r (Z 10 0 1) K S pu ho al 0 ff) (hX : SX Y r (Z 10 0 1) K S 3) (h10 : fld (Z 10 0 1) S 10 = bI ho) (hpu : ∀ q, q < 4 → pu q = (fld (Z 10 0 1) S 9 == nI q)) (h12 : fld (Z 10 0 1) S 12 = 0) : OutS r b n K S Y Z (X7_readStep_b152 r Y (nI S)) (M12_parseStep_b183 Z (nI (46 + S * 24)) (bI al) (nI (46 + S * 24 + 11))) := by
  unfold X7_readStep_b152 M12_parseStep_b183
  rw [gdi (show 46 + S * 24 + 11 < 4202 by omega), ix_n (by omega), up_eq, lt_e]
  have efl : ∀ w, w ≠ 11 → w < 24 → fld (upd (Z 10 0 1) (46 + S * 24 + 11) (bI al)) S w = fld (Z 10 0 1) S w := fun w w1 w2 => fld_upd_o _ _ (by omega) w2 (by omega)
  have em : (upR Z 10 0 1 (upd (Z 10 0 1) (46 + S * 24 + 11) (bI al))) 10 0 1 = upd (Z 10 0 1) (46 + S * 24 + 11) (bI al) := upR_at _ _ _ _ _
  have hJ : TJ Y (upR Z 10 0 1 (upd (Z 10 0 1) (46 + S * 24 + 11) (bI al))) b n k s e := TJ_fr rfl rfl (upR_o (by omega)) (upR_o (by omega)) h
  have hM1 : MID Y r (upd (Z 10 0 1) (46 + S * 24 + 11) (bI al)) K S pu ho al 0 ff := MID_m (fun x hx => pk_un (by omega)) hM
  have hX1 : SX Y r (upd (Z 10 0 1) (46 + S * 24 + 11) (bI al)) K S 3 := SX_m (fun w hw => efl w (by omega) (by omega)) hX
  have hP1 : SP Y r (upd (Z 10 0 1) (46 + S * 24 + 11) (bI al)) S 0 ff := SP_0 (by rw [efl 12 (by omega) (by omega)]; exact h12)
  have h11' : fld (upd (Z 10 0 1) (46 + S * 24 + 11) (bI al)) S 11 = bI al := fld_upd_same _ _ _ _
  have hL : FrL Z (upR Z 10 0 1 (upd (Z 10 0 1) (46 + S * 24 + 11) (bI al))) := FrL_1 (fun x hx => pk_un (by omega))
  refine OutS_s (FrC_refl _ _) hL ?_
  rcases acc_j hJ (w := 7) (by omega) (by omega) with ⟨f, h', k', s', e', a1, a2, a3, a4⟩ | ⟨a1, a2⟩
  · rw [a1, a2, bd2_e, bd2_e, if_neg (by decide), if_neg (by decide)]
    have em2 : (upR (upR Z 10 0 1 (upd (Z 10 0 1) (46 + S * 24 + 11) (bI al))) 10 0 0 h') 10 0 1 = upd (Z 10 0 1) (46 + S * 24 + 11) (bI al) := by rw [upR_o (by omega), upR_at]
    have hM2 : MID (upR Y 6 0 0 f) r ((upR (upR Z 10 0 1 (upd (Z 10 0 1) (46 + S * 24 + 11) (bI al))) 10 0 0 h') 10 0 1) K S pu ho al 0 ff := by rw [em2]; exact MID_6 f hM1
    have hX2 : SX (upR Y 6 0 0 f) r ((upR (upR Z 10 0 1 (upd (Z 10 0 1) (46 + S * 24 + 11) (bI al))) 10 0 0 h') 10 0 1) K S 3 := by rw [em2]; exact SX_6 f hX1
    have hP2 : SP (upR Y 6 0 0 f) r ((upR (upR Z 10 0 1 (upd (Z 10 0 1) (46 + S * 24 + 11) (bI al))) 10 0 0 h') 10 0 1) S 0 ff := by rw [em2]; exact SP_c (by rw [u6o _ _ (by omega)]) hP1
    refine OutS_s (FrC_6 _ _ f) (FrL_0 a3) ?_
    unfold X7_readPredecessors
    obtain ⟨f0, hf0⟩ : ∃ f0, FU = f0 + 10 := ⟨FU - 10, by have := FU_big; omega⟩
    have hs : X7_readPredecessors_b2 r (nI S) FU (upR Y 6 0 0 f) 0 = X7_readPredecessors_b21 r (nI S) (X7_readPredecessors_b2 r (nI S) (f0 + 8 + 1)) (upR Y 6 0 0 f) (nI 0) := by
      rw [hf0, X7_readPredecessors_b2.eq_2, if_neg (by decide), if_pos rfl]; rfl
    rw [hs]
    rcases one_j (f := f0 + 8) hS a4 hM2 hX2 hP2 with ⟨Y', Z', k2, s2, e2, pp', q1, q2, q3, q4, q5, q6, q7, q8, q9, q10, q11, q12⟩ | ⟨Y', Z', q1, q2, q3, q4, q5⟩
    · rw [q2, q3, bd2_e, if_neg (by decide)]
      rw [em2] at q10 q11 q12
      exact OutS_s q8 q9 (preds_b hS 4 1 Y' Z' k2 s2 e2 pp' (f0 + 8 + 1) FU (by omega) (by omega) (by have := FU_big; omega) (by omega) q4 q5 q6 (by rw [q11, efl 10 (by omega) (by omega)]; exact h10) (by rw [q12]; exact h11') (fun q hq => by rw [q10, efl 9 (by omega) (by omega)]; exact hpu q hq) q7)
    · right
      rw [q1, q2, bd1_e, bd2_e, if_pos rfl]
      obtain ⟨Y2, w1, w2, w3⟩ := b170_m (r := r) q3.1
      exact ⟨Y2, Z', w1, rfl, BP_8 w3 q3, FrC_trans q4 w2, q5⟩
  · rw [a1, a2, bd2_e, bd2_e, if_pos rfl, if_pos rfl]
    exact end_j hS hJ (by rw [em]; exact hM1) (by rw [em]; exact hX1) (by rw [em, efl 10 (by omega) (by omega)]; exact h10) (by rw [em]; exact h11') (fun q hq => by rw [em, efl 9 (by omega) (by omega)]; exact hpu q hq) (by rw [em]; exact hP1)
/-! hot, alone -/
theorem s10_j {Y Z : Mem} {b : Nat → Nat} {n k s e r K S : Nat} {pu : Nat → Bool} {ho : Bool} (hS : S < 14) (h : TJ Y Z b n k s e) (hM : MID Y r (Z 10 0 1) K S pu ho false 0 ff) (hX : SX Y r (Z 10 0 1) K S 3) (hpu : ∀ q, q < 4 → pu q = (fld (Z 10 0 1) S 9 == nI q)) (h12 : fld (Z 10 0 1) S 12 = 0) : OutS r b n K S Y Z (X7_readStep_b128 r Y (nI S)) (M12_parseStep_b160 Z (nI (46 + S * 24)) (bI ho) (nI (46 + S * 24 + 10))) := by
  unfold X7_readStep_b128 M12_parseStep_b160
  have w11 : nI (46 + S * 24) + 11 = nI (46 + S * 24 + 11) := nI_add _ 11
  rw [w11, gdi (show 46 + S * 24 + 10 < 4202 by omega), ix_n (by omega), up_eq, lt_e]
  have efl : ∀ w, w ≠ 10 → w < 24 → fld (upd (Z 10 0 1) (46 + S * 24 + 10) (bI ho)) S w = fld (Z 10 0 1) S w := fun w w1 w2 => fld_upd_o _ _ (by omega) w2 (by omega)
  have em : (upR Z 10 0 1 (upd (Z 10 0 1) (46 + S * 24 + 10) (bI ho))) 10 0 1 = upd (Z 10 0 1) (46 + S * 24 + 10) (bI ho) := upR_at _ _ _ _ _
  have hJ : TJ Y (upR Z 10 0 1 (upd (Z 10 0 1) (46 + S * 24 + 10) (bI ho))) b n k s e := TJ_fr rfl rfl (upR_o (by omega)) (upR_o (by omega)) h
  have hM1 : MID Y r (upd (Z 10 0 1) (46 + S * 24 + 10) (bI ho)) K S pu ho false 0 ff := MID_m (fun x hx => pk_un (by omega)) hM
  have hX1 : SX Y r (upd (Z 10 0 1) (46 + S * 24 + 10) (bI ho)) K S 3 := SX_m (fun w hw => efl w (by omega) (by omega)) hX
  have h10' : fld (upd (Z 10 0 1) (46 + S * 24 + 10) (bI ho)) S 10 = bI ho := fld_upd_same _ _ _ _
  have hL : FrL Z (upR Z 10 0 1 (upd (Z 10 0 1) (46 + S * 24 + 10) (bI ho))) := FrL_1 (fun x hx => pk_un (by omega))
  refine OutS_s (FrC_refl _ _) hL ?_
  rcases acc_j hJ (w := 6) (by omega) (by omega) with ⟨f, h', k', s', e', a1, a2, a3, a4⟩ | ⟨a1, a2⟩
  · rw [a1, a2, bd2_e, bd2_e, if_neg (by decide), if_neg (by decide), lt_e]
    have em2 : (upR (upR Z 10 0 1 (upd (Z 10 0 1) (46 + S * 24 + 10) (bI ho))) 10 0 0 h') 10 0 1 = upd (Z 10 0 1) (46 + S * 24 + 10) (bI ho) := by rw [upR_o (by omega), upR_at]
    have hM2 := MID_alone hS (MID_6 f hM1)
    have hX2 := SX_6 f hX1
    have hJ2 : TJ (up (upR Y 6 0 0 f) 3 r 0 16 ((upR Y 6 0 0 f) 3 r 0 16 ||| (1 <<< (nI S &&& 31)))) (upR (upR Z 10 0 1 (upd (Z 10 0 1) (46 + S * 24 + 10) (bI ho))) 10 0 0 h') b n k' s' e' := TJ_fr (by funext o; rw [up_eq, upR_o (by omega)]) (up3_6 _ _ _ _ _) rfl rfl a4
    exact OutS_s (FrC_trans (FrC_6 _ _ f) (FrC_u3 _ _ _ _ _)) (FrL_0 a3) (s11_j (al := true) hS hJ2 (by rw [em2]; exact hM2) (by rw [em2]; exact SX_c (fun o _ => by rw [up_eq, upR_o (by omega)]) (fun o o1 _ _ => by rw [up_eq, upR_o (by omega)]) hX2) (by rw [em2]; exact h10') (fun q hq => by rw [em2, efl 9 (by omega) (by omega)]; exact hpu q hq) (by rw [em2, efl 12 (by omega) (by omega)]; exact h12))
  · rw [a1, a2, bd2_e, bd2_e, if_pos rfl, if_pos rfl]
    exact s11_j (al := false) hS hJ (by rw [em]; exact hM1) (by rw [em]; exact hX1) (by rw [em]; exact h10') (fun q hq => by rw [em, efl 9 (by omega) (by omega)]; exact hpu q hq) (by rw [em, efl 12 (by omega) (by omega)]; exact h12)
noncomputable def sm4 (l1 : Int32) (Z : Mem) : Option (Int32 × Mem) := bd2 (M12_takes Z 5) fun r31 Y33 => if r31 = 0 then (M12_parseStep_b160 Y33 l1 0 (l1 + 10)) else (M12_parseStep_b160 Y33 l1 1 (l1 + 10))
noncomputable def sm3 (l1 : Int32) (Z : Mem) : Option (Int32 × Mem) := bd2 (M12_parsePanType Z l1) fun r27 Y29 => if r27 = 0 then (some (0, Y29)) else sm4 l1 Y29
noncomputable def sm2 (l1 : Int32) (Z : Mem) : Option (Int32 × Mem) := bd2 (M12_parseRanged Z (l1 + 8) 0 9) fun r23 Y25 => if r23 = 0 then (some (0, Y25)) else sm3 l1 Y25
noncomputable def sm1 (l1 : Int32) (Z : Mem) : Option (Int32 × Mem) := bd2 (M12_parseRanged Z (l1 + 7) 1 60) fun r19 Y21 => if r19 = 0 then (some (0, Y21)) else sm2 l1 Y21
theorem s4_j {Y Z : Mem} {b : Nat → Nat} {n k s e r K S : Nat} {pu : Nat → Bool} (hS : S < 14) (h : TJ Y Z b n k s e) (hM : MID Y r (Z 10 0 1) K S pu false false 0 ff) (hX : SX Y r (Z 10 0 1) K S 3) (hpu : ∀ q, q < 4 → pu q = (fld (Z 10 0 1) S 9 == nI q)) (h12 : fld (Z 10 0 1) S 12 = 0) : OutS r b n K S Y Z (sc4 r (nI S) Y) (sm4 (nI (46 + S * 24)) Z) := by
  unfold sc4 sm4
  have w10 : nI (46 + S * 24) + 10 = nI (46 + S * 24 + 10) := nI_add _ 10
  rw [w10]
  rcases acc_j h (w := 5) (by omega) (by omega) with ⟨f, h', k', s', e', a1, a2, a3, a4⟩ | ⟨a1, a2⟩
  · rw [a1, a2, bd2_e, bd2_e, if_neg (by decide), if_neg (by decide), lt_e]
    have em2 : (upR Z 10 0 0 h') 10 0 1 = Z 10 0 1 := upR_o (by omega)
    have hM2 := MID_hot hS (MID_6 f hM)
    have hX2 := SX_6 f hX
    have hJ2 : TJ (up (upR Y 6 0 0 f) 3 r 0 15 ((upR Y 6 0 0 f) 3 r 0 15 ||| (1 <<< (nI S &&& 31)))) (upR Z 10 0 0 h') b n k' s' e' := TJ_fr (by funext o; rw [up_eq, upR_o (by omega)]) (up3_6 _ _ _ _ _) rfl rfl a4
    exact OutS_s (FrC_trans (FrC_6 _ _ f) (FrC_u3 _ _ _ _ _)) (FrL_0 a3) (s10_j (ho := true) hS hJ2 (by rw [em2]; exact hM2) (by rw [em2]; exact SX_c (fun o _ => by rw [up_eq, upR_o (by omega)]) (fun o o1 _ _ => by rw [up_eq, upR_o (by omega)]) hX2) (fun q hq => by rw [em2]; exact hpu q hq) (by rw [em2]; exact h12))
  · rw [a1, a2, bd2_e, bd2_e, if_pos rfl, if_pos rfl]
    exact s10_j (ho := false) hS h hM hX hpu h12
end
