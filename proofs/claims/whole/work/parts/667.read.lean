section
/-! A SCRIPT is read -/
theorem oq_n {α β : Type} (a : Option β) (k : α → Option β) : oq none a k = a := rfl
theorem oq_s {α β : Type} (x : α) (a : Option β) (k : α → Option β) : oq (some x) a k = k x := rfl
theorem CRa_cg {n : Nat} {a1 a2 a3 d a1' a2' a3' d' : Nat → Int32} {j : Nat} (h1 : a1' j = a1 j) (h2 : a2' j = a2 j) (h3 : a3' j = a3 j) (hd : ∀ x, j * 3 ≤ x → x < j * 3 + 3 → d' x = d x) (h : CRa n a1 a2 a3 d j) : CRa n a1' a2' a3' d' j := by
  unfold CRa at h ⊢
  rw [h1, h2, h3, hd (j * 3) (by omega) (by omega), hd (j * 3 + 1) (by omega) (by omega)]
  obtain ⟨c, s, v, q1, q2, q3, q4, q5⟩ := h
  refine ⟨c, s, v, q1, q2, q3, q4, fun q => ?_⟩
  rw [hd _ (by split <;> omega) (by split <;> omega)]
  exact q5 q
theorem cmd_j {Y Z : Mem} {b : Nat → Nat} {n k s e j g ns : Nat} (h : TJ Y Z b n k s e) (hk : k ≠ 0) (hN : NN Y g (Z 10 0 1) 46 24 ns) (h13 : Z 10 0 1 13 = nI ns) (hns : ns ≤ 14) (hj : j ≤ 30) (h8 : Y 8 0 0 4 = nI j) (f : Nat) : (∃ Y' Z' k' s' e', j < 30 ∧ X6_readCommand Y g = some Y' ∧ X12_parseScript_b2 (f + 1) Z (nI j) = X12_parseScript_b2 f Z' (nI (j + 1)) ∧ TJ Y' Z' b n k' s' e' ∧ FrS Y Y' ∧ FrN Z Z' ∧ Y' 8 0 0 4 = nI (j + 1) ∧ (∀ i, i < j → Y' 8 0 1 i = Y 8 0 1 i ∧ Y' 8 0 2 i = Y 8 0 2 i ∧ Y' 8 0 3 i = Y 8 0 3 i) ∧ (∀ x, x < j * 3 → Z' 10 0 9 x = Z 10 0 9 x) ∧ CRa ns (Y' 8 0 1) (Y' 8 0 2) (Y' 8 0 3) (Z' 10 0 9) j) ∨ (∃ Z', Bad1 Y Z (X6_readCommand Y g) Z' ∧ X12_parseScript_b2 (f + 1) Z (nI j) = some (-1, Z')) := by
  obtain ⟨h1, -, -, m1, -, -, -, -, k4, -⟩ := TJ_k h
  have hC := cmdC_b h.1 0 (by omega) FU (by have := FU_big; omega) rfl
  have hM := cmdM_b h.1 0 (by omega) FU (by have := FU_big; omega) rfl
  have hCe : X6_findCommand Y = some (cmdI b k s e) := hC
  have hMe : X12_commandHere Z = some (oI (cmdI b k s e)) := hM
  have hMM : X12_parseScript_b2 (f + 1) Z (nI j) = bd1 (X12_commandHere Z) fun r2 => if r2 = (-1) then (bd2 (X12_wrong Z 1) fun r5 Y7 => X12_parseScript_b46 (X12_parseScript_b2 f) Y7 r2 (nI j) r5) else (if nI j < 30 then (X12_parseScript_b33 (X12_parseScript_b2 f) Z r2 (nI j)) else (bd2 (X12_wrong Z 5) fun r24 Y26 => if r24 = 0 then (X12_parseScript_b46 (X12_parseScript_b2 f) Y26 r2 (nI j) 0) else (X12_parseScript_b33 (X12_parseScript_b2 f) Y26 r2 (nI j)))) := by
    rw [X12_parseScript_b2.eq_2, m1, if_neg (show ¬ nI k = 0 from by show ¬ nI k = nI 0; rw [nI_lit (by omega) (by omega)]; exact hk)]
  rw [hMM, hMe, bd1_e]
  unfold X6_readCommand
  rw [hCe, bd1_e]
  cases q : cmdI b k s e with
  | none =>
    right
    obtain ⟨f', h', a1, a2, a3, a4⟩ := fail_j h (c := 1) (by omega) (by omega)
    rw [oq_n, if_pos (show oI none = -1 from rfl), show X12_wrong Z 1 = _ from a2, bd2_e]
    unfold X12_parseScript_b46
    rw [if_pos rfl, show X10_fail Y 1 = _ from a1, bd1_e]
    exact ⟨_, ⟨_, rfl, FrS_6 _ _, FrN_0 a3, BP_of a4⟩, rfl⟩
  | some c =>
    have hc : c < 8 := (fst1_some.mp q).1
    rw [oq_s, if_neg (oI_some (by omega)), show oI (some c) = nI c from rfl, h8]
    by_cases hj30 : j < 30
    · have l30 : nI j < 30 := (nI_ltI (b := 30) (by omega) (by omega)).mpr hj30
      rw [if_pos l30, if_pos l30]
      obtain ⟨f1, g1, k1, s1, e1, a1, a2, a3, a4⟩ := adv_j h
      unfold X12_parseScript_b33 X12_parseScript_b46
      have e8 : (upR Y 6 0 0 f1) 8 0 0 4 = nI j := by rw [upR_o (by omega)]; exact h8
      have j3 : nI j * 3 = nI (j * 3) := by show nI j * nI 3 = _; rw [pk_mul]
      rw [if_neg (by decide), a1, bd1_e, a2, bd1_e, gd_t (decide_eq_true hc), e8, gdi hj30, ix_n (by omega), lt_e, j3, gdi (show j * 3 < 90 by omega), ix_n (by omega), lt_e, nI_1, nI_1, show Int32.ofNat (c + 1) = nI (c + 1) from rfl]
      have e8' : (up (upR Y 6 0 0 f1) 8 0 1 j (nI (c + 1))) 8 0 0 4 = nI j := by rw [up_eq, upR_o (by omega)]; exact e8
      rw [e8']
      have hJ : TJ (up (upR Y 6 0 0 f1) 8 0 1 j (nI (c + 1))) (up (upR Z 10 0 0 g1) 10 0 9 (j * 3) (nI c)) b n k1 s1 e1 := TJ_fr (by funext o; rw [up_eq, upR_o (by omega)]) (by rw [up_eq, upR_o (by omega)]) (by rw [up_eq, upR_o (by omega)]) (by rw [up_eq, upR_o (by omega)]) a4
      have hm1 : (up (upR Z 10 0 0 g1) 10 0 9 (j * 3) (nI c)) 10 0 1 = Z 10 0 1 := by rw [up_eq, upR_o (by omega), upR_o (by omega)]
      have hN' : NN (up (upR Y 6 0 0 f1) 8 0 1 j (nI (c + 1))) g ((up (upR Z 10 0 0 g1) 10 0 9 (j * 3) (nI c)) 10 0 1) 46 24 ns := by
        have e4 : (up (upR Y 6 0 0 f1) 8 0 1 j (nI (c + 1))) 4 = Y 4 := by funext g o; rw [up_eq, upR_o (by omega), upR_o (by omega)]
        rw [hm1]
        unfold NN nameP at hN ⊢
        rw [e4]; exact hN
      have fS : FrS Y (up (upR Y 6 0 0 f1) 8 0 1 j (nI (c + 1))) := FrS_trans (FrS_6 _ _) (FrS_8 _ _ _ _ _)
      have fN : FrN Z (up (upR Z 10 0 0 g1) 10 0 9 (j * 3) (nI c)) := FrN_trans (FrN_0 a3) (by rw [up_eq]; exact FrN_9 _ _)
      rcases args_j (c := c) hJ hN' (by rw [hm1]; exact h13) hns hc hj30 e8' (fun Y21 => X12_parseScript_b2 f Y21 (nI (j + 1))) with ⟨Y', Z', st, nu, k', s', e', si, v, d1, d2, d3, d4, d5, d6, d7, d8⟩ | ⟨Z', ⟨Y', d1, d2, d3, d4⟩, d5⟩
      · left
        obtain ⟨p1, p2, p3, p4, p5, p6⟩ := d4
        refine ⟨Y', Z', k', s', e', hj30, d1, d2, d3, FrS_trans fS p1, FrN_trans fN d5, p2, fun i hi => ⟨?_, ?_, ?_⟩, fun x hx => ?_, c, si, v, hc, ?_, ?_, fun w => ⟨(d7 w).1, p5.trans (d7 w).2.1, (d7 w).2.2⟩, fun w => ⟨(d8 w).1, p6.trans (d8 w).2.1, (d8 w).2.2⟩⟩
        · rw [p3, up_at, pk_un (by omega), upR_o (by omega)]
        · rw [(p4 i (by omega)).1, up_eq, upR_o (by omega), upR_o (by omega)]
        · rw [(p4 i (by omega)).2, up_eq, upR_o (by omega), upR_o (by omega)]
        · rw [d6 x (by omega) (by omega), up_at, pk_un (by omega), upR_o (by omega)]
        · rw [p3, up_at, pk_us]
        · rw [d6 _ (by omega) (by omega), up_at, pk_us]
      · right
        exact ⟨Z', ⟨Y', d1, FrS_trans fS d2, FrN_trans fN d3, d4⟩, d5⟩
    · have l30 : ¬ nI j < 30 := fun w => hj30 ((nI_ltI (b := 30) (by omega) (by omega)).mp w)
      right
      obtain ⟨f', h', a1, a2, a3, a4⟩ := fail_j h (c := 5) (by omega) (by omega)
      rw [if_neg l30, if_neg l30, show X12_wrong Z 5 = _ from a2, bd2_e, if_pos rfl]
      unfold X12_parseScript_b46
      rw [if_pos rfl, show X10_fail Y 5 = _ from a1, bd1_e]
      exact ⟨_, ⟨_, rfl, FrS_6 _ _, FrN_0 a3, BP_of a4⟩, rfl⟩
theorem NN_fr {Y Y' : Mem} {g a0 st c : Nat} {m : Nat → Int32} (h4 : Y' 4 g = Y 4 g) (h : NN Y g m a0 st c) : NN Y' g m a0 st c := by
  unfold NN nameP at h ⊢; rw [h4]; exact h
theorem read_b {g ns : Nat} {b : Nat → Nat} {n : Nat} (hns : ns ≤ 14) : ∀ d j Y Z k s e f f', j + d = 30 → d + 2 < f → d + 2 < f' → TJ Y Z b n k s e → NN Y g (Z 10 0 1) 46 24 ns → Z 10 0 1 13 = nI ns → Y 8 0 0 4 = nI j → (∀ i, i < j → CRa ns (Y 8 0 1) (Y 8 0 2) (Y 8 0 3) (Z 10 0 9) i) → (∃ J Y' Z' k' s' e', J ≤ 30 ∧ X6_read_b14 g f Y (nI j) = some Y' ∧ X12_parseScript_b2 f' Z (nI j) = some (nI J, Z') ∧ TJ Y' Z' b n k' s' e' ∧ FrS Y Y' ∧ FrN Z Z' ∧ Y' 8 0 0 4 = nI J ∧ ∀ i, i < J → CRa ns (Y' 8 0 1) (Y' 8 0 2) (Y' 8 0 3) (Z' 10 0 9) i) ∨ (∃ Z', Bad1 Y Z (X6_read_b14 g f Y (nI j)) Z' ∧ X12_parseScript_b2 f' Z (nI j) = some (-1, Z')) := by
  intro d
  induction d with
  | zero =>
    intro j Y Z k s e f f' hj hf hf' h hN h13 h8 hr
    obtain ⟨f, rfl⟩ := fuel_s (n := 0) (f := f) (by omega)
    obtain ⟨f', rfl⟩ := fuel_s (n := 0) (f := f') (by omega)
    obtain ⟨h1, -, -, m1, -, -, -, -, k4, -⟩ := TJ_k h
    have l30 : ¬ (30 : Int32) < nI j := by show ¬ nI 30 < nI j; rw [nI_ltI (by omega) (by omega)]; omega
    by_cases hk : k = 0
    · subst hk
      left
      refine ⟨j, Y, Z, 0, s, e, by omega, ?_, ?_, h, FrS_refl _, FrN_refl _, h8, hr⟩
      · rw [X6_read_b14.eq_2, if_neg l30]
        unfold X10_mayGoOn
        rw [h1, if_pos (show nI 0 = 0 from rfl), bd1_e, if_pos rfl]
      · rw [X12_parseScript_b2.eq_2, m1, if_pos (show nI 0 = 0 from rfl)]
    · have hg : X10_mayGoOn Y = some 1 := by
        unfold X10_mayGoOn
        rw [h1, if_neg (show ¬ nI k = 0 from by show ¬ nI k = nI 0; rw [nI_lit (by omega) (by omega)]; exact hk), if_neg (show ¬ nI k = 5 from by show ¬ nI k = nI 5; rw [nI_lit (by omega) (by omega)]; omega)]
      rcases cmd_j h hk hN h13 hns (by omega) h8 f' with ⟨Y', Z', k', s', e', q, -⟩ | ⟨Z', ⟨Y', d1, d2, d3, d4⟩, d5⟩
      · omega
      · right
        refine ⟨Z', ⟨Y', ?_, d2, d3, d4⟩, d5⟩
        rw [X6_read_b14.eq_2, if_neg l30, hg, bd1_e, if_neg (by decide), d1, bd1_e, nI_1]
        obtain ⟨f, rfl⟩ := fuel_s (n := 0) (f := f) (by omega)
        rw [X6_read_b14.eq_2, if_pos (show (30 : Int32) < nI (j + 1) from (nI_ltI (a := 30) (by omega) (by omega)).mpr (by omega))]
  | succ d ih =>
    intro j Y Z k s e f f' hj hf hf' h hN h13 h8 hr
    obtain ⟨f, rfl⟩ := fuel_s (n := 0) (f := f) (by omega)
    obtain ⟨f', rfl⟩ := fuel_s (n := 0) (f := f') (by omega)
    obtain ⟨h1, -, -, m1, -, -, -, -, k4, -⟩ := TJ_k h
    have l30 : ¬ (30 : Int32) < nI j := by show ¬ nI 30 < nI j; rw [nI_ltI (by omega) (by omega)]; omega
    by_cases hk : k = 0
    · subst hk
      left
      refine ⟨j, Y, Z, 0, s, e, by omega, ?_, ?_, h, FrS_refl _, FrN_refl _, h8, hr⟩
      · rw [X6_read_b14.eq_2, if_neg l30]
        unfold X10_mayGoOn
        rw [h1, if_pos (show nI 0 = 0 from rfl), bd1_e, if_pos rfl]
      · rw [X12_parseScript_b2.eq_2, m1, if_pos (show nI 0 = 0 from rfl)]
    · have hg : X10_mayGoOn Y = some 1 := by
        unfold X10_mayGoOn
        rw [h1, if_neg (show ¬ nI k = 0 from by show ¬ nI k = nI 0; rw [nI_lit (by omega) (by omega)]; exact hk), if_neg (show ¬ nI k = 5 from by show ¬ nI k = nI 5; rw [nI_lit (by omega) (by omega)]; omega)]
      rcases cmd_j h hk hN h13 hns (by omega) h8 f' with ⟨Y', Z', k', s', e', q, d1, d2, d3, d4, d5, d6, d7, d8, d9⟩ | ⟨Z', ⟨Y', d1, d2, d3, d4⟩, d5⟩
      · have em : Z' 10 0 1 = Z 10 0 1 := d5.1 10 0 1 (by omega)
        have hN' : NN Y' g (Z' 10 0 1) 46 24 ns := by rw [em]; exact NN_fr (by funext o; exact d4 4 g o (by omega) (by omega)) hN
        have hr' : ∀ i, i < j + 1 → CRa ns (Y' 8 0 1) (Y' 8 0 2) (Y' 8 0 3) (Z' 10 0 9) i := fun i hi => by
          by_cases e : i = j
          · subst e; exact d9
          · have hi2 : i < j := by omega
            exact CRa_cg (d7 i hi2).1 (d7 i hi2).2.1 (d7 i hi2).2.2 (fun x _ hx => d8 x (by omega)) (hr i hi2)
        have hstep : X6_read_b14 g (f + 1) Y (nI j) = X6_read_b14 g f Y' (nI (j + 1)) := by
          rw [X6_read_b14.eq_2, if_neg l30, hg, bd1_e, if_neg (by decide), d1, bd1_e, nI_1]
        rw [hstep, d2]
        rcases ih (j + 1) Y' Z' k' s' e' f f' (by omega) (by omega) (by omega) d3 hN' (by rw [em]; exact h13) d6 hr' with ⟨J, Y2, Z2, k2, s2, e2, r1, r2, r3, r4, r5, r6, r7, r8⟩ | ⟨Z2, ⟨Y2, r1, r2, r3, r4⟩, r5⟩
        · left
          exact ⟨J, Y2, Z2, k2, s2, e2, r1, r2, r3, r4, FrS_trans d4 r5, FrN_trans d5 r6, r7, r8⟩
        · right
          exact ⟨Z2, ⟨Y2, r1, FrS_trans d4 r2, FrN_trans d5 r3, r4⟩, r5⟩
      · right
        refine ⟨Z', ⟨Y', ?_, d2, d3, d4⟩, d5⟩
        rw [X6_read_b14.eq_2, if_neg l30, hg, bd1_e, if_neg (by decide), d1, bd1_e, nI_1]
        obtain ⟨f, rfl⟩ := fuel_s (n := 0) (f := f) (by omega)
        rw [X6_read_b14.eq_2]
        by_cases w : (30 : Int32) < nI (j + 1)
        · rw [if_pos w]
        · rw [if_neg w, e_go d4.1, bd1_e, if_pos rfl]
/-- the whole script is read -/
theorem script_j {Y Z : Mem} {b : Nat → Nat} {n g ns : Nat} (hns : ns ≤ 14) (hT : TT Y Z b n) (hN : NN Y g (Z 10 0 1) 46 24 ns) (h13 : Z 10 0 1 13 = nI ns) : (∃ J Y' Z' k' s' e', J ≤ 30 ∧ X6_read Y g = some Y' ∧ (bd1 (X12_begin Z) fun Y3 => X12_parseScript Y3) = some (nI J, Z') ∧ TJ Y' Z' b n k' s' e' ∧ FrS Y Y' ∧ FrN Z Z' ∧ Y' 8 0 0 4 = nI J ∧ ∀ i, i < J → CRa ns (Y' 8 0 1) (Y' 8 0 2) (Y' 8 0 3) (Z' 10 0 9) i) ∨ (∃ Z', Bad1 Y Z (X6_read Y g) Z' ∧ (bd1 (X12_begin Z) fun Y3 => X12_parseScript Y3) = some (-1, Z')) := by
  have hT' : TT (up Y 8 0 0 4 0) Z b n := by
    unfold TT at hT ⊢
    rw [show (up Y 8 0 0 4 0) 5 = Y 5 from by funext g o; rw [up_eq, upR_o (by omega)]]; exact hT
  obtain ⟨f, h, k, s, e, a1, a2, a3, a4⟩ := begin_j hT'
  have fS : FrS Y (upR (up Y 8 0 0 4 0) 6 0 0 f) := FrS_trans (FrS_8 _ _ _ _ _) (FrS_6 _ _)
  have em : (upR Z 10 0 0 h) 10 0 1 = Z 10 0 1 := upR_o (by omega)
  have hc : X6_read Y g = X6_read_b14 g FU (upR (up Y 8 0 0 4 0) 6 0 0 f) (nI 0) := by
    unfold X6_read
    rw [lt_e, a1, bd1_e]; rfl
  rw [hc, a2, bd1_e]
  unfold X12_parseScript
  rcases read_b (g := g) (ns := ns) hns 30 0 (upR (up Y 8 0 0 4 0) 6 0 0 f) (upR Z 10 0 0 h) k s e FU FU (by omega) (by have := FU_big; omega) (by have := FU_big; omega) a4 (by rw [em]; exact NN_fr (by funext o; exact fS 4 g o (by omega) (by omega)) hN) (by rw [em]; exact h13) (by rw [upR_o (by omega), up_at, pk_us]; rfl) (fun i hi => by omega) with ⟨J, Y2, Z2, k2, s2, e2, r1, r2, r3, r4, r5, r6, r7, r8⟩ | ⟨Z2, ⟨Y2, r1, r2, r3, r4⟩, r5⟩
  · left
    exact ⟨J, Y2, Z2, k2, s2, e2, r1, r2, r3, r4, FrS_trans fS r5, FrN_trans (FrN_0 a3) r6, r7, r8⟩
  · right
    exact ⟨Z2, ⟨Y2, r1, FrS_trans fS r2, FrN_trans (FrN_0 a3) r3, r4⟩, r5⟩
end
