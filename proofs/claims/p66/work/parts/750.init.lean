/-! PHASE 3: THE FIRST STATE -/
theorem b0_lt : ∀ i, i < 184 → b0 i < 256 := by decide +kernel
theorem ch0 : ∀ i, i < 184 → J0_charAt_5068e Yz 0 (nI i) = some (nI (b0 i)) := by decide +kernel
theorem nar0 : ∀ i, i < 184 → vp_nar .byte ((nI (b0 i)).toInt8.toInt32) = byt (b0 i) := by decide +kernel
theorem len0z : J0_length_8abf5 Yz 0 = some (nI 184) := by decide +kernel
theorem len0 (Y : Mem) : J0_length_8abf5 Y 0 = some (nI 184) := by
  rw [← len0z]
  unfold J0_length_8abf5 J0_coder_7d493
  rfl
theorem chY (Y : Mem) (x : Int32) : J0_charAt_5068e Y 0 x = J0_charAt_5068e Yz 0 x := by
  unfold J0_charAt_5068e J0_isLatin1_aae02 J1_charAt_3b067 J0_checkIndex_df160 J3_checkIndex_8e157
  rfl
theorem aS_ok : ∀ (d l : Nat) (Y : Mem), l + d = 184 → Y 5 0 0 1 = nI l → ∀ n, d < n → ∃ Y', X9_addString_b2 0 0 n Y (nI l) = some Y' ∧ Y' 5 0 0 1 = nI 184 ∧ (∀ j, l ≤ j → j < 184 → Y' 5 0 1 j = byt (b0 j)) ∧ (∀ j, j < l → Y' 5 0 1 j = Y 5 0 1 j) ∧ ∀ k g o, ¬ (k = 5 ∧ g = 0) → Y' k g o = Y k g o := by
  intro d
  induction d with
  | zero =>
    intro l Y hl hY n hn
    obtain ⟨n, rfl⟩ : ∃ q, n = q + 1 := ⟨n - 1, by omega⟩
    obtain rfl : l = 184 := by omega
    refine ⟨Y, ?_, hY, fun j h1 h2 => absurd h2 (by omega), fun j _ => rfl, fun _ _ _ _ => rfl⟩
    rw [X9_addString_b2.eq_2, gd_t (by decide), len0, bd1_e, if_pos (nI_le (Nat.le_refl _) (by omega))]
  | succ d ih =>
    intro l Y hl hY n hn
    obtain ⟨n, rfl⟩ : ∃ q, n = q + 1 := ⟨n - 1, by omega⟩
    have hlt : l < 184 := by omega
    have hadd : X9_addByte Y 0 (nI (b0 l)) = some (up (up Y 5 0 1 l (byt (b0 l))) 5 0 0 1 (nI (l + 1))) := by
      unfold X9_addByte
      have ht : (Int32.ofNat (tcap 0)) = nI 700 := rfl
      have e3 : (up Y 5 0 1 l (byt (b0 l))) 5 0 0 1 = nI l := by rw [up_eq, upR_o (by omega)]; exact hY
      rw [hY, ht, if_neg (nI_ge (show l < 700 by omega) (by omega)), gd_t (inb_n (show l < tcap 0 from Nat.lt_of_lt_of_le hlt (by decide)) (by decide)), ix_n (by omega), nar0 l hlt, lt_e, lt_e, e3, nI_1]
    obtain ⟨Y', a1, a2, a3, a4, a5⟩ := ih (l + 1) (up (up Y 5 0 1 l (byt (b0 l))) 5 0 0 1 (nI (l + 1))) (by omega) (by rw [up_at, pk_us]) n (by omega)
    refine ⟨Y', ?_, a2, fun j h1 h2 => ?_, fun j hj => ?_, fun k g o h => ?_⟩
    · rw [X9_addString_b2.eq_2, gd_t (by decide), len0, bd1_e, if_neg (nI_ge hlt (by omega)), chY, ch0 l hlt, bd1_e, hadd, bd1_e, nI_1]
      exact a1
    · by_cases e : j = l
      · subst e
        rw [a4 j (by omega), up_eq, upR_o (by omega), up_at, pk_us]
      · exact a3 j (by omega) h2
    · rw [a4 j (by omega), up_eq, upR_o (by omega), up_at, pk_un (by omega)]
    · rw [a5 k g o h, up_eq, upR_o (by omega), up_eq, upR_o (by omega)]
theorem cp_ok : ∀ (d l : Nat) (Y : Mem), l + d = 184 → ∀ n, d < n → M12i_b133 n Y (nI l) = some (upR Y 10 0 3 (fun j => if l ≤ j ∧ j < 184 then nI (b0 j) else Y 10 0 3 j)) := by
  intro d
  induction d with
  | zero =>
    intro l Y hl n hn
    obtain ⟨n, rfl⟩ : ∃ q, n = q + 1 := ⟨n - 1, by omega⟩
    obtain rfl : l = 184 := by omega
    have e : (fun j => if 184 ≤ j ∧ j < 184 then nI (b0 j) else Y 10 0 3 j) = Y 10 0 3 := by
      funext j
      exact if_neg (by omega)
    rw [M12i_b133.eq_2, len0, bd1_e, if_pos (nI_le (Nat.le_refl _) (by omega)), e, upR_self]
  | succ d ih =>
    intro l Y hl n hn
    obtain ⟨n, rfl⟩ : ∃ q, n = q + 1 := ⟨n - 1, by omega⟩
    have hlt : l < 184 := by omega
    rw [M12i_b133.eq_2, len0, bd1_e, if_neg (nI_ge hlt (by omega)), chY, ch0 l hlt, bd1_e, gd_t (inb_n (show l < 700 by omega) (by decide)), ix_n (by omega), lt_e, nI_1, ih (l + 1) _ (by omega) n (by omega), up_eq, upR_upR, upR_at]
    congr 2
    funext j
    by_cases e : j = l
    · subst e
      rw [if_neg (by omega), if_pos (by omega), pk_us]
    · rw [pk_un e]
      by_cases h : l ≤ j ∧ j < 184
      · rw [if_pos h, if_pos (by omega)]
      · rw [if_neg h, if_neg (by omega)]
theorem beginS1_ok (Y : Mem) (r : Nat) : ∃ σ, X8_begin Y 1 r = some (wS Y 1 σ) := by
  unfold X8_begin
  rw [lt_e, lt_e, lt_e, lt_e, lt_e, lt_e, lt_e, lt_e, lt_e, lt_e, up_self Y 1 0 0, up_wS, up_wS, up_wS, up_wS, up_wS, up_wS, up_wS, up_wS]
  generalize uo (uo (uo (uo (uo (uo (uo (uo (uo (Y 2 1) 0 0 (Y 3 r 0 0)) 0 1 0) 0 2 0) 0 3 0) 0 4 0) 0 5 0) 0 6 0) 0 7 0) 0 8 0 = σ
  rw [upR_wS, wS_k (k' := 3) (by omega)]
  generalize va_cpy (Y 3 r 3) ((wS Y 1 σ) 2 1 1) 0 0 14 = g
  obtain ⟨h2, a1, a2, -⟩ := fill_ok (wS Y 1 (uf σ 1 g)) 2 1 2 14 0 (by omega)
  obtain ⟨h3, b1, b2, -⟩ := fill_ok (wS Y 1 (uf (uf σ 1 g) 2 h2)) 2 1 3 14 0 (by omega)
  obtain ⟨h4, c1, c2, -⟩ := fill_ok (wS Y 1 (uf (uf (uf σ 1 g) 2 h2) 3 h3)) 2 1 4 14 0 (by omega)
  obtain ⟨h5, d1, d2, -⟩ := fill_ok (wS Y 1 (uf (uf (uf (uf σ 1 g) 2 h2) 3 h3) 4 h4)) 2 1 5 14 0 (by omega)
  obtain ⟨h6, e1, e2, -⟩ := fill_ok (wS Y 1 (uf (uf (uf (uf (uf σ 1 g) 2 h2) 3 h3) 4 h4) 5 h5)) 2 1 6 14 0 (by omega)
  refine ⟨uf (uf (uf (uf (uf (uf σ 1 g) 2 h2) 3 h3) 4 h4) 5 h5) 6 h6, ?_⟩
  rw [a1, bd1_e, upR_wS, b1, bd1_e, upR_wS, c1, bd1_e, upR_wS, d1, bd1_e, upR_wS, e1, bd1_e, upR_wS]
theorem Yz_0 {k g o : Nat} (h0 : ¬ (k = 0 ∧ g = 0 ∧ o = 0)) (h6 : ¬ (k = 6 ∧ g = 0 ∧ o = 0)) (h10 : ¬ ((k = 10 ∧ g = 0 ∧ o = 0) ∨ (k = 8 ∧ g = 0 ∧ o = 1))) : Yz k g o = fun _ => 0 := by
  funext j
  unfold Yz
  rw [if_neg (by omega), if_neg (by omega), if_neg (by omega), if_neg (by omega)]
theorem Yz_8 : Yz 8 0 1 = fun _ => 1 := by
  funext j
  unfold Yz
  rw [if_neg (by omega), if_neg (by omega), if_neg (by omega), if_pos ⟨rfl, rfl, rfl⟩]
/-- what the making of both objects runs through, over one memory -/
theorem first_state : ∃ Yb Yc Ye Yf Y3 Y4 : Mem, X9_addString Yz 0 0 = some Yb ∧ X7_readInto Yb 0 = some Yc ∧ X8_begin (up Yc 5 0 0 1 0) 0 0 = some Ye ∧ X8_begin Ye 1 0 = some Yf ∧
    (∀ k g o, ¬ (k = 6 ∧ g = 0 ∧ o = 0) → ¬ (k = 3 ∧ g = 0) → ¬ (k = 4 ∧ (g = 0 ∨ g = 1)) → ¬ (k = 5 ∧ g = 0) → (up Yc 5 0 0 1 0) k g o = Yz k g o) ∧
    (∀ k g o, ¬ (k = 2 ∧ g = 0) → Ye k g o = (up Yc 5 0 0 1 0) k g o) ∧ (∀ k g o, ¬ (k = 2 ∧ g = 1) → Yf k g o = Ye k g o) ∧
    M12i_b133 FU Yf 0 = some (upR Yf 10 0 3 (fun j => if 0 ≤ j ∧ j < 184 then nI (b0 j) else Yf 10 0 3 j)) ∧
    M12_begin (up (upR Yf 10 0 3 (fun j => if 0 ≤ j ∧ j < 184 then nI (b0 j) else Yf 10 0 3 j)) 10 0 0 4 (nI 184)) = some Y3 ∧ M12_parseSetup Y3 = some (1, Y4) ∧ (∀ k, k ≠ 10 → (up Y4 10 0 0 4 0) k = Yf k) ∧ Inv (up Y4 10 0 0 4 0) := by
  -- the class's text
  obtain ⟨Yb, s1, s2, s3, -, s5⟩ := aS_ok 184 0 Yz (by omega) (by decide) FU (by have := FU_big; omega)
  have hs : X9_addString Yz 0 0 = some Yb := s1
  have hTT : ∀ Z : Mem, (∀ j, j < 184 → Z 10 0 3 j = nI (b0 j)) → Z 10 0 0 4 = nI 184 → TT Yb Z b0 184 := fun Z z1 z2 => ⟨by omega, fun j hj => ⟨b0_lt j hj, z1 j hj, s3 j (Nat.zero_le _) hj⟩, s2, z2⟩
  -- the class reads it
  have hz0 : TT Yb Zz b0 184 := hTT Zz (fun j hj => by
    show (if 10 = 10 ∧ 0 = 0 ∧ 3 = 3 then (if j < 184 then nI (b0 j) else 0) else _) = _
    rw [if_pos ⟨rfl, rfl, rfl⟩, if_pos hj]) rfl
  obtain ⟨Yc, c1, c2⟩ : ∃ Yc, X7_readInto Yb 0 = some Yc ∧ FrC 0 Yb Yc := by
    rcases setup_j 0 hz0 with ⟨Y', Z', K, S, k, s, e, r1, -, -, -, -, f1, -⟩ | ⟨Y', Z', r1, -, -, f1, -⟩
    · exact ⟨Y', r1, f1⟩
    · exact ⟨Y', r1, f1⟩
  obtain ⟨σ, w1, w2, w3, w4, w5⟩ := beginS_ok (up Yc 5 0 0 1 0) 0
  obtain ⟨τ, v1⟩ := beginS1_ok (wS (up Yc 5 0 0 1 0) 0 σ) 0
  have fd : ∀ k g o, ¬ (k = 6 ∧ g = 0 ∧ o = 0) → ¬ (k = 3 ∧ g = 0) → ¬ (k = 4 ∧ (g = 0 ∨ g = 1)) → ¬ (k = 5 ∧ g = 0) → (up Yc 5 0 0 1 0) k g o = Yz k g o := fun k g o h6 h3 h4 h5 => by
    rw [up_eq, upR_o (by omega), c2 k g o h6 h3 (by omega), s5 k g o h5]
  have fe : ∀ k g o, ¬ (k = 2 ∧ g = 0) → (wS (up Yc 5 0 0 1 0) 0 σ) k g o = (up Yc 5 0 0 1 0) k g o := fun k g o h => wS_o h
  have ff' : ∀ k g o, ¬ (k = 2 ∧ g = 1) → (wS (wS (up Yc 5 0 0 1 0) 0 σ) 1 τ) k g o = (wS (up Yc 5 0 0 1 0) 0 σ) k g o := fun k g o h => wS_o h
  have f2 : (wS (wS (up Yc 5 0 0 1 0) 0 σ) 1 τ) 2 0 = σ := by
    funext o
    rw [ff' 2 0 o (by omega), wS_at]
  have fz : ∀ k g o, ¬ (k = 2 ∧ (g = 0 ∨ g = 1)) → (wS (wS (up Yc 5 0 0 1 0) 0 σ) 1 τ) k g o = (up Yc 5 0 0 1 0) k g o := fun k g o h => by rw [ff' k g o (by omega), fe k g o (by omega)]
  generalize hYf : wS (wS (up Yc 5 0 0 1 0) 0 σ) 1 τ = Yf at *
  have f10 : ∀ g o, Yf 10 g o = Yz 10 g o := fun g o => by rw [fz 10 g o (by omega), fd 10 g o (by omega) (by omega) (by omega) (by omega)]
  have hcp := cp_ok 184 0 Yf (by omega) FU (by have := FU_big; omega)
  have hY2 : (up (upR Yf 10 0 3 (fun j => if 0 ≤ j ∧ j < 184 then nI (b0 j) else Yf 10 0 3 j)) 10 0 0 4 (nI 184)) 10 = Zz 10 := by
    funext g o j
    by_cases h3 : g = 0 ∧ o = 3
    · obtain ⟨rfl, rfl⟩ := h3
      rw [up_eq, upR_o (by omega), upR_at]
      show (if 0 ≤ j ∧ j < 184 then nI (b0 j) else Yf 10 0 3 j) = (if 10 = 10 ∧ 0 = 0 ∧ 3 = 3 then (if j < 184 then nI (b0 j) else 0) else _)
      rw [if_pos (c := (10 = 10 ∧ 0 = 0 ∧ 3 = 3)) ⟨rfl, rfl, rfl⟩, f10, Yz_0 (by omega) (by omega) (by omega)]
      by_cases hj : j < 184
      · rw [if_pos ⟨Nat.zero_le _, hj⟩, if_pos hj]
      · rw [if_neg (fun q => hj q.2), if_neg hj]
    · by_cases h0 : g = 0 ∧ o = 0
      · obtain ⟨rfl, rfl⟩ := h0
        rw [up_at, upR_o (by omega), f10]
        unfold Zz Yz
        by_cases h4 : j = 4
        · subst h4
          rw [pk_us]; rfl
        · rw [pk_un h4, if_neg (by omega), if_neg (by omega), if_neg (c := (10 = 10 ∧ 0 = 0 ∧ 0 = 3)) (by omega), if_neg (c := (10 = 10 ∧ 0 = 0 ∧ 0 = 0 ∧ j = 4)) (by omega), if_neg (c := (10 = 8 ∧ 0 = 0 ∧ 0 = 1)) (by omega)]
      · rw [up_eq, upR_o (by omega), upR_o (by omega), f10, Yz_0 (by omega) (by omega) (by omega)]
        unfold Zz
        rw [if_neg (by omega), if_neg (by omega), if_neg (by omega)]
  have hk2 : ∀ k, k ≠ 10 → (up (upR Yf 10 0 3 (fun j => if 0 ≤ j ∧ j < 184 then nI (b0 j) else Yf 10 0 3 j)) 10 0 0 4 (nI 184)) k = Yf k := fun k hk => by
    funext g o
    rw [up_eq, upR_o (by omega), upR_o (by omega)]
  generalize hY2e : up (upR Yf 10 0 3 (fun j => if 0 ≤ j ∧ j < 184 then nI (b0 j) else Yf 10 0 3 j)) 10 0 0 4 (nI 184) = Y2 at *
  have z10 : ∀ g o, Y2 10 g o = Zz 10 g o := fun g o => by rw [hY2]
  -- the reference parses it
  have hp1 : (bd1 (M12_begin Y2) fun Y => M12_parseSetup Y) = Option.map (sw Y2) (bd1 (M12_begin Zz) fun Y => M12_parseSetup Y) := by
    have e := sv_of hY2
    have e1 : M12_begin Y2 = Option.map (sv Y2) (M12_begin Zz) := (congrArg M12_begin e).trans (k_X12_begin Zz)
    rw [e1, bd1_map, map_bd1]
    have e2 : (fun x => M12_parseSetup (sv Y2 x)) = (fun x => Option.map (sw Y2) (M12_parseSetup x)) := funext fun Z => k_X12_parseSetup Z
    exact congrArg (bd1 (M12_begin Zz)) e2
  have hfst : ∀ q, (bd1 (M12_begin Y2) fun Y => M12_parseSetup Y) = some q → q.1 = 1 := fun q hq => by
    rw [hp1] at hq
    have h9 := first_all
    cases hb : (bd1 (M12_begin Zz) fun Y => M12_parseSetup Y) with
    | none => rw [hb] at hq; cases hq
    | some w =>
      rw [hb] at hq h9
      have h8 : w.1 = 1 := Option.some.inj h9
      rw [← Option.some.inj hq]
      exact h8
  have hT2 : TT Yb Y2 b0 184 := hTT Y2 (fun j hj => by
    rw [z10]
    show (if 10 = 10 ∧ 0 = 0 ∧ 3 = 3 then (if j < 184 then nI (b0 j) else 0) else _) = _
    rw [if_pos ⟨rfl, rfl, rfl⟩, if_pos hj]) (by rw [z10]; rfl)
  rcases setup_j 0 hT2 with ⟨Yc', Y4, K, S, k1, s1', e1, r1, m1, t1, M1, hS1, -, fL1⟩ | ⟨Yc', Y4, -, m1, -, -, -⟩
  · have eY : Yc' = Yc := by rw [c1] at r1; exact (Option.some.inj r1).symm
    subst eY
    obtain ⟨Y3, hb3, hp3⟩ := bd1_some m1
    refine ⟨Yb, Yc', wS (up Yc' 5 0 0 1 0) 0 σ, Yf, Y3, Y4, hs, c1, w1, v1, fd, fe, ff', hcp, by rw [hY2e]; exact hb3, hp3, fun k hk => by funext g o; rw [up_eq, upR_o (by omega), fL1.1 k g o (by omega), hk2 k hk], ?_⟩
    obtain ⟨W, enS, enP⟩ := MID_WF M1
    obtain ⟨hRR, hNM⟩ := MID_RR (by omega) M1
    have hKS : KS σ (Y4 10 0 1) (Y4 10 0 1) := by
      refine KS_fresh M1 ⟨?_, w3, fun s hs => ?_, w5⟩
      · rw [w2, up_eq, upR_o (by omega)]; exact M1.2.2.1.1
      · rw [w4 s (by have := M1.1.2.1; omega), up_eq, upR_o (by omega)]
        exact (M1.2.2.2.2.2.1 s (by omega)).1
    have zk : ∀ k, k ≠ 10 → Y4 k = Yf k := fun k hk => by
      funext g o
      rw [fL1.1 k g o (by omega), hk2 k hk]
    have z0 : ∀ x, x ≠ 5 → x ≠ 6 → x ≠ 14 → x ≠ 15 → x ≠ 16 → x ≠ 17 → Y4 10 0 0 x = Zz 10 0 0 x := fun x q1 q2 q3 q4 q5 q6 => by
      rw [fL1.2.1 x q1 q2 q3 q4 q5 q6, z10]
    have mk : ∀ k, k ≠ 10 → (up Y4 10 0 0 4 0) k = Yf k := fun k hk => by
      rw [← zk k hk]; funext g o
      rw [up_eq, upR_o (by omega)]
    have m01 : (up Y4 10 0 0 4 0) 10 0 1 = Y4 10 0 1 := by rw [up_eq, upR_o (by omega)]
    have mo : ∀ o, o ≠ 0 → o ≠ 1 → (up Y4 10 0 0 4 0) 10 0 o = Zz 10 0 o := fun o q0 q1 => by
      rw [up_eq, upR_o (by omega), fL1.1 10 0 o (by omega), z10]
    have m0 : ∀ x, x ≠ 4 → (up Y4 10 0 0 4 0) 10 0 0 x = Y4 10 0 0 x := fun x q4 => by rw [up_at, pk_un q4]
    have m4 : (up Y4 10 0 0 4 0) 10 0 0 4 = 0 := by rw [up_at, pk_us]
    generalize up Y4 10 0 0 4 0 = Ym at *
    have y1 : Ym 1 0 0 0 = nI 0 := by
      rw [mk 1 (by omega), fz 1 0 0 (by omega), fd 1 0 0 (by omega) (by omega) (by omega) (by omega)]; rfl
    have ermg : rg Ym 0 = 0 := by unfold rg; rw [y1, nI_clamp (by omega)]
    have y3 : ∀ o, Ym 3 0 o = Yc' 3 0 o := fun o => by rw [mk 3 (by omega), fz 3 0 o (by omega), up_eq, upR_o (by omega)]
    have y4 : ∀ g o, Ym 4 g o = Yc' 4 g o := fun g o => by rw [mk 4 (by omega), fz 4 g o (by omega), up_eq, upR_o (by omega)]
    have y6 : Ym 6 0 0 = Yc' 6 0 0 := by rw [mk 6 (by omega), fz 6 0 0 (by omega), up_eq, upR_o (by omega)]
    have y5 : Ym 5 0 0 1 = nI 0 := by rw [mk 5 (by omega), fz 5 0 0 (by omega), up_at, pk_us]; rfl
    have yf : ∀ k g o, k ≠ 10 → k ≠ 2 → ¬ (k = 6 ∧ g = 0 ∧ o = 0) → ¬ (k = 3 ∧ g = 0) → ¬ (k = 4 ∧ (g = 0 ∨ g = 1)) → ¬ (k = 5 ∧ g = 0) → Ym k g o = Yz k g o := fun k g o h10 h2 h6 h3 h4 h5 => by
      rw [mk k h10, fz k g o (by omega), fd k g o h6 h3 h4 h5]
    refine ⟨by rw [m01]; exact W, by rw [m01, enS]; exact hS1, ?_, ?_, ?_, ?_, ?_, ?_, ?_, ?_, ?_⟩
    · rw [ermg, m01]
      exact RR_cells (funext y3) (funext (y4 (2 * 0))) (funext (y4 (2 * 0 + 1))) hRR
    · rw [mk 2 (by omega), f2, m01]; exact hKS
    · exact ⟨0, by omega, y1, by rw [yf 0 0 0 (by omega) (by omega) (by omega) (by omega) (by omega) (by omega)]; rfl⟩
    · rw [ermg, m01]
      exact NM_cells (funext (y4 (2 * 0))) (funext (y4 (2 * 0 + 1))) W (re_refl _) hNM
    · exact ⟨0, by omega, y5, m4, fun j hj => by omega⟩
    · unfold ER
      rw [y6, m0 5 (by omega), m0 6 (by omega), t1.2.1, t1.2.2.1, t1.2.2.2.1, t1.2.2.2.2]
      exact ⟨rfl, rfl⟩
    · exact ⟨0, by omega, by rw [yf 5 1 0 (by omega) (by omega) (by omega) (by omega) (by omega) (by omega)]; rfl, by rw [m0 8 (by omega), z0 8 (by omega) (by omega) (by omega) (by omega) (by omega) (by omega)]; rfl, fun j hj => by omega⟩
    · refine ⟨0, 0, by omega, by omega, ?_, ?_, ?_, fun i hi => by omega⟩
      · rw [yf 9 0 0 (by omega) (by omega) (by omega) (by omega) (by omega) (by omega)]; rfl
      · rw [yf 9 0 0 (by omega) (by omega) (by omega) (by omega) (by omega) (by omega)]; rfl
      · rw [m0 2 (by omega), z0 2 (by omega) (by omega) (by omega) (by omega) (by omega) (by omega)]; rfl
    · intro i hi
      left
      refine ⟨?_, ?_⟩
      · rw [yf 0 0 2 (by omega) (by omega) (by omega) (by omega) (by omega) (by omega), Yz_0 (by omega) (by omega) (by omega)]
      · rw [mo 2 (by omega) (by omega)]
        show (if 10 = 10 ∧ 0 = 0 ∧ 2 = 3 then _ else if 10 = 10 ∧ 0 = 0 ∧ 2 = 0 ∧ i = 4 then _ else if 10 = 10 ∧ 0 = 0 ∧ 2 = 0 ∧ i = 6 then _ else (0 : Int32)) = 0
        rw [if_neg (by omega), if_neg (by omega), if_neg (by omega)]
  · have := hfst _ m1
    exact absurd (show (0 : Int32) = 1 from this) (by decide)
