section
/-! runScript -/
theorem TT_m {Y Z Z' : Mem} {b : Nat → Nat} {n : Nat} (h : Z' 10 = Z 10) (hT : TT Y Z b n) : TT Y Z' b n := by
  unfold TT at hT ⊢; rw [h]; exact hT
theorem model_run (Yc : Mem) : X12_runScript Yc = bd2 (bd1 (X12_begin Yc) fun Y3 => X12_parseScript Y3) fun r4 Y6 => lt_ (up Y6 10 0 0 4 0) fun Y7 => if r4 = (-1) then X12_runScript_b25 Y7 r4 1 else X12_runScript_b25 Y7 r4 0 := by
  unfold X12_runScript
  cases X12_begin Yc with
  | none => rfl
  | some Y3 => rfl
theorem q_runScript {Y : Mem} (hI : Inv Y) : R1 (X11_runScript Y) X12_runScript c2_ := by
  have hR := Inv_R hI
  have h14 := nS_le hI
  obtain ⟨b, n, hT⟩ := TT_of (Inv_X hI)
  have hN := NN_st hI
  have h13 := hI.1.1
  -- what the class reads
  have hread := script_j (Z := Y) h14 hT hN h13
  have hcls : ∀ Y5, X6_read Y (2 * rg Y 0 + 1) = some Y5 → X11_runScript Y = bdxv (X11_requireNoError (up Y5 5 0 0 1 0)) fun Y11 => bd1 (X2_push Y11 0) fun Y16 => X11_runScript_b45 FU Y16 0 := fun Y5 h => by
    unfold X11_runScript
    rw [gd2 hR.1.1, gd2 hR.1.1, h, bd1_e, lt_e]
  have f5 : ∀ {Y5 : Mem}, FrS Y Y5 → (∀ k g o, ¬ (k = 6 ∧ g = 0 ∧ o = 0) → k ≠ 8 → k ≠ 5 → (up Y5 5 0 0 1 0) k g o = Y k g o) := fun h k g o q1 q2 q3 => by
    rw [up_eq, upR_o (by omega)]; exact h k g o q1 q2
  have f51 : ∀ {Y5 : Mem}, FrS Y Y5 → ∀ o, (up Y5 5 0 0 1 0) 5 1 o = Y 5 1 o := fun h o => by
    rw [up_eq, upR_o (by omega)]; exact h 5 1 o (by omega) (by omega)
  rcases hread with ⟨J0, Y5, Z0, k0, s0, e0, hJ0, r0, -, t0, fS0, fN0, c0, rows0⟩ | ⟨Z0, ⟨Y5, r0, fS0, fN0, bp0⟩, -⟩
  · -- read without an error
    have e6 : (up Y5 5 0 0 1 0) 6 0 0 = Y5 6 0 0 := by rw [up_eq, upR_o (by omega)]
    have e64 : (up Y5 5 0 0 1 0) 6 0 0 4 = 0 := by rw [e6]; exact t0.2.1
    have e2 : ∀ g, (up Y5 5 0 0 1 0) 2 g = Y 2 g := fun g => by funext o; exact f5 fS0 2 g o (by omega) (by omega) (by omega)
    have e9 : (up Y5 5 0 0 1 0) 9 = Y 9 := by funext g o; exact f5 fS0 9 g o (by omega) (by omega) (by omega)
    have e10 : (up Y5 5 0 0 1 0) 10 = Y 10 := by funext g o; exact f5 fS0 10 g o (by omega) (by omega) (by omega)
    have e8 : (up Y5 5 0 0 1 0) 8 = Y5 8 := by funext g o; rw [up_eq, upR_o (by omega)]
    have ek : ∀ k, k ≠ 5 → k ≠ 6 → k ≠ 8 → (up Y5 5 0 0 1 0) k = Y k := fun k h5 h6 h8 => by funext g o; exact f5 fS0 k g o (by omega) h8 h5
    have e50 : (up Y5 5 0 0 1 0) 5 0 0 1 = 0 := by rw [up_at, pk_us]
    have e51 := f51 fS0
    have hcls2 := hcls Y5 r0
    have hrq : X11_requireNoError (up Y5 5 0 0 1 0) = some (.inr (up Y5 5 0 0 1 0)) := by
      unfold X11_requireNoError; rw [e64, if_pos rfl]
    rw [hrq, bdxv_r] at hcls2
    generalize up Y5 5 0 0 1 0 = Y6 at *
    obtain ⟨hn, c, hH⟩ := Inv_H hI
    have hH6 : HIn Y6 hn c := by
      unfold HIn at hH ⊢
      simp only [e2, e9, e10]
      exact hH
    obtain ⟨Yp, p1, hp, hpk⟩ := push_ok hH6 (by rw [e2]; exact Inv_5 hI)
    have hp' : PuF Y Yp hn c := by
      obtain ⟨-, q2, q3, q4, q5⟩ := hp
      exact ⟨hH, fun g hg => by rw [q2 g hg, e2], by rw [q3, e2, e2], q4, q5⟩
    have hM := (rem_ok Y hH.2.1 hH.2.2.2.2.1).2
    have ck : CK Y Yp (remA (Y 10 0 1) c) := by
      refine ⟨by rw [hpk 1 (by omega) (by omega), ek 1 (by omega) (by omega) (by omega)], by rw [hpk 3 (by omega) (by omega), ek 3 (by omega) (by omega) (by omega)], by rw [hpk 4 (by omega) (by omega), ek 4 (by omega) (by omega) (by omega)], ?_⟩
      rw [hp.2.1 0 (by omega), e2]
      exact KS_cg (Inv_KS hI) hI.1.2.1 (fun _ _ => rfl) hM.1
    have r8 : Yp 8 = Y5 8 := by rw [hpk 8 (by omega) (by omega), e8]
    obtain ⟨r, Yc, f', w1, w2, w3, w4, w5⟩ := run_b hI (J := J0) (ns := nS (Y 10 0 1)) hJ0 rfl rows0 J0 0 Yp (remA (Y 10 0 1) c) FU (by omega) (by have := FU_big; omega) ck (by rw [r8]) (by rw [r8]) (by rw [r8]) (by rw [r8]; exact c0)
    have c10 : Yc 10 = Y 10 := by rw [w2.1 10 (by omega) (by omega), hpk 10 (by omega) (by omega), e10]
    -- the model
    rcases script_j (Z := Yc) h14 (TT_m c10 hT) (by rw [c10]; exact hN) (by rw [c10]; exact h13) with ⟨J, Y5', Z', k', s', e', hJ, r0', m1, t1, fS1, fN1, c1, rows1⟩ | ⟨Z', ⟨Y5', r0', -, -, bp⟩, -⟩
    · have eY : Y5' = Y5 := by rw [r0] at r0'; exact (Option.some.inj r0').symm
      subst eY
      have eJ : J = J0 := by rw [c0, nI_lit (by omega) (by omega)] at c1; exact c1.symm
      subst eJ
      right
      have z1 : Z' 10 0 1 = Y 10 0 1 := by rw [fN1.1 10 0 1 (by omega), c10]
      have z0 : ∀ x, x ≠ 5 → x ≠ 6 → x ≠ 14 → x ≠ 15 → x ≠ 16 → x ≠ 17 → Z' 10 0 0 x = Y 10 0 0 x := fun x q1 q2 q3 q4 q5 q6 => by rw [fN1.2 x q1 q2 q3 q4 q5 q6, c10]
      have zo : ∀ o, o ≠ 0 → o ≠ 9 → Z' 10 0 o = Y 10 0 o := fun o q1 q2 => by rw [fN1.1 10 0 o (by omega), c10]
      have zk : ∀ k, k ≠ 10 → Z' k = Yc k := fun k hk => by funext g o; exact fN1.1 k g o (by omega)
      have hc2 : (up (up Z' 10 0 0 4 0) 10 0 0 9 0) 10 0 0 2 = nI c := by rw [up9_x _ _ (by omega), up_at, pk_un (by omega), z0 2 (by omega) (by omega) (by omega) (by omega) (by omega) (by omega)]; exact hH.2.2.2.2.1
      have hr := (rem_ok (up (up Z' 10 0 0 4 0) 10 0 0 9 0) (c := c) hH.2.1 hc2).1
      have hz1 : (up (up Z' 10 0 0 4 0) 10 0 0 9 0) 10 0 1 = Y 10 0 1 := by rw [up9_m, up_eq, upR_o (by omega)]; exact z1
      rw [hz1] at hr
      have q9 : (upR (up (up (up Z' 10 0 0 4 0) 10 0 0 9 0) 10 0 0 2 (nI (min (c + 1) 6))) 10 0 1 (remA (Y 10 0 1) c)) 10 0 9 = Z' 10 0 9 := by
        rw [upR_o (by omega), up_eq, upR_o (by omega), up_eq, upR_o (by omega), up_eq, upR_o (by omega)]
      obtain ⟨Zm, y1, y2, y3⟩ := w5 FU (upR (up (up (up Z' 10 0 0 4 0) 10 0 0 9 0) 10 0 0 2 (nI (min (c + 1) 6))) 10 0 1 (remA (Y 10 0 1) c)) (by have := FU_big; omega) (by rw [q9]; exact rows1) (upR_at _ _ _ _ _)
      refine ⟨r, Yc, ?_, Zm, ?_, ?_, ?_⟩
      · rw [hcls2, p1, bd1_e]; exact w1
      · rw [model_run, m1, bd2_e, lt_e, if_neg (show ¬ nI J = -1 from oI_some (by omega))]
        unfold X12_runScript_b25
        rw [fails_000, bd2_e, if_pos rfl, hr, bd1_e]
        exact y1
      · rw [y2 10 0 0 (by omega), upR_o (by omega), up_at, pk_un (by omega), up9_9]
      · have mk : ∀ k, k ≠ 10 → Zm k = Yc k := fun k hk => by
          funext g o
          rw [y2 k g o (by omega), upR_o (by omega), up_eq, upR_o (by omega), up_eq, upR_o (by omega), up_eq, upR_o (by omega), zk k hk]
        have mo : ∀ o, o ≠ 0 → o ≠ 1 → o ≠ 5 → o ≠ 8 → o ≠ 9 → Zm 10 0 o = Y 10 0 o := fun o q0 q1 q5 q8 q9 => by
          rw [y2 10 0 o (by omega), upR_o (by omega), up_eq, upR_o (by omega), up_eq, upR_o (by omega), up_eq, upR_o (by omega), zo o q0 q9]
        have m0 : ∀ x, x ≠ 2 → x ≠ 4 → x ≠ 9 → Zm 10 0 0 x = Z' 10 0 0 x := fun x q2 q4 q9 => by
          rw [y2 10 0 0 (by omega), upR_o (by omega), up_at, pk_un q2, up9_x _ _ q9, up_at, pk_un q4]
        have m2 : Zm 10 0 0 2 = nI (min (c + 1) 6) := by rw [y2 10 0 0 (by omega), upR_o (by omega), up_at, pk_us]
        have m4 : Zm 10 0 0 4 = 0 := by rw [y2 10 0 0 (by omega), upR_o (by omega), up_at, pk_un (by omega), up9_x _ _ (by omega), up_at, pk_us]
        have kk : ∀ k, k ≠ 1 → k ≠ 2 → k ≠ 9 → k ≠ 10 → Zm k = Y6 k := fun k h1 h2 h9 h10 => by rw [mk k h10, w2.1 k h1 h2, hpk k h2 h9]
        refine mut_fin hI hp' hM (by rw [mk 1 (by omega), w2.2.1, hpk 1 (by omega) (by omega), ek 1 (by omega) (by omega) (by omega)]) (by rw [kk 0 (by omega) (by omega) (by omega) (by omega), ek 0 (by omega) (by omega) (by omega)]) (by rw [mk 9 (by omega), w2.1 9 (by omega) (by omega)]) (by rw [kk 3 (by omega) (by omega) (by omega) (by omega), ek 3 (by omega) (by omega) (by omega)]) (by rw [kk 4 (by omega) (by omega) (by omega) (by omega), ek 4 (by omega) (by omega) (by omega)]) (fun g hg => by rw [mk 2 (by omega), w2.2.2 g hg]) m2 (mo 2 (by omega) (by omega) (by omega) (by omega) (by omega)) (fun x h1 _ => by rw [y3]; exact w4 x h1) ?_ ?_ ?_ ?_
        · rw [mk 2 (by omega), y3]; exact w3
        · refine ⟨0, by omega, ?_, m4, fun j hj => by omega⟩
          rw [kk 5 (by omega) (by omega) (by omega) (by omega)]; exact e50
        · unfold ER
          rw [kk 6 (by omega) (by omega) (by omega) (by omega), e6, m0 5 (by omega) (by omega) (by omega), m0 6 (by omega) (by omega) (by omega), t1.2.1, t1.2.2.1, t1.2.2.2.1, t1.2.2.2.2]
          exact ⟨rfl, rfl⟩
        · refine OU_cells (by rw [kk 5 (by omega) (by omega) (by omega) (by omega)]; funext o; exact e51 o) (by rw [m0 8 (by omega) (by omega) (by omega), z0 8 (by omega) (by omega) (by omega) (by omega) (by omega) (by omega)]) (mo 4 (by omega) (by omega) (by omega) (by omega) (by omega)) (Inv_O hI)
    · have eY : Y5' = Y5 := by rw [r0] at r0'; exact (Option.some.inj r0').symm
      subst eY
      have := bp.1
      rw [(TJ_k t0).1] at this
      have q := (nI_lit (k := k0) (c := 5) (by have := (TJ_k t0).2.2.2.2.2.2.2.2.1; omega) (by omega)).mp this
      have := (TJ_k t0).2.2.2.2.2.2.2.2.1
      omega
  · -- an error
    have e6 : (up Y5 5 0 0 1 0) 6 0 0 = Y5 6 0 0 := by rw [up_eq, upR_o (by omega)]
    have n64 : ¬ (up Y5 5 0 0 1 0) 6 0 0 4 = 0 := by
      rw [e6, bp0.2.1]
      obtain ⟨cc, c1, c5, c6⟩ := bp0.2.2.2
      rw [c6]
      show ¬ nI cc = nI 0
      rw [nI_lit (by omega) (by omega)]; omega
    have e10 : (up Y5 5 0 0 1 0) 10 = Y 10 := by funext g o; exact f5 fS0 10 g o (by omega) (by omega) (by omega)
    have ek : ∀ k, k ≠ 5 → k ≠ 6 → k ≠ 8 → (up Y5 5 0 0 1 0) k = Y k := fun k h5 h6 h8 => by funext g o; exact f5 fS0 k g o (by omega) h8 h5
    have e50 : (up Y5 5 0 0 1 0) 5 0 0 1 = 0 := by rw [up_at, pk_us]
    have e51 := f51 fS0
    have hcls2 := hcls Y5 r0
    have hrq : X11_requireNoError (up Y5 5 0 0 1 0) = some (.inl (2, up Y5 5 0 0 1 0)) := by
      unfold X11_requireNoError; rw [if_neg n64]
    rw [hrq, bdxv_l] at hcls2
    generalize up Y5 5 0 0 1 0 = Yc at *
    left
    rcases script_j (Z := Yc) h14 (TT_m e10 hT) (by rw [e10]; exact hN) (by rw [e10]; exact h13) with ⟨J, Y5', Z', k', s', e', hJ, r0', m1, t1, fS1, fN1, c1, rows1⟩ | ⟨Z', ⟨Y5', r0', -, fN1, bp⟩, m1⟩
    · have eY : Y5' = Y5 := by rw [r0] at r0'; exact (Option.some.inj r0').symm
      subst eY
      have := bp0.1
      rw [(TJ_k t1).1] at this
      have q := (nI_lit (k := k') (c := 5) (by have := (TJ_k t1).2.2.2.2.2.2.2.2.1; omega) (by omega)).mp this
      have := (TJ_k t1).2.2.2.2.2.2.2.2.1
      omega
    · have eY : Y5' = Y5 := by rw [r0] at r0'; exact (Option.some.inj r0').symm
      subst eY
      have z0 : ∀ x, x ≠ 5 → x ≠ 6 → x ≠ 14 → x ≠ 15 → x ≠ 16 → x ≠ 17 → Z' 10 0 0 x = Y 10 0 0 x := fun x q1 q2 q3 q4 q5 q6 => by rw [fN1.2 x q1 q2 q3 q4 q5 q6, e10]
      have zo : ∀ o, o ≠ 0 → o ≠ 9 → Z' 10 0 o = Y 10 0 o := fun o q1 q2 => by rw [fN1.1 10 0 o (by omega), e10]
      have zk : ∀ k, k ≠ 10 → Z' k = Yc k := fun k hk => by funext g o; exact fN1.1 k g o (by omega)
      refine ⟨2, Yc, hcls2, by decide, 0, up (up Z' 10 0 0 4 0) 10 0 0 9 1, ?_, ?_, ?_⟩
      · rw [model_run, m1, bd2_e, lt_e, if_pos rfl]
        unfold X12_runScript_b25
        rw [fails_1, bd2_e, if_neg (by decide)]
      · rw [up9_9]; decide
      · have mk : ∀ k, k ≠ 10 → (up (up Z' 10 0 0 4 0) 10 0 0 9 1) k = Yc k := fun k hk => by
          funext g o; rw [up_eq, upR_o (by omega), up_eq, upR_o (by omega), zk k hk]
        have mo : ∀ o, o ≠ 0 → o ≠ 9 → (up (up Z' 10 0 0 4 0) 10 0 0 9 1) 10 0 o = Y 10 0 o := fun o q0 q9 => by
          rw [up_eq, upR_o (by omega), up_eq, upR_o (by omega), zo o q0 q9]
        have m0 : ∀ x, x ≠ 4 → x ≠ 9 → (up (up Z' 10 0 0 4 0) 10 0 0 9 1) 10 0 0 x = Z' 10 0 0 x := fun x q4 q9 => by
          rw [up9_x _ _ q9, up_at, pk_un q4]
        have m4 : (up (up Z' 10 0 0 4 0) 10 0 0 9 1) 10 0 0 4 = 0 := by rw [up9_x _ _ (by omega), up_at, pk_us]
        generalize up (up Z' 10 0 0 4 0) 10 0 0 9 1 = Ym at *
        have kk : ∀ k, k ≠ 10 → k ≠ 5 → k ≠ 6 → k ≠ 8 → Ym k = Y k := fun k h10 h5 h6 h8 => by rw [mk k h10, ek k h5 h6 h8]
        refine Inv_gen hI ⟨by rw [kk 1 (by omega) (by omega) (by omega) (by omega)], kk 0 (by omega) (by omega) (by omega) (by omega), kk 9 (by omega) (by omega) (by omega) (by omega), by rw [kk 3 (by omega) (by omega) (by omega) (by omega)], by rw [kk 4 (by omega) (by omega) (by omega) (by omega)], by rw [kk 4 (by omega) (by omega) (by omega) (by omega)], fun g _ => by rw [kk 2 (by omega) (by omega) (by omega) (by omega)], by rw [m0 2 (by omega) (by omega), z0 2 (by omega) (by omega) (by omega) (by omega) (by omega) (by omega)], mo 2 (by omega) (by omega), fun x _ _ => by rw [mo 1 (by omega) (by omega)]⟩ ?_ ?_ ?_ ?_
        · rw [kk 2 (by omega) (by omega) (by omega) (by omega), mo 1 (by omega) (by omega)]; exact Inv_KS hI
        · refine ⟨0, by omega, ?_, m4, fun j hj => by omega⟩
          rw [mk 5 (by omega)]; exact e50
        · unfold ER
          rw [mk 6 (by omega), e6, m0 5 (by omega) (by omega), m0 6 (by omega) (by omega)]
          exact ⟨bp.2.1, bp.2.2.1⟩
        · exact OU_cells (by rw [mk 5 (by omega)]; funext o; exact e51 o) (by rw [m0 8 (by omega) (by omega), z0 8 (by omega) (by omega) (by omega) (by omega) (by omega) (by omega)]) (mo 4 (by omega) (by omega)) (Inv_O hI)
end
