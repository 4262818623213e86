section
/-! load -/
theorem nI_clampI {n : Nat} (h : n < 2 ^ 31) : (nI n).toNatClampNeg = n := nI_clamp h
theorem gd2' {α : Type} {x : Option α} {v : Int32} {g : Nat} (hv : v = nI g) (hg : g < 2) : gd (decide (v.toNatClampNeg < 2)) x = x := by
  rw [hv, nI_clamp (by omega)]; exact gd_t (decide_eq_true hg)
def ldY (Y6 : Mem) (g r : Nat) (σ : Nat → Nat → Int32) : Mem := up (up (up (up (wS (up Y6 1 0 0 0 (nI g)) 0 σ) 0 0 0 10 (nI r)) 0 0 2 0 0) 0 0 2 1 0) 9 0 0 2 0
theorem ld_k {Y6 : Mem} {g r k : Nat} {σ : Nat → Nat → Int32} (h0 : k ≠ 0) (h1 : k ≠ 1) (h2 : k ≠ 2) (h9 : k ≠ 9) : (ldY Y6 g r σ) k = Y6 k := by
  funext g' o
  unfold ldY
  rw [up_eq, upR_o (by omega), up_eq, upR_o (by omega), up_eq, upR_o (by omega), up_eq, upR_o (by omega), wS_k h2, up_eq, upR_o (by omega)]
theorem ld_1 {Y6 : Mem} {g r : Nat} {σ : Nat → Nat → Int32} : (ldY Y6 g r σ) 1 0 0 0 = nI g := by
  unfold ldY
  rw [up_eq, upR_o (by omega), up_eq, upR_o (by omega), up_eq, upR_o (by omega), up_eq, upR_o (by omega), wS_k (by omega), up_at, pk_us]
theorem ld_2 {Y6 : Mem} {g r : Nat} {σ : Nat → Nat → Int32} : (ldY Y6 g r σ) 2 0 = σ := by
  funext o
  unfold ldY
  rw [up_eq, upR_o (by omega), up_eq, upR_o (by omega), up_eq, upR_o (by omega), up_eq, upR_o (by omega), wS_at]
theorem ld_9 {Y6 : Mem} {g r : Nat} {σ : Nat → Nat → Int32} : (ldY Y6 g r σ) 9 0 0 2 = 0 ∧ (ldY Y6 g r σ) 9 0 0 1 = Y6 9 0 0 1 := by
  unfold ldY
  rw [up_at, pk_us, pk_un (by omega)]
  refine ⟨rfl, ?_⟩
  rw [up_eq, upR_o (by omega), up_eq, upR_o (by omega), up_eq, upR_o (by omega), wS_k (by omega), up_eq, upR_o (by omega)]
theorem ld_0 {Y6 : Mem} {g r : Nat} {σ : Nat → Nat → Int32} : (ldY Y6 g r σ) 0 0 0 10 = nI r ∧ (ldY Y6 g r σ) 0 0 2 0 = 0 ∧ (ldY Y6 g r σ) 0 0 2 1 = 0 := by
  unfold ldY
  refine ⟨?_, ?_, ?_⟩
  · rw [up_eq, upR_o (by omega), up_eq, upR_o (by omega), up_eq, upR_o (by omega), up_at, pk_us]
  · rw [up_eq, upR_o (by omega), up_at, pk_un (by omega), up_at, pk_us]
  · rw [up_eq, upR_o (by omega), up_at, pk_us]
theorem ldC_ok {Y Y5 : Mem} {r g : Nat} (hr : r < 2) (hg : g < 2) (h1 : Y 1 0 0 0 = nI r) (h0 : Y 0 0 0 10 = nI g) (hY : X7_readInto Y g = some Y5) (hF : FrC g Y Y5) (h64 : Y5 6 0 0 4 = 0) : ∃ σ, T11_load Y = some (.inr (Y5 4 (2 * g + 1) 0 2, ldY (up Y5 5 0 0 1 0) g r σ)) ∧ σ 0 0 = Y5 3 g 0 0 ∧ (∀ x, 1 ≤ x → x ≤ 8 → σ 0 x = 0) ∧ (∀ j, j < 14 → σ 1 j = Y5 3 g 3 j) ∧ ∀ o, 2 ≤ o → o ≤ 6 → ∀ j, j < 14 → σ o j = 0 := by
  have e10 : (up Y5 5 0 0 1 0) 0 0 0 10 = nI g := by rw [up_eq, upR_o (by omega), hF 0 0 0 (by omega) (by omega) (by omega)]; exact h0
  have e11 : (up Y5 5 0 0 1 0) 1 0 0 0 = nI r := by rw [up_eq, upR_o (by omega), hF 1 0 0 (by omega) (by omega) (by omega)]; exact h1
  have e6 : (up Y5 5 0 0 1 0) 6 0 0 4 = 0 := by rw [up_eq, upR_o (by omega)]; exact h64
  have e3 : ∀ o, (up Y5 5 0 0 1 0) 3 g o = Y5 3 g o := fun o => by rw [up_eq, upR_o (by omega)]
  have e4 : ∀ o, (up Y5 5 0 0 1 0) 4 (2 * g + 1) o = Y5 4 (2 * g + 1) o := fun o => by rw [up_eq, upR_o (by omega)]
  have hl : T11_load Y = bdxv (T11_requireNoError (up Y5 5 0 0 1 0)) fun Y11 => gd (decide ((Y11 0 0 0 10).toNatClampNeg < 2)) <| bd1 (X3_open Y11 0 ((Y11 0 0 0 10).toNatClampNeg)) fun Y17 => gd (decide ((Y11 1 0 0 0).toNatClampNeg < 2)) <| lt_ (up Y17 0 0 0 10 (Int32.ofNat ((Y11 1 0 0 0).toNatClampNeg))) fun Y18 => T11_load_b49 FU Y18 0 := by
    unfold T11_load
    rw [gd2' h0 hg, gd2' h0 hg, h0, nI_clamp (by omega), hY, bd1_e, lt_e]
  rw [hl]
  have hrq : T11_requireNoError (up Y5 5 0 0 1 0) = some (.inr (up Y5 5 0 0 1 0)) := by
    unfold T11_requireNoError; rw [e6, if_pos rfl]
  rw [hrq, bdxv_r]
  generalize up Y5 5 0 0 1 0 = Y6 at *
  obtain ⟨σ, b1, b2, b3, b4, b5⟩ := beginS_ok (up Y6 1 0 0 0 (nI g)) g
  have u3 : ∀ o, (up Y6 1 0 0 0 (nI g)) 3 g o = Y5 3 g o := fun o => by rw [up_eq, upR_o (by omega)]; exact e3 o
  refine ⟨σ, ?_, by rw [b2, u3], b3, fun j hj => by rw [b4 j hj, u3], b5⟩
  rw [gd2' e10 hg, e10, nI_clamp (by omega)]
  unfold X3_open
  rw [gd_t (decide_eq_true hg), show Int32.ofNat g = nI g from rfl, lt_e, b1, bd1_e, bd1_e, gd2' e11 hr, e11, nI_clamp (by omega), show Int32.ofNat r = nI r from rfl, lt_e]
  obtain ⟨f0, hf0⟩ : ∃ f0, FU = f0 + 3 := ⟨FU - 3, by have := FU_big; omega⟩
  have g20 : inb 0 2 = true := inb_n (j := 0) (by omega) (by omega)
  have g21 : inb 1 2 = true := inb_n (j := 1) (by omega) (by omega)
  have i0 : ix 0 = 0 := ix_n (j := 0) (by omega)
  have i1 : ix 1 = 1 := ix_n (j := 1) (by omega)
  rw [hf0, T11_load_b49.eq_2, if_neg (by decide), gd_t g20, i0, vb0, lt_e, show (0 : Int32) + 1 = 1 from rfl, T11_load_b49.eq_2, if_neg (by decide), gd_t g21, i1, vb0, lt_e, show (1 : Int32) + 1 = 2 from rfl, T11_load_b49.eq_2, if_pos (by decide), lt_e]
  have hYc : up (up (up (up (wS (up Y6 1 0 0 0 (nI g)) 0 σ) 0 0 0 10 (nI r)) 0 0 2 0 0) 0 0 2 1 0) 9 0 0 2 0 = ldY Y6 g r σ := rfl
  rw [hYc, gd2' ld_1 hg, gd2' ld_1 hg, ld_1, nI_clamp (by omega), ld_k (by omega) (by omega) (by omega) (by omega), e4]
theorem ldC_bad {Y Y5 : Mem} {g : Nat} (hg : g < 2) (h0 : Y 0 0 0 10 = nI g) (hY : X7_readInto Y g = some Y5) (h64 : ¬ Y5 6 0 0 4 = 0) : T11_load Y = some (.inl (2, up Y5 5 0 0 1 0)) := by
  unfold T11_load
  rw [gd2' h0 hg, gd2' h0 hg, h0, nI_clamp (by omega), hY, bd1_e, lt_e]
  have e6 : ¬ (up Y5 5 0 0 1 0) 6 0 0 4 = 0 := by rw [up_eq, upR_o (by omega)]; exact h64
  have hrq : T11_requireNoError (up Y5 5 0 0 1 0) = some (.inl (2, up Y5 5 0 0 1 0)) := by
    unfold T11_requireNoError; rw [if_neg e6]
  rw [hrq, bdxv_l]
theorem model_load (Yc : Mem) : M12_load Yc = bd1 (M12_copyBlock Yc 0 9) fun Y3 => bd2 (bd1 (M12_begin Y3) fun Y6 => M12_parseSetup Y6) fun r7 Y9 => lt_ (up Y9 10 0 0 4 0) fun Y10 => if r7 = 0 then (bd1 (M12_copyBlock Y10 9 0) fun Y29 => M12_load_b32 Y29 r7) else (M12_load_b32 Y10 r7) := by
  unfold M12_load
  cases M12_copyBlock Yc 0 9 with
  | none => rfl
  | some Y3 =>
    rw [bd1_e, bd1_e]
    cases M12_begin Y3 with
    | none => rfl
    | some Y6 => rw [bd1_e, bd1_e]
theorem q_load {Y : Mem} (hI : Inv Y) : R1 (T11_load Y) M12_load c2_ := by
  have h14 := nS_le hI
  obtain ⟨b, n, hT⟩ := TT_of (Inv_X hI)
  obtain ⟨r, hr, hr1, hr0⟩ := hI.2.2.2.2.1
  have hg : 1 - r < 2 := by omega
  have hgr : 1 - r ≠ r := by omega
  have erg : rg Y 0 = r := by unfold rg; rw [hr1, nI_clamp (by omega)]
  have hcp : ∀ Yc : Mem, Yc 10 = Y 10 → M12_copyBlock Yc 0 9 = some (upR Yc 10 0 1 (cpB (Y 10 0 1) 0 9)) := fun Yc h => by
    have := cp09 Yc
    rw [h] at this
    exact this
  have hTc : ∀ Yc : Mem, Yc 10 = Y 10 → TT Y (upR Yc 10 0 1 (cpB (Y 10 0 1) 0 9)) b n := fun Yc h => by
    unfold TT at hT ⊢
    rw [upR_o (by omega), upR_o (by omega), h]; exact hT
  rcases setup_j (1 - r) hT with ⟨Y5, Z0, K0, S0, k0, s0, e0, r0, -, t0, M0, hS0, fC0, -⟩ | ⟨Y5, Z0, r0, -, bp0, fC0, -⟩
  · -- the text is a setup
    obtain ⟨σ, w1, w2, w3, w4, w5⟩ := ldC_ok hr hg hr1 hr0 r0 fC0 t0.2.1
    have y10 : (up Y5 5 0 0 1 0) 10 = Y 10 := by funext g o; rw [up_eq, upR_o (by omega)]; exact fC0 10 g o (by omega) (by omega) (by omega)
    have c10 : (ldY (up Y5 5 0 0 1 0) (1 - r) r σ) 10 = Y 10 := by rw [ld_k (by omega) (by omega) (by omega) (by omega)]; exact y10
    rcases setup_j (1 - r) (hTc _ c10) with ⟨Y5', Z', K, S, k1, s1, e1, r1, m1, t1, M1, hS1, -, fL1⟩ | ⟨Y5', Z', r1, -, bp1, -, -⟩
    · have eY : Y5' = Y5 := by rw [r0] at r1; exact (Option.some.inj r1).symm
      subst eY
      obtain ⟨W, enS, enP⟩ := MID_WF M1
      obtain ⟨hRR, hNM⟩ := MID_RR hg M1
      have hKS : KS σ (Z' 10 0 1) (Z' 10 0 1) := by
        refine KS_fresh M1 ⟨?_, w3, fun s hs => ?_, w5⟩
        · rw [w2]; exact M1.2.2.1.1
        · rw [w4 s (by have := M1.1.2.1; omega)]
          exact (M1.2.2.2.2.2.1 s (by omega)).1
      have cc5 : ∀ o, (ldY (up Y5' 5 0 0 1 0) (1 - r) r σ) 5 1 o = Y 5 1 o := fun o => by
        rw [ld_k (by omega) (by omega) (by omega) (by omega), up_eq, upR_o (by omega)]; exact fC0 5 1 o (by omega) (by omega) (by omega)
      have cc50 : (ldY (up Y5' 5 0 0 1 0) (1 - r) r σ) 5 0 0 1 = 0 := by
        rw [ld_k (by omega) (by omega) (by omega) (by omega), up_at, pk_us]
      have cc6 : (ldY (up Y5' 5 0 0 1 0) (1 - r) r σ) 6 0 0 = Y5' 6 0 0 := by
        rw [ld_k (by omega) (by omega) (by omega) (by omega), up_eq, upR_o (by omega)]
      have cc3 : (ldY (up Y5' 5 0 0 1 0) (1 - r) r σ) 3 = Y5' 3 := by
        rw [ld_k (by omega) (by omega) (by omega) (by omega)]; funext g o; rw [up_eq, upR_o (by omega)]
      have cc4 : (ldY (up Y5' 5 0 0 1 0) (1 - r) r σ) 4 = Y5' 4 := by
        rw [ld_k (by omega) (by omega) (by omega) (by omega)]; funext g o; rw [up_eq, upR_o (by omega)]
      have cc1 : (ldY (up Y5' 5 0 0 1 0) (1 - r) r σ) 1 0 0 0 = nI (1 - r) := ld_1
      have cc2 : (ldY (up Y5' 5 0 0 1 0) (1 - r) r σ) 2 0 = σ := ld_2
      have cc9 : (ldY (up Y5' 5 0 0 1 0) (1 - r) r σ) 9 0 0 2 = 0 ∧ (ldY (up Y5' 5 0 0 1 0) (1 - r) r σ) 9 0 0 1 = Y 9 0 0 1 := by
        refine ⟨ld_9.1, ?_⟩
        rw [ld_9.2, up_eq, upR_o (by omega), fC0 9 0 0 (by omega) (by omega) (by omega)]
      have cc0 := @ld_0 (up Y5' 5 0 0 1 0) (1 - r) r σ
      generalize ldY (up Y5' 5 0 0 1 0) (1 - r) r σ = Yc at *
      have g20 : inb 0 2 = true := inb_n (j := 0) (by omega) (by omega)
      have g21 : inb 1 2 = true := inb_n (j := 1) (by omega) (by omega)
      have i0 : ix 0 = 0 := ix_n (j := 0) (by omega)
      have i1 : ix 1 = 1 := ix_n (j := 1) (by omega)
      have g13 : inb 13 4202 = true := inb_n (j := 13) (by omega) (by omega)
      have i13 : ix 13 = 13 := ix_n (j := 13) (by omega)
      right
      refine ⟨nI S, Yc, ?_, up (up (up (up (up Z' 10 0 0 4 0) 10 0 0 9 0) 10 0 0 2 0) 10 0 2 0 0) 10 0 2 1 0, ?_, ?_, ?_⟩
      · rw [w1]
        congr 3
        exact M1.2.1.2.2.1
      · rw [model_load, hcp Yc c10, bd1_e, m1, bd2_e, lt_e, if_neg (by decide)]
        unfold M12_load_b32 M12_load_b42
        rw [if_neg (by decide), fails_000, bd2_e, if_pos rfl, lt_e, gd_t g20, i0, vb0, lt_e, gd_t g21, i1, lt_e, gd_t g13, i13]
        congr 2
        rw [up_eq, upR_o (by omega), up_eq, upR_o (by omega), up_eq, upR_o (by omega), up_eq, upR_o (by omega), up_eq, upR_o (by omega)]
        exact M1.1.2.2.2
      · rw [up_eq, upR_o (by omega), up_eq, upR_o (by omega), up_at, pk_un (by omega), up9_9]
      · have zk : ∀ k, k ≠ 10 → Z' k = Yc k := fun k hk => by
          funext g o; rw [fL1.1 k g o (by omega), upR_o (by omega)]
        have zo : ∀ o, o ≠ 0 → o ≠ 1 → Z' 10 0 o = Y 10 0 o := fun o q0 q1 => by
          rw [fL1.1 10 0 o (by omega), upR_o (by omega), c10]
        have z0 : ∀ x, x ≠ 5 → x ≠ 6 → x ≠ 14 → x ≠ 15 → x ≠ 16 → x ≠ 17 → Z' 10 0 0 x = Y 10 0 0 x := fun x q1 q2 q3 q4 q5 q6 => by
          rw [fL1.2.1 x q1 q2 q3 q4 q5 q6, upR_o (by omega), c10]
        have mk : ∀ k, k ≠ 10 → (up (up (up (up (up Z' 10 0 0 4 0) 10 0 0 9 0) 10 0 0 2 0) 10 0 2 0 0) 10 0 2 1 0) k = Yc k := fun k hk => by
          rw [← zk k hk]; funext g o
          rw [up_eq, upR_o (by omega), up_eq, upR_o (by omega), up_eq, upR_o (by omega), up_eq, upR_o (by omega), up_eq, upR_o (by omega)]
        have m01 : (up (up (up (up (up Z' 10 0 0 4 0) 10 0 0 9 0) 10 0 0 2 0) 10 0 2 0 0) 10 0 2 1 0) 10 0 1 = Z' 10 0 1 := by
          rw [up_eq, upR_o (by omega), up_eq, upR_o (by omega), up_eq, upR_o (by omega), up_eq, upR_o (by omega), up_eq, upR_o (by omega)]
        have mo : ∀ o, o ≠ 0 → o ≠ 1 → o ≠ 2 → (up (up (up (up (up Z' 10 0 0 4 0) 10 0 0 9 0) 10 0 0 2 0) 10 0 2 0 0) 10 0 2 1 0) 10 0 o = Y 10 0 o := fun o q0 q1 q2 => by
          rw [up_eq, upR_o (by omega), up_eq, upR_o (by omega), up_eq, upR_o (by omega), up_eq, upR_o (by omega), up_eq, upR_o (by omega), zo o q0 q1]
        have ms : (up (up (up (up (up Z' 10 0 0 4 0) 10 0 0 9 0) 10 0 0 2 0) 10 0 2 0 0) 10 0 2 1 0) 10 0 2 0 = 0 ∧ (up (up (up (up (up Z' 10 0 0 4 0) 10 0 0 9 0) 10 0 0 2 0) 10 0 2 0 0) 10 0 2 1 0) 10 0 2 1 = 0 := by
          refine ⟨?_, ?_⟩
          · rw [up_at, pk_un (by omega), up_at, pk_us]
          · rw [up_at, pk_us]
        have m0 : ∀ x, x ≠ 2 → x ≠ 4 → x ≠ 9 → (up (up (up (up (up Z' 10 0 0 4 0) 10 0 0 9 0) 10 0 0 2 0) 10 0 2 0 0) 10 0 2 1 0) 10 0 0 x = Z' 10 0 0 x := fun x q2 q4 q9 => by
          rw [up_eq, upR_o (by omega), up_eq, upR_o (by omega), up_at, pk_un q2, up9_x _ _ q9, up_at, pk_un q4]
        have m2 : (up (up (up (up (up Z' 10 0 0 4 0) 10 0 0 9 0) 10 0 0 2 0) 10 0 2 0 0) 10 0 2 1 0) 10 0 0 2 = 0 := by
          rw [up_eq, upR_o (by omega), up_eq, upR_o (by omega), up_at, pk_us]
        have m4 : (up (up (up (up (up Z' 10 0 0 4 0) 10 0 0 9 0) 10 0 0 2 0) 10 0 2 0 0) 10 0 2 1 0) 10 0 0 4 = 0 := by
          rw [up_eq, upR_o (by omega), up_eq, upR_o (by omega), up_at, pk_un (by omega), up9_x _ _ (by omega), up_at, pk_us]
        generalize up (up (up (up (up Z' 10 0 0 4 0) 10 0 0 9 0) 10 0 0 2 0) 10 0 2 0 0) 10 0 2 1 0 = Ym at *
        have ermg : rg Ym 0 = 1 - r := by unfold rg; rw [mk 1 (by omega), cc1, nI_clamp (by omega)]
        refine ⟨by rw [m01]; exact W, by rw [m01, enS]; exact hS1, ?_, ?_, ?_, ?_, ?_, ?_, ?_, ?_, ?_⟩
        · rw [ermg, m01]
          exact RR_cells (by rw [mk 3 (by omega), cc3]) (by rw [mk 4 (by omega), cc4]) (by rw [mk 4 (by omega), cc4]) hRR
        · rw [mk 2 (by omega), cc2, m01]; exact hKS
        · refine ⟨1 - r, hg, by rw [mk 1 (by omega)]; exact cc1, ?_⟩
          rw [mk 0 (by omega), cc0.1, show 1 - (1 - r) = r by omega]
        · rw [ermg, m01]
          exact NM_cells (by rw [mk 4 (by omega), cc4]) (by rw [mk 4 (by omega), cc4]) W (re_refl _) hNM
        · exact ⟨0, by omega, by rw [mk 5 (by omega)]; exact cc50, m4, fun j hj => by omega⟩
        · unfold ER
          rw [mk 6 (by omega), cc6, m0 5 (by omega) (by omega) (by omega), m0 6 (by omega) (by omega) (by omega), t1.2.1, t1.2.2.1, t1.2.2.2.1, t1.2.2.2.2]
          exact ⟨rfl, rfl⟩
        · exact OU_cells (by rw [mk 5 (by omega)]; funext o; exact cc5 o) (by rw [m0 8 (by omega) (by omega) (by omega), z0 8 (by omega) (by omega) (by omega) (by omega) (by omega) (by omega)]) (mo 4 (by omega) (by omega) (by omega)) (Inv_O hI)
        · obtain ⟨nn, c, c1, c2, c3, c4, c5, c6⟩ := Inv_H hI
          exact ⟨nn, 0, c1, by omega, by rw [mk 9 (by omega), cc9.2]; exact c3, by rw [mk 9 (by omega), cc9.1]; rfl, m2, fun i hi => by omega⟩
        · intro i hi
          left
          rw [mk 0 (by omega)]
          rcases (by omega : i = 0 ∨ i = 1) with rfl | rfl
          · exact ⟨cc0.2.1, ms.1⟩
          · exact ⟨cc0.2.2, ms.2⟩
    · have eY : Y5' = Y5 := by rw [r0] at r1; exact (Option.some.inj r1).symm
      subst eY
      have := bp1.1
      rw [(TJ_k t0).1] at this
      have q := (nI_lit (k := k0) (c := 5) (by have := (TJ_k t0).2.2.2.2.2.2.2.2.1; omega) (by omega)).mp this
      have := (TJ_k t0).2.2.2.2.2.2.2.2.1
      omega
  · -- an error
    have n64 : ¬ Y5 6 0 0 4 = 0 := by
      rw [bp0.2.1]
      obtain ⟨cc, c1, c5, c6⟩ := bp0.2.2.2
      rw [c6]
      show ¬ nI cc = nI 0
      rw [nI_lit (by omega) (by omega)]; omega
    have hcls := ldC_bad hg hr0 r0 n64
    have c10 : (up Y5 5 0 0 1 0) 10 = Y 10 := by funext g o; rw [up_eq, upR_o (by omega)]; exact fC0 10 g o (by omega) (by omega) (by omega)
    have ck : ∀ k g o, ¬ (k = 6 ∧ g = 0 ∧ o = 0) → ¬ (k = 3 ∧ g = 1 - r) → ¬ (k = 4 ∧ (g = 2 * (1 - r) ∨ g = 2 * (1 - r) + 1)) → k ≠ 5 → (up Y5 5 0 0 1 0) k g o = Y k g o := fun k g o q1 q2 q3 q5 => by
      rw [up_eq, upR_o (by omega)]; exact fC0 k g o q1 q2 q3
    have c5 : ∀ o, (up Y5 5 0 0 1 0) 5 1 o = Y 5 1 o := fun o => by rw [up_eq, upR_o (by omega)]; exact fC0 5 1 o (by omega) (by omega) (by omega)
    have c50 : (up Y5 5 0 0 1 0) 5 0 0 1 = 0 := by rw [up_at, pk_us]
    have c6 : (up Y5 5 0 0 1 0) 6 0 0 = Y5 6 0 0 := by rw [up_eq, upR_o (by omega)]
    generalize up Y5 5 0 0 1 0 = Yc at *
    rcases setup_j (1 - r) (hTc _ c10) with ⟨Y5', Z', K, S, k1, s1, e1, r1, m1, t1, M1, hS1, -, fL1⟩ | ⟨Y5', Z', r1, m1, bp1, -, fL1⟩
    · have eY : Y5' = Y5 := by rw [r0] at r1; exact (Option.some.inj r1).symm
      subst eY
      have := bp0.1
      rw [(TJ_k t1).1] at this
      have q := (nI_lit (k := k1) (c := 5) (by have := (TJ_k t1).2.2.2.2.2.2.2.2.1; omega) (by omega)).mp this
      have := (TJ_k t1).2.2.2.2.2.2.2.2.1
      omega
    · have eY : Y5' = Y5 := by rw [r0] at r1; exact (Option.some.inj r1).symm
      subst eY
      have hcp2 := copy_ok (up Z' 10 0 0 4 0) (a := 9) (b := 0) (by omega) (by omega) (by omega)
      have e1 : (up Z' 10 0 0 4 0) 10 0 1 = Z' 10 0 1 := by rw [up_eq, upR_o (by omega)]
      rw [e1] at hcp2
      left
      refine ⟨2, Yc, hcls, by decide, 0, up (upR (up Z' 10 0 0 4 0) 10 0 1 (cpB (Z' 10 0 1) 9 0)) 10 0 0 9 1, ?_, ?_, ?_⟩
      · rw [model_load, hcp Yc c10, bd1_e, m1, bd2_e, lt_e, if_pos rfl, show M12_copyBlock (up Z' 10 0 0 4 0) 9 0 = _ from hcp2, bd1_e]
        unfold M12_load_b32 M12_load_b42
        rw [if_pos rfl, fails_1, bd2_e, if_neg (by decide)]
      · rw [up9_9]; decide
      · have zk : ∀ k, k ≠ 10 → Z' k = Yc k := fun k hk => by
          funext g o; rw [fL1.1 k g o (by omega), upR_o (by omega)]
        have zo : ∀ o, o ≠ 0 → o ≠ 1 → Z' 10 0 o = Y 10 0 o := fun o q0 q1 => by
          rw [fL1.1 10 0 o (by omega), upR_o (by omega), c10]
        have z0 : ∀ x, x ≠ 5 → x ≠ 6 → x ≠ 14 → x ≠ 15 → x ≠ 16 → x ≠ 17 → Z' 10 0 0 x = Y 10 0 0 x := fun x q1 q2 q3 q4 q5 q6 => by
          rw [fL1.2.1 x q1 q2 q3 q4 q5 q6, upR_o (by omega), c10]
        have zh : ∀ x, 382 ≤ x → Z' 10 0 1 x = cpB (Y 10 0 1) 0 9 x := fun x hx => by
          rw [fL1.2.2 x hx, upR_at]
        have hm : ∀ x, x < 3438 → cpB (Z' 10 0 1) 9 0 x = Y 10 0 1 x := fun x hx => by
          by_cases h : x < 382
          · rw [cpB_0 _ h, zh _ (by omega), cpB_in _ h, Nat.zero_mul, Nat.zero_add]
          · rw [cpB_out _ (by omega), zh _ (by omega), cpB_out _ (by omega)]
        have mk : ∀ k, k ≠ 10 → (up (upR (up Z' 10 0 0 4 0) 10 0 1 (cpB (Z' 10 0 1) 9 0)) 10 0 0 9 1) k = Yc k := fun k hk => by
          rw [← zk k hk]; funext g o
          rw [up_eq, upR_o (by omega), upR_o (by omega), up_eq, upR_o (by omega)]
        have m01 : (up (upR (up Z' 10 0 0 4 0) 10 0 1 (cpB (Z' 10 0 1) 9 0)) 10 0 0 9 1) 10 0 1 = cpB (Z' 10 0 1) 9 0 := by
          rw [up9_m, upR_at]
        have mo : ∀ o, o ≠ 0 → o ≠ 1 → (up (upR (up Z' 10 0 0 4 0) 10 0 1 (cpB (Z' 10 0 1) 9 0)) 10 0 0 9 1) 10 0 o = Y 10 0 o := fun o q0 q1 => by
          rw [up_eq, upR_o (by omega), upR_o (by omega), up_eq, upR_o (by omega), zo o q0 q1]
        have m0 : ∀ x, x ≠ 4 → x ≠ 9 → (up (upR (up Z' 10 0 0 4 0) 10 0 1 (cpB (Z' 10 0 1) 9 0)) 10 0 0 9 1) 10 0 0 x = Z' 10 0 0 x := fun x q4 q9 => by
          rw [up9_x _ _ q9, upR_o (by omega), up_at, pk_un q4]
        have m4 : (up (upR (up Z' 10 0 0 4 0) 10 0 1 (cpB (Z' 10 0 1) 9 0)) 10 0 0 9 1) 10 0 0 4 = 0 := by
          rw [up9_x _ _ (by omega), upR_o (by omega), up_at, pk_us]
        generalize up (upR (up Z' 10 0 0 4 0) 10 0 1 (cpB (Z' 10 0 1) 9 0)) 10 0 0 9 1 = Ym at *
        refine Inv_gen hI ⟨?_, ?_, ?_, ?_, ?_, ?_, fun g _ => ?_, by rw [m0 2 (by omega) (by omega), z0 2 (by omega) (by omega) (by omega) (by omega) (by omega) (by omega)], mo 2 (by omega) (by omega), fun x h1 h2 => by rw [m01]; exact hm x h2⟩ ?_ ?_ ?_ ?_
        · rw [mk 1 (by omega)]; exact ck 1 0 0 (by omega) (by omega) (by omega) (by omega)
        · rw [mk 0 (by omega)]; funext g o; exact ck 0 g o (by omega) (by omega) (by omega) (by omega)
        · rw [mk 9 (by omega)]; funext g o; exact ck 9 g o (by omega) (by omega) (by omega) (by omega)
        · rw [mk 3 (by omega), erg]; funext o; exact ck 3 r o (by omega) (by omega) (by omega) (by omega)
        · rw [mk 4 (by omega), erg]; funext o; exact ck 4 (2 * r) o (by omega) (by omega) (by omega) (by omega)
        · rw [mk 4 (by omega), erg]; funext o; exact ck 4 (2 * r + 1) o (by omega) (by omega) (by omega) (by omega)
        · rw [mk 2 (by omega)]; funext o; exact ck 2 g o (by omega) (by omega) (by omega) (by omega)
        · have e2 : Yc 2 0 = Y 2 0 := by funext o; exact ck 2 0 o (by omega) (by omega) (by omega) (by omega)
          rw [mk 2 (by omega), e2, m01]
          exact KS_cg (Inv_KS hI) h14 (fun _ _ => rfl) (fun x hx => hm x (by omega))
        · exact ⟨0, by omega, by rw [mk 5 (by omega)]; exact c50, m4, fun j hj => by omega⟩
        · unfold ER
          rw [mk 6 (by omega), c6, m0 5 (by omega) (by omega), m0 6 (by omega) (by omega)]
          exact ⟨bp1.2.1, bp1.2.2.1⟩
        · exact OU_cells (by rw [mk 5 (by omega)]; funext o; exact c5 o) (by rw [m0 8 (by omega) (by omega), z0 8 (by omega) (by omega) (by omega) (by omega) (by omega) (by omega)]) (mo 4 (by omega) (by omega)) (Inv_O hI)
end
