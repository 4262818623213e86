section
/-! LOAD of the made text -/
variable (sf : Nat → Int32) (sl : Nat)
theorem load_ok {Y : Mem} {n : Nat} (hI : Inv Y) (hn : 1 ≤ n) (h9 : n ≤ 9) (hT : TT Y Y (bL (mL sf sl n)) (mL sf sl n).length) : ∃ Yc Ym, T11_load Y = some (.inr (nI n, Yc)) ∧ (∀ k, k ≠ 10 → Ym k = Yc k) ∧ Inv Ym ∧ JJ (Ym 10 0 1) ∧ Ym 10 0 1 13 = nI n ∧ Ym 10 0 1 1 = nI (pick sf sl 4 6) ∧ Ym 10 0 1 4 = 0 := by
  obtain ⟨r, hr, hr1, hr0⟩ := hI.2.2.2.2.1
  have hg : 1 - r < 2 := by omega
  have hTM : ∀ Z : Mem, TT Y Z (bL (mL sf sl n)) (mL sf sl n).length → TM (bL (mL sf sl n)) (mL sf sl n).length Z := fun Z h => ⟨h.1, fun j hj => ⟨(h.2.1 j hj).1, (h.2.1 j hj).2.1⟩, h.2.2.2⟩
  have hq := q_load hI
  rcases setup_j (1 - r) hT with ⟨Y5, Z0, K0, S0, k0, s0, e0, r0, p0, t0, M0, hS0, fC0, -⟩ | ⟨Y5, Z0, r0, p0, bp0, fC0, -⟩
  · obtain ⟨σ, w1, w2, w3, w4, w5⟩ := ldC_ok hr hg hr1 hr0 r0 fC0 t0.2.1
    have y10 : (up Y5 5 0 0 1 0) 10 = Y 10 := by funext g o; rw [up_eq, upR_o (by omega)]; exact fC0 10 g o (by omega) (by omega) (by omega)
    have c10 : (ldY (up Y5 5 0 0 1 0) (1 - r) r σ) 10 = Y 10 := by rw [ld_k (by omega) (by omega) (by omega) (by omega)]; exact y10
    rw [w1] at hq
    generalize ldY (up Y5 5 0 0 1 0) (1 - r) r σ = Yc at *
    rcases hq with ⟨n', Yc', hc, -⟩ | ⟨v, Yc', hc, Ym, hm, hm9, hIm⟩
    · exact absurd (Option.some.inj hc) (fun q => by cases q)
    · have e := Prod.mk.inj (Sum.inr.inj (Option.some.inj hc))
      rw [← e.2] at hm
      have hTc : TT Y (upR Yc 10 0 1 (cpB (Y 10 0 1) 0 9)) (bL (mL sf sl n)) (mL sf sl n).length := by
        unfold TT at hT ⊢
        rw [upR_o (by omega), upR_o (by omega), c10]; exact hT
      have hcp : M12_copyBlock Yc 0 9 = some (upR Yc 10 0 1 (cpB (Y 10 0 1) 0 9)) := by
        have := cp09 Yc
        rw [c10] at this
        exact this
      obtain ⟨Z', m1, m2, m3⟩ := made_t sf sl hn h9 (hTM _ hTc)
      rcases setup_j (1 - r) hTc with ⟨Y5', Z2, K, S, k1, s1, e1, r1, p1, t1, M1, hS1, -, fL1⟩ | ⟨Y5', Z2, r1, p1, -⟩
      · rw [m1] at p1
        have eZ : Z' = Z2 := (Prod.mk.inj (Option.some.inj p1)).2
        subst eZ
        have g20 : inb 0 2 = true := inb_n (j := 0) (by omega) (by omega)
        have g21 : inb 1 2 = true := inb_n (j := 1) (by omega) (by omega)
        have i0 : ix 0 = 0 := ix_n (j := 0) (by omega)
        have i1 : ix 1 = 1 := ix_n (j := 1) (by omega)
        have g13 : inb 13 4202 = true := inb_n (j := 13) (by omega) (by omega)
        have i13 : ix 13 = 13 := ix_n (j := 13) (by omega)
        have hM : M12_load Yc = some (nI n, up (up (up (up (up Z' 10 0 0 4 0) 10 0 0 9 0) 10 0 0 2 0) 10 0 2 0 0) 10 0 2 1 0) := by
          rw [model_load, hcp, bd1_e, m1, bd2_e, lt_e, if_neg (by decide)]
          unfold M12_load_b32 M12_load_b42
          rw [if_neg (by decide), fails_000, bd2_e, if_pos rfl, lt_e, gd_t g20, i0, vb0, lt_e, gd_t g21, i1, lt_e, gd_t g13, i13]
          congr 2
        rw [hM] at hm
        have e2 := Prod.mk.inj (Option.some.inj hm)
        have m01 : Ym 10 0 1 = Z' 10 0 1 := by
          rw [← e2.2, up_eq, upR_o (by omega), up_eq, upR_o (by omega), up_eq, upR_o (by omega), up_eq, upR_o (by omega), up_eq, upR_o (by omega)]
        have mk : ∀ k, k ≠ 10 → Ym k = Yc k := fun k hk => by
          rw [← e2.2]
          funext g o
          rw [up_eq, upR_o (by omega), up_eq, upR_o (by omega), up_eq, upR_o (by omega), up_eq, upR_o (by omega), up_eq, upR_o (by omega), fL1.1 k g o (by omega), upR_o (by omega)]
        obtain ⟨J, z4⟩ := MID_JJ M1
        exact ⟨Yc, Ym, by rw [w1, e.1, ← e2.1], mk, hIm, by rw [m01]; exact J, by rw [m01]; exact m2, by rw [m01]; exact m3, by rw [m01]; exact z4⟩
      · rw [m1] at p1
        exact absurd (Prod.mk.inj (Option.some.inj p1)).1 (by decide)
  · obtain ⟨Z', m1, -⟩ := made_t sf sl hn h9 (hTM _ hT)
    rw [m1] at p0
    exact absurd (Prod.mk.inj (Option.some.inj p0)).1 (by decide)
end
