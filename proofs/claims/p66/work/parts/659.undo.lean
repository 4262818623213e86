section
/-! UNDO, SAVED STATES -/
theorem KS_re {σ : Nat → Nat → Int32} {a a' b : Nat → Int32} (h : KS σ a b) (hre : RecEq a a') : KS σ a' b := ⟨re_trans (re_symm hre) h.1, h.2⟩
theorem KS_5 {σ : Nat → Nat → Int32} {a b : Nat → Int32} (h : KS σ a b) : σ 0 5 = 0 ∨ σ 0 5 = 1 := by
  obtain ⟨-, ⟨B, -, -, st, -⟩, -, h6⟩ := h
  rw [st.1.2.2.2.2]; exact h6
theorem KS_1 {σ : Nat → Nat → Int32} {a b : Nat → Int32} (h : KS σ a b) : σ 0 1 = b 4 := by
  obtain ⟨-, ⟨B, -, -, st, -⟩, -, h6⟩ := h
  exact st.1.2.1
theorem Inv_mk {Y Y' : Mem} (hI : Inv Y) (f1 : Y' 1 0 0 = Y 1 0 0) (f0 : Y' 0 0 0 = Y 0 0 0) (f3 : Y' 3 = Y 3) (f4 : Y' 4 = Y 4) (hK : KS (Y' 2 0) (Y 10 0 1) (Y' 10 0 1)) (hT : TX Y') (hE : ER Y') (hO : OU Y') (hH : ∃ n c, n < 6 ∧ c ≤ 6 ∧ Y' 9 0 0 1 = nI n ∧ Y' 9 0 0 2 = nI c ∧ Y' 10 0 0 2 = nI c ∧ ∀ i, i < c → KS (Y' 2 (2 + (n + 6 - (i + 1)) % 6)) (Y 10 0 1) (blk (Y' 10 0 1) (c - i))) (hS : ∀ i, i < 2 → (Y' 0 0 2 i = 0 ∧ Y' 10 0 2 i = 0) ∨ (Y' 0 0 2 i = 1 ∧ Y' 10 0 2 i = 1 ∧ KS (Y' 2 (8 + i)) (Y 10 0 1) (blk (Y' 10 0 1) (7 + i)))) : Inv Y' := by
  obtain ⟨W, n1, hR, -, ⟨r, r2, r3, r4⟩, hN, -⟩ := hI
  have hre := hK.1
  have er : rg Y' 0 = rg Y 0 := by unfold rg; rw [f1]
  obtain ⟨n, c, c1, c2, c3, c4, c5, c6⟩ := hH
  refine ⟨re_WF hre W, by rw [re_nS hre]; exact n1, ?_, ⟨re_refl _, hK.2⟩, ⟨r, r2, by rw [f1]; exact r3, by rw [f0]; exact r4⟩, ?_, hT, hE, hO, ⟨n, c, c1, c2, c3, c4, c5, fun i hi => KS_re (c6 i hi) hre⟩, fun i hi => ?_⟩
  · rw [er]; exact RR_re W hre (RR_mem f3 f4 hR)
  · rw [er]; exact NM_cells (by rw [f4]) (by rw [f4]) W hre hN
  · rcases hS i hi with q | q
    · exact Or.inl q
    · exact Or.inr ⟨q.1, q.2.1, KS_re q.2.2 hre⟩
theorem copyTo_ok (Y : Mem) {g h : Nat} (hgh : h ≠ g) (h5 : Y 2 h 0 5 = 0 ∨ Y 2 h 0 5 = 1) : X8_copyFrom Y g h = some (wS Y g (sCopy (Y 2 g) (Y 2 h))) := by
  have := copyFrom_ok Y (g := g) (h := h) (Y 2 g) hgh h5
  rw [wS_self] at this
  exact this
theorem Inv_X {Y : Mem} (hI : Inv Y) : TX Y := hI.2.2.2.2.2.2.1
theorem Inv_E {Y : Mem} (hI : Inv Y) : ER Y := hI.2.2.2.2.2.2.2.1
theorem Inv_O {Y : Mem} (hI : Inv Y) : OU Y := hI.2.2.2.2.2.2.2.2.1
theorem Inv_H {Y : Mem} (hI : Inv Y) : HI Y := hI.2.2.2.2.2.2.2.2.2.1
theorem Inv_S {Y : Mem} (hI : Inv Y) : SV Y := hI.2.2.2.2.2.2.2.2.2.2
theorem TX_cells {Y Y' : Mem} (h5 : Y' 5 0 = Y 5 0) (h4 : Y' 10 0 0 4 = Y 10 0 0 4) (h3 : Y' 10 0 3 = Y 10 0 3) (h : TX Y) : TX Y' := by
  unfold TX TXn at h ⊢; rw [h5, h4, h3]; exact h
theorem ER_cells {Y Y' : Mem} (h6 : Y' 6 = Y 6) (h5 : Y' 10 0 0 5 = Y 10 0 0 5) (h7 : Y' 10 0 0 6 = Y 10 0 0 6) (h : ER Y) : ER Y' := by
  unfold ER at h ⊢; rw [h6, h5, h7]; exact h
theorem OU_cells {Y Y' : Mem} (h5 : Y' 5 1 = Y 5 1) (h8 : Y' 10 0 0 8 = Y 10 0 0 8) (h4 : Y' 10 0 4 = Y 10 0 4) (h : OU Y) : OU Y' := by
  unfold OU at h ⊢; rw [h5, h8, h4]; exact h
theorem cpB_0 (m : Nat → Int32) {a x : Nat} (hx : x < 382) : cpB m a 0 x = m (a * 382 + x) := by
  have := cpB_in m (a := a) (b := 0) hx
  rw [Nat.zero_mul, Nat.zero_add] at this
  exact this
theorem q_undo {Y : Mem} (hI : Inv Y) : R1 (T11_undo Y) M12_undo c1_ := by
  obtain ⟨n, c, n6, c6, h1, h2, h3, hk⟩ := Inv_H hI
  have h14 := nS_le hI
  by_cases c0 : c = 0
  · subst c0
    refine R1l hI 1 1 (by decide) (by decide) ?_ ?_
    · unfold T11_undo; rw [h2, if_pos (show nI 0 = 0 from rfl)]
    · show M12_undo Y = _
      unfold M12_undo M12_undo_b13
      rw [h3, if_pos (show nI 0 = 0 from rfl), fails_1, bd2_e, if_neg (by decide)]
  · have hz : ¬ nI c = 0 := fun e => c0 ((nI_eq (b := 0) (by omega) (by omega)).mp e)
    have en : nI n + 6 - 1 = nI (n + 5) := by
      show nI n + nI 6 - nI 1 = _
      rw [nI_add, pk_sub (by omega)]
      congr 1
    have hr : nI (n + 5) - nI (n + 5) / 6 * 6 = nI ((n + 5) % 6) := pk_rem (d := 6) (by omega) (by omega) (by omega)
    have k0 := hk 0 (by omega)
    rw [show (n + 6 - (0 + 1)) % 6 = (n + 5) % 6 by omega, Nat.sub_zero] at k0
    have hn6 : (n + 5) % 6 < 6 := by omega
    generalize hs : (n + 5) % 6 = n' at k0 hr hn6
    have ec1 : nI c - 1 = nI (c - 1) := by
      show nI c - nI 1 = _
      rw [pk_sub (by omega)]
    have e1 : (up Y 9 0 0 1 (nI n')) 2 = Y 2 := by funext g o; rw [up_eq, upR_o (by omega)]
    have e3 := copyTo_ok (up Y 9 0 0 1 (nI n')) (g := 0) (h := 2 + n') (by omega) (by rw [e1]; exact KS_5 k0)
    rw [e1] at e3
    have hK : KS (sCopy (Y 2 0) (Y 2 (2 + n'))) (Y 10 0 1) (blk (Y 10 0 1) c) := KS_copy (KS_nS k0 hI.1) k0
    generalize hσ : sCopy (Y 2 0) (Y 2 (2 + n')) = σ at e3 hK
    right
    refine ⟨nI (c - 1), up (wS (up Y 9 0 0 1 (nI n')) 0 σ) 9 0 0 2 (nI (c - 1)), ?_, ?_⟩
    · unfold T11_undo X2_popInto
      rw [h2, if_neg hz, h1, en, hr, lt_e, up_at, pk_us, gdi hn6, ix_n (by omega), e3, bd1_e, wS_k (by omega), up_at, pk_un (by omega), h2, ec1, lt_e, bd1_e, up_at, pk_us]
    · have d10 : (up (wS (up Y 9 0 0 1 (nI n')) 0 σ) 9 0 0 2 (nI (c - 1))) 10 = Y 10 := by
        funext g o; rw [up_eq, upR_o (by omega), wS_k (by omega), up_eq, upR_o (by omega)]
      have dk : ∀ k, k ≠ 2 → k ≠ 9 → k ≠ 10 → (up (wS (up Y 9 0 0 1 (nI n')) 0 σ) 9 0 0 2 (nI (c - 1))) k = Y k := fun k h2 h9 h10 => by
        funext g o; rw [up_eq, upR_o (by omega), wS_k h2, up_eq, upR_o (by omega)]
      have d2 : (up (wS (up Y 9 0 0 1 (nI n')) 0 σ) 9 0 0 2 (nI (c - 1))) 2 0 = σ := by
        funext o; rw [up_eq, upR_o (by omega), wS_at]
      have d2g : ∀ g, g ≠ 0 → (up (wS (up Y 9 0 0 1 (nI n')) 0 σ) 9 0 0 2 (nI (c - 1))) 2 g = Y 2 g := fun g hg => by
        funext o; rw [up_eq, upR_o (by omega), wS_o (by omega), up_eq, upR_o (by omega)]
      have d91 : (up (wS (up Y 9 0 0 1 (nI n')) 0 σ) 9 0 0 2 (nI (c - 1))) 9 0 0 1 = nI n' := by
        rw [up_at, pk_un (by omega), wS_k (by omega), up_at, pk_us]
      have d92 : (up (wS (up Y 9 0 0 1 (nI n')) 0 σ) 9 0 0 2 (nI (c - 1))) 9 0 0 2 = nI (c - 1) := by
        rw [up_at, pk_us]
      generalize up (wS (up Y 9 0 0 1 (nI n')) 0 σ) 9 0 0 2 (nI (c - 1)) = Yc at d10 dk d2 d2g d91 d92
      have hcp := copy_ok (up Yc 10 0 0 9 0) (a := c) (b := 0) (by omega) (by omega) c0
      rw [up9_m, d10] at hcp
      refine ⟨up (upR (up Yc 10 0 0 9 0) 10 0 1 (cpB (Y 10 0 1) c 0)) 10 0 0 2 (nI (c - 1)), ?_, ?_, ?_⟩
      · show M12_undo Yc = _
        unfold M12_undo M12_undo_b13
        rw [d10, h3, if_neg hz, fails_000, bd2_e, if_pos rfl, up9_x _ _ (by omega), d10, h3, show M12_copyBlock (up Yc 10 0 0 9 0) (nI c) 0 = _ from hcp, bd1_e, upR_o (by omega), up9_x _ _ (by omega), d10, h3, ec1, lt_e, up_at, pk_us]
      · rw [up_at, pk_un (by omega), upR_o (by omega), up9_9]
      · have ek : ∀ k, k ≠ 10 → (up (upR (up Yc 10 0 0 9 0) 10 0 1 (cpB (Y 10 0 1) c 0)) 10 0 0 2 (nI (c - 1))) k = Yc k := fun k hk => by
          funext g o; rw [up_eq, upR_o (by omega), upR_o (by omega), up_eq, upR_o (by omega)]
        have e01 : (up (upR (up Yc 10 0 0 9 0) 10 0 1 (cpB (Y 10 0 1) c 0)) 10 0 0 2 (nI (c - 1))) 10 0 1 = cpB (Y 10 0 1) c 0 := by
          rw [up_eq, upR_o (by omega), upR_at]
        have e00 : ∀ x, x ≠ 2 → x ≠ 9 → (up (upR (up Yc 10 0 0 9 0) 10 0 1 (cpB (Y 10 0 1) c 0)) 10 0 0 2 (nI (c - 1))) 10 0 0 x = Y 10 0 0 x := fun x h2 h9 => by
          rw [up_at, pk_un h2, upR_o (by omega), up9_x _ _ h9, d10]
        have e02 : (up (upR (up Yc 10 0 0 9 0) 10 0 1 (cpB (Y 10 0 1) c 0)) 10 0 0 2 (nI (c - 1))) 10 0 0 2 = nI (c - 1) := by rw [up_at, pk_us]
        have eo : ∀ o, o ≠ 0 → o ≠ 1 → (up (upR (up Yc 10 0 0 9 0) 10 0 1 (cpB (Y 10 0 1) c 0)) 10 0 0 2 (nI (c - 1))) 10 0 o = Y 10 0 o := fun o h0 h1 => by
          rw [up_eq, upR_o (by omega), upR_o (by omega), up_eq, upR_o (by omega), d10]
        generalize up (upR (up Yc 10 0 0 9 0) 10 0 1 (cpB (Y 10 0 1) c 0)) 10 0 0 2 (nI (c - 1)) = Ym at ek e01 e00 e02 eo
        have hbl : ∀ j, 1 ≤ j → ∀ x, x < 382 → blk (cpB (Y 10 0 1) c 0) j x = blk (Y 10 0 1) j x := fun j hj x hx => cpB_out _ (Or.inr (by omega))
        refine Inv_mk hI (by rw [ek 1 (by omega), dk 1 (by omega) (by omega) (by omega)]) (by rw [ek 0 (by omega), dk 0 (by omega) (by omega) (by omega)]) (by rw [ek 3 (by omega), dk 3 (by omega) (by omega) (by omega)]) (by rw [ek 4 (by omega), dk 4 (by omega) (by omega) (by omega)]) ?_ ?_ ?_ ?_ ?_ ?_
        · rw [ek 2 (by omega), d2, e01]
          exact KS_cg hK (KS_nS hK hI.1) (fun _ _ => rfl) (fun x hx => cpB_0 _ hx)
        · exact TX_cells (by rw [ek 5 (by omega), dk 5 (by omega) (by omega) (by omega)]) (e00 4 (by omega) (by omega)) (eo 3 (by omega) (by omega)) (Inv_X hI)
        · exact ER_cells (by rw [ek 6 (by omega), dk 6 (by omega) (by omega) (by omega)]) (e00 5 (by omega) (by omega)) (e00 6 (by omega) (by omega)) (Inv_E hI)
        · exact OU_cells (by rw [ek 5 (by omega), dk 5 (by omega) (by omega) (by omega)]) (e00 8 (by omega) (by omega)) (eo 4 (by omega) (by omega)) (Inv_O hI)
        · refine ⟨n', c - 1, hn6, by omega, by rw [ek 9 (by omega)]; exact d91, by rw [ek 9 (by omega)]; exact d92, e02, fun i hi => ?_⟩
          rw [ek 2 (by omega), d2g _ (by omega), e01]
          have q := hk (i + 1) (by omega)
          rw [show 2 + (n + 6 - (i + 1 + 1)) % 6 = 2 + (n' + 6 - (i + 1)) % 6 by omega, show c - (i + 1) = c - 1 - i by omega] at q
          exact KS_cg q (KS_nS q hI.1) (fun _ _ => rfl) (hbl _ (by omega))
        · intro i hi
          rw [ek 0 (by omega), dk 0 (by omega) (by omega) (by omega), eo 2 (by omega) (by omega), ek 2 (by omega), d2g _ (by omega), e01]
          rcases Inv_S hI i hi with q | q
          · exact Or.inl q
          · exact Or.inr ⟨q.1, q.2.1, KS_cg q.2.2 (KS_nS q.2.2 hI.1) (fun _ _ => rfl) (hbl _ (by omega))⟩
theorem slot_out {Y : Mem} {a : Int32} (h : decide ((0 : Int32) ≤ a ∧ a ≤ 1) = false) : T11_requireSlot Y a = some (.inl (3, Y)) := by
  unfold T11_requireSlot; rw [within_ok, bd1_e, h, bI_f, if_pos rfl]
theorem slot_in {Y : Mem} {a : Int32} (h : decide ((0 : Int32) ≤ a ∧ a ≤ 1) = true) : T11_requireSlot Y a = some (.inr Y) := by
  unfold T11_requireSlot; rw [within_ok, bd1_e, h, bI_t, if_neg (by decide)]
theorem q_save {Y : Mem} (hI : Inv Y) (a : Int32) : R1 (T11_save Y a) (fun Y => M12_save Y a) c3 := by
  have h14 := nS_le hI
  have g4 : inb 4 4202 = true := inb_n (j := 4) (by omega) (by omega)
  have i4 : ix 4 = 4 := ix_n (j := 4) (by omega)
  by_cases h : decide ((0 : Int32) ≤ a ∧ a ≤ 1) = true
  · obtain ⟨t, t1, t2, rfl⟩ := rng_n (a := a) (lo := 0) (hi := 1) (by omega) (of_decide_eq_true h) (by omega)
    have e3 := copyTo_ok Y (g := 8 + t) (h := 0) (by omega) (Inv_5 hI)
    have hK : KS (sCopy (Y 2 (8 + t)) (Y 2 0)) (Y 10 0 1) (Y 10 0 1) := KS_copy h14 (Inv_KS hI)
    generalize hσ : sCopy (Y 2 (8 + t)) (Y 2 0) = σ at e3 hK
    right
    refine ⟨Y 10 0 1 4, up (wS Y (8 + t) σ) 0 0 2 t 1, ?_, ?_⟩
    · unfold T11_save
      rw [slot_in h, bdxv_r, gdi (show t < 2 by omega), ix_n (by omega), e3, bd1_e, vb1, lt_e, up_eq, upR_o (by omega), wS_o (by omega), (Inv_StS hI).2.1]
    · have dk : ∀ k, k ≠ 2 → k ≠ 0 → (up (wS Y (8 + t) σ) 0 0 2 t 1) k = Y k := fun k h2 h0 => by
        funext g o; rw [up_eq, upR_o (by omega), wS_k h2]
      have d2 : (up (wS Y (8 + t) σ) 0 0 2 t 1) 2 (8 + t) = σ := by
        funext o; rw [up_eq, upR_o (by omega), wS_at]
      have d2g : ∀ g, g ≠ 8 + t → (up (wS Y (8 + t) σ) 0 0 2 t 1) 2 g = Y 2 g := fun g hg => by
        funext o; rw [up_eq, upR_o (by omega), wS_o (by omega)]
      have d0 : ∀ o, o ≠ 2 → (up (wS Y (8 + t) σ) 0 0 2 t 1) 0 0 o = Y 0 0 o := fun o ho => by
        rw [up_eq, upR_o (by omega), wS_k (by omega)]
      have d02 : (up (wS Y (8 + t) σ) 0 0 2 t 1) 0 0 2 = upd (Y 0 0 2) t 1 := by
        rw [up_at, wS_k (by omega)]
      generalize up (wS Y (8 + t) σ) 0 0 2 t 1 = Yc at dk d2 d2g d0 d02
      have d10 := dk 10 (by omega) (by omega)
      have hcp := copy_ok (up Yc 10 0 0 9 0) (a := 0) (b := 7 + t) (by omega) (by omega) (by omega)
      rw [up9_m, d10] at hcp
      have e7 : (7 : Int32) + nI t = nI (7 + t) := by show nI 7 + nI t = _; rw [nI_add]
      have hlo : ∀ x, x < 382 → cpB (Y 10 0 1) 0 (7 + t) x = Y 10 0 1 x := fun x hx => cpB_out _ (Or.inl (by omega))
      refine ⟨up (upR (up Yc 10 0 0 9 0) 10 0 1 (cpB (Y 10 0 1) 0 (7 + t))) 10 0 2 t 1, ?_, ?_, ?_⟩
      · show M12_save Yc (nI t) = _
        unfold M12_save M12_save_b15
        rw [in_ok, bd1_e, h, bI_t, if_neg (by decide), fails_000, bd2_e, if_pos rfl, e7, show M12_copyBlock (up Yc 10 0 0 9 0) 0 (nI (7 + t)) = _ from hcp, bd1_e, gdi (show t < 2 by omega), ix_n (by omega), vb1, lt_e, gd_t g4, i4, up_eq, upR_o (by omega), upR_at, hlo 4 (by omega)]
      · rw [up_eq, upR_o (by omega), upR_o (by omega), up9_9]
      · have ek : ∀ k, k ≠ 10 → (up (upR (up Yc 10 0 0 9 0) 10 0 1 (cpB (Y 10 0 1) 0 (7 + t))) 10 0 2 t 1) k = Yc k := fun k hk => by
          funext g o; rw [up_eq, upR_o (by omega), upR_o (by omega), up_eq, upR_o (by omega)]
        have e01 : (up (upR (up Yc 10 0 0 9 0) 10 0 1 (cpB (Y 10 0 1) 0 (7 + t))) 10 0 2 t 1) 10 0 1 = cpB (Y 10 0 1) 0 (7 + t) := by
          rw [up_eq, upR_o (by omega), upR_at]
        have e00 : ∀ x, x ≠ 9 → (up (upR (up Yc 10 0 0 9 0) 10 0 1 (cpB (Y 10 0 1) 0 (7 + t))) 10 0 2 t 1) 10 0 0 x = Y 10 0 0 x := fun x h9 => by
          rw [up_eq, upR_o (by omega), upR_o (by omega), up9_x _ _ h9, d10]
        have e02 : (up (upR (up Yc 10 0 0 9 0) 10 0 1 (cpB (Y 10 0 1) 0 (7 + t))) 10 0 2 t 1) 10 0 2 = upd (Y 10 0 2) t 1 := by
          rw [up_at, upR_o (by omega), up_eq, upR_o (by omega), d10]
        have eo : ∀ o, o ≠ 0 → o ≠ 1 → o ≠ 2 → (up (upR (up Yc 10 0 0 9 0) 10 0 1 (cpB (Y 10 0 1) 0 (7 + t))) 10 0 2 t 1) 10 0 o = Y 10 0 o := fun o h0 h1 h2 => by
          rw [up_eq, upR_o (by omega), upR_o (by omega), up_eq, upR_o (by omega), d10]
        generalize up (upR (up Yc 10 0 0 9 0) 10 0 1 (cpB (Y 10 0 1) 0 (7 + t))) 10 0 2 t 1 = Ym at ek e01 e00 e02 eo
        have hbl : ∀ j, j ≠ 7 + t → ∀ x, x < 382 → blk (cpB (Y 10 0 1) 0 (7 + t)) j x = blk (Y 10 0 1) j x := fun j hj x hx => cpB_out _ (by omega)
        refine Inv_mk hI (by rw [ek 1 (by omega), dk 1 (by omega) (by omega)]) (by rw [ek 0 (by omega), d0 0 (by omega)]) (by rw [ek 3 (by omega), dk 3 (by omega) (by omega)]) (by rw [ek 4 (by omega), dk 4 (by omega) (by omega)]) ?_ ?_ ?_ ?_ ?_ ?_
        · rw [ek 2 (by omega), d2g 0 (by omega), e01]
          exact KS_cg (Inv_KS hI) h14 (fun _ _ => rfl) hlo
        · exact TX_cells (by rw [ek 5 (by omega), dk 5 (by omega) (by omega)]) (e00 4 (by omega)) (eo 3 (by omega) (by omega) (by omega)) (Inv_X hI)
        · exact ER_cells (by rw [ek 6 (by omega), dk 6 (by omega) (by omega)]) (e00 5 (by omega)) (e00 6 (by omega)) (Inv_E hI)
        · exact OU_cells (by rw [ek 5 (by omega), dk 5 (by omega) (by omega)]) (e00 8 (by omega)) (eo 4 (by omega) (by omega) (by omega)) (Inv_O hI)
        · obtain ⟨n, c, n6, c6, h1, h2, h3, hk⟩ := Inv_H hI
          refine ⟨n, c, n6, c6, by rw [ek 9 (by omega), dk 9 (by omega) (by omega)]; exact h1, by rw [ek 9 (by omega), dk 9 (by omega) (by omega)]; exact h2, by rw [e00 2 (by omega)]; exact h3, fun i hi => ?_⟩
          rw [ek 2 (by omega), d2g _ (by omega), e01]
          have q := hk i hi
          exact KS_cg q (KS_nS q hI.1) (fun _ _ => rfl) (hbl _ (by omega))
        · intro i hi
          rw [ek 0 (by omega), d02, e02, ek 2 (by omega), e01]
          by_cases ei : i = t
          · subst ei
            rw [pk_us, pk_us, d2]
            refine Or.inr ⟨rfl, rfl, KS_cg hK h14 (fun _ _ => rfl) (fun x hx => ?_)⟩
            show cpB (Y 10 0 1) 0 (7 + i) ((7 + i) * 382 + x) = _
            rw [cpB_in _ hx, Nat.zero_mul, Nat.zero_add]
          · rw [pk_un ei, pk_un ei, d2g _ (by omega)]
            rcases Inv_S hI i hi with q | q
            · exact Or.inl q
            · exact Or.inr ⟨q.1, q.2.1, KS_cg q.2.2 (KS_nS q.2.2 hI.1) (fun _ _ => rfl) (hbl _ (by omega))⟩
  · rw [Bool.not_eq_true] at h
    refine R1l hI 3 1 (by decide) (by decide) ?_ ?_
    · unfold T11_save; rw [slot_out h, bdxv_l]
    · show M12_save Y a = _
      unfold M12_save M12_save_b15
      rw [in_ok, bd1_e, h, bI_f, if_pos rfl, fails_1, bd2_e, if_neg (by decide)]
theorem q_restore {Y : Mem} (hI : Inv Y) (a : Int32) : R1 (T11_restore Y a) (fun Y => M12_restore Y a) c31 := by
  have h14 := nS_le hI
  have g4 : inb 4 4202 = true := inb_n (j := 4) (by omega) (by omega)
  have i4 : ix 4 = 4 := ix_n (j := 4) (by omega)
  by_cases h : decide ((0 : Int32) ≤ a ∧ a ≤ 1) = true
  · obtain ⟨t, t1, t2, rfl⟩ := rng_n (a := a) (lo := 0) (hi := 1) (by omega) (of_decide_eq_true h) (by omega)
    rcases Inv_S hI t (by omega) with ⟨s1, s2⟩ | ⟨s1, s2, s3⟩
    · refine R1l hI 1 2 (by decide) (by decide) ?_ ?_
      · unfold T11_restore
        rw [slot_in h, bdxv_r, gdi (show t < 2 by omega), ix_n (by omega), s1, if_pos rfl]
      · show M12_restore Y (nI t) = _
        unfold M12_restore M12_restore_b17 M12_restore_b35
        rw [in_ok, bd1_e, h, bI_t, if_neg (by decide), if_neg (by decide), gdi (show t < 2 by omega), ix_n (by omega), s2, if_pos rfl, fails_2, bd2_e, if_neg (by decide)]
    · have e3 := copyTo_ok Y (g := 0) (h := 8 + t) (by omega) (KS_5 s3)
      have hK : KS (sCopy (Y 2 0) (Y 2 (8 + t))) (Y 10 0 1) (blk (Y 10 0 1) (7 + t)) := KS_copy (KS_nS s3 hI.1) s3
      generalize hσ : sCopy (Y 2 0) (Y 2 (8 + t)) = σ at e3 hK
      right
      refine ⟨blk (Y 10 0 1) (7 + t) 4, up (wS Y 0 σ) 9 0 0 2 0, ?_, ?_⟩
      · unfold T11_restore
        rw [slot_in h, bdxv_r, gdi (show t < 2 by omega), ix_n (by omega), s1, if_neg (by decide), e3, bd1_e, lt_e, up_eq, upR_o (by omega), wS_at, KS_1 hK]
      · have dk : ∀ k, k ≠ 2 → k ≠ 9 → (up (wS Y 0 σ) 9 0 0 2 0) k = Y k := fun k h2 h0 => by
          funext g o; rw [up_eq, upR_o (by omega), wS_k h2]
        have d2 : (up (wS Y 0 σ) 9 0 0 2 0) 2 0 = σ := by
          funext o; rw [up_eq, upR_o (by omega), wS_at]
        have d2g : ∀ g, g ≠ 0 → (up (wS Y 0 σ) 9 0 0 2 0) 2 g = Y 2 g := fun g hg => by
          funext o; rw [up_eq, upR_o (by omega), wS_o (by omega)]
        have d91 : (up (wS Y 0 σ) 9 0 0 2 0) 9 0 0 1 = Y 9 0 0 1 := by rw [up_at, pk_un (by omega), wS_k (by omega)]
        have d92 : (up (wS Y 0 σ) 9 0 0 2 0) 9 0 0 2 = 0 := by rw [up_at, pk_us]
        generalize up (wS Y 0 σ) 9 0 0 2 0 = Yc at dk d2 d2g d91 d92
        have d10 := dk 10 (by omega) (by omega)
        have hcp := copy_ok (up Yc 10 0 0 9 0) (a := 7 + t) (b := 0) (by omega) (by omega) (by omega)
        rw [up9_m, d10] at hcp
        have e7 : (7 : Int32) + nI t = nI (7 + t) := by show nI 7 + nI t = _; rw [nI_add]
        have hlo : ∀ x, x < 382 → cpB (Y 10 0 1) (7 + t) 0 x = blk (Y 10 0 1) (7 + t) x := fun x hx => cpB_0 _ hx
        refine ⟨up (upR (up Yc 10 0 0 9 0) 10 0 1 (cpB (Y 10 0 1) (7 + t) 0)) 10 0 0 2 0, ?_, ?_, ?_⟩
        · show M12_restore Yc (nI t) = _
          unfold M12_restore M12_restore_b17 M12_restore_b34 M12_restore_b35
          rw [in_ok, bd1_e, h, bI_t, if_neg (by decide), if_neg (by decide), gdi (show t < 2 by omega), ix_n (by omega), d10, s2, if_neg (by decide), fails_000, bd2_e, if_pos rfl, e7, show M12_copyBlock (up Yc 10 0 0 9 0) (nI (7 + t)) 0 = _ from hcp, bd1_e, lt_e, gd_t g4, i4, up_eq, upR_o (by omega), upR_at, hlo 4 (by omega)]
        · rw [up_at, pk_un (by omega), upR_o (by omega), up9_9]
        · have ek : ∀ k, k ≠ 10 → (up (upR (up Yc 10 0 0 9 0) 10 0 1 (cpB (Y 10 0 1) (7 + t) 0)) 10 0 0 2 0) k = Yc k := fun k hk => by
            funext g o; rw [up_eq, upR_o (by omega), upR_o (by omega), up_eq, upR_o (by omega)]
          have e01 : (up (upR (up Yc 10 0 0 9 0) 10 0 1 (cpB (Y 10 0 1) (7 + t) 0)) 10 0 0 2 0) 10 0 1 = cpB (Y 10 0 1) (7 + t) 0 := by
            rw [up_eq, upR_o (by omega), upR_at]
          have e00 : ∀ x, x ≠ 2 → x ≠ 9 → (up (upR (up Yc 10 0 0 9 0) 10 0 1 (cpB (Y 10 0 1) (7 + t) 0)) 10 0 0 2 0) 10 0 0 x = Y 10 0 0 x := fun x h2 h9 => by
            rw [up_at, pk_un h2, upR_o (by omega), up9_x _ _ h9, d10]
          have e02 : (up (upR (up Yc 10 0 0 9 0) 10 0 1 (cpB (Y 10 0 1) (7 + t) 0)) 10 0 0 2 0) 10 0 0 2 = 0 := by rw [up_at, pk_us]
          have eo : ∀ o, o ≠ 0 → o ≠ 1 → (up (upR (up Yc 10 0 0 9 0) 10 0 1 (cpB (Y 10 0 1) (7 + t) 0)) 10 0 0 2 0) 10 0 o = Y 10 0 o := fun o h0 h1 => by
            rw [up_eq, upR_o (by omega), upR_o (by omega), up_eq, upR_o (by omega), d10]
          generalize up (upR (up Yc 10 0 0 9 0) 10 0 1 (cpB (Y 10 0 1) (7 + t) 0)) 10 0 0 2 0 = Ym at ek e01 e00 e02 eo
          have hbl : ∀ j, 1 ≤ j → ∀ x, x < 382 → blk (cpB (Y 10 0 1) (7 + t) 0) j x = blk (Y 10 0 1) j x := fun j hj x hx => cpB_out _ (Or.inr (by omega))
          refine Inv_mk hI (by rw [ek 1 (by omega), dk 1 (by omega) (by omega)]) (by rw [ek 0 (by omega), dk 0 (by omega) (by omega)]) (by rw [ek 3 (by omega), dk 3 (by omega) (by omega)]) (by rw [ek 4 (by omega), dk 4 (by omega) (by omega)]) ?_ ?_ ?_ ?_ ?_ ?_
          · rw [ek 2 (by omega), d2, e01]
            exact KS_cg hK (KS_nS hK hI.1) (fun _ _ => rfl) hlo
          · exact TX_cells (by rw [ek 5 (by omega), dk 5 (by omega) (by omega)]) (e00 4 (by omega) (by omega)) (eo 3 (by omega) (by omega)) (Inv_X hI)
          · exact ER_cells (by rw [ek 6 (by omega), dk 6 (by omega) (by omega)]) (e00 5 (by omega) (by omega)) (e00 6 (by omega) (by omega)) (Inv_E hI)
          · exact OU_cells (by rw [ek 5 (by omega), dk 5 (by omega) (by omega)]) (e00 8 (by omega) (by omega)) (eo 4 (by omega) (by omega)) (Inv_O hI)
          · obtain ⟨n, c, n6, c6, h1, h2, h3, hk⟩ := Inv_H hI
            exact ⟨n, 0, n6, by omega, by rw [ek 9 (by omega), d91]; exact h1, by rw [ek 9 (by omega), d92]; rfl, e02, fun i hi => by omega⟩
          · intro i hi
            rw [ek 0 (by omega), dk 0 (by omega) (by omega), eo 2 (by omega) (by omega), ek 2 (by omega), d2g _ (by omega), e01]
            rcases Inv_S hI i hi with q | q
            · exact Or.inl q
            · exact Or.inr ⟨q.1, q.2.1, KS_cg q.2.2 (KS_nS q.2.2 hI.1) (fun _ _ => rfl) (hbl _ (by omega))⟩
  · rw [Bool.not_eq_true] at h
    refine R1l hI 3 1 (by decide) (by decide) ?_ ?_
    · unfold T11_restore; rw [slot_out h, bdxv_l]
    · show M12_restore Y a = _
      unfold M12_restore M12_restore_b17 M12_restore_b34 M12_restore_b35
      rw [in_ok, bd1_e, h, bI_f, if_pos rfl, if_pos rfl, fails_1, bd2_e, if_neg (by decide)]
end
