section
/-! THE LAW'S act -/
theorem JJ_cg {m f : Nat → Int32} (W : WF m) (h : JJ m) (hf : ∀ x, x < 382 → f x = m x) : JJ f :=
  JJ_same W (re_agree hf) h (hf 7 (by omega)) (hf 8 (by omega)) (hf 11 (by omega)) (fun s hs => by
    have := W.2.1
    exact ⟨hf _ (by omega), hf _ (by omega), hf _ (by omega)⟩)
/-- what act leaves: the same recipe, nothing inconsistent, the same minute -/
def AOut (Y : Mem) (o : Option Mem) : Prop := ∃ Yc Ym, o = some Yc ∧ (∀ k, k ≠ 10 → Ym k = Yc k) ∧ (∀ k, k ≠ 1 → k ≠ 2 → k ≠ 9 → k ≠ 10 → Yc k = Y k) ∧ Inv Ym ∧ JJ (Ym 10 0 1) ∧ RecEq (Y 10 0 1) (Ym 10 0 1) ∧ Ym 10 0 1 4 = Y 10 0 1 4
theorem AOut_same {Y : Mem} (hI : Inv Y) (hJ : JJ (Y 10 0 1)) : AOut Y (some Y) := ⟨Y, Y, rfl, fun _ _ => rfl, fun _ _ _ _ _ => rfl, hI, hJ, re_refl _, rfl⟩
theorem AOut_stp {Y : Mem} {c : Option (Int32 × Mem)} {P : Int32 → (Nat → Int32) → Prop} (hI : Inv Y) (_ : JJ (Y 10 0 1)) (h : StpK Y c P) (hp : ∀ r f, P r f → JJ f ∧ RecEq (Y 10 0 1) f ∧ f 4 = Y 10 0 1 4) : AOut Y (bd2 c fun _ Y' => some Y') := by
  obtain ⟨r, Yc, Ym, f, q1, q2, q3, q4, q5, q6⟩ := h
  obtain ⟨w1, w2, w3⟩ := hp r f q6
  have Wf : WF f := re_WF w2 hI.1
  exact ⟨Yc, Ym, by rw [q1, bd2_e], q2, fun k h1 h2 h9 _ => q3 k h1 h2 h9, q4, JJ_cg Wf w1 q5, re_trans w2 (re_agree q5), (q5 4 (by omega)).trans w3⟩
theorem srv_1 {m : Nat → Int32} : srv m = 1 ↔ m 6 = 1 := by
  unfold srv
  constructor
  · intro h
    by_cases c : m 6 = 1
    · exact c
    · rw [if_neg c] at h
      split at h
      · exact absurd h (by decide)
      · split at h
        · exact absurd h (by decide)
        · split at h
          · exact absurd h (by decide)
          · split at h
            · exact absurd h (by decide)
            · exact absurd h (by decide)
  · intro c; exact if_pos c
theorem salt_ok {Y : Mem} (hI : Inv Y) (hJ : JJ (Y 10 0 1)) {a : Int32} (c0 : ¬ a = 0) (h : decide ((-9 : Int32) ≤ a ∧ a ≤ 9) = true) (s6 : Y 10 0 1 6 = 0) (z : Int32) : AOut Y (L_act_b180 z Y a) := by
  unfold L_act_b180
  exact AOut_stp hI hJ (s_addSalt hI c0 h s6) fun r f e => by
    subst e
    exact ⟨JJ_low hI.1 hJ _ (by omega), lo3_re _ _ (by omega), pk_un (by decide)⟩
theorem act_ok {Y : Mem} (hI : Inv Y) (hJ : JJ (Y 10 0 1)) {z : Nat} (hz : z < 2 ^ 31) : AOut Y (L_act Y (nI z)) := by
  have h14 := nS_le hI
  have n1 : 1 ≤ nS (Y 10 0 1) := hI.2.1
  have hs : z / 16 % nS (Y 10 0 1) < nS (Y 10 0 1) := Nat.mod_lt _ (by omega)
  have d16 : nI z / 16 = nI (z / 16) := pk_div (d := 16) hz (by omega) (by omega)
  have d256 : nI z / 256 = nI (z / 256) := pk_div (d := 256) hz (by omega) (by omega)
  have d512 : nI z / 512 = nI (z / 512) := pk_div (d := 512) hz (by omega) (by omega)
  have m8 : nI z - nI z / 8 * 8 = nI (z % 8) := pk_rem (d := 8) hz (by omega) (by omega)
  have ms : nI (z / 16) - nI (z / 16) / nI (nS (Y 10 0 1)) * nI (nS (Y 10 0 1)) = nI (z / 16 % nS (Y 10 0 1)) := pk_rem (by omega) (by omega) (by omega)
  have m4 : nI (z / 256) - nI (z / 256) / 4 * 4 = nI (z / 256 % 4) := pk_rem (d := 4) (by omega) (by omega) (by omega)
  have m88 : nI (z / 256) - nI (z / 256) / 8 * 8 = nI (z / 256 % 8) := pk_rem (d := 8) (by omega) (by omega) (by omega)
  have m2 : nI (z / 256) - nI (z / 256) / 2 * 2 = nI (z / 256 % 2) := pk_rem (d := 2) (by omega) (by omega) (by omega)
  have m5 : nI (z / 512) - nI (z / 512) / 5 * 5 = nI (z / 512 % 5) := pk_rem (d := 5) (by omega) (by omega) (by omega)
  have hcase : ∀ j : Nat, j < 8 → (nI (z % 8) = nI j ↔ z % 8 = j) := fun j hj => nI_eq (by omega) (by omega)
  unfold L_act
  rw [v_stepCount hI, bd1_e, gd_t (decide_eq_true (p := ¬ nI (nS (Y 10 0 1)) = 0) (fun q => by have := (nI_eq (b := 0) (by omega) (by omega)).mp q; omega)), d16, ms, lt_e, m8, d256, d512, m4, m88, m2, m5]
  by_cases c0 : nI (z % 8) = 0
  · rw [if_pos c0, v_status hI hs, bd1_e]
    by_cases c : fld (Y 10 0 1) (z / 16 % nS (Y 10 0 1)) 17 = 1
    · rw [if_pos c]
      exact AOut_stp hI hJ (s_stop hI hs c) fun r f e => by
        subst e
        exact ⟨JJ_halt hI.1 hJ hs c, mHalt_re _ _, by rw [mHalt_lo _ (by omega), if_neg (by omega)]⟩
    · rw [if_neg c]; exact AOut_same hI hJ
  · rw [if_neg c0]
    by_cases c1 : nI (z % 8) = 1
    · rw [if_pos c1, v_status hI hs, bd1_e]
      by_cases c : fld (Y 10 0 1) (z / 16 % nS (Y 10 0 1)) 17 = 2
      · rw [if_pos c, v_isTakenUp hI hs, bd1_e]
        cases t : isTaken (Y 10 0 1) (z / 16 % nS (Y 10 0 1))
        · rw [bI_f, if_pos rfl, v_whyNotServed hI, bd1_e]
          by_cases w : srv (Y 10 0 1) = 1
          · rw [if_pos w]; exact AOut_same hI hJ
          · rw [if_neg w]
            have h6 : Y 10 0 1 6 = 0 := (Inv_6 hI).resolve_right fun q => w (srv_1.mpr q)
            have hc : canRedo (Y 10 0 1) (z / 16 % nS (Y 10 0 1)) = true := by unfold canRedo; rw [c, t, h6]; rfl
            exact AOut_stp hI hJ (s_redo hI hs hc) fun r f e => by
              subst e
              exact ⟨JJ_disc hI.1 hJ hs c, mDisc_re _ _, mDisc_lo _ (by omega)⟩
        · rw [bI_t, if_neg (by decide)]; exact AOut_same hI hJ
      · rw [if_neg c]; exact AOut_same hI hJ
    · rw [if_neg c1]
      by_cases c2 : nI (z % 8) = 2
      · rw [if_pos c2]
        have e : (1 : Int32) + nI (z / 256 % 4) = nI (1 + z / 256 % 4) := nI_add 1 _
        rw [e]
        have hd : decide ((1 : Int32) ≤ nI (1 + z / 256 % 4) ∧ nI (1 + z / 256 % 4) ≤ 4) = true := decide_eq_true ⟨(nI_leI (a := 1) (by omega) (by omega)).mpr (by omega), (nI_leI (b := 4) (by omega) (by omega)).mpr (by omega)⟩
        exact AOut_stp hI hJ (s_setCooks hI hd) fun r f e => by
          subst e
          exact ⟨JJ_low hI.1 hJ _ (by omega), lo3_re _ _ (by omega), pk_un (by decide)⟩
      · rw [if_neg c2]
        by_cases c3 : nI (z % 8) = 3
        · rw [if_pos c3]
          have e : (1 : Int32) + nI (z / 256 % 8) = nI (1 + z / 256 % 8) := nI_add 1 _
          rw [e]
          exact AOut_stp hI hJ (s_setDuration hI hs (t := 1 + z / 256 % 8) (by omega) (by omega)) fun r f e => by
            subst e
            exact ⟨JJ_dur hI.1 hJ _, re_up _ (Or.inl rfl), pk_un (by omega)⟩
        · rw [if_neg c3]
          by_cases c4 : nI (z % 8) = 4
          · rw [if_pos c4, v_whyNotServed hI, bd1_e]
            by_cases w : srv (Y 10 0 1) = 1
            · rw [if_pos w]; exact AOut_same hI hJ
            · rw [if_neg w]
              have h6 : Y 10 0 1 6 = 0 := (Inv_6 hI).resolve_right fun q => w (srv_1.mpr q)
              have hlt : z / 512 % 5 < 5 := Nat.mod_lt _ (by omega)
              have up : ∀ n, n < 5 → ¬ (1 : Int32) + nI n = 0 ∧ decide ((-9 : Int32) ≤ 1 + nI n ∧ 1 + nI n ≤ 9) = true := by decide +kernel
              have dn : ∀ n, n < 5 → ¬ (-1 : Int32) - nI n = 0 ∧ decide ((-9 : Int32) ≤ -1 - nI n ∧ -1 - nI n ≤ 9) = true := by decide +kernel
              split
              · exact salt_ok hI hJ (up _ hlt).1 (up _ hlt).2 h6 _
              · exact salt_ok hI hJ (dn _ hlt).1 (dn _ hlt).2 h6 _
          · rw [if_neg c4]
            by_cases c5 : nI (z % 8) = 5
            · rw [if_pos c5, v_whyNotServed hI, bd1_e]
              by_cases w : srv (Y 10 0 1) = 0
              · rw [if_pos w]
                exact AOut_stp hI hJ (s_serve hI w) fun r f e => by
                  subst e
                  exact ⟨JJ_low hI.1 hJ _ (by omega), lo3_re _ _ (by omega), pk_un (by decide)⟩
              · rw [if_neg w]; exact AOut_same hI hJ
            · rw [if_neg c5]; exact AOut_same hI hJ
end
