section
/-! THE CRITICAL STEPS -/
def crit (m : Nat → Int32) : Nat → Option Nat
  | 0 => best (fun _ => true) (pth m) (nS m)
  | k + 1 => match crit m k with
    | none => none
    | some j => best (isPred m j) (pth m) (nS m)
theorem crit_s {m : Nat → Int32} {k j : Nat} (h : crit m k = some j) : crit m (k + 1) = best (isPred m j) (pth m) (nS m) := by
  unfold crit; rw [h]
theorem crit_n {m : Nat → Int32} {k : Nat} (h : crit m k = none) : ∀ d, crit m (k + d) = none := by
  intro d
  induction d with
  | zero => exact h
  | succ d ih => rw [← Nat.add_assoc]; unfold crit; rw [ih]
theorem crit_ge {m : Nat → Int32} (W : WF m) : ∀ k j, crit m k = some j → k ≤ j ∧ j < nS m := by
  intro k
  induction k with
  | zero => intro j h; exact ⟨Nat.zero_le _, (best_lt h).1⟩
  | succ k ih =>
    intro j h
    cases c : crit m k with
    | none => rw [show k + 1 = k + 1 from rfl, crit_n c 1] at h; cases h
    | some i =>
      rw [crit_s c] at h
      have h1 := ih i c
      have h2 := best_lt h
      have := isPred_lt W h2.1 h2.2
      omega
theorem critM_in (Z : Mem) {k : Nat} {at_ a : Int32} {f : Nat → Bool} {p : Nat → Nat} {k13 : Mem → Int32 → Int32 → Option (Int32 × Mem)} (W : WF (Z 10 0 1)) (hk : k < 2 ^ 30) (hp : ∀ i, i < nS (Z 10 0 1) → Z 10 0 5 i = nI (p i)) (hlt : ∀ i, p i < 2 ^ 30) (hf : (k = 0 ∧ ∀ i, f i = true) ∨ (0 < k ∧ ∃ j, j < 14 ∧ at_ = nI j ∧ ∀ i, f i = isPred (Z 10 0 1) j i)) :
    ∀ i, i ≤ nS (Z 10 0 1) → ∀ fu, nS (Z 10 0 1) - i < fu → M12_criticalStep_b24 a k13 fu Z (nI i) (oI (best f p i)) (nI k) at_ = if oI (best f p (nS (Z 10 0 1))) = -1 then some (-1, Z) else k13 Z (nI (k + 1)) (oI (best f p (nS (Z 10 0 1)))) := by
  have h14 := W.2.1
  have e : (13 : Int32) = nI 13 := rfl
  refine upl ?_ ?_
  · intro fu fu_h
    obtain ⟨fu, rfl⟩ := fuel_s fu_h
    unfold M12_criticalStep_b24
    rw [e, gdi (show 13 < 4202 by omega), ix_n (by omega), W.1, if_pos (Int32.le_refl _), nI_1]
  · intro i hi ih fu fu_h
    obtain ⟨fu, rfl⟩ := fuel_s fu_h
    have hbody : M12_criticalStep_b24 a k13 (fu + 1) Z (nI i) (oI (best f p i)) (nI k) at_ = M12_criticalStep_b55 a (M12_criticalStep_b24 a k13 fu) Z (nI i) (oI (best f p i)) (nI k) at_ (bI (f i)) := by
      rw [M12_criticalStep_b24]
      rw [e, gdi (show 13 < 4202 by omega), ix_n (by omega), W.1, if_neg (by rw [nI_leI (by omega) (by omega)]; omega)]
      rcases hf with ⟨h0, hf⟩ | ⟨h0, j, hj, rfl, hf⟩
      · subst h0
        rw [if_pos (show nI 0 = 0 from rfl), hf i]
        rfl
      · rw [if_neg (nI_ne0 h0 (by omega)), isPred_ok Z W hi (by omega), bd1_e, hf i]
        cases isPred (Z 10 0 1) j i
        · rw [bI_f, if_pos rfl]
        · rw [bI_t, if_neg (by decide)]
          rfl
    rw [hbody]
    unfold M12_criticalStep_b55 M12_criticalStep_b85 M12_criticalStep_b89
    have ih2 := ih fu (by omega)
    rw [best_s] at ih2
    rw [bI_ne, nI_1]
    cases c : f i
    · rw [if_neg (by decide)]
      rw [c, if_neg (by decide)] at ih2
      exact ih2
    · rw [if_pos rfl]
      rw [c, if_pos rfl] at ih2
      cases hbi : best f p i with
      | none =>
        rw [hbi] at ih2
        show (if (-1 : Int32) = -1 then _ else _) = _
        rw [if_pos rfl]
        exact ih2
      | some j =>
        rw [hbi] at ih2
        have hjl := (best_lt hbi).1
        have oj : oI (some j) = nI j := rfl
        rw [oj, if_neg (nI_neg1 (by omega)), gdi (show i < 14 by omega), gdi (show j < 14 by omega), ix_n (by omega), ix_n (by omega), hp i hi, hp j (by omega)]
        have l1 := hlt i
        have l2 := hlt j
        have ih3 : M12_criticalStep_b24 a k13 fu Z (nI (i + 1)) (oI (if p j < p i then some i else some j)) (nI k) at_ = _ := ih2
        by_cases q : p j < p i
        · rw [if_neg (by rw [nI_leI (by omega) (by omega)]; omega)]
          rw [if_pos q] at ih3
          exact ih3
        · rw [if_pos (by rw [nI_leI (by omega) (by omega)]; omega)]
          rw [if_neg q] at ih3
          exact ih3
theorem oI_m1 {o : Option Nat} (h : ∀ j, o = some j → j < 14) : oI o = -1 ↔ o = none := by
  cases o with
  | none => exact ⟨fun _ => rfl, fun _ => rfl⟩
  | some j => exact ⟨fun q => absurd q (nI_neg1 (by have := h j rfl; omega)), fun q => by cases q⟩
theorem critM_out (Z : Mem) (W : WF (Z 10 0 1)) (hp : ∀ i, i < nS (Z 10 0 1) → Z 10 0 5 i = nI (pth (Z 10 0 1) i)) (hlt : ∀ i, pth (Z 10 0 1) i < 2 ^ 30) {t : Nat} (ht : t < 2 ^ 31) : ∀ d k at_ fu, k + d = nS (Z 10 0 1) + 1 → d < fu → k ≤ t + 1 → ((k = 0 ∧ at_ = -1) ∨ (0 < k ∧ ∃ j, crit (Z 10 0 1) (k - 1) = some j ∧ at_ = nI j)) → M12_criticalStep_b13 (nI t) fu Z (nI k) at_ = some (oI (crit (Z 10 0 1) t), Z) := by
  have h14 := W.2.1
  intro d
  induction d with
  | zero =>
    intro k at_ fu hk _ hkt h
    rcases h with ⟨h0, -⟩ | ⟨h0, j, hj, -⟩
    · omega
    · have := crit_ge W _ _ hj
      omega
  | succ d ih =>
    intro k at_ fu hk fu_h hkt h
    obtain ⟨fu, rfl⟩ := fuel_s fu_h
    unfold M12_criticalStep_b13
    by_cases c : t < k
    · rw [if_pos ((nI_ltI ht (by omega)).mpr c)]
      rcases h with ⟨h0, -⟩ | ⟨h0, j, hj, e⟩
      · omega
      · have : k - 1 = t := by omega
        rw [this] at hj
        rw [hj, e]; rfl
    · rw [if_neg (fun q => c ((nI_ltI ht (by omega)).mp q))]
      have hin : M12_criticalStep_b24 (nI t) (M12_criticalStep_b13 (nI t) fu) FU Z 0 (-1) (nI k) at_ = if oI (crit (Z 10 0 1) k) = -1 then some (-1, Z) else M12_criticalStep_b13 (nI t) fu Z (nI (k + 1)) (oI (crit (Z 10 0 1) k)) := by
        rcases h with ⟨h0, e⟩ | ⟨h0, j, hj, e⟩
        · subst h0
          exact critM_in Z (f := fun _ => true) W (by omega) hp hlt (Or.inl ⟨rfl, fun _ => rfl⟩) 0 (Nat.zero_le _) FU (by have := FU_big; omega)
        · have ek : k = k - 1 + 1 := by omega
          have hc : crit (Z 10 0 1) k = best (isPred (Z 10 0 1) j) (pth (Z 10 0 1)) (nS (Z 10 0 1)) := by rw [ek]; exact crit_s hj
          have hj2 := crit_ge W _ _ hj
          rw [hc]
          exact critM_in Z (f := isPred (Z 10 0 1) j) W (by omega) hp hlt (Or.inr ⟨h0, j, by omega, e, fun _ => rfl⟩) 0 (Nat.zero_le _) FU (by have := FU_big; omega)
      rw [hin]
      cases cc : crit (Z 10 0 1) k with
      | none =>
        have : crit (Z 10 0 1) t = none := by
          have := crit_n cc (t - k)
          rw [show k + (t - k) = t by omega] at this
          exact this
        rw [this]
        exact if_pos rfl
      | some j =>
        have hj := crit_ge W _ _ cc
        rw [if_neg (show ¬ oI (some j) = -1 from nI_neg1 (by omega))]
        exact ih (k + 1) (nI j) fu (by omega) (by omega) (by omega) (Or.inr ⟨by omega, j, cc, rfl⟩)
theorem critC_b {Y : Mem} (hI : Inv Y) (hp : ∀ i, i < nS (Y 10 0 1) → Y 1 0 1 i = nI (pth (Y 10 0 1) i)) (hlt : ∀ i, pth (Y 10 0 1) i < 2 ^ 30) {t : Nat} (ht : t < 14) : ∀ i, i ≤ t → ∀ fu, t - i < fu → X3_criticalAt_b40 0 (nI t) fu Y (nI i) (oI (crit (Y 10 0 1) i)) = some (oI (crit (Y 10 0 1) t), Y) := by
  have h14 := nS_le hI
  have hR := Inv_R hI
  refine upl ?_ ?_
  · intro fu fu_h
    obtain ⟨fu, rfl⟩ := fuel_s fu_h
    unfold X3_criticalAt_b40
    rw [if_pos (Int32.le_refl _)]
  · intro i hi ih fu fu_h
    obtain ⟨fu, rfl⟩ := fuel_s fu_h
    unfold X3_criticalAt_b40
    rw [if_neg (by rw [nI_leI (by omega) (by omega)]; omega), nI_1]
    have ih2 := ih fu (by omega)
    cases cc : crit (Y 10 0 1) i with
    | none =>
      have : crit (Y 10 0 1) t = none := by
        have := crit_n cc (t - i)
        rw [show i + (t - i) = t by omega] at this
        exact this
      rw [this]
      exact if_pos rfl
    | some j =>
      have hj := crit_ge hI.1 _ _ cc
      rw [crit_s cc] at ih2
      have oj : oI (some j) = nI j := rfl
      rw [oj, if_neg (nI_neg1 (by omega)), gd2 hR.1.1, gdi (show j < 14 by omega), ix_n (by omega), longest_ok (n := nS (Y 10 0 1)) (f := isPred (Y 10 0 1) j) (p := pth (Y 10 0 1)) hR.1.1 hR.1.2.1 h14 (fun k hk => by rw [(hR.2.2.2.2.1 j hj.2 k (by omega)).2, decide_eq_true hk, Bool.true_and]) (fun k hk _ => hp k hk) hlt, bd1_e]
      exact ih2
theorem q_criticalStep {Y : Mem} (hI : Inv Y) (a : Int32) : R0m (X11_criticalStep Y a) (fun Y => M12_criticalStep Y a) := by
  have h14 := nS_le hI
  have hR := Inv_R hI
  have hpl : ∀ k, pth (Y 10 0 1) k < 2 ^ 30 := fun k => by have := pa_lt (Inv_MI hI) h14 (Nat.le_refl _) k; unfold pth; omega
  -- the model, at any memory with the same block
  have hM : ∀ Yc, QC Y Yc → ∃ Ym, Inv Ym ∧ M12_criticalStep Yc a = (if a < 0 then some (-1, Ym) else some (oI (crit (Y 10 0 1) (ix a)), Ym)) := by
    intro Yc hQ
    have hIc := Inv_QC hI hQ
    have e10 := QC_lo hQ
    obtain ⟨p2, m1, m2⟩ := paths_ok (up Yc 10 0 0 9 0) (by rw [up9_m]; exact hIc.1) (by rw [up9_m]; exact Inv_MI hIc)
    rw [up9_m, e10] at m2
    have hN : QN (up Yc 10 0 0 9 0) (upR (up Yc 10 0 0 9 0) 10 0 5 p2) := fun k g o h => upR_o (by omega)
    have hQS := QS_QN hN (fun x _ => by rw [upR_o (by omega)])
    have eZ : (upR (up Yc 10 0 0 9 0) 10 0 5 p2) 10 0 1 = Y 10 0 1 := by rw [upR_o (by omega), up9_m, e10]
    refine ⟨upR (up Yc 10 0 0 9 0) 10 0 5 p2, Inv_QM hIc (QS_9 hQS).1, ?_⟩
    unfold M12_criticalStep
    rw [lt_e, m1, bd1_e]
    by_cases c : a < 0
    · rw [if_pos c]
      obtain ⟨f, hf⟩ := fuel_s (show 0 < FU by have := FU_big; omega)
      rw [hf]
      unfold M12_criticalStep_b13
      rw [if_pos c]
    · rw [if_neg c]
      obtain ⟨t, ht, rfl⟩ := nI_of c
      rw [ix_n ht]
      have := critM_out (upR (up Yc 10 0 0 9 0) 10 0 5 p2) (by rw [eZ]; exact hI.1) (by rw [eZ, upR_at]; exact m2) (by rw [eZ]; exact hpl) ht (nS (Y 10 0 1) + 1) 0 (-1) FU (by rw [eZ]; omega) (by have := FU_big; omega) (by omega) (Or.inl ⟨rfl, rfl⟩)
      rw [eZ] at this
      exact this
  have hin := in_inb a (n := nS (Y 10 0 1)) (by omega)
  by_cases c : inb a (nS (Y 10 0 1)) = true
  · obtain ⟨t, ht, rfl⟩ := inb_dec a c
    obtain ⟨B, -, -, k, -⟩ := KR_of hI
    obtain ⟨p, q, r1, r2, r3, r4⟩ := KR_rank k
    have hQ : QC Y (upR (upR Y 1 0 1 p) 1 0 2 q) := QC_trans (QC_upR1 Y 0 (by omega) p) (QC_upR1 _ 0 (by omega) q)
    have ep : ∀ i, i < nS (Y 10 0 1) → (upR (upR Y 1 0 1 p) 1 0 2 q) 1 0 1 i = nI (pth (Y 10 0 1) i) := fun i hi => by rw [upR_o (by omega), upR_at]; exact r4 i hi
    generalize upR (upR Y 1 0 1 p) 1 0 2 q = Yc at r1 r2 r3 hQ ep
    have hIc := Inv_QC hI hQ
    have e10 := QC_lo hQ
    have hRc := Inv_R hIc
    have hcnt := hRc.1.2.1
    rw [e10] at hcnt
    obtain ⟨Ym, y1, y2⟩ := hM Yc hQ
    rw [if_neg (by rw [Int32.not_lt]; exact nI_pos' (by omega)), ix_n (by omega)] at y2
    refine ⟨oI (crit (Y 10 0 1) t), Yc, Ym, ?_, y2, y1⟩
    unfold X11_criticalStep X3_criticalAt
    rw [gd2 hR.1.1, gd2 hR.1.1, hR.1.2.1, within_ok, bd1_e, show (nI (nS (Y 10 0 1)) - 1 : Int32) = nI (nS (Y 10 0 1)) - nI 1 from rfl, hin, c, bI_t, if_neg (by decide), r1, bd1_e, gd2 hRc.1.1, gd2 hRc.1.1, allSteps_ok Yc _ hcnt, bd1_e]
    rw [longest_ok (n := nS (Y 10 0 1)) (f := fun _ => true) (p := pth (Y 10 0 1)) hRc.1.1 hcnt h14 (fun k hk => by rw [b_all _ (by omega) k (by omega), decide_eq_true hk]) (fun k hk _ => ep k hk) hpl, bd1_e]
    have := critC_b hIc (by rw [e10]; exact ep) (by rw [e10]; exact hpl) (t := t) (by omega) 0 (Nat.zero_le _) FU (by have := FU_big; omega)
    rw [e10] at this
    rw [show X3_criticalAt_b40 0 (nI t) FU Yc 0 (oI (best (fun _ => true) (pth (Y 10 0 1)) (nS (Y 10 0 1)))) = _ from this, bd2_e]
  · rw [Bool.not_eq_true] at c
    obtain ⟨Ym, y1, y2⟩ := hM Y (QC_refl Y)
    refine ⟨-1, Y, Ym, ?_, ?_, y1⟩
    · unfold X11_criticalStep X3_criticalAt
      rw [gd2 hR.1.1, gd2 hR.1.1, hR.1.2.1, within_ok, bd1_e, show (nI (nS (Y 10 0 1)) - 1 : Int32) = nI (nS (Y 10 0 1)) - nI 1 from rfl, hin, c, bI_f, if_pos rfl, bd2_e]
    · show M12_criticalStep Y a = _
      rw [y2]
      by_cases c2 : a < 0
      · rw [if_pos c2]
      · rw [if_neg c2]
        obtain ⟨t, ht, rfl⟩ := nI_of c2
        rw [ix_n ht]
        cases cc : crit (Y 10 0 1) t with
        | none => rfl
        | some j =>
          have := crit_ge hI.1 _ _ cc
          rw [inb_n (by omega) (by omega)] at c
          cases c
end
