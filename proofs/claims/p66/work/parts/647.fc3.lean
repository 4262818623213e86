section
theorem req_ok {Y : Mem} (hI : Inv Y) (a : Int32) : T11_requireStep Y a = if inb a (nS (Y 10 0 1)) = true then some (.inr Y) else some (.inl (3, Y)) := by
  obtain ⟨W, n1, hR, -⟩ := hI
  have h14 := W.2.1
  unfold T11_requireStep
  rw [gd2 hR.1.1, gd2 hR.1.1, within_ok, hR.1.2.1, bd1_e]
  have := in_inb a (n := nS (Y 10 0 1)) (by omega)
  rw [show (nI (nS (Y 10 0 1)) - 1 : Int32) = nI (nS (Y 10 0 1)) - nI 1 from rfl, this, bI_ne]
theorem isS_ok {Y : Mem} (hI : Inv Y) (a : Int32) : M12_isStep Y a = some (bI (inb a (nS (Y 10 0 1)))) := isStep_ok Y a hI.1
theorem nS_le {Y : Mem} (hI : Inv Y) : nS (Y 10 0 1) ≤ 14 := hI.1.2.1
def c3 (n : Nat) : Int32 := if n = 3 then 1 else 0
def c32 (n : Nat) : Int32 := if n = 3 then 1 else if n = 2 then 2 else 0
theorem mtb_ok {Y : Mem} (hI : Inv Y) (a : Int32) : R1 (T11_minutesToBurn Y a) (fun Y => M12_minutesToBurn Y a) c3 := by
  have h14 := nS_le hI
  unfold T11_minutesToBurn
  rw [req_ok hI]
  by_cases h : inb a (nS (Y 10 0 1)) = true
  · rw [if_pos h, bdxv_r]
    right
    obtain ⟨s, hs, rfl⟩ := inb_dec a h
    obtain ⟨Y', f1, f2, B, hB, f3, f4⟩ := fc_ok hI
    have k1 := KR_ag f3 (cp_lo (Y 10 0 1))
    generalize hm : cpB (Y 10 0 1) 0 9 = m at k1
    have lo : ∀ x, x < 382 → m x = Y 10 0 1 x := by rw [← hm]; exact cp_lo _
    have hn : nS m = nS (Y 10 0 1) := re_nS (re_agree lo)
    obtain ⟨b, b1, b2⟩ := f4 s hs
    have e22 : fld m s 22 = nI b := (lo _ (by omega)).trans b1
    obtain ⟨p, q, r1, r2, r3, -⟩ := KR_rank k1
    have hQ1 : QC Y (upR (upR Y' 1 1 1 p) 1 1 2 q) := QC_trans f2 (QC_trans (QC_upR1 Y' 1 (by omega) p) (QC_upR1 _ 1 (by omega) q))
    have hm2 := KR_hm r2
    generalize hY3 : upR (upR Y' 1 1 1 p) 1 1 2 q = Y3 at r1 r2 r3 hQ1
    have k2 : KR (wS Y3 1 (Y3 2 1)) 1 (mins m 0) (B + 0) := by rw [wS_self]; exact r2
    have o2 : KO (wS Y3 1 (Y3 2 1)) 1 (mins m 0) := by rw [wS_self]; exact r3
    obtain ⟨σ, c1⟩ := brnC_b (by rw [hn]; exact hs) (by omega) r2 r3 500 0 (Y3 2 1) FU rfl (by have := FU_big; omega) e22 k2 o2
    rw [wS_self] at c1
    have hQ2 : QC Y (wS Y3 1 σ) := QC_trans hQ1 (QC_wS1 _ _)
    have e10 := QC_lo hQ2
    have v22 : Y3 2 1 6 s = nI b := (r2.2.2.1.2.2.1 s (by rw [hn]; exact hs)).2.2.2.2.trans e22
    obtain ⟨Z', e, z1, z2, z3⟩ := brnM_b (s := s) (b := b) (by omega) (by omega) hm2 500 0 (upR (up (wS Y3 1 σ) 10 0 0 9 0) 10 0 1 m) FU rfl (by have := FU_big; omega) e22 (upR_at _ _ _ _ _)
    have hN := QN_trans (QN_upR (up (wS Y3 1 σ) 10 0 0 9 0) m) z3
    obtain ⟨a1, a2⟩ := aside (m := Y 10 0 1) (M := m) r2.1 (fun x _ => by rw [← hm]) e
    obtain ⟨Z2, d1, -, d3, -⟩ := back_ok (Y := up (wS Y3 1 σ) 10 0 0 9 0) (Z := Z') (m := Y 10 0 1) (t := 9) (Or.inl rfl) hN (fun x _ => by rw [up9_m, e10]) (fun x hx => by rw [z2]; exact a1 x hx) (fun x h1 h2 => by rw [z2]; exact a2 x h1 h2)
    refine ⟨brnR m s (nI b) 0 500, wS Y3 1 σ, ?_, Z2, ?_, (QS_9 d3).2, Inv_QM (Inv_QC hI hQ2) (QS_9 d3).1⟩
    · unfold X3_runToBurn
      rw [f1, bd1_e, r1, bd1_e, gdi (show s < 14 by omega), lt_e, ix_n (by omega), v22]
      rw [show X3_runToBurn_b16 1 (nI s) FU Y3 1 (nI b) = _ from c1, bd2_e]
    · show M12_minutesToBurn (wS Y3 1 σ) (nI s) = _
      unfold M12_minutesToBurn M12_minutesToBurn_b14
      rw [isS_ok (Inv_QC hI hQ2), e10, h, bd1_e, bI_t, if_neg (by decide), fails_000, bd2_e, if_pos rfl, cp09, up9_m, e10, hm, bd1_e]
      have o22 : M12_of (upR (up (wS Y3 1 σ) 10 0 0 9 0) 10 0 1 m) (nI s) 22 = some (nI b) := by
        have := of_ok (upR (up (wS Y3 1 σ) 10 0 0 9 0) 10 0 1 m) (s := s) (w := 22) (by omega)
        rw [upR_at, e22] at this; exact this
      rw [o22, bd1_e]
      rw [show M12_minutesToBurn_b41 (nI s) FU _ 0 (nI b) = _ from z1]
      rw [show M12_copyBlock Z' 9 0 = _ from d1, bd1_e]
  · rw [if_neg h, bdxv_l]
    rw [Bool.not_eq_true] at h
    left
    refine ⟨3, Y, rfl, by decide, 0, up Y 10 0 0 9 1, ?_, up9_9 _ _, Inv_QM hI (QM_9 _ _)⟩
    show M12_minutesToBurn Y a = _
    unfold M12_minutesToBurn M12_minutesToBurn_b14
    rw [isS_ok hI, h, bd1_e, bI_f, if_pos rfl, fails_1, bd2_e, if_neg (by decide)]
theorem sta_ok {Y : Mem} (hI : Inv Y) (a t : Int32) : R1 (T11_statusAfter Y a t) (fun Y => M12_statusAfter Y a t) c32 := by
  have h14 := nS_le hI
  unfold T11_statusAfter
  rw [req_ok hI]
  by_cases h : inb a (nS (Y 10 0 1)) = true
  · rw [if_pos h, bdxv_r, within_ok, bd1_e]
    by_cases ht : decide ((0 : Int32) ≤ t ∧ t ≤ 500) = true
    · rw [ht, bI_t, if_neg (by decide)]
      right
      obtain ⟨s, hs, rfl⟩ := inb_dec a h
      obtain ⟨t', -, t2, rfl⟩ := rng_n (a := t) (lo := 0) (hi := 500) (by omega) (of_decide_eq_true ht) (by omega)
      obtain ⟨Y', f1, f2, B, hB, f3, f4⟩ := fc_ok hI
      have k1 := KR_ag f3 (cp_lo (Y 10 0 1))
      generalize hm : cpB (Y 10 0 1) 0 9 = m at k1
      have hn : nS m = nS (Y 10 0 1) := by rw [← hm]; exact re_nS (re_agree (cp_lo _))
      obtain ⟨p, q, σ, c1, c2⟩ := runC_ok (t := t') (by omega) k1
      have hQ := QC_trans f2 (QC_run Y' 1 p q σ)
      generalize wS (upR (upR Y' 1 1 1 p) 1 1 2 q) 1 σ = Yc at c1 c2 hQ
      have e10 := QC_lo hQ
      have hs2 : s < nS (mins m t') := by rw [re_nS (mins_re m t'), hn]; exact hs
      have st := statusOf_ok Yc c2.1.2.1 c2.2.2.1.2.1 c2.2.2.1.2.2.2.2.2.2 hs2
      obtain ⟨Z', z1, z2, z3⟩ := runM_ok (t := t') (upR (up Yc 10 0 0 9 0) 10 0 1 m) (m := m) (by omega) (upR_at _ _ _ _ _) (KR_hm k1)
      obtain ⟨a1, a2⟩ := aside (m := Y 10 0 1) (M := m) k1.1 (fun x _ => by rw [← hm]) t'
      obtain ⟨Z2, d1, -, d3, -⟩ := back_ok (Y := up Yc 10 0 0 9 0) (Z := Z') (m := Y 10 0 1) (t := 9) (Or.inl rfl) (QN_trans (QN_upR _ _) z3) (fun x _ => by rw [up9_m, e10]) (fun x hx => by rw [z2]; exact a1 x hx) (fun x h1 h2 => by rw [z2]; exact a2 x h1 h2)
      refine ⟨fld (mins m t') s 17, Yc, ?_, Z2, ?_, (QS_9 d3).2, Inv_QM (Inv_QC hI hQ) (QS_9 d3).1⟩
      · rw [f1, bd1_e, c1, bd2_e, st, bd1_e]
      · show M12_statusAfter Yc (nI s) (nI t') = _
        unfold M12_statusAfter M12_statusAfter_b14 M12_statusAfter_b30
        rw [isS_ok (Inv_QC hI hQ), e10, h, bd1_e, bI_t, if_neg (by decide), in_ok, ht, bd1_e, bI_t, if_neg (by decide), fails_000, bd2_e, if_pos rfl, cp09, up9_m, e10, hm, bd1_e, z1, bd2_e]
        have o17 : M12_of Z' (nI s) 17 = some (fld (mins m t') s 17) := by
          have := of_ok Z' (s := s) (w := 17) (by omega)
          rw [z2] at this; exact this
        rw [o17, bd1_e]
        rw [show M12_copyBlock Z' 9 0 = _ from d1, bd1_e]
    · rw [Bool.not_eq_true] at ht
      rw [ht, bI_f, if_pos rfl]
      left
      refine ⟨2, Y, rfl, by decide, 0, up Y 10 0 0 9 2, ?_, up9_9 _ _, Inv_QM hI (QM_9 _ _)⟩
      show M12_statusAfter Y a t = _
      unfold M12_statusAfter M12_statusAfter_b14 M12_statusAfter_b30
      rw [isS_ok hI, h, bd1_e, bI_t, if_neg (by decide), in_ok, ht, bd1_e, bI_f, if_pos rfl, fails_2, bd2_e, if_neg (by decide)]
  · rw [if_neg h, bdxv_l]
    rw [Bool.not_eq_true] at h
    left
    refine ⟨3, Y, rfl, by decide, 0, up Y 10 0 0 9 1, ?_, up9_9 _ _, Inv_QM hI (QM_9 _ _)⟩
    show M12_statusAfter Y a t = _
    unfold M12_statusAfter M12_statusAfter_b14 M12_statusAfter_b30
    rw [isS_ok hI, h, bd1_e, bI_f, if_pos rfl, in_ok, bd1_e, fails_1, fails_1, ite_self, bd2_e, if_neg (by decide)]
/-! the fewest cooks -/
def fewR (A : Nat → Int32) : Nat → Nat → Nat
  | c, 0 => c
  | c, d + 1 => if A c = A 4 then c else fewR A (c + 1) d
theorem fewR_s (A : Nat → Int32) (c d : Nat) : fewR A c (d + 1) = if A c = A 4 then c else fewR A (c + 1) d := rfl
theorem few_c {Y0 : Mem} (hI : Inv Y0) (A : Nat → Int32) (hA : ∀ c, A c = simA (upd (Y0 10 0 1) 0 (nI c))) : ∀ d c f Y, c + d = 4 → d < f → QC Y0 Y → ∃ Yc, X11_fewestCooks_b8 f Y (nI c) (A 4) = some (nI (fewR A c d), Yc) ∧ QC Y0 Yc := by
  intro d
  induction d with
  | zero =>
    intro c f Y hc f_h hQ
    obtain ⟨f, rfl⟩ := fuel_s f_h
    have : c = 4 := by omega
    subst this
    unfold X11_fewestCooks_b8
    rw [if_pos (by decide)]
    exact ⟨Y, rfl, hQ⟩
  | succ d ih =>
    intro c f Y hc f_h hQ
    obtain ⟨f, rfl⟩ := fuel_s f_h
    unfold X11_fewestCooks_b8
    obtain ⟨Yc, c1, c2⟩ := fwC_ok (Inv_QC hI hQ) (nI c)
    rw [QC_lo hQ, ← hA] at c1
    rw [if_neg (by show ¬ nI 4 ≤ nI c; rw [nI_leI (by omega) (by omega)]; omega), c1, bd2_e, fewR_s]
    by_cases e : A c = A 4
    · rw [if_pos e, if_pos e]; exact ⟨Yc, rfl, QC_trans hQ c2⟩
    · rw [if_neg e, if_neg e, nI_1]; exact ih (c + 1) f Yc (by omega) (by omega) (QC_trans hQ c2)
theorem few_m {Y0 : Mem} (hI : Inv Y0) (A : Nat → Int32) (hA : ∀ c, A c = simA (upd (Y0 10 0 1) 0 (nI c))) : ∀ d c f Z, c + d = 4 → d < f → (∀ x, x < 3438 → Z 10 0 1 x = Y0 10 0 1 x) → ∃ Z', M12_fewestCooks_b13 f Z (nI c) (A 4) = some (nI (fewR A c d), Z') ∧ QS Z Z' := by
  intro d
  induction d with
  | zero =>
    intro c f Z hc f_h hz
    obtain ⟨f, rfl⟩ := fuel_s f_h
    have : c = 4 := by omega
    subst this
    unfold M12_fewestCooks_b13
    obtain ⟨Z', z1, z2⟩ := fwM_ok hI (nI 4) hz
    rw [← hA] at z1
    rw [z1, bd2_e, if_pos rfl]
    exact ⟨Z', rfl, z2⟩
  | succ d ih =>
    intro c f Z hc f_h hz
    obtain ⟨f, rfl⟩ := fuel_s f_h
    unfold M12_fewestCooks_b13
    obtain ⟨Z', z1, z2⟩ := fwM_ok hI (nI c) hz
    rw [← hA] at z1
    rw [z1, bd2_e, fewR_s]
    by_cases e : A c = A 4
    · rw [if_pos e, if_pos e]; exact ⟨Z', rfl, z2⟩
    · rw [if_neg e, if_neg e, nI_1]
      obtain ⟨Z2, r1, r2⟩ := ih (c + 1) f Z' (by omega) (by omega) (fun x hx => (QM_lo z2.1 x hx).trans (hz x hx))
      exact ⟨Z2, r1, QS_trans z2 r2⟩
theorem few_ok {Y : Mem} (hI : Inv Y) : R0m (X11_fewestCooks Y) M12_fewestCooks := by
  unfold X11_fewestCooks
  obtain ⟨Y1, c1, c2⟩ := fwC_ok hI (nI 4)
  obtain ⟨Yc, d1, d2⟩ := few_c hI (fun c => simA (upd (Y 10 0 1) 0 (nI c))) (fun _ => rfl) 3 1 FU Y1 rfl (by have := FU_big; omega) c2
  obtain ⟨Z1, e1, e2⟩ := fwM_ok (Z := up Yc 10 0 0 9 0) hI (nI 4) (fun x _ => by rw [up9_m, QC_lo d2])
  obtain ⟨Z2, g1, g2⟩ := few_m hI (fun c => simA (upd (Y 10 0 1) 0 (nI c))) (fun _ => rfl) 3 1 FU Z1 rfl (by have := FU_big; omega) (fun x hx => by rw [QM_lo e2.1 x hx, up9_m, QC_lo d2])
  refine ⟨nI (fewR (fun c => simA (upd (Y 10 0 1) 0 (nI c))) 1 3), Yc, Z2, ?_, ?_, Inv_QM (Inv_QC hI d2) (QS_9 (QS_trans e2 g2)).1⟩
  · rw [show X11_finishWithCooks Y 4 = _ from c1, bd2_e]
    exact d1
  · unfold M12_fewestCooks
    rw [lt_e, show M12_finishWith (up Yc 10 0 0 9 0) 4 = _ from e1, bd2_e]
    exact g1
end
