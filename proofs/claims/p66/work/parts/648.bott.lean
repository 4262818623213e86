section
/-! THE BOTTLENECK -/
def shr (m : Nat → Int32) (s : Nat) : Nat → Int32 := if dur m s ≤ 1 then m else upd m (46 + s * 24 + 7) (nI (dur m s - 1))
def bval (m : Nat → Int32) (s : Nat) : Int32 := if simA (shr m s) = -1 then 501 else simA (shr m s)
def botR (m : Nat → Int32) : Nat → Nat → Int32 → Int32 → Int32
  | _, 0, _, b => b
  | i, d + 1, l, b => if fld m i 17 = 2 then botR m (i + 1) d l b else if b = -1 ∨ bval m i < l then botR m (i + 1) d (bval m i) (nI i) else botR m (i + 1) d l b
theorem botR_s (m : Nat → Int32) (i d : Nat) (l b : Int32) : botR m i (d + 1) l b = if fld m i 17 = 2 then botR m (i + 1) d l b else if b = -1 ∨ bval m i < l then botR m (i + 1) d (bval m i) (nI i) else botR m (i + 1) d l b := rfl
theorem botR_m1 (m : Nat → Int32) : ∀ d i l b, i + d ≤ 14 → (botR m i d l b = -1 ↔ b = -1 ∧ ∀ k, i ≤ k → k < i + d → fld m k 17 = 2) := by
  intro d
  induction d with
  | zero => intro i l b _; exact ⟨fun h => ⟨h, fun k h1 h2 => (by omega)⟩, fun h => h.1⟩
  | succ d ih =>
    intro i l b hi
    rw [botR_s]
    by_cases c : fld m i 17 = 2
    · rw [if_pos c, ih (i + 1) l b (by omega)]
      constructor
      · rintro ⟨h1, h2⟩
        refine ⟨h1, fun k h3 h4 => ?_⟩
        by_cases e : k = i
        · subst e; exact c
        · exact h2 k (by omega) (by omega)
      · rintro ⟨h1, h2⟩
        exact ⟨h1, fun k h3 h4 => h2 k (by omega) (by omega)⟩
    · rw [if_neg c]
      by_cases c2 : b = -1 ∨ bval m i < l
      · rw [if_pos c2, ih (i + 1) _ _ (by omega)]
        exact ⟨fun h => absurd h.1 (nI_neg1 (by omega)), fun h => absurd (h.2 i (by omega) (by omega)) c⟩
      · rw [if_neg c2, ih (i + 1) _ _ (by omega)]
        exact ⟨fun h => absurd (Or.inl h.1) c2, fun h => absurd (h.2 i (by omega) (by omega)) c⟩
theorem fws_ok {Y : Mem} (hI : Inv Y) {s : Nat} (hs : s < nS (Y 10 0 1)) : ∃ Yc, X11_finishWithShorter Y (nI s) = some (bval (Y 10 0 1) s, Yc) ∧ QC Y Yc := by
  have h14 := nS_le hI
  obtain ⟨Y', f1, f2, B, -, f3, -⟩ := fc_ok hI
  obtain ⟨d1, d2, d3⟩ := dur_ok f3.2.2.1.2.2.2.2.2.1 hs
  have e7 : Y' 2 1 1 s = nI (dur (Y 10 0 1) s) := (f3.2.2.1.2.2.1 s hs).1.trans d1
  have key : ∀ Y2, KR Y2 1 (shr (Y 10 0 1) s) B → QC Y Y2 → ∃ Yc, X11_finishWithShorter_b43 (nI s) Y2 = some (bval (Y 10 0 1) s, Yc) ∧ QC Y Yc := by
    intro Y2 k q
    obtain ⟨Yc, s1, hQ⟩ := simC_Q q k
    unfold X11_finishWithShorter_b43 bval
    rw [s1, bd2_e]
    by_cases c : simA (shr (Y 10 0 1) s) = -1
    · rw [if_pos c, if_pos c]; exact ⟨Yc, rfl, hQ⟩
    · rw [if_neg c, if_neg c]; exact ⟨Yc, rfl, hQ⟩
  unfold X11_finishWithShorter
  rw [f1, bd1_e, gdi (show s < 14 by omega), ix_n (by omega), e7]
  by_cases c : dur (Y 10 0 1) s ≤ 1
  · rw [if_pos (by show nI _ ≤ nI 1; rw [nI_leI (by omega) (by omega)]; exact c)]
    refine key Y' ?_ f2
    unfold shr; rw [if_pos c]; exact f3
  · rw [if_neg (by show ¬ nI _ ≤ nI 1; rw [nI_leI (by omega) (by omega)]; exact c), lt_e, up_self]
    have es : nI (dur (Y 10 0 1) s) - 1 = nI (dur (Y 10 0 1) s - 1) := pk_sub (b := 1) (by omega)
    rw [es]
    refine key _ ?_ (QC_trans f2 (QC_wS1 Y' _))
    unfold shr; rw [if_neg c]; exact KR_dur (by omega) f3
theorem KR_shr {Y : Mem} {B s : Nat} {m : Nat → Int32} (hs : s < nS m) (h : KR Y 0 m B) : ∃ Y', KR Y' 0 (shr m s) B := by
  obtain ⟨d1, d2, d3⟩ := dur_ok h.2.2.1.2.2.2.2.2.1 hs
  unfold shr
  by_cases c : dur m s ≤ 1
  · rw [if_pos c]; exact ⟨Y, h⟩
  · rw [if_neg c]; exact ⟨_, KR_dur (by omega) h⟩
theorem msim10 {Y Yg : Mem} {g B : Nat} {M m : Nat → Int32} (hk : KR Yg g M B) {Z : Mem} (hN : QN Y Z) (hz : ∀ x, x < 382 → Z 10 0 1 x = M x) (h1 : ∀ x, x < 382 → Z 10 0 1 (10 * 382 + x) = m x) (h2 : ∀ x, 382 ≤ x → x < 3438 → Z 10 0 1 x = m x) : ∃ Z2 Z', M12_simulate Z = some (simA M, Z2) ∧ M12_copyBlock Z2 10 0 = some Z' ∧ QN Y Z' ∧ (∀ x, x < 3438 → Z' 10 0 1 x = m x) ∧ ∀ x, x < 382 → Z' 10 0 1 (10 * 382 + x) = m x := by
  have k1 := KR_ag hk hz
  obtain ⟨Z2, e, m1, m2, m3⟩ := simM_ok Z rfl (KR_hm k1)
  rw [simA_ag hk hz] at m1
  have hl : ∀ x, 382 ≤ x → Z2 10 0 1 x = Z 10 0 1 x := fun x hx => by rw [m2, mins_hi k1.1 hx]
  have c := copy_ok Z2 (a := 10) (b := 0) (by omega) (by omega) (by omega)
  refine ⟨Z2, _, m1, c, QN_trans hN (QN_trans m3 (QN_upR _ _)), fun x hx => ?_, fun x hx => ?_⟩
  · rw [upR_at]
    by_cases h : x < 382
    · have := cpB_in (Z2 10 0 1) (a := 10) (b := 0) h
      rw [Nat.zero_mul, Nat.zero_add] at this
      rw [this, hl _ (by omega)]; exact h1 x h
    · rw [cpB_out _ (by omega), hl x (by omega)]; exact h2 x (by omega) hx
  · rw [upR_at, cpB_out _ (by omega), hl _ (by omega)]; exact h1 x hx
theorem botM_b {Y0 : Mem} (hI : Inv Y0) : ∀ d i Z f l b, i + d = nS (Y0 10 0 1) → d < f → (∀ x, x < 3438 → Z 10 0 1 x = Y0 10 0 1 x) → (∀ x, x < 382 → Z 10 0 1 (10 * 382 + x) = Y0 10 0 1 x) → ∃ Z', M12_bottleneck_b28 f Z (nI i) l b = some (botR (Y0 10 0 1) i d l b, Z') ∧ QN Z Z' ∧ ∀ x, x < 3438 → Z' 10 0 1 x = Y0 10 0 1 x := by
  obtain ⟨B, -, -, k, -⟩ := KR_of hI
  have h14 := nS_le hI
  have e : (13 : Int32) = nI 13 := rfl
  intro d
  induction d with
  | zero =>
    intro i Z f l b hi f_h hz ht
    obtain ⟨f, rfl⟩ := fuel_s f_h
    unfold M12_bottleneck_b28
    have e13 : Z 10 0 1 13 = nI (nS (Y0 10 0 1)) := (hz 13 (by omega)).trans hI.1.1
    rw [e, gdi (show 13 < 4202 by omega), ix_n (by omega), e13, if_pos (by rw [nI_leI (by omega) (by omega)]; omega)]
    exact ⟨Z, rfl, fun _ _ _ _ => rfl, hz⟩
  | succ d ih =>
    intro i Z f l b hi f_h hz ht
    obtain ⟨f, rfl⟩ := fuel_s f_h
    unfold M12_bottleneck_b28
    have e13 : Z 10 0 1 13 = nI (nS (Y0 10 0 1)) := (hz 13 (by omega)).trans hI.1.1
    have hf : ∀ w, w < 24 → fld (Z 10 0 1) i w = fld (Y0 10 0 1) i w := fun w hw => hz _ (by omega)
    have o17 : M12_of Z (nI i) 17 = some (fld (Y0 10 0 1) i 17) := by rw [← hf 17 (by omega)]; exact of_ok Z (s := i) (w := 17) (by omega)
    have o7 : M12_of Z (nI i) 7 = some (fld (Y0 10 0 1) i 7) := by rw [← hf 7 (by omega)]; exact of_ok Z (s := i) (w := 7) (by omega)
    have hk : ∀ Z l b, M12_bottleneck_b128 (M12_bottleneck_b28 f) Z l b (nI i) = M12_bottleneck_b28 f Z (nI (i + 1)) l b := fun _ _ _ => by unfold M12_bottleneck_b128; rw [nI_1]
    rw [e, gdi (show 13 < 4202 by omega), ix_n (by omega), e13, if_neg (by rw [nI_leI (by omega) (by omega)]; omega), o17, bd1_e, botR_s]
    by_cases c : fld (Y0 10 0 1) i 17 = 2
    · rw [if_pos c, if_pos c, hk]
      exact ih (i + 1) Z f l b (by omega) (by omega) hz ht
    · rw [if_neg c, if_neg c, o7, bd1_e]
      have hi2 : i < nS (Y0 10 0 1) := by omega
      obtain ⟨d1, d2, d3⟩ := dur_ok k.2.2.1.2.2.2.2.2.1 hi2
      have key : ∀ Z2, QN Z Z2 → (∀ x, x < 382 → Z2 10 0 1 x = shr (Y0 10 0 1) i x) → (∀ x, x < 382 → Z2 10 0 1 (10 * 382 + x) = Y0 10 0 1 x) → (∀ x, 382 ≤ x → x < 3438 → Z2 10 0 1 x = Y0 10 0 1 x) → ∃ Z', M12_bottleneck_b80 (M12_bottleneck_b28 f) Z2 (nI i) l b = some (if b = -1 ∨ bval (Y0 10 0 1) i < l then botR (Y0 10 0 1) (i + 1) d (bval (Y0 10 0 1) i) (nI i) else botR (Y0 10 0 1) (i + 1) d l b, Z') ∧ QN Z Z' ∧ ∀ x, x < 3438 → Z' 10 0 1 x = Y0 10 0 1 x := by
        intro Z2 q1 q2 q3 q4
        obtain ⟨Yg, kg⟩ := KR_shr hi2 k
        obtain ⟨Z3, Z4, m1, m2, m3, m4, m5⟩ := msim10 kg q1 q2 q3 q4
        unfold M12_bottleneck_b80
        rw [m1, bd2_e, m2, bd1_e]
        have b107 : ∀ v, M12_bottleneck_b107 (M12_bottleneck_b28 f) Z4 (nI i) l b v = if b = -1 ∨ v < l then M12_bottleneck_b28 f Z4 (nI (i + 1)) v (nI i) else M12_bottleneck_b28 f Z4 (nI (i + 1)) l b := by
          intro v
          unfold M12_bottleneck_b107 M12_bottleneck_b123
          rw [hk, hk]
          by_cases c1 : b = -1
          · rw [if_pos c1, if_pos (Or.inl c1)]
          · rw [if_neg c1]
            by_cases c2 : v < l
            · rw [if_pos c2, if_pos (Or.inr c2)]
            · rw [if_neg c2, if_neg (fun q => q.elim c1 c2)]
        have hv : (if simA (shr (Y0 10 0 1) i) = -1 then M12_bottleneck_b107 (M12_bottleneck_b28 f) Z4 (nI i) l b 501 else M12_bottleneck_b107 (M12_bottleneck_b28 f) Z4 (nI i) l b (simA (shr (Y0 10 0 1) i))) = M12_bottleneck_b107 (M12_bottleneck_b28 f) Z4 (nI i) l b (bval (Y0 10 0 1) i) := by
          unfold bval
          by_cases cc : simA (shr (Y0 10 0 1) i) = -1
          · rw [if_pos cc, if_pos cc]
          · rw [if_neg cc, if_neg cc]
        rw [hv, b107]
        by_cases c2 : b = -1 ∨ bval (Y0 10 0 1) i < l
        · rw [if_pos c2, if_pos c2]
          obtain ⟨Z', r1, r2, r3⟩ := ih (i + 1) Z4 f (bval (Y0 10 0 1) i) (nI i) (by omega) (by omega) m4 m5
          exact ⟨Z', r1, QN_trans m3 r2, r3⟩
        · rw [if_neg c2, if_neg c2]
          obtain ⟨Z', r1, r2, r3⟩ := ih (i + 1) Z4 f l b (by omega) (by omega) m4 m5
          exact ⟨Z', r1, QN_trans m3 r2, r3⟩
      by_cases c7 : dur (Y0 10 0 1) i ≤ 1
      · rw [if_pos (by rw [d1]; show nI _ ≤ nI 1; rw [nI_leI (by omega) (by omega)]; exact c7)]
        exact key Z (fun _ _ _ _ => rfl) (fun x hx => by unfold shr; rw [if_pos c7]; exact hz x (by omega)) ht (fun x _ hx => hz x hx)
      · rw [if_neg (by rw [d1]; show ¬ nI _ ≤ nI 1; rw [nI_leI (by omega) (by omega)]; exact c7)]
        have es : nI (dur (Y0 10 0 1) i) - 1 = nI (dur (Y0 10 0 1) i - 1) := pk_sub (b := 1) (by omega)
        have hs := set_ok Z (s := i) (w := 7) (nI (dur (Y0 10 0 1) i - 1)) (by omega)
        rw [d1, bd1_e, es]
        rw [show M12_set Z (nI i) 7 (nI (dur (Y0 10 0 1) i - 1)) = _ from hs, bd1_e]
        refine key _ (QN_upR _ _) (fun x hx => ?_) (fun x hx => ?_) (fun x h1 h2 => ?_)
        · rw [upR_at]
          unfold shr
          rw [if_neg c7]
          by_cases ex : x = 46 + i * 24 + 7
          · subst ex; rw [pk_us, pk_us]
          · rw [pk_un ex, pk_un ex]; exact hz x (by omega)
        · rw [upR_at, pk_un (by omega)]; exact ht x hx
        · rw [upR_at, pk_un (by omega)]; exact hz x h2
theorem botC_b {Y0 : Mem} (hI : Inv Y0) : ∀ d i Y f l b, i + d = nS (Y0 10 0 1) → d < f → QC Y0 Y → ∃ Yc, T11_bottleneck_b6 f Y (nI i) l b = (if botR (Y0 10 0 1) i d l b = -1 then some (.inl (4, Yc)) else some (.inr (botR (Y0 10 0 1) i d l b, Yc))) ∧ QC Y0 Yc := by
  have h14 := nS_le hI
  intro d
  induction d with
  | zero =>
    intro i Y f l b hi f_h hQ
    obtain ⟨f, rfl⟩ := fuel_s f_h
    obtain ⟨W, n1, hR, -⟩ := Inv_QC hI hQ
    unfold T11_bottleneck_b6
    rw [gd2 hR.1.1, gd2 hR.1.1, hR.1.2.1, QC_lo hQ, if_pos (by rw [nI_leI (by omega) (by omega)]; omega)]
    exact ⟨Y, rfl, hQ⟩
  | succ d ih =>
    intro i Y f l b hi f_h hQ
    obtain ⟨f, rfl⟩ := fuel_s f_h
    have hI2 := Inv_QC hI hQ
    obtain ⟨B, -, -, k, -⟩ := KR_of hI2
    obtain ⟨W, n1, hR, -⟩ := hI2
    have hi2 : i < nS (Y0 10 0 1) := by omega
    have hb : bt (Y 2 0 0 7) i = (fld (Y0 10 0 1) i 17 == 2) := by
      rw [(k.2.2.1.2.1 i (by omega)).2.1, QC_lo hQ, stB_in hi2]
    unfold T11_bottleneck_b6
    have hk : ∀ Y l b, T11_bottleneck_b63 (T11_bottleneck_b6 f) Y (nI i) l b = T11_bottleneck_b6 f Y (nI (i + 1)) l b := fun _ _ _ => by unfold T11_bottleneck_b63; rw [nI_1]
    rw [gd2 hR.1.1, gd2 hR.1.1, hR.1.2.1, QC_lo hQ, if_neg (by rw [nI_leI (by omega) (by omega)]; omega), contains_ok Y _ (by omega), bd1_e, bI_ne, hb, botR_s]
    by_cases c : fld (Y0 10 0 1) i 17 = 2
    · rw [if_pos (by rw [c]; rfl), if_pos c, hk]
      exact ih (i + 1) Y f l b (by omega) (by omega) hQ
    · rw [if_neg (by rw [beq_iff_eq]; exact c), if_neg c]
      obtain ⟨Yc, q1, q2⟩ := fws_ok (Inv_QC hI hQ) (s := i) (by rw [QC_lo hQ]; exact hi2)
      rw [q1, bd2_e, QC_lo hQ]
      unfold T11_bottleneck_b58
      rw [hk, hk]
      by_cases c1 : b = -1
      · rw [if_pos c1, if_pos (Or.inl c1)]
        exact ih (i + 1) Yc f _ _ (by omega) (by omega) (QC_trans hQ q2)
      · rw [if_neg c1]
        by_cases c2 : bval (Y0 10 0 1) i < l
        · rw [if_neg (Int32.not_le.mpr c2), if_pos (Or.inr c2)]
          exact ih (i + 1) Yc f _ _ (by omega) (by omega) (QC_trans hQ q2)
        · rw [if_pos (Int32.not_lt.mp c2), if_neg (fun q => q.elim c1 c2)]
          exact ih (i + 1) Yc f _ _ (by omega) (by omega) (QC_trans hQ q2)
def c4 (n : Nat) : Int32 := if n = 4 then 1 else 0
theorem bot_ok {Y : Mem} (hI : Inv Y) : R1 (T11_bottleneck Y) M12_bottleneck c4 := by
  have h14 := nS_le hI
  obtain ⟨Yc, c1, c2⟩ := botC_b hI (nS (Y 10 0 1)) 0 Y FU 0 (-1) (by omega) (by have := FU_big; omega) (QC_refl Y)
  have hIc := Inv_QC hI c2
  have e10 := QC_lo c2
  have hm1 := botR_m1 (Y 10 0 1) (nS (Y 10 0 1)) 0 0 (-1) (by omega)
  have hfin : fin (Y 10 0 1) = true ↔ ∀ k, k < nS (Y 10 0 1) → fld (Y 10 0 1) k 17 = 2 := by
    unfold fin wSt
    rw [beq_iff_eq, cnt_all]
    exact ⟨fun h k hk => beq_iff_eq.mp (h k hk), fun h k hk => beq_iff_eq.mpr (h k hk)⟩
  have hfM : M12_isFinished Yc = some (bI (fin (Y 10 0 1))) := by rw [← e10]; exact fin_ok Yc hIc.1
  by_cases c : botR (Y 10 0 1) 0 (nS (Y 10 0 1)) 0 (-1) = -1
  · left
    rw [if_pos c] at c1
    have hf : fin (Y 10 0 1) = true := hfin.mpr (fun k hk => (hm1.mp c).2 k (by omega) (by omega))
    refine ⟨4, Yc, c1, by decide, 0, up Yc 10 0 0 9 1, ?_, up9_9 _ _, Inv_QM hIc (QM_9 _ _)⟩
    unfold M12_bottleneck
    rw [hfM, bd1_e, hf, bI_t, fails_1, bd2_e, if_neg (by decide)]
  · right
    rw [if_neg c] at c1
    have hf : fin (Y 10 0 1) = false := by
      cases h : fin (Y 10 0 1)
      · rfl
      · exact absurd (hm1.mpr ⟨rfl, fun k _ hk => hfin.mp h k (by omega)⟩) c
    have hcp := copy_ok (up Yc 10 0 0 9 0) (a := 0) (b := 10) (by omega) (by omega) (by omega)
    obtain ⟨Z', z1, z2, z3⟩ := botM_b hI (nS (Y 10 0 1)) 0 (upR (up Yc 10 0 0 9 0) 10 0 1 (cpB ((up Yc 10 0 0 9 0) 10 0 1) 0 10)) FU 0 (-1) (by omega) (by have := FU_big; omega)
      (fun x hx => by rw [upR_at, cpB_out _ (by omega), up9_m, e10]) (fun x hx => by rw [upR_at, cpB_in _ hx, Nat.zero_mul, Nat.zero_add, up9_m, e10])
    have hQS : QS (up Yc 10 0 0 9 0) Z' := QS_QN (QN_trans (QN_upR _ _) z2) (fun x hx => by rw [z3 x hx, up9_m, e10])
    refine ⟨_, Yc, c1, Z', ?_, (QS_9 hQS).2, Inv_QM hIc (QS_9 hQS).1⟩
    unfold M12_bottleneck
    rw [hfM, bd1_e, hf, bI_f, fails_000, bd2_e, if_pos rfl]
    rw [show M12_copyBlock (up Yc 10 0 0 9 0) 0 10 = _ from hcp, bd1_e]
    exact z1
end
