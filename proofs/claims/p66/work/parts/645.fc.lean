section
/-! FORECASTS: the calls -/
theorem rng_n {a : Int32} {lo hi : Nat} (hh : hi < 2 ^ 31) (h : nI lo ≤ a ∧ a ≤ nI hi) (hl : lo < 2 ^ 31) : ∃ t, lo ≤ t ∧ t ≤ hi ∧ a = nI t := by
  have h0 : ¬ a < 0 := by
    rw [Int32.not_lt]
    exact Int32.le_trans (nI_pos' hl) h.1
  obtain ⟨t, ht, rfl⟩ := nI_of h0
  exact ⟨t, (nI_leI hl ht).mp h.1, (nI_leI ht hh).mp h.2, rfl⟩
theorem bdxv_r {β : Type} (y : Mem) (k : Mem → Option ((Nat × Mem) ⊕ β)) : bdxv (some (.inr y)) k = k y := by unfold bdxv; rfl
theorem bdxv_l {β : Type} (e : Nat × Mem) (k : Mem → Option ((Nat × Mem) ⊕ β)) : bdxv (some (.inl e)) k = some (.inl e) := by unfold bdxv; rfl
theorem fails_000 (Y : Mem) : M12_fails Y 0 0 0 = some (0, up Y 10 0 0 9 0) := by
  unfold M12_fails M12_fails_b26
  rw [if_pos rfl, if_pos rfl, if_pos rfl, lt_e, if_pos (by rw [up_at, pk_us]; exact Int32.le_refl _)]
theorem fails_1 (Y : Mem) (b c : Int32) : M12_fails Y 1 b c = some (1, up Y 10 0 0 9 1) := by
  unfold M12_fails M12_fails_b26
  rw [if_neg (by decide), lt_e, if_neg (by rw [up_at, pk_us]; decide)]
theorem fails_2 (Y : Mem) (c : Int32) : M12_fails Y 0 1 c = some (1, up Y 10 0 0 9 2) := by
  unfold M12_fails M12_fails_b26
  rw [if_pos rfl, if_neg (by decide), lt_e, if_neg (by rw [up_at, pk_us]; decide)]
theorem up9_m (Y : Mem) (v : Int32) : (up Y 10 0 0 9 v) 10 0 1 = Y 10 0 1 := by rw [up_eq]; exact upR_o (by omega)
theorem up9_9 (Y : Mem) (v : Int32) : (up Y 10 0 0 9 v) 10 0 0 9 = v := by rw [up_at, pk_us]
theorem up9_k (Y : Mem) (v : Int32) {k : Nat} (hk : k ≠ 10) : (up Y 10 0 0 9 v) k = Y k := (QM_9 Y v).1 k hk
theorem KR_set {Y : Mem} {g B : Nat} {m m' : Nat → Int32} {σ : Nat → Nat → Int32} (h : KR Y g m B) (hre : RecEq m m') (hst : St7 σ m' (fun _ => B)) (h3 : σ 0 3 = m' 10) (h6 : m' 6 = 0 ∨ m' 6 = 1) : KR (wS Y g σ) g m' B := by
  obtain ⟨W, hR, -, -, -⟩ := h
  exact ⟨re_WF hre W, RR_re W hre (RR_wS hR), by rw [wS_2]; exact hst, by rw [wS_2]; exact h3, h6⟩
theorem KR_cooks {Y : Mem} {g B : Nat} {m : Nat → Int32} (v : Int32) (h : KR Y g m B) : KR (wS Y g (uo (Y 2 g) 0 0 v)) g (upd m 0 v) B :=
  KR_set h (lo3_re m v (Or.inl rfl)) (St_low v (Or.inl ⟨rfl, rfl⟩) h.2.2.1) (by rw [uo_o (by omega), pk_un (by omega)]; exact h.2.2.2.1) (by rw [pk_un (by omega)]; exact h.2.2.2.2)
theorem KR_dur {Y : Mem} {g B : Nat} {m : Nat → Int32} {i d : Nat} (hd : 1 ≤ d ∧ d ≤ 60) (h : KR Y g m B) : KR (wS Y g (uo (Y 2 g) 1 i (nI d))) g (upd m (46 + i * 24 + 7) (nI d)) B :=
  KR_set h (re_up _ (Or.inl rfl)) (St_dur hd h.2.2.1) (by rw [uo_f (by omega), lo_upd _ _ (by omega)]; exact h.2.2.2.1) (by rw [lo_upd _ _ (by omega)]; exact h.2.2.2.2)
theorem KR_hm {Y : Mem} {g B : Nat} {m : Nat → Int32} (h : KR Y g m B) : ∀ j, WF (mins m j) ∧ ((mins m j) 6 = 0 → MI (mMinA (mins m j))) := by
  obtain ⟨p, q, -, h1, h2, -⟩ := KR_rank h
  intro j
  have := KR_MI h1 h2 j
  exact ⟨this.1, this.2.2⟩
theorem QC_upR1 (Y : Mem) (g : Nat) {o : Nat} (ho : o ≠ 0) (f : Nat → Int32) : QC Y (upR Y 1 g o f) := by
  have e : ∀ k, k ≠ 1 → (upR Y 1 g o f) k = Y k := fun k hk => by funext g' o'; exact upR_o (by omega)
  exact ⟨e 10 (by omega), e 0 (by omega), e 9 (by omega), e 3 (by omega), e 4 (by omega), e 5 (by omega), e 6 (by omega), upR_o (by omega), fun g' _ => by rw [e 2 (by omega)]⟩
theorem QC_up110 (Y : Mem) (j : Nat) (v : Int32) : QC Y (up Y 1 1 0 j v) := by
  rw [up_eq]
  have e : ∀ k, k ≠ 1 → (upR Y 1 1 0 (upd (Y 1 1 0) j v)) k = Y k := fun k hk => by funext g' o'; exact upR_o (by omega)
  exact ⟨e 10 (by omega), e 0 (by omega), e 9 (by omega), e 3 (by omega), e 4 (by omega), e 5 (by omega), e 6 (by omega), upR_o (by omega), fun g' _ => by rw [e 2 (by omega)]⟩
theorem QC_wS1 (Y : Mem) (σ : Nat → Nat → Int32) : QC Y (wS Y 1 σ) := by
  have e : ∀ k, k ≠ 2 → (wS Y 1 σ) k = Y k := fun k hk => wS_k hk
  exact ⟨e 10 (by omega), e 0 (by omega), e 9 (by omega), e 3 (by omega), e 4 (by omega), e 5 (by omega), e 6 (by omega), by rw [e 1 (by omega)], fun g' hg => by funext o'; exact wS_o (by omega)⟩
theorem QC_run (Y : Mem) (g : Nat) (p q : Nat → Int32) (σ : Nat → Nat → Int32) : QC Y (wS (upR (upR Y 1 g 1 p) 1 g 2 q) 1 σ) :=
  QC_trans (QC_trans (QC_upR1 Y g (by omega) p) (QC_upR1 _ g (by omega) q)) (QC_wS1 _ σ)
/-- the forecast's kitchen takes over the present one -/
theorem fc_ok {Y : Mem} (hI : Inv Y) : ∃ Y', X3_copyFrom Y 1 0 = some Y' ∧ QC Y Y' ∧ ∃ B, B ≤ 9999 ∧ KR Y' 1 (Y 10 0 1) B ∧ BU (Y 10 0 1) B := by
  obtain ⟨B, hB, -, ⟨W, hR, hst, h3, h6⟩, hBU⟩ := KR_of hI
  have hr2 : rg Y 0 < 2 := hR.1.1
  have h6' : Y 2 0 0 5 = 0 ∨ Y 2 0 0 5 = 1 := by rw [hst.1.2.2.2.2]; exact h6
  unfold X3_copyFrom
  have er : (Int32.ofNat (rg Y 0)).toNatClampNeg = rg Y 0 := nI_clamp (by omega)
  rw [gd_t (decide_eq_true hr2), lt_e, ← wS_self (up Y 1 1 0 0 (Int32.ofNat (rg Y 0))) 1]
  have e2 : ∀ k, k ≠ 1 → (up Y 1 1 0 0 (Int32.ofNat (rg Y 0))) k = Y k := fun k hk => by rw [up_eq]; funext g' o'; exact upR_o (by omega)
  rw [copyFrom_ok _ _ (by omega) (by rw [e2 2 (by omega)]; exact h6'), bd1_e, e2 2 (by omega)]
  refine ⟨_, rfl, QC_trans (QC_up110 _ _ _) (QC_wS1 _ _), B, hB, ⟨W, ?_, ?_, ?_, h6⟩, hBU⟩
  · refine RR_wS (RR_mem (Y := Y) (e2 3 (by omega)) (e2 4 (by omega)) ?_)
    have : rg (up Y 1 1 0 0 (Int32.ofNat (rg Y 0))) 1 = rg Y 0 := by
      unfold rg
      rw [up_at, pk_us]; exact er
    rw [this]; exact hR
  · rw [wS_2]; exact St_copy W.2.1 hst
  · rw [wS_2, sCopy_0 _ _ (by omega)]; exact h3
/-! the model's block is laid aside and comes back -/
def QN (Y Z : Mem) : Prop := ∀ k g o, ¬ (k = 10 ∧ g = 0 ∧ (o = 1 ∨ o = 5 ∨ o = 8)) → Z k g o = Y k g o
theorem QN_trans {a b c : Mem} (h1 : QN a b) (h2 : QN b c) : QN a c := fun k g o h => (h2 k g o h).trans (h1 k g o h)
theorem QN_upR (Y : Mem) (f : Nat → Int32) : QN Y (upR Y 10 0 1 f) := fun k g o h => upR_o (by omega)
theorem QM_QN {Y Z : Mem} (h : QN Y Z) (hm : ∀ x, x < 3438 → Z 10 0 1 x = Y 10 0 1 x) : QM Y Z :=
  ⟨fun k hk => by funext g o; exact h k g o (by omega), h _ _ _ (by omega), h _ _ _ (by omega), h _ _ _ (by omega), fun x _ => by rw [h 10 0 0 (by omega)], hm⟩
def QS (Y Z : Mem) : Prop := QM Y Z ∧ Z 10 0 0 9 = Y 10 0 0 9
theorem QS_QN {Y Z : Mem} (h : QN Y Z) (hm : ∀ x, x < 3438 → Z 10 0 1 x = Y 10 0 1 x) : QS Y Z := ⟨QM_QN h hm, by rw [h 10 0 0 (by omega)]⟩
theorem QS_trans {a b c : Mem} (h1 : QS a b) (h2 : QS b c) : QS a c := ⟨QM_trans h1.1 h2.1, h2.2.trans h1.2⟩
theorem QS_9 {Y Z : Mem} {v : Int32} (h : QS (up Y 10 0 0 9 v) Z) : QM Y Z ∧ Z 10 0 0 9 = v := ⟨QM_trans (QM_9 _ _) h.1, h.2.trans (up9_9 _ _)⟩
theorem back_ok {Y Z : Mem} {m : Nat → Int32} {t : Nat} (ht : t = 9 ∨ t = 10) (hN : QN Y Z) (hY : ∀ x, x < 3438 → Y 10 0 1 x = m x) (h1 : ∀ x, x < 382 → Z 10 0 1 (t * 382 + x) = m x) (h2 : ∀ x, 382 ≤ x → x < 3438 → Z 10 0 1 x = m x) : ∃ Z', M12_copyBlock Z (nI t) 0 = some Z' ∧ QN Y Z' ∧ QS Y Z' ∧ ∀ x, x < 382 → Z' 10 0 1 x = m x := by
  have e := copy_ok Z (a := t) (b := 0) (by omega) (by omega) (by omega)
  have hl : ∀ x, x < 382 → cpB (Z 10 0 1) t 0 x = m x := fun x hx => by
    have := cpB_in (Z 10 0 1) (a := t) (b := 0) hx
    rw [Nat.zero_mul, Nat.zero_add] at this
    rw [this]; exact h1 x hx
  refine ⟨_, e, QN_trans hN (QN_upR _ _), QS_QN (QN_trans hN (QN_upR _ _)) (fun x hx => ?_), fun x hx => by rw [upR_at]; exact hl x hx⟩
  rw [upR_at, hY x hx]
  by_cases hx2 : x < 382
  · exact hl x hx2
  · rw [cpB_out _ (by omega)]; exact h2 x (by omega) hx
/-- what lies aside of a run that began with block M -/
theorem aside {m M : Nat → Int32} (W : WF M) (hM : ∀ x, 382 ≤ x → M x = cpB m 0 9 x) (j : Nat) : (∀ x, x < 382 → (mins M j) (9 * 382 + x) = m x) ∧ ∀ x, 382 ≤ x → x < 3438 → (mins M j) x = m x := by
  refine ⟨fun x hx => ?_, fun x h1 h2 => ?_⟩
  · rw [mins_hi W (by omega), hM _ (by omega), cpB_in m hx, Nat.zero_mul, Nat.zero_add]
  · rw [mins_hi W h1, hM _ h1, cpB_out m (by omega)]
theorem cp_lo (m : Nat → Int32) : ∀ x, x < 382 → cpB m 0 9 x = m x := fun x hx => cpB_out m (by omega)
theorem cp09 (Y : Mem) : M12_copyBlock Y 0 9 = some (upR Y 10 0 1 (cpB (Y 10 0 1) 0 9)) := copy_ok Y (a := 0) (b := 9) (by omega) (by omega) (by omega)
theorem simA_ag {Y : Mem} {g B : Nat} {m m' : Nat → Int32} (h : KR Y g m B) (hm : ∀ x, x < 382 → m' x = m x) : simA m' = simA m := by
  obtain ⟨p, q, σ, e⟩ := simC_ok h
  obtain ⟨p', q', σ', e'⟩ := simC_ok (KR_ag h hm)
  rw [e] at e'
  exact (congrArg Prod.fst (Option.some.inj e')).symm
/-- the model's simulation of a block, which then comes back -/
theorem msim {Y Yg : Mem} {g B : Nat} {M m : Nat → Int32} (hk : KR Yg g M B) (hY : ∀ x, x < 3438 → Y 10 0 1 x = m x) {Z : Mem} (hN : QN Y Z) (hz : ∀ x, x < 382 → Z 10 0 1 x = M x) (h1 : ∀ x, x < 382 → Z 10 0 1 (9 * 382 + x) = m x) (h2 : ∀ x, 382 ≤ x → x < 3438 → Z 10 0 1 x = m x) : ∃ Z2 Z', M12_simulate Z = some (simA M, Z2) ∧ M12_copyBlock Z2 9 0 = some Z' ∧ QS Y Z' := by
  have k1 := KR_ag hk hz
  obtain ⟨Z2, e, m1, m2, m3⟩ := simM_ok Z rfl (KR_hm k1)
  rw [simA_ag hk hz] at m1
  obtain ⟨Z', b1, -, b3, -⟩ := back_ok (Y := Y) (Z := Z2) (m := m) (t := 9) (Or.inl rfl) (QN_trans hN m3) hY (fun x hx => by rw [m2, mins_hi k1.1 (by omega)]; exact h1 x hx) (fun x q1 q2 => by rw [m2, mins_hi k1.1 q1]; exact h2 x q1 q2)
  exact ⟨Z2, Z', m1, b1, b3⟩
theorem cp_hi (m : Nat → Int32) : (∀ x, x < 382 → cpB m 0 9 (9 * 382 + x) = m x) ∧ ∀ x, 382 ≤ x → x < 3438 → cpB m 0 9 x = m x :=
  ⟨fun x hx => by rw [cpB_in m hx, Nat.zero_mul, Nat.zero_add], fun x _ hx => cpB_out m (by omega)⟩
theorem simC_Q {Y Y' : Mem} {m : Nat → Int32} {B : Nat} (hQ : QC Y Y') (k : KR Y' 1 m B) : ∃ Yc, X3_runToFinish Y' 1 = some (simA m, Yc) ∧ QC Y Yc := by
  obtain ⟨p, q, σ, s1⟩ := simC_ok k
  exact ⟨_, s1, QC_trans hQ (QC_run Y' 1 p q σ)⟩
theorem mtf_ok {Y : Mem} (hI : Inv Y) : R0m (X11_minutesToFinish Y) M12_minutesToFinish := by
  obtain ⟨Y', f1, f2, B, -, f3, -⟩ := fc_ok hI
  obtain ⟨Yc, s1, hQ⟩ := simC_Q f2 f3
  have hIc := Inv_QC hI hQ
  have e10 : Yc 10 0 1 = Y 10 0 1 := by rw [hQ.1]
  obtain ⟨Z2, Z', m1, m2, m3⟩ := msim (Y := up Yc 10 0 0 9 0) (Z := upR (up Yc 10 0 0 9 0) 10 0 1 (cpB (Y 10 0 1) 0 9)) f3 (fun x _ => by rw [up9_m, e10]) (QN_upR _ _) (fun x hx => by rw [upR_at]; exact cp_lo _ x hx) (fun x hx => by rw [upR_at]; exact (cp_hi _).1 x hx) (fun x h1 h2 => by rw [upR_at]; exact (cp_hi _).2 x h1 h2)
  refine ⟨simA (Y 10 0 1), Yc, Z', ?_, ?_, Inv_QM hIc (QS_9 m3).1⟩
  · unfold X11_minutesToFinish
    rw [f1, bd1_e, s1, bd2_e]
  · unfold M12_minutesToFinish
    rw [lt_e, cp09, up9_m, e10, bd1_e, m1, bd2_e, m2, bd1_e]
/-- with another number of cooks -/
theorem fwC_ok {Y : Mem} (hI : Inv Y) (a : Int32) : ∃ Yc, X11_finishWithCooks Y a = some (simA (upd (Y 10 0 1) 0 a), Yc) ∧ QC Y Yc := by
  obtain ⟨Y', f1, f2, B, -, f3, -⟩ := fc_ok hI
  obtain ⟨Yc, s1, hQ⟩ := simC_Q (QC_trans f2 (QC_wS1 Y' _)) (KR_cooks a f3)
  refine ⟨Yc, ?_, hQ⟩
  unfold X11_finishWithCooks
  rw [f1, bd1_e, up_self, lt_e, s1, bd2_e]
theorem fwM_ok {Y Z : Mem} (hI : Inv Y) (a : Int32) (hz : ∀ x, x < 3438 → Z 10 0 1 x = Y 10 0 1 x) : ∃ Z', M12_finishWith Z a = some (simA (upd (Y 10 0 1) 0 a), Z') ∧ QS Z Z' := by
  obtain ⟨B, -, -, k, -⟩ := KR_of hI
  have hm : ∀ x, x < 3438 → upd (cpB (Z 10 0 1) 0 9) 0 a x = if x = 0 then a else Y 10 0 1 x := by
    intro x hx
    by_cases e : x = 0
    · subst e; rw [pk_us, if_pos rfl]
    · rw [pk_un e, if_neg e, cpB_out _ (by omega)]; exact hz x hx
  obtain ⟨Z2, Z', m1, m2, m3⟩ := msim (Y := Z) (m := Z 10 0 1) (Z := upR Z 10 0 1 (upd (cpB (Z 10 0 1) 0 9) 0 a)) (KR_cooks a k) (fun x _ => rfl) (QN_upR _ _) (fun x hx => by
      rw [upR_at, hm x (by omega)]
      by_cases e : x = 0
      · subst e; rw [pk_us, if_pos rfl]
      · rw [pk_un e, if_neg e]) (fun x hx => by rw [upR_at, pk_un (by omega)]; exact (cp_hi _).1 x hx) (fun x h1 h2 => by rw [upR_at, pk_un (by omega)]; exact (cp_hi _).2 x h1 h2)
  refine ⟨Z', ?_, m3⟩
  unfold M12_finishWith
  have e0 : (0 : Int32) = nI 0 := rfl
  rw [cp09, bd1_e, e0, gdi (show 0 < 4202 by omega), lt_e, up_upR, ix_n (by omega), m1, bd2_e]
  rw [show M12_copyBlock Z2 9 (nI 0) = some Z' from m2, bd1_e]
theorem QM_lo {Y Z : Mem} (h : QM Y Z) : ∀ x, x < 3438 → Z 10 0 1 x = Y 10 0 1 x := h.2.2.2.2.2
theorem QC_lo {Y Z : Mem} (h : QC Y Z) : Z 10 0 1 = Y 10 0 1 := by rw [h.1]
theorem mwc_ok {Y : Mem} (hI : Inv Y) (a : Int32) : R1 (T11_minutesWithCooks Y a) (fun Y => M12_minutesWithCooks Y a) (fun n => if n = 2 then 1 else 0) := by
  unfold T11_minutesWithCooks T11_requireCooks X11_isCookCount
  rw [within_ok, bd1_e, gd_t (bI_01 _), bd1_e]
  by_cases h : decide ((1 : Int32) ≤ a ∧ a ≤ 4) = true
  · rw [h, bI_t, if_neg (by decide)]
    right
    obtain ⟨Yc, c1, c2⟩ := fwC_ok hI a
    obtain ⟨Z', z1, z2⟩ := fwM_ok (Z := up Yc 10 0 0 9 0) hI a (fun x _ => by rw [up9_m, QC_lo c2])
    refine ⟨simA (upd (Y 10 0 1) 0 a), Yc, ?_, Z', ?_, (QS_9 z2).2, Inv_QM (Inv_QC hI c2) (QS_9 z2).1⟩
    · rw [bdxv_r, c1, bd2_e]
    · show M12_minutesWithCooks Yc a = _
      unfold M12_minutesWithCooks M12_minutesWithCooks_b15
      rw [in_ok, bd1_e, h, bI_t, if_neg (by decide), fails_000, bd2_e, if_pos rfl, z1, bd2_e]
  · rw [Bool.not_eq_true] at h
    rw [h, bI_f, if_pos rfl]
    left
    refine ⟨2, Y, rfl, by decide, 0, up Y 10 0 0 9 1, ?_, up9_9 _ _, Inv_QM hI (QM_9 _ _)⟩
    show M12_minutesWithCooks Y a = _
    unfold M12_minutesWithCooks M12_minutesWithCooks_b15
    rw [in_ok, bd1_e, h, bI_f, if_pos rfl, fails_1, bd2_e, if_neg (by decide)]
end
