section
/-! QUERIES OF THE WHOLE -/
theorem plain_e (Y : Mem) (v : Int32) : M12_plain Y v = some (v, up Y 10 0 0 9 0) := by unfold M12_plain; rw [lt_e]
theorem r0p {Y : Mem} (hI : Inv Y) {c : Option Int32} {mo : Option (Int32 × Mem)} (r : Int32) (h1 : c = some r) (h2 : mo = some (r, up Y 10 0 0 9 0)) : R0 c mo := ⟨r, _, h1, h2, Inv_QM hI (QM_9 _ _)⟩
theorem mword (Y : Mem) {w : Nat} (hw : w < 4202) : (gd (inb (nI w) 4202) <| bd2 (M12_plain Y (Y 10 0 1 (ix (nI w)))) fun r Z => some (r, Z)) = some (Y 10 0 1 w, up Y 10 0 0 9 0) := by
  rw [gdi hw, plain_e, bd2_e, ix_n (by omega)]
theorem up9_x (Y : Mem) (v : Int32) {x : Nat} (hx : x ≠ 9) : (up Y 10 0 0 9 v) 10 0 0 x = Y 10 0 0 x := by rw [up_at, pk_un hx]
theorem q_errorCode {Y : Mem} (hI : Inv Y) : R0 (X11_errorCode Y) (M12_errorCode Y) := by
  have h : ER Y := hI.2.2.2.2.2.2.2.1
  refine r0p hI (Y 10 0 0 5) ?_ ?_
  · unfold X11_errorCode; rw [h.1]
  · unfold M12_errorCode; rw [lt_e, up9_x Y 0 (by omega)]
theorem q_errorPosition {Y : Mem} (hI : Inv Y) : R0 (X11_errorPosition Y) (M12_errorPosition Y) := by
  have h : ER Y := hI.2.2.2.2.2.2.2.1
  refine r0p hI (Y 10 0 0 6) ?_ ?_
  · unfold X11_errorPosition; rw [h.2]
  · unfold M12_errorPosition; rw [lt_e, up9_x Y 0 (by omega)]
theorem q_stepCount {Y : Mem} (hI : Inv Y) : R0 (X11_stepCount Y) (M12_stepCount Y) := by
  have hR := Inv_R hI
  refine r0p hI (Y 10 0 1 13) ?_ (mword Y (w := 13) (by omega))
  unfold X11_stepCount
  rw [gd2 hR.1.1, gd2 hR.1.1, hR.1.2.1, hI.1.1]
theorem q_cooks {Y : Mem} (hI : Inv Y) : R0 (X11_cooks Y) (M12_cooks Y) := by
  refine r0p hI (Y 10 0 1 0) ?_ (mword Y (w := 0) (by omega))
  unfold X11_cooks
  rw [(Inv_StS hI).1]
theorem q_minute {Y : Mem} (hI : Inv Y) : R0 (X11_minute Y) (M12_minute Y) := by
  refine r0p hI (Y 10 0 1 4) ?_ (mword Y (w := 4) (by omega))
  unfold X11_minute
  rw [(Inv_StS hI).2.1]
theorem q_salt {Y : Mem} (hI : Inv Y) : R0 (X11_salt Y) (M12_salt Y) := by
  refine r0p hI (Y 10 0 1 5) ?_ (mword Y (w := 5) (by omega))
  unfold X11_salt
  rw [(Inv_StS hI).2.2.1]
theorem q_cookMinutes {Y : Mem} (hI : Inv Y) : R0 (X11_cookMinutes Y) (M12_cookMinutes Y) := by
  refine r0p hI (Y 10 0 1 10) ?_ (mword Y (w := 10) (by omega))
  unfold X11_cookMinutes
  rw [Inv_10 hI]
theorem dish_ok {Y : Mem} (hI : Inv Y) : X3_dishTaste Y 0 = some (tst (Y 10 0 1)) := taste_ok Y hI.1 (Inv_R hI) (Inv_SB hI) (Inv_StS hI).2.2.1
theorem q_taste {Y : Mem} (hI : Inv Y) : R0 (X11_taste Y) (M12_taste Y) := by
  refine r0p hI (tst (Y 10 0 1)) ?_ ?_
  · unfold X11_taste; rw [dish_ok hI, bd1_e]
  · unfold M12_taste; rw [tst_ok Y hI.1, bd1_e, plain_e, bd2_e]
theorem serv_ok {Y : Mem} (hI : Inv Y) : X3_servingObstacle Y 0 = some (srv (Y 10 0 1)) := srvC_ok Y hI.1 (Inv_R hI) (Inv_SB hI) (Inv_StS hI).2.2.1 (Inv_StS hI).2.2.2.2 (Inv_6 hI)
theorem q_whyNotServed {Y : Mem} (hI : Inv Y) : R0 (X11_whyNotServed Y) (M12_whyNotServed Y) := by
  refine r0p hI (srv (Y 10 0 1)) ?_ ?_
  · unfold X11_whyNotServed; rw [serv_ok hI, bd1_e]
  · unfold M12_whyNotServed; rw [lt_e, srv_ok _ (by rw [up9_m]; exact hI.1), bd1_e, up9_m]
theorem sum_b (Y : Mem) (k g o : Nat) {n : Nat} (hn : n ≤ 14) : ∀ i, i ≤ n → ∀ f, n - i < f → X11_sum_b4 Y k g o 14 (nI n) f (nI i) (sm 0 (Y k g o) i) = some (sm 0 (Y k g o) n) := by
  refine upl ?_ ?_
  · intro f f_h
    obtain ⟨f, rfl⟩ := fuel_s f_h
    unfold X11_sum_b4
    rw [if_pos (Int32.le_refl _)]
  · intro i hi ih f f_h
    obtain ⟨f, rfl⟩ := fuel_s f_h
    unfold X11_sum_b4
    rw [if_neg (by rw [nI_leI (by omega) (by omega)]; omega), if_neg (by show ¬ nI 14 ≤ nI i; rw [nI_leI (by omega) (by omega)]; omega), gdi (show i < 14 by omega), ix_n (by omega), lt_e, nI_1]
    exact ih f (by omega)
theorem sum_ok (Y : Mem) (k g o : Nat) {n : Nat} (hn : n ≤ 14) : X11_sum Y k g o 14 (nI n) = some (sm 0 (Y k g o) n) := by
  unfold X11_sum
  exact sum_b Y k g o hn 0 (Nat.zero_le _) FU (by have := FU_big; omega)
theorem q_starts {Y : Mem} (hI : Inv Y) : R0 (X11_starts Y) (M12_starts Y) := by
  have hR := Inv_R hI
  refine r0p hI (Y 10 0 1 7) ?_ (mword Y (w := 7) (by omega))
  unfold X11_starts
  rw [gd2 hR.1.1, gd2 hR.1.1, hR.1.2.1, sum_ok Y 2 0 4 (nS_le hI), bd1_e, (Inv_T hI).1]
theorem q_completions {Y : Mem} (hI : Inv Y) : R0 (X11_completions Y) (M12_completions Y) := by
  have hR := Inv_R hI
  refine r0p hI (Y 10 0 1 8) ?_ (mword Y (w := 8) (by omega))
  unfold X11_completions
  rw [gd2 hR.1.1, gd2 hR.1.1, hR.1.2.1, sum_ok Y 2 0 5 (nS_le hI), bd1_e, (Inv_T hI).2.1]
theorem q_burns {Y : Mem} (hI : Inv Y) : R0 (X11_burns Y) (M12_burns Y) := by
  have hR := Inv_R hI
  refine r0p hI (Y 10 0 1 9) ?_ (mword Y (w := 9) (by omega))
  unfold X11_burns
  rw [gd2 hR.1.1, gd2 hR.1.1, hR.1.2.1, sum_ok Y 2 0 6 (nS_le hI), bd1_e, (Inv_T hI).2.2]
theorem sm_add (a : Int32) (f : Nat → Int32) : ∀ n, sm a f n = sm 0 f n + a
  | 0 => (Int32.zero_add a).symm
  | n + 1 => by
    show sm a f n + f n = sm 0 f n + f n + a
    rw [sm_add a f n, Int32.add_assoc, Int32.add_assoc, Int32.add_comm a]
def sltR (m : Nat → Int32) (v : Int32) : Int32 := if m 2 ≤ v then (if v ≤ m 3 then 0 else m 3 - v) else m 2 - v
theorem saltM_b (Z : Mem) (W : WF (Z 10 0 1)) (a : Int32) : ∀ i, i ≤ nS (Z 10 0 1) → ∀ f, nS (Z 10 0 1) - i < f → M12_saltNeeded_b14 f Z (nI i) (sm a (fun s => fld (Z 10 0 1) s 8) i) = some (sltR (Z 10 0 1) (sm a (fun s => fld (Z 10 0 1) s 8) (nS (Z 10 0 1))), Z) := by
  have h14 := W.2.1
  have e : (13 : Int32) = nI 13 := rfl
  refine upl ?_ ?_
  · intro f f_h
    obtain ⟨f, rfl⟩ := fuel_s f_h
    unfold M12_saltNeeded_b14
    have e2 : (2 : Int32) = nI 2 := rfl
    have e3 : (3 : Int32) = nI 3 := rfl
    rw [e, e2, e3, gdi (show 13 < 4202 by omega), ix_n (show 13 < 2 ^ 31 by omega), W.1, if_pos (Int32.le_refl _), gdi (show 2 < 4202 by omega), gdi (show 3 < 4202 by omega), ix_n (show 2 < 2 ^ 31 by omega), ix_n (show 3 < 2 ^ 31 by omega)]
    unfold sltR
    by_cases c1 : Z 10 0 1 2 ≤ sm a (fun s => fld (Z 10 0 1) s 8) (nS (Z 10 0 1))
    · rw [if_pos c1, if_pos c1]
      by_cases c2 : sm a (fun s => fld (Z 10 0 1) s 8) (nS (Z 10 0 1)) ≤ Z 10 0 1 3
      · rw [if_pos c2, if_pos c2]
      · rw [if_neg c2, if_neg c2]
    · rw [if_neg c1, if_neg c1]
  · intro i hi ih f f_h
    obtain ⟨f, rfl⟩ := fuel_s f_h
    unfold M12_saltNeeded_b14
    rw [e, gdi (show 13 < 4202 by omega), ix_n (show 13 < 2 ^ 31 by omega), W.1, if_neg (by rw [nI_leI (by omega) (by omega)]; omega)]
    rw [show M12_of Z (nI i) 8 = _ from of_ok Z (s := i) (w := 8) (by omega), bd1_e, lt_e, nI_1]
    exact ih f (by omega)
theorem q_saltNeeded {Y : Mem} (hI : Inv Y) : R0 (X11_saltNeeded Y) (M12_saltNeeded Y) := by
  have hR := Inv_R hI
  have h14 := nS_le hI
  have es : sm 0 (Y 3 (rg Y 0) 4) (nS (Y 10 0 1)) + Y 2 0 0 2 = sm (Y 10 0 1 5) (fun s => fld (Y 10 0 1) s 8) (nS (Y 10 0 1)) := by
    rw [(Inv_StS hI).2.2.1, sm_congr (fun i hi => (hR.2.2.2.1 i hi).1), sm_add (Y 10 0 1 5)]
  refine r0p hI (sltR (Y 10 0 1) (sm (Y 10 0 1 5) (fun s => fld (Y 10 0 1) s 8) (nS (Y 10 0 1)))) ?_ ?_
  · unfold X11_saltNeeded
    rw [gd2 hR.1.1, gd2 hR.1.1, hR.1.2.1, sum_ok Y 3 _ 4 h14, bd1_e, lt_e, es, hR.2.1.2.1, hR.2.1.2.2]
    unfold sltR
    generalize sm (Y 10 0 1 5) (fun s => fld (Y 10 0 1) s 8) (nS (Y 10 0 1)) = v
    by_cases c1 : Y 10 0 1 2 ≤ v
    · rw [if_pos c1, if_pos c1]
      by_cases c2 : v ≤ Y 10 0 1 3
      · rw [if_pos c2, if_pos c2]
      · rw [if_neg c2, if_neg c2]
    · rw [if_neg c1, if_neg c1]
  · unfold M12_saltNeeded
    have e5 : (5 : Int32) = nI 5 := rfl
    rw [lt_e, e5, gdi (show 5 < 4202 by omega), ix_n (show 5 < 2 ^ 31 by omega), lt_e]
    have := saltM_b (up Y 10 0 0 9 0) (by rw [up9_m]; exact hI.1) ((up Y 10 0 0 9 0) 10 0 1 5) 0 (Nat.zero_le _) FU (by rw [up9_m]; have := FU_big; omega)
    refine this.trans ?_
    rw [up9_m]
/-! count with status -/
def c2_ (n : Nat) : Int32 := if n = 2 then 1 else 0
theorem cws_b {Y : Mem} (hI : Inv Y) (u : Int32) : ∀ i, i ≤ nS (Y 10 0 1) → ∀ f, nS (Y 10 0 1) - i < f → T11_countWithStatus_b23 u f Y (nI i) (nI (cnt (fun s => fld (Y 10 0 1) s 17 == u) i)) = some (.inr (nI (wSt (Y 10 0 1) u), Y)) := by
  have h14 := nS_le hI
  have hR := Inv_R hI
  refine upl ?_ ?_
  · intro f f_h
    obtain ⟨f, rfl⟩ := fuel_s f_h
    unfold T11_countWithStatus_b23
    rw [gd2 hR.1.1, gd2 hR.1.1, hR.1.2.1, if_pos (Int32.le_refl _)]
    rfl
  · intro i hi ih f f_h
    obtain ⟨f, rfl⟩ := fuel_s f_h
    unfold T11_countWithStatus_b23 T11_countWithStatus_b58
    rw [gd2 hR.1.1, gd2 hR.1.1, hR.1.2.1, if_neg (by rw [nI_leI (by omega) (by omega)]; omega), statusOf_ok Y h14 (Inv_SB hI) (Inv_S4 hI) hi, bd1_e, nI_1, nI_1]
    have ih2 := ih f (by omega)
    rw [cnt_s] at ih2
    by_cases c : fld (Y 10 0 1) i 17 = u
    · rw [if_pos c]
      rw [if_pos (beq_iff_eq.mpr c)] at ih2
      exact ih2
    · rw [if_neg c]
      rw [if_neg (by rw [beq_iff_eq]; exact c)] at ih2
      exact ih2
theorem q_countWithStatus {Y : Mem} (hI : Inv Y) (u : Int32) : R1 (T11_countWithStatus Y u) (fun Y => M12_countWithStatus Y u) c2_ := by
  by_cases h : decide ((0 : Int32) ≤ u ∧ u ≤ 3) = true
  · right
    refine ⟨nI (wSt (Y 10 0 1) u), Y, ?_, up Y 10 0 0 9 0, ?_, up9_9 _ _, Inv_QM hI (QM_9 _ _)⟩
    · unfold T11_countWithStatus
      rw [within_ok, h, bd1_e, bI_t, if_neg (by decide)]
      exact cws_b hI u 0 (Nat.zero_le _) FU (by have := nS_le hI; have := FU_big; omega)
    · show M12_countWithStatus Y u = _
      unfold M12_countWithStatus M12_countWithStatus_b15
      rw [in_ok, h, bd1_e, bI_t, if_neg (by decide), fails_000, bd2_e, if_pos rfl, wSt_ok _ _ (by rw [up9_m]; exact hI.1), bd1_e, up9_m]
  · left
    rw [Bool.not_eq_true] at h
    refine ⟨2, Y, ?_, by decide, 0, up Y 10 0 0 9 1, ?_, up9_9 _ _, Inv_QM hI (QM_9 _ _)⟩
    · unfold T11_countWithStatus
      rw [within_ok, h, bd1_e, bI_f, if_pos rfl]
    · show M12_countWithStatus Y u = _
      unfold M12_countWithStatus M12_countWithStatus_b15
      rw [in_ok, h, bd1_e, bI_f, if_pos rfl, fails_1, bd2_e, if_neg (by decide)]
/-! pans -/
theorem reqP_ok {Y : Mem} (hI : Inv Y) (a : Int32) : T11_requirePan Y a = if inb a (nP (Y 10 0 1)) = true then some (.inr Y) else some (.inl (3, Y)) := by
  obtain ⟨W, n1, hR, -⟩ := hI
  have h4 := W.2.2.2.1
  unfold T11_requirePan
  rw [gd2 hR.1.1, gd2 hR.1.1, within_ok, hR.1.2.2, bd1_e]
  have := in_inb a (n := nP (Y 10 0 1)) (by omega)
  rw [show (nI (nP (Y 10 0 1)) - 1 : Int32) = nI (nP (Y 10 0 1)) - nI 1 from rfl, this, bI_ne]
theorem qpan {Y : Mem} (hI : Inv Y) (a : Int32) {c : Option ((Nat × Mem) ⊕ (Int32 × Mem))} {mo : Mem → Option (Int32 × Mem)} (h1 : ∀ q, q < nP (Y 10 0 1) → a = nI q → ∃ r, c = some (.inr (r, Y)) ∧ mo Y = some (r, up Y 10 0 0 9 0)) (h2 : inb a (nP (Y 10 0 1)) = false → c = some (.inl (3, Y)) ∧ ∃ b, mo Y = some (b, up Y 10 0 0 9 1)) : R1 c mo c3 := by
  by_cases h : inb a (nP (Y 10 0 1)) = true
  · obtain ⟨s, hs, e⟩ := inb_dec a h
    obtain ⟨r, q1, q2⟩ := h1 s hs e
    exact Or.inr ⟨r, Y, q1, _, q2, up9_9 _ _, Inv_QM hI (QM_9 _ _)⟩
  · rw [Bool.not_eq_true] at h
    obtain ⟨q1, b, q2⟩ := h2 h
    exact Or.inl ⟨3, Y, q1, by decide, b, _, q2, up9_9 _ _, Inv_QM hI (QM_9 _ _)⟩
theorem q_panCapacity {Y : Mem} (hI : Inv Y) (a : Int32) : R1 (T11_panCapacity Y a) (fun Y => M12_panCapacity Y a) c3 := by
  have hR := Inv_R hI
  have h4 := hI.1.2.2.2.1
  refine qpan hI a (fun q hq e => ?_) (fun h => ⟨?_, 0, ?_⟩)
  · subst e
    have hin := inb_n (j := q) hq (by omega)
    refine ⟨Y 10 0 1 (14 + q * 8 + 7), ?_, ?_⟩
    · unfold T11_panCapacity
      rw [reqP_ok hI, if_pos hin, bdxv_r, gd2 hR.1.1, gdi (show q < 4 by omega), ix_n (by omega), (hR.2.2.1 q hq).1]
    · show M12_panCapacity Y (nI q) = _
      unfold M12_panCapacity M12_panCapacity_b14
      rw [isPan_ok Y _ hI.1, hin, bd1_e, bI_t, if_neg (by decide), fails_000, bd2_e, if_pos rfl, capacity_ok _ (by omega), bd1_e, up9_m]
  · unfold T11_panCapacity; rw [reqP_ok hI, h, if_neg (by decide), bdxv_l]
  · show M12_panCapacity Y a = _
    unfold M12_panCapacity M12_panCapacity_b14
    rw [isPan_ok Y _ hI.1, h, bd1_e, bI_f, if_pos rfl, fails_1, bd2_e, if_neg (by decide)]
theorem q_pansInUse {Y : Mem} (hI : Inv Y) (a : Int32) : R1 (T11_pansInUse Y a) (fun Y => M12_pansInUse Y a) c3 := by
  have hR := Inv_R hI
  have h4 := hI.1.2.2.2.1
  refine qpan hI a (fun q hq e => ?_) (fun h => ⟨?_, 0, ?_⟩)
  · subst e
    have hin := inb_n (j := q) hq (by omega)
    obtain ⟨x, x1, x2⟩ := occupants_ok Y hI.1 hR (Inv_SB hI) (Inv_S4 hI) hq
    refine ⟨nI (used (Y 10 0 1) (nI q)), ?_, ?_⟩
    · unfold T11_pansInUse
      rw [reqP_ok hI, if_pos hin, bdxv_r, x1, bd1_e, setCount_ok Y (nS_le hI) x2, bd1_e]
      rfl
    · show M12_pansInUse Y (nI q) = _
      unfold M12_pansInUse M12_pansInUse_b14
      rw [isPan_ok Y _ hI.1, hin, bd1_e, bI_t, if_neg (by decide), fails_000, bd2_e, if_pos rfl, used_ok _ _ (by rw [up9_m]; exact hI.1), bd1_e, up9_m]
  · unfold T11_pansInUse; rw [reqP_ok hI, h, if_neg (by decide), bdxv_l]
  · show M12_pansInUse Y a = _
    unfold M12_pansInUse M12_pansInUse_b14
    rw [isPan_ok Y _ hI.1, h, bd1_e, bI_f, if_pos rfl, fails_1, bd2_e, if_neg (by decide)]
/-! blockers -/
theorem fst1_congr {p q : Nat → Bool} : ∀ {n : Nat}, (∀ i, i < n → p i = q i) → fst1 p n = fst1 q n := by
  intro n
  induction n with
  | zero => intro _; rfl
  | succ n ih => intro h; unfold fst1; rw [ih (fun i hi => h i (by omega)), h n (by omega)]
theorem fst1_s (p : Nat → Bool) (n : Nat) : fst1 p (n + 1) = (match fst1 p n with
    | some i => some i
    | none => if p n then some n else none) := rfl
theorem fst1_cut {p : Nat → Bool} {n : Nat} : ∀ {N : Nat}, n ≤ N → (∀ k, n ≤ k → p k = false) → fst1 p N = fst1 p n := by
  intro N
  induction N with
  | zero => intro h _; have : n = 0 := by omega
            subst this; rfl
  | succ N ih =>
    intro h hp
    by_cases e : n = N + 1
    · subst e; rfl
    · have := ih (by omega) hp
      rw [fst1_s, this, hp N (by omega)]
      cases fst1 p n <;> rfl
theorem lowest_b (Y : Mem) (x : Int32) : ∀ i, i ≤ 14 → ∀ f, 14 - i < f → fst1 (bt x) i = none → X11_lowestOf_b2 Y x f (nI i) = some (oI (fst1 (bt x) 14)) := by
  refine upl ?_ ?_
  · intro f f_h ha
    obtain ⟨f, rfl⟩ := fuel_s f_h
    unfold X11_lowestOf_b2
    rw [if_pos (by decide), ha]; rfl
  · intro i hi ih f f_h ha
    obtain ⟨f, rfl⟩ := fuel_s f_h
    unfold X11_lowestOf_b2
    rw [if_neg (by show ¬ nI 14 ≤ nI i; rw [nI_leI (by omega) (by omega)]; omega), contains_ok Y _ (by omega), bd1_e, bI_ne]
    cases c : bt x i
    · rw [if_neg (by decide), nI_1]
      exact ih f (by omega) (by unfold fst1; rw [ha]; simp only [c]; rfl)
    · rw [if_pos rfl]
      have : fst1 (bt x) 14 = some i := fst1_some.mpr ⟨hi, c, fst1_none.mp ha⟩
      rw [this]; rfl
theorem lowest_ok (Y : Mem) {x : Int32} {n : Nat} {p : Nat → Bool} (hn : n ≤ 14) (hx : ∀ k, k < 32 → bt x k = (decide (k < n) && p k)) : X11_lowestOf Y x = some (oI (fst1 p n)) := by
  unfold X11_lowestOf
  rw [show X11_lowestOf_b2 Y x FU 0 = _ from lowest_b Y x 0 (by omega) FU (by have := FU_big; omega) rfl]
  congr 2
  have e1 : fst1 (bt x) 14 = fst1 (fun k => decide (k < n) && p k) 14 := fst1_congr (fun i hi => hx i (by omega))
  rw [e1, fst1_cut hn (fun k hk => by rw [decide_eq_false (by omega), Bool.false_and])]
  exact fst1_congr (fun i hi => by rw [decide_eq_true hi, Bool.true_and])
theorem missing_b {Y : Mem} (hI : Inv Y) {s : Nat} (hs : s < nS (Y 10 0 1)) : ∀ i, i ≤ np (Y 10 0 1) s → ∀ f, np (Y 10 0 1) s - i < f → fst1 (fun k => !(fld (Y 10 0 1) (pr (Y 10 0 1) s k) 17 == 2)) i = none → X3_missingBefore_b2 Y 0 (nI s) f (nI i) = some (oI (fOpen (Y 10 0 1) s)) := by
  have W := hI.1
  have h14 := W.2.1
  have hnp := W.2.2.2.2.1 s hs
  have hR := Inv_R hI
  have e7 : Y 3 (rg Y 0) 7 s = nI (np (Y 10 0 1) s) := (hR.2.2.2.1 s hs).2.2.1.trans hnp.1
  refine upl ?_ ?_
  · intro f f_h ha
    obtain ⟨f, rfl⟩ := fuel_s f_h
    unfold X3_missingBefore_b2
    rw [gd2 hR.1.1, gdi (show s < 14 by omega), ix_n (by omega), e7, if_pos (Int32.le_refl _)]
    unfold fOpen
    rw [ha]; rfl
  · intro i hi ih f f_h ha
    obtain ⟨f, rfl⟩ := fuel_s f_h
    unfold X3_missingBefore_b2
    have hpr := W.2.2.2.2.2.1 s hs i hi
    have e20 : Y 3 (rg Y 0) (20 + s) i = nI (pr (Y 10 0 1) s i) := ((hR.2.2.2.1 s hs).2.2.2 i hi).trans hpr.1
    rw [gd2 hR.1.1, gdi (show s < 14 by omega), ix_n (by omega), e7, if_neg (by rw [nI_leI (by omega) (by omega)]; omega), gdi (show i < 4 by omega), ix_n (by omega), e20, lt_e, contains_ok Y _ (by omega), bd1_e, bI_ne, (Inv_SB hI _ (by omega)).2.1, stB_in (by omega), nI_1]
    cases c : (fld (Y 10 0 1) (pr (Y 10 0 1) s i) 17 == 2)
    · rw [if_neg (by decide)]
      have : fst1 (fun k => !(fld (Y 10 0 1) (pr (Y 10 0 1) s k) 17 == 2)) (np (Y 10 0 1) s) = some i := fst1_some.mpr ⟨hi, by show (!(fld (Y 10 0 1) (pr (Y 10 0 1) s i) 17 == 2)) = true; rw [c]; rfl, fst1_none.mp ha⟩
      unfold fOpen
      rw [this]; rfl
    · rw [if_pos rfl]
      exact ih f (by omega) (by unfold fst1; rw [ha]; simp only [c]; rfl)
theorem missing_ok {Y : Mem} (hI : Inv Y) {s : Nat} (hs : s < nS (Y 10 0 1)) : X3_missingBefore Y 0 (nI s) = some (oI (fOpen (Y 10 0 1) s)) := by
  unfold X3_missingBefore
  exact missing_b hI hs 0 (Nat.zero_le _) FU (by have := FU_big; have := (hI.1.2.2.2.2.1 s hs).2; omega) rfl
def blkP (m : Nat → Int32) (s : Nat) (v : Int32) (k : Nat) : Bool := if v = 3 then occ m (fld m s 9) k else if v = 4 then cooked m k else false
theorem blkM_b (Z : Mem) {s : Nat} (W : WF (Z 10 0 1)) (hs : s < nS (Z 10 0 1)) (v : Int32) : ∀ i, i ≤ nS (Z 10 0 1) → ∀ f, nS (Z 10 0 1) - i < f → fst1 (blkP (Z 10 0 1) s v) i = none → M12_blocker_b19 Z (nI s) f (nI i) v = some (oI (fst1 (blkP (Z 10 0 1) s v) (nS (Z 10 0 1)))) := by
  have h14 := W.2.1
  have e : (13 : Int32) = nI 13 := rfl
  refine upl ?_ ?_
  · intro f f_h ha
    obtain ⟨f, rfl⟩ := fuel_s f_h
    unfold M12_blocker_b19
    rw [e, gdi (show 13 < 4202 by omega), ix_n (by omega), W.1, if_pos (Int32.le_refl _), ha]
    rfl
  · intro i hi ih f f_h ha
    obtain ⟨f, rfl⟩ := fuel_s f_h
    unfold M12_blocker_b19 M12_blocker_b50 M12_blocker_b65
    rw [e, gdi (show 13 < 4202 by omega), ix_n (by omega), W.1, if_neg (by rw [nI_leI (by omega) (by omega)]; omega), nI_1]
    have hF : blkP (Z 10 0 1) s v i = false → M12_blocker_b19 Z (nI s) f (nI (i + 1)) v = some (oI (fst1 (blkP (Z 10 0 1) s v) (nS (Z 10 0 1)))) := fun c => ih f (by omega) (by unfold fst1; rw [ha]; simp only [c]; rfl)
    have hT : blkP (Z 10 0 1) s v i = true → some (nI i) = some (oI (fst1 (blkP (Z 10 0 1) s v) (nS (Z 10 0 1)))) := fun c => by
      have : fst1 (blkP (Z 10 0 1) s v) (nS (Z 10 0 1)) = some i := fst1_some.mpr ⟨hi, c, fst1_none.mp ha⟩
      rw [this]; rfl
    unfold blkP at hF hT
    by_cases c3 : v = 3
    · rw [if_pos c3] at hF hT
      rw [if_pos c3, show M12_of Z (nI s) 9 = _ from of_ok Z (s := s) (w := 9) (by omega), bd1_e, occ_ok Z _ W hi, bd1_e, bI_ne]
      cases c : occ (Z 10 0 1) (fld (Z 10 0 1) s 9) i
      · rw [if_neg (by decide), if_neg (by rw [c3]; decide)]; exact hF c
      · rw [if_pos rfl]; exact hT c
    · rw [if_neg c3] at hF hT
      rw [if_neg c3]
      by_cases c4 : v = 4
      · rw [if_pos c4] at hF hT
        rw [if_pos c4, cooked_ok Z (by omega), bd1_e, bI_ne]
        cases c : cooked (Z 10 0 1) i
        · rw [if_neg (by decide)]; exact hF c
        · rw [if_pos rfl]; exact hT c
      · rw [if_neg c4] at hF hT
        rw [if_neg c4]; exact hF rfl
def blkR (m : Nat → Int32) (s : Nat) : Int32 := if rsn m s = 2 then oI (fOpen m s) else oI (fst1 (blkP m s (rsn m s)) (nS m))
theorem blkM_ok (Z : Mem) {s : Nat} (W : WF (Z 10 0 1)) (hs : s < nS (Z 10 0 1)) : M12_blocker Z (nI s) = some (blkR (Z 10 0 1) s) := by
  have h14 := W.2.1
  unfold M12_blocker blkR
  rw [rsn_ok Z W hs, bd1_e]
  by_cases c : rsn (Z 10 0 1) s = 2
  · rw [if_pos c, if_pos c, firstOpen_ok Z W hs, bd1_e]
  · rw [if_neg c, if_neg c]
    exact blkM_b Z W hs _ 0 (Nat.zero_le _) FU (by have := FU_big; omega) rfl
theorem rsn_pan {m : Nat → Int32} {s : Nat} (W : WF m) (hs : s < nS m) (h : rsn m s = 3) : ∃ q, q < nP m ∧ fld m s 9 = nI q := by
  rcases pan_lo W hs with e | e
  · exfalso
    have hp : hasPan m s = true := by unfold hasPan; rw [e]; rfl
    unfold rsn at h
    rw [hp] at h
    by_cases c1 : fld m s 17 = 1
    · rw [if_pos c1] at h; exact absurd h (by decide)
    · rw [if_neg c1] at h
      by_cases c2 : fld m s 17 = 2
      · rw [if_pos c2] at h; exact absurd h (by decide)
      · rw [if_neg c2] at h
        revert h
        cases (fOpen m s).isNone <;> cases hasCook m s <;> decide
  · exact e
theorem blkC_ok {Y : Mem} (hI : Inv Y) {s : Nat} (hs : s < nS (Y 10 0 1)) : X3_blocker Y 0 (nI s) = some (blkR (Y 10 0 1) s) := by
  have h14 := nS_le hI
  have hR := Inv_R hI
  unfold X3_blocker blkR
  rw [obs_ok hI hs, bd1_e]
  by_cases c : rsn (Y 10 0 1) s = 2
  · rw [if_pos c, if_pos c, missing_ok hI hs, bd1_e]
  · rw [if_neg c, if_neg c]
    by_cases c3 : rsn (Y 10 0 1) s = 3
    · obtain ⟨q, hq, eq⟩ := rsn_pan hI.1 hs c3
      obtain ⟨x, x1, x2⟩ := occupants_ok Y hI.1 hR (Inv_SB hI) (Inv_S4 hI) hq
      rw [if_pos c3, gd2 hR.1.1, gdi (show s < 14 by omega), ix_n (by omega), (hR.2.2.2.1 s hs).2.1, eq, x1, bd1_e, lowest_ok Y h14 x2, bd1_e, c3]
      congr 2
      exact fst1_congr (fun i _ => by unfold blkP; rw [if_pos rfl, eq])
    · rw [if_neg c3]
      by_cases c4 : rsn (Y 10 0 1) s = 4
      · rw [if_pos c4, gd2 hR.1.1, lowest_ok Y h14 (fun k hk => cook_bits hR (Inv_SB hI) hk), bd1_e, c4]
        congr 2
      · rw [if_neg c4]
        have : fst1 (blkP (Y 10 0 1) s (rsn (Y 10 0 1) s)) (nS (Y 10 0 1)) = none := fst1_none.mpr (fun i _ => by unfold blkP; rw [if_neg c3, if_neg c4])
        rw [this]; rfl
theorem q_blockingStep {Y : Mem} (hI : Inv Y) (a : Int32) : R1 (T11_blockingStep Y a) (fun Y => M12_blockingStep Y a) c3 := by
  refine q3s hI a (fun s hs e => ?_) (fun h => ?_)
  · subst e
    refine ⟨blkR (Y 10 0 1) s, ?_, ?_⟩
    · unfold T11_blockingStep
      rw [rS_in hI hs, bdxv_r, blkC_ok hI hs, bd1_e]
    · show M12_blockingStep Y (nI s) = _
      unfold M12_blockingStep M12_blockingStep_b14
      rw [sS_in hI hs, bd1_e, if_neg (by decide), fails_000, bd2_e, if_pos rfl, blkM_ok _ (by rw [up9_m]; exact hI.1) (by rw [up9_m]; exact hs), bd1_e, up9_m]
  · refine ⟨?_, 0, ?_⟩
    · unfold T11_blockingStep; rw [rS_out hI h, bdxv_l]
    · show M12_blockingStep Y a = _
      unfold M12_blockingStep M12_blockingStep_b14
      rw [sS_out hI h, bd1_e, if_pos rfl, fails_1, bd2_e, if_neg (by decide)]
end
