section
/-! ALL THAT A STEP DEPENDS ON -/
def clo (m : Nat → Int32) (s : Nat) : Nat → Nat → Bool
  | 0 => fun k => isPred m k s
  | d + 1 => fun k => clo m s d k || (clo m s d (s - 1 - d) && isPred m k (s - 1 - d))
theorem clo_s (m : Nat → Int32) (s d k : Nat) : clo m s (d + 1) k = (clo m s d k || (clo m s d (s - 1 - d) && isPred m k (s - 1 - d))) := rfl
theorem clo_lt {m : Nat → Int32} (W : WF m) {s : Nat} (hs : s < nS m) : ∀ d k, clo m s d k = true → k < s := by
  intro d
  induction d with
  | zero => intro k h; exact isPred_lt W hs h
  | succ d ih =>
    intro k h
    rw [clo_s, Bool.or_eq_true, Bool.and_eq_true] at h
    rcases h with h | ⟨h1, h2⟩
    · exact ih k h
    · have := ih _ h1
      have := isPred_lt W (by omega) h2
      omega
theorem allB_b {Y : Mem} {r : Nat} {m : Nat → Int32} (W : WF m) (hR : RR Y r m) {s : Nat} (hs : s < nS m) (a : Int32) : ∀ j d, j + d = s → ∀ fu x, j < fu → (∀ k, k < 32 → bt x k = clo m s d k) → ∃ x', X5_allBefore_b11 Y r a fu (nI j - 1) x = some x' ∧ ∀ k, k < 32 → bt x' k = clo m s s k := by
  have h14 := W.2.1
  intro j
  induction j with
  | zero =>
    intro d hd fu x fu_h hx
    obtain ⟨fu, rfl⟩ := fuel_s fu_h
    have : d = s := by omega
    subst this
    unfold X5_allBefore_b11
    rw [if_pos (by decide)]
    exact ⟨x, rfl, hx⟩
  | succ j ih =>
    intro d hd fu x fu_h hx
    obtain ⟨fu, rfl⟩ := fuel_s fu_h
    unfold X5_allBefore_b11 X5_allBefore_b32
    have ej : s - 1 - d = j := by omega
    rw [nI_pred, if_neg (by rw [Int32.not_lt]; exact nI_pos' (by omega)), contains_ok Y _ (by omega), bd1_e, bI_ne, hx j (by omega)]
    have em : nI j + -1 = nI j - 1 := (Int32.sub_eq_add_neg _ _).symm
    rw [em]
    cases c : clo m s d j
    · rw [if_neg (by decide)]
      exact ih (d + 1) (by omega) fu x (by omega) (fun k hk => by rw [clo_s, ej, c, Bool.false_and, Bool.or_false]; exact hx k hk)
    · rw [if_pos rfl, gdi (show j < 14 by omega), ix_n (by omega), lt_e]
      exact ih (d + 1) (by omega) fu _ (by omega) (fun k hk => by rw [clo_s, ej, c, Bool.true_and, b_or, hx k hk, (hR.2.2.2.2.1 j (by omega) k hk).1])
theorem allB_ok {Y : Mem} {r : Nat} {m : Nat → Int32} (W : WF m) (hR : RR Y r m) {s : Nat} (hs : s < nS m) : ∃ x, X5_allBefore Y r (nI s) = some x ∧ ∀ k, k < 32 → bt x k = clo m s s k := by
  have h14 := W.2.1
  unfold X5_allBefore
  rw [gdi (show s < 14 by omega), ix_n (by omega), lt_e, lt_e]
  exact allB_b W hR hs (nI s) s 0 (by omega) FU _ (by have := FU_big; omega) (fun k hk => (hR.2.2.2.2.1 s hs k hk).1)
def rch (m : Nat → Int32) (s : Nat) : Nat → Nat → Bool
  | 0 => fun k => k == s
  | d + 1 => fun k => rch m s d k || (rch m s d (s - d) && isPred m k (s - d))
theorem rch_s (m : Nat → Int32) (s d k : Nat) : rch m s (d + 1) k = (rch m s d k || (rch m s d (s - d) && isPred m k (s - d))) := rfl
theorem rch_clo (m : Nat → Int32) (s : Nat) : ∀ d, d ≤ s → ∀ k, rch m s (d + 1) k = ((k == s) || clo m s d k) := by
  intro d
  induction d with
  | zero => intro _ k; rw [rch_s]; show ((k == s) || ((s - 0 == s) && isPred m k (s - 0))) = _; rw [Nat.sub_zero, beq_self_eq_true, Bool.true_and]; rfl
  | succ d ih =>
    intro hd k
    rw [rch_s, ih (by omega), ih (by omega), clo_s]
    have e1 : (s - (d + 1) == s) = false := beq_eq_false_iff_ne.mpr (by omega)
    have e2 : s - (d + 1) = s - 1 - d := by omega
    rw [e1, Bool.false_or, e2, Bool.or_assoc]
theorem vb0 : vp_nar .boolean 0 = 0 := by decide +kernel
theorem vb1 : vp_nar .boolean 1 = 1 := by decide +kernel
theorem depM_in {Z0 : Mem} (W : WF (Z0 10 0 1)) {j : Nat} (hj : j < nS (Z0 10 0 1)) (a b : Int32) {k67 : Mem → Int32 → Option (Int32 × Mem)} {R : Nat → Bool} : ∀ i, i ≤ np (Z0 10 0 1) j → ∀ fu h, np (Z0 10 0 1) j - i < fu → (∀ k, k < nS (Z0 10 0 1) → h k = bI (R k || (R j && anyB (fun i => pr (Z0 10 0 1) j i == k) i))) → ∃ h', M12_dependsOn_b74 a b k67 fu (upR Z0 10 0 7 h) (nI i) (nI j) = k67 (upR Z0 10 0 7 h') (nI j - 1) ∧ ∀ k, k < nS (Z0 10 0 1) → h' k = bI (R k || (R j && isPred (Z0 10 0 1) k j)) := by
  have h14 := W.2.1
  have hnp := W.2.2.2.2.1 j hj
  have em : ∀ h, (upR Z0 10 0 7 h) 10 0 1 = Z0 10 0 1 := fun h => upR_o (by omega)
  have o12 : ∀ h, M12_of (upR Z0 10 0 7 h) (nI j) 12 = some (nI (np (Z0 10 0 1) j)) := fun h => by
    have := of_ok (upR Z0 10 0 7 h) (s := j) (w := 12) (by omega)
    rw [em, hnp.1] at this; exact this
  have e1 : nI j + -1 = nI j - 1 := (Int32.sub_eq_add_neg _ _).symm
  refine upl ?_ ?_
  · intro fu h fu_h h1
    obtain ⟨fu, rfl⟩ := fuel_s fu_h
    unfold M12_dependsOn_b74 M12_dependsOn_b117
    rw [gdi (show j < 14 by omega), ix_n (by omega), o12, bd1_e, if_pos (Int32.le_refl _), e1, ite_self]
    exact ⟨h, rfl, h1⟩
  · intro i hi ih fu h fu_h h1
    obtain ⟨fu, rfl⟩ := fuel_s fu_h
    unfold M12_dependsOn_b74 M12_dependsOn_b117
    rw [gdi (show j < 14 by omega), ix_n (by omega), upR_at, h1 j hj, o12, bd1_e, e1, bI_ne]
    obtain ⟨p1, p2⟩ := W.2.2.2.2.2.1 j hj i hi
    cases c : R j
    · rw [Bool.false_and, Bool.or_false, if_neg (by decide)]
      refine ⟨h, rfl, fun k hk => ?_⟩
      rw [h1 k hk, c, Bool.false_and, Bool.false_and]
    · rw [Bool.true_or, if_pos rfl, if_neg (by rw [nI_leI (by omega) (by omega)]; omega)]
      have o13 : M12_of (upR Z0 10 0 7 h) (nI j) (13 + nI i) = some (nI (pr (Z0 10 0 1) j i)) := by
        have := of_ok (upR Z0 10 0 7 h) (s := j) (w := 13 + i) (by omega)
        rw [em, p1] at this
        rw [show (13 : Int32) + nI i = nI (13 + i) from nI_add 13 i]; exact this
      rw [o13, bd1_e, gdi (show pr (Z0 10 0 1) j i < 14 by omega), ix_n (by omega), lt_e, up_upR, nI_1, vb1]
      obtain ⟨h', q1, q2⟩ := ih fu (upd h (pr (Z0 10 0 1) j i) 1) (by omega) (fun k hk => by
        rw [anyB_s, c, Bool.true_and]
        by_cases e : k = pr (Z0 10 0 1) j i
        · rw [e, pk_us, beq_self_eq_true, Bool.or_true, Bool.or_true]; rfl
        · rw [pk_un e, h1 k hk, c, Bool.true_and, beq_eq_false_iff_ne.mpr (fun q => e q.symm), Bool.or_false])
      exact ⟨h', q1, fun k hk => by rw [q2 k hk, c]⟩
theorem depM_out {Z0 : Mem} (W : WF (Z0 10 0 1)) {s o : Nat} (hs : s < nS (Z0 10 0 1)) (ho : o < nS (Z0 10 0 1)) : ∀ j d, j + d = s + 1 → ∀ fu h, j < fu → (∀ k, k < nS (Z0 10 0 1) → h k = bI (rch (Z0 10 0 1) s d k)) → ∃ h', M12_dependsOn_b67 (nI s) (nI o) fu (upR Z0 10 0 7 h) (nI j - 1) = some (bI (!(s == o) && rch (Z0 10 0 1) s (s + 1) o), upR Z0 10 0 7 h') := by
  have h14 := W.2.1
  intro j
  induction j with
  | zero =>
    intro d hd fu h fu_h h1
    obtain ⟨fu, rfl⟩ := fuel_s fu_h
    have : d = s + 1 := by omega
    subst this
    unfold M12_dependsOn_b67
    rw [if_pos (by decide)]
    by_cases e : s = o
    · subst e
      rw [if_pos rfl, beq_self_eq_true]
      exact ⟨h, rfl⟩
    · rw [if_neg (fun q => e ((nI_eq (by omega) (by omega)).mp q)), beq_eq_false_iff_ne.mpr e, gdi (show o < 14 by omega), ix_n (by omega), upR_at, h1 o ho]
      cases rch (Z0 10 0 1) s (s + 1) o
      · exact ⟨h, rfl⟩
      · exact ⟨h, rfl⟩
  | succ j ih =>
    intro d hd fu h fu_h h1
    obtain ⟨fu, rfl⟩ := fuel_s fu_h
    unfold M12_dependsOn_b67
    have ej : s - d = j := by omega
    rw [nI_pred, if_neg (by rw [Int32.not_lt]; exact nI_pos' (by omega))]
    obtain ⟨h', q1, q2⟩ := depM_in W (j := j) (by omega) (nI s) (nI o) (k67 := M12_dependsOn_b67 (nI s) (nI o) fu) (R := rch (Z0 10 0 1) s d) 0 (Nat.zero_le _) FU h (by have := FU_big; have := (W.2.2.2.2.1 j (by omega)).2; omega) (fun k hk => by rw [h1 k hk]; show _ = bI (_ || (_ && false)); rw [Bool.and_false, Bool.or_false])
    rw [show M12_dependsOn_b74 (nI s) (nI o) (M12_dependsOn_b67 (nI s) (nI o) fu) FU (upR Z0 10 0 7 h) 0 (nI j) = _ from q1]
    exact ih (d + 1) (by omega) fu h' (by omega) (fun k hk => by rw [q2 k hk, rch_s, ej])
theorem depM_0 {Z0 : Mem} (W : WF (Z0 10 0 1)) {s o : Nat} (hs : s < nS (Z0 10 0 1)) (ho : o < nS (Z0 10 0 1)) : ∀ d i fu h, i + d = nS (Z0 10 0 1) → d < fu → (∀ k, k < i → h k = 0) → ∃ h', M12_dependsOn_b34 (nI s) (nI o) fu (upR Z0 10 0 7 h) (nI i) = some (bI (!(s == o) && rch (Z0 10 0 1) s (s + 1) o), upR Z0 10 0 7 h') := by
  have h14 := W.2.1
  have e : (13 : Int32) = nI 13 := rfl
  have em : ∀ h, (upR Z0 10 0 7 h) 10 0 1 = Z0 10 0 1 := fun h => upR_o (by omega)
  intro d
  induction d with
  | zero =>
    intro i fu h hi fu_h h1
    obtain ⟨fu, rfl⟩ := fuel_s fu_h
    unfold M12_dependsOn_b34
    rw [e, gdi (show 13 < 4202 by omega), ix_n (show 13 < 2 ^ 31 by omega), em, W.1, if_pos (by rw [nI_leI (by omega) (by omega)]; omega), gdi (show s < 14 by omega), ix_n (by omega), lt_e, up_upR, vb1]
    obtain ⟨h', q⟩ := depM_out W hs ho (s + 1) 0 (by omega) FU (upd h s 1) (by have := FU_big; omega) (fun k hk => by
      by_cases e : k = s
      · subst e; rw [pk_us]; show _ = bI (k == k); rw [beq_self_eq_true]; rfl
      · rw [pk_un e, h1 k (by omega)]; show _ = bI (k == s); rw [beq_eq_false_iff_ne.mpr e]; rfl)
    rw [nI_pred] at q
    exact ⟨h', q⟩
  | succ d ih =>
    intro i fu h hi fu_h h1
    obtain ⟨fu, rfl⟩ := fuel_s fu_h
    unfold M12_dependsOn_b34
    rw [e, gdi (show 13 < 4202 by omega), ix_n (show 13 < 2 ^ 31 by omega), em, W.1, if_neg (by rw [nI_leI (by omega) (by omega)]; omega), gdi (show i < 14 by omega), ix_n (by omega), lt_e, up_upR, vb0, nI_1]
    refine ih (i + 1) fu _ (by omega) (by omega) (fun k hk => ?_)
    by_cases c : k = i
    · subst c; rw [pk_us]
    · rw [pk_un c]; exact h1 k (by omega)
theorem QM_o7 (Y : Mem) (f : Nat → Int32) : QM Y (upR Y 10 0 7 f) := ⟨fun k hk => by funext g o; rw [upR_o (by omega)], by rw [upR_o (by omega)], by rw [upR_o (by omega)], by rw [upR_o (by omega)], fun x _ => by rw [upR_o (by omega)], fun x _ => by rw [upR_o (by omega)]⟩
theorem q_dependsOn {Y : Mem} (hI : Inv Y) (a b : Int32) : R1 (T11_dependsOn Y a b) (fun Y => M12_dependsOn Y a b) c3 := by
  have h14 := nS_le hI
  have hR := Inv_R hI
  have W := hI.1
  by_cases ha : inb a (nS (Y 10 0 1)) = true
  · obtain ⟨s, hs, rfl⟩ := inb_dec a ha
    by_cases hb : inb b (nS (Y 10 0 1)) = true
    · obtain ⟨o, ho, rfl⟩ := inb_dec b hb
      right
      obtain ⟨x, x1, x2⟩ := allB_ok W hR hs
      have em : (up Y 10 0 0 9 0) 10 0 1 = Y 10 0 1 := up9_m _ _
      obtain ⟨h', q⟩ := depM_0 (Z0 := up Y 10 0 0 9 0) (s := s) (o := o) (by rw [em]; exact W) (by rw [em]; exact hs) (by rw [em]; exact ho) (nS (Y 10 0 1)) 0 FU ((up Y 10 0 0 9 0) 10 0 7) (by rw [em]; omega) (by have := FU_big; omega) (fun k hk => by omega)
      rw [upR_self, em] at q
      have hv : (!(s == o) && rch (Y 10 0 1) s (s + 1) o) = clo (Y 10 0 1) s s o := by
        rw [rch_clo _ _ _ (Nat.le_refl s)]
        by_cases e : s = o
        · subst e
          rw [beq_self_eq_true]
          cases c : clo (Y 10 0 1) s s s
          · rfl
          · have := clo_lt W hs _ _ c; omega
        · rw [beq_eq_false_iff_ne.mpr e, beq_eq_false_iff_ne.mpr (fun q => e q.symm)]
          rw [Bool.false_or]; rfl
      rw [hv] at q
      refine ⟨bI (clo (Y 10 0 1) s s o), Y, ?_, upR (up Y 10 0 0 9 0) 10 0 7 h', ?_, ?_, Inv_QM hI (QM_trans (QM_9 _ _) (QM_o7 _ _))⟩
      · unfold T11_dependsOn
        rw [rS_in hI hs, bdxv_r, rS_in hI ho, bdxv_r, gd2 hR.1.1, x1, bd1_e, contains_ok Y _ (by omega), bd1_e, gd_t (bI_01 _), x2 o (by omega)]
      · show M12_dependsOn Y (nI s) (nI o) = _
        unfold M12_dependsOn M12_dependsOn_b22
        rw [sS_in hI hs, bd1_e, if_neg (by decide), sS_in hI ho, bd1_e, if_neg (by decide), fails_000, bd2_e, if_pos rfl]
        exact q
      · rw [upR_o (by omega), up9_9]
    · rw [Bool.not_eq_true] at hb
      left
      refine ⟨3, Y, ?_, by decide, 0, up Y 10 0 0 9 1, ?_, up9_9 _ _, Inv_QM hI (QM_9 _ _)⟩
      · unfold T11_dependsOn
        rw [rS_in hI hs, bdxv_r, rS_out hI hb, bdxv_l]
      · show M12_dependsOn Y (nI s) b = _
        unfold M12_dependsOn M12_dependsOn_b17 M12_dependsOn_b22
        rw [sS_in hI hs, bd1_e, if_neg (by decide), sS_out hI hb, bd1_e, if_pos rfl, fails_1, bd2_e, if_neg (by decide)]
  · rw [Bool.not_eq_true] at ha
    left
    refine ⟨3, Y, ?_, by decide, 0, up Y 10 0 0 9 1, ?_, up9_9 _ _, Inv_QM hI (QM_9 _ _)⟩
    · unfold T11_dependsOn; rw [rS_out hI ha, bdxv_l]
    · show M12_dependsOn Y a b = _
      unfold M12_dependsOn M12_dependsOn_b17 M12_dependsOn_b22
      rw [sS_out hI ha, bd1_e, if_pos rfl, fails_1, bd2_e, if_neg (by decide)]
/-! INCONSISTENCIES -/
def oddP (m : Nat → Int32) (s i : Nat) : Bool := fld m (pr m s i) 21 == 0
def oddS (m : Nat → Int32) (s : Nat) : Bool := (fld m s 17 == 1) && anyB (oddP m s) (np m s)
theorem ever_b {Y : Mem} (hI : Inv Y) {B : Nat} (hB : B ≤ 20000) (hC : StC (Y 2 0) (Y 10 0 1) (fun _ => B)) {r : Int32 → Option Int32} (hr : ∀ x, (∀ k, k < 32 → bt x k = (decide (k < nS (Y 10 0 1)) && !(fld (Y 10 0 1) k 21 == 0))) → X3_prematureSteps_b46 Y 0 FU 0 0 x = some (nI (cnt (oddS (Y 10 0 1)) (nS (Y 10 0 1))))) : ∀ i, i ≤ nS (Y 10 0 1) → ∀ f x, nS (Y 10 0 1) - i < f → (∀ k, k < 32 → bt x k = (decide (k < i) && !(fld (Y 10 0 1) k 21 == 0))) → X3_prematureSteps_b4 Y 0 f (nI i) x = some (nI (cnt (oddS (Y 10 0 1)) (nS (Y 10 0 1)))) := by
  have h14 := nS_le hI
  have hR := Inv_R hI
  refine upl ?_ ?_
  · intro f x f_h hx
    obtain ⟨f, rfl⟩ := fuel_s f_h
    unfold X3_prematureSteps_b4
    rw [gd2 hR.1.1, gd2 hR.1.1, hR.1.2.1, if_pos (Int32.le_refl _)]
    exact hr x hx
  · intro i hi ih f x f_h hx
    obtain ⟨f, rfl⟩ := fuel_s f_h
    unfold X3_prematureSteps_b4 X3_prematureSteps_b36
    obtain ⟨c, c1, c2, c3⟩ := hC i hi
    have c2 : c ≤ B := c2
    rw [gd2 hR.1.1, gd2 hR.1.1, hR.1.2.1, if_neg (by rw [nI_leI (by omega) (by omega)]; omega), gdi (show i < 14 by omega), ix_n (by omega), c1, nI_1]
    have hd : ∀ k, k < 32 → k ≠ i → decide (k < i + 1) = decide (k < i) := fun k _ hk => decide_eq_decide.mpr (by omega)
    by_cases e : c = 0
    · subst e
      rw [if_pos (by decide)]
      refine ih f x (by omega) (fun k hk => ?_)
      rw [hx k hk]
      by_cases q : k = i
      · subst q
        rw [c3, if_pos rfl, decide_eq_false (Nat.lt_irrefl k)]
        simp
      · rw [hd k hk q]
    · rw [if_neg (nI_nle (by omega) (by omega)), lt_e]
      refine ih f _ (by omega) (fun k hk => ?_)
      rw [b_or, b_one i (by omega) hk, hx k hk]
      by_cases q : k = i
      · subst q
        rw [c3, if_neg e, decide_eq_true rfl, decide_eq_true (Nat.lt_succ_self k), Bool.or_true]
        rfl
      · rw [hd k hk q, decide_eq_false q, Bool.or_false]
theorem odd_set {Y : Mem} (hI : Inv Y) {x : Int32} (hx : ∀ k, k < 32 → bt x k = (decide (k < nS (Y 10 0 1)) && !(fld (Y 10 0 1) k 21 == 0))) {s : Nat} (hs : s < nS (Y 10 0 1)) : (Y 3 (rg Y 0) 8 s &&& (x ^^^ (-1))) = 0 ↔ anyB (oddP (Y 10 0 1) s) (np (Y 10 0 1) s) = false := by
  have h14 := nS_le hI
  have hR := Inv_R hI
  have W := hI.1
  rw [and_z, anyB_f]
  constructor
  · intro h i hi
    obtain ⟨p1, p2⟩ := W.2.2.2.2.2.1 s hs i hi
    have := h (pr (Y 10 0 1) s i) (by omega)
    rw [(hR.2.2.2.2.1 s hs _ (by omega)).1, b_not _ (by omega), hx _ (by omega)] at this
    have h1 : isPred (Y 10 0 1) (pr (Y 10 0 1) s i) s = true := anyB_iff.mpr ⟨i, hi, beq_self_eq_true _⟩
    rw [h1, Bool.true_and, decide_eq_true (show pr (Y 10 0 1) s i < nS (Y 10 0 1) by omega), Bool.true_and, Bool.not_not] at this
    exact this
  · intro h k hk
    rw [(hR.2.2.2.2.1 s hs _ hk).1, b_not _ hk, hx _ hk]
    cases c : isPred (Y 10 0 1) k s
    · rfl
    · obtain ⟨i, hi, e⟩ := anyB_iff.mp c
      have e2 : pr (Y 10 0 1) s i = k := beq_iff_eq.mp e
      have h2 := h i hi
      unfold oddP at h2
      rw [e2] at h2
      have := (W.2.2.2.2.2.1 s hs i hi).2
      rw [h2, decide_eq_true (show k < nS (Y 10 0 1) by omega)]
      rfl
theorem prem_b {Y : Mem} (hI : Inv Y) {x : Int32} (hx : ∀ k, k < 32 → bt x k = (decide (k < nS (Y 10 0 1)) && !(fld (Y 10 0 1) k 21 == 0))) : ∀ i, i ≤ nS (Y 10 0 1) → ∀ f, nS (Y 10 0 1) - i < f → X3_prematureSteps_b46 Y 0 f (nI i) (nI (cnt (oddS (Y 10 0 1)) i)) x = some (nI (cnt (oddS (Y 10 0 1)) (nS (Y 10 0 1)))) := by
  have h14 := nS_le hI
  have hR := Inv_R hI
  refine upl ?_ ?_
  · intro f f_h
    obtain ⟨f, rfl⟩ := fuel_s f_h
    unfold X3_prematureSteps_b46
    rw [gd2 hR.1.1, gd2 hR.1.1, hR.1.2.1, if_pos (Int32.le_refl _)]
  · intro i hi ih f f_h
    obtain ⟨f, rfl⟩ := fuel_s f_h
    unfold X3_prematureSteps_b46 X3_prematureSteps_b93
    have ho := odd_set hI hx hi
    rw [gd2 hR.1.1, gd2 hR.1.1, hR.1.2.1, if_neg (by rw [nI_leI (by omega) (by omega)]; omega), contains_ok Y _ (by omega), bd1_e, bI_ne, (Inv_SB hI i (by omega)).1, stB_in hi, gdi (show i < 14 by omega), ix_n (by omega), nI_1, nI_1]
    have ih2 := ih f (by omega)
    rw [cnt_s] at ih2
    unfold oddS at ih2
    cases c : (fld (Y 10 0 1) i 17 == 1)
    · rw [if_neg (by decide)]
      rw [c, Bool.false_and, if_neg (by decide)] at ih2
      exact ih2
    · rw [if_pos rfl]
      rw [c, Bool.true_and] at ih2
      cases c2 : anyB (oddP (Y 10 0 1) i) (np (Y 10 0 1) i)
      · rw [if_pos (ho.mpr c2)]
        rw [c2, if_neg (by decide)] at ih2
        exact ih2
      · rw [if_neg (fun q => by rw [ho.mp q] at c2; cases c2)]
        rw [c2, if_pos rfl] at ih2
        exact ih2
theorem incM_in (Z : Mem) (W : WF (Z 10 0 1)) {s : Nat} (hs : s < nS (Z 10 0 1)) {k37 : Mem → Int32 → Int32 → Option (Int32 × Mem)} (v : Int32) : ∀ i, i ≤ np (Z 10 0 1) s → ∀ f, np (Z 10 0 1) s - i < f → M12_inconsistencies_b53 k37 f Z (nI i) (bI (anyB (oddP (Z 10 0 1) s) i)) (nI s) v = k37 Z (nI (s + 1)) (v + nI (if oddS (Z 10 0 1) s = true then 1 else 0)) := by
  have h14 := W.2.1
  have hnp := W.2.2.2.2.1 s hs
  refine upl ?_ ?_
  · intro f f_h
    obtain ⟨f, rfl⟩ := fuel_s f_h
    unfold M12_inconsistencies_b53 M12_inconsistencies_b120 M12_inconsistencies_b121
    rw [show M12_of Z (nI s) 12 = _ from of_ok Z (s := s) (w := 12) (by omega), bd1_e, hnp.1, if_pos (Int32.le_refl _), show M12_of Z (nI s) 17 = _ from of_ok Z (s := s) (w := 17) (by omega), bd1_e, lt_e, lt_e, nI_1]
    unfold oddS
    by_cases c : fld (Z 10 0 1) s 17 = 1
    · rw [if_pos c, c]
      cases anyB (oddP (Z 10 0 1) s) (np (Z 10 0 1) s) <;> rfl
    · rw [if_neg c, beq_eq_false_iff_ne.mpr c]
      rfl
  · intro i hi ih f f_h
    obtain ⟨f, rfl⟩ := fuel_s f_h
    unfold M12_inconsistencies_b53 M12_inconsistencies_b88 M12_inconsistencies_b93
    obtain ⟨p1, p2⟩ := W.2.2.2.2.2.1 s hs i hi
    have o13 : M12_of Z (nI s) (13 + nI i) = some (nI (pr (Z 10 0 1) s i)) := by
      have := of_ok Z (s := s) (w := 13 + i) (by omega)
      rw [p1] at this
      rw [show (13 : Int32) + nI i = nI (13 + i) from nI_add 13 i]; exact this
    rw [show M12_of Z (nI s) 12 = _ from of_ok Z (s := s) (w := 12) (by omega), bd1_e, hnp.1, if_neg (by rw [nI_leI (by omega) (by omega)]; omega), o13, bd1_e, show M12_of Z (nI (pr (Z 10 0 1) s i)) 21 = _ from of_ok Z (s := pr (Z 10 0 1) s i) (w := 21) (by omega), bd1_e, nI_1, bI_ne]
    have ih2 := ih f (by omega)
    rw [anyB_s] at ih2
    cases c : anyB (oddP (Z 10 0 1) s) i
    · rw [if_neg (by decide)]
      rw [c, Bool.false_or] at ih2
      unfold oddP at ih2
      by_cases e : fld (Z 10 0 1) (pr (Z 10 0 1) s i) 21 = 0
      · rw [if_pos e]
        rw [e] at ih2
        exact ih2
      · rw [if_neg e]
        rw [beq_eq_false_iff_ne.mpr e] at ih2
        exact ih2
    · rw [if_pos rfl]
      rw [c, Bool.true_or] at ih2
      exact ih2
theorem incM_b (Z : Mem) (W : WF (Z 10 0 1)) (v : Int32) : ∀ i, i ≤ nS (Z 10 0 1) → ∀ f, nS (Z 10 0 1) - i < f → M12_inconsistencies_b37 f Z (nI i) (v + nI (cnt (oddS (Z 10 0 1)) i)) = some (v + nI (cnt (oddS (Z 10 0 1)) (nS (Z 10 0 1))), Z) := by
  have h14 := W.2.1
  have e : (13 : Int32) = nI 13 := rfl
  refine upl ?_ ?_
  · intro f f_h
    obtain ⟨f, rfl⟩ := fuel_s f_h
    unfold M12_inconsistencies_b37
    rw [e, gdi (show 13 < 4202 by omega), ix_n (by omega), W.1, if_pos (Int32.le_refl _)]
  · intro i hi ih f f_h
    obtain ⟨f, rfl⟩ := fuel_s f_h
    unfold M12_inconsistencies_b37
    rw [e, gdi (show 13 < 4202 by omega), ix_n (by omega), W.1, if_neg (by rw [nI_leI (by omega) (by omega)]; omega)]
    have h := incM_in Z W hi (k37 := M12_inconsistencies_b37 f) (v + nI (cnt (oddS (Z 10 0 1)) i)) 0 (Nat.zero_le _) FU (by have := FU_big; have := (W.2.2.2.2.1 i hi).2; omega)
    rw [show M12_inconsistencies_b53 (M12_inconsistencies_b37 f) FU Z 0 0 (nI i) (v + nI (cnt (oddS (Z 10 0 1)) i)) = _ from h, Int32.add_assoc, nI_add]
    exact ih f (by omega)
theorem q_inconsistencies {Y : Mem} (hI : Inv Y) : R0 (X11_inconsistencies Y) (M12_inconsistencies Y) := by
  have h14 := nS_le hI
  have hR := Inv_R hI
  obtain ⟨B, hB, -, k, -⟩ := KR_of hI
  have hC := k.2.2.1.2.2.2.1
  have hp : X3_prematureSteps Y 0 = some (nI (cnt (oddS (Y 10 0 1)) (nS (Y 10 0 1)))) := by
    unfold X3_prematureSteps
    exact ever_b hI (B := B) (by omega) hC (r := fun _ => none) (fun x hx => prem_b hI hx 0 (Nat.zero_le _) FU (by have := FU_big; omega)) 0 (Nat.zero_le _) FU 0 (by have := FU_big; omega) (fun k hk => by rw [b_0, decide_eq_false (Nat.not_lt_zero k), Bool.false_and])
  have hb : J6_bitCount_0f7a4 Y (Y 2 0 0 6) = some (nI (wSt (Y 10 0 1) 1)) := setCount_ok Y h14 (fun k hk => (Inv_SB hI k hk).1)
  refine r0p hI (Y 10 0 1 7 - Y 10 0 1 8 - nI (wSt (Y 10 0 1) 1) - Y 10 0 1 11 + nI (cnt (oddS (Y 10 0 1)) (nS (Y 10 0 1)))) ?_ ?_
  · unfold X11_inconsistencies
    rw [gd2 hR.1.1, gd2 hR.1.1, hR.1.2.1, lt_e, sum_ok Y 2 0 4 h14, bd1_e, sum_ok Y 2 0 5 h14, bd1_e, hb, bd1_e, hp, bd1_e, (Inv_T hI).1, (Inv_T hI).2.1, (Inv_StS hI).2.2.2.1]
  · unfold M12_inconsistencies
    have e7 : (7 : Int32) = nI 7 := rfl
    have e8 : (8 : Int32) = nI 8 := rfl
    have e11 : (11 : Int32) = nI 11 := rfl
    have W9 : WF ((up Y 10 0 0 9 0) 10 0 1) := by rw [up9_m]; exact hI.1
    rw [lt_e, wSt_ok _ _ W9, bd1_e, e7, e8, e11, gdi (show 7 < 4202 by omega), gdi (show 8 < 4202 by omega), gdi (show 11 < 4202 by omega), ix_n (show 7 < 2 ^ 31 by omega), ix_n (show 8 < 2 ^ 31 by omega), ix_n (show 11 < 2 ^ 31 by omega), lt_e]
    have h := incM_b (up Y 10 0 0 9 0) W9 ((up Y 10 0 0 9 0) 10 0 1 7 - (up Y 10 0 0 9 0) 10 0 1 8 - nI (wSt ((up Y 10 0 0 9 0) 10 0 1) 1) - (up Y 10 0 0 9 0) 10 0 1 11) 0 (Nat.zero_le _) FU (by rw [up9_m]; have := FU_big; omega)
    rw [show (nI (cnt (oddS ((up Y 10 0 0 9 0) 10 0 1)) 0) : Int32) = 0 from rfl, Int32.add_zero] at h
    refine Eq.trans h ?_
    rw [up9_m]
/-! THE TWO NUMBERS WITH A POINT -/
def R0f {α : Type} (c : Option α) (mo : Option (α × Mem)) : Prop := ∃ r Ym, c = some r ∧ mo = some (r, Ym) ∧ Inv Ym
theorem fl_ok : ∀ a, a < 15 → ∀ b, b < 15 → 0 < b → decide (FP.fdiv (FP.i2f (nI a)) (FP.i2f (nI b)) &&& 0x7fffffff ≤ 0x7f800000) = true := by decide +kernel
theorem steps_ok {Y : Mem} (hI : Inv Y) : X11_stepsToShareBy Y = some (nI (nS (Y 10 0 1))) := by
  have h14 := nS_le hI
  have hR := Inv_R hI
  have h1 : 0 < nS (Y 10 0 1) := hI.2.1
  unfold X11_stepsToShareBy
  rw [gd2 hR.1.1, gd2 hR.1.1, hR.1.2.1]
  by_cases e : nS (Y 10 0 1) = 1
  · rw [e]; rfl
  · rw [if_pos (show (1 : Int32) < nI (nS (Y 10 0 1)) from Int32.lt_iff_toInt_lt.mpr (by rw [nI_toInt (by omega), show (1 : Int32).toInt = 1 by decide]; omega))]
theorem q_doneShare {Y : Mem} (hI : Inv Y) : R0f (X11_doneShare Y) (M12_doneShare Y) := by
  have h14 := nS_le hI
  have hR := Inv_R hI
  have hw := wSt_le (Y 10 0 1) 2
  have hb : J6_bitCount_0f7a4 Y (Y 2 0 0 7) = some (nI (wSt (Y 10 0 1) 2)) := setCount_ok Y h14 (fun k hk => (Inv_SB hI k hk).2.1)
  have hg := fl_ok (wSt (Y 10 0 1) 2) (by omega) (nS (Y 10 0 1)) (by omega) hI.2.1
  refine ⟨FP.fdiv (FP.i2f (nI (wSt (Y 10 0 1) 2))) (FP.i2f (nI (nS (Y 10 0 1)))), up Y 10 0 0 9 0, ?_, ?_, Inv_QM hI (QM_9 _ _)⟩
  · unfold X11_doneShare
    rw [hb, bd1_e, steps_ok hI, bd1_e, gd_t hg]
  · unfold M12_doneShare
    have e : (13 : Int32) = nI 13 := rfl
    rw [lt_e, wSt_ok _ _ (by rw [up9_m]; exact hI.1), bd1_e, e, gdi (show 13 < 4202 by omega), ix_n (show 13 < 2 ^ 31 by omega), up9_m, hI.1.1, gd_t hg]
end
