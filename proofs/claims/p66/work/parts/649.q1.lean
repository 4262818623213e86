section
/-! THE QUERIES: what they need -/
theorem Inv_St {Y : Mem} (hI : Inv Y) : ∃ B, St7 (Y 2 0) (Y 10 0 1) (fun _ => B) := by
  obtain ⟨B, -, -, k, -⟩ := KR_of hI
  exact ⟨B, k.2.2.1⟩
theorem Inv_SB {Y : Mem} (hI : Inv Y) : SB Y 0 (Y 10 0 1) := by
  obtain ⟨B, h⟩ := Inv_St hI
  exact h.2.1
theorem Inv_S4 {Y : Mem} (hI : Inv Y) : S4 (Y 10 0 1) := by
  obtain ⟨B, h⟩ := Inv_St hI
  exact h.2.2.2.2.2.2
theorem Inv_MI {Y : Mem} (hI : Inv Y) : MI (Y 10 0 1) := by
  obtain ⟨B, h⟩ := Inv_St hI
  exact h.2.2.2.2.2.1
theorem Inv_A {Y : Mem} (hI : Inv Y) : StA (Y 2 0) (Y 10 0 1) := by
  obtain ⟨B, h⟩ := Inv_St hI
  exact h.2.2.1
theorem Inv_StS {Y : Mem} (hI : Inv Y) : StS (Y 2 0) (Y 10 0 1) := by
  obtain ⟨B, h⟩ := Inv_St hI
  exact h.1
theorem Inv_T {Y : Mem} (hI : Inv Y) : StT (Y 2 0) (Y 10 0 1) := by
  obtain ⟨B, h⟩ := Inv_St hI
  exact h.2.2.2.2.1
theorem Inv_6 {Y : Mem} (hI : Inv Y) : Y 10 0 1 6 = 0 ∨ Y 10 0 1 6 = 1 := hI.2.2.2.1.2.2.2
theorem Inv_10 {Y : Mem} (hI : Inv Y) : Y 2 0 0 3 = Y 10 0 1 10 := hI.2.2.2.1.2.2.1
theorem Inv_R {Y : Mem} (hI : Inv Y) : RR Y (rg Y 0) (Y 10 0 1) := hI.2.2.1
theorem rS_in {Y : Mem} (hI : Inv Y) {s : Nat} (hs : s < nS (Y 10 0 1)) : T11_requireStep Y (nI s) = some (.inr Y) := by
  rw [req_ok hI, if_pos (inb_n hs (by have := nS_le hI; omega))]
theorem rS_out {Y : Mem} (hI : Inv Y) {a : Int32} (h : inb a (nS (Y 10 0 1)) = false) : T11_requireStep Y a = some (.inl (3, Y)) := by
  rw [req_ok hI, h, if_neg (by decide)]
theorem sS_in {Y : Mem} (hI : Inv Y) {s : Nat} (hs : s < nS (Y 10 0 1)) : M12_isStep Y (nI s) = some 1 := by
  rw [isS_ok hI, inb_n hs (by have := nS_le hI; omega)]; rfl
theorem sS_out {Y : Mem} (hI : Inv Y) {a : Int32} (h : inb a (nS (Y 10 0 1)) = false) : M12_isStep Y a = some 0 := by
  rw [isS_ok hI, h]; rfl
theorem q3 {Y : Mem} (hI : Inv Y) (a : Int32) {c : Option ((Nat × Mem) ⊕ (Int32 × Mem))} {mo : Mem → Option (Int32 × Mem)} (h1 : ∀ s, s < nS (Y 10 0 1) → a = nI s → ∃ r Yc Ym, c = some (.inr (r, Yc)) ∧ mo Yc = some (r, Ym) ∧ Ym 10 0 0 9 = 0 ∧ Inv Ym) (h2 : inb a (nS (Y 10 0 1)) = false → c = some (.inl (3, Y)) ∧ ∃ b, mo Y = some (b, up Y 10 0 0 9 1)) : R1 c mo c3 := by
  by_cases h : inb a (nS (Y 10 0 1)) = true
  · obtain ⟨s, hs, e⟩ := inb_dec a h
    obtain ⟨r, Yc, Ym, q1, q2, q3, q4⟩ := h1 s hs e
    exact Or.inr ⟨r, Yc, q1, Ym, q2, q3, q4⟩
  · rw [Bool.not_eq_true] at h
    obtain ⟨q1, b, q2⟩ := h2 h
    exact Or.inl ⟨3, Y, q1, by decide, b, _, q2, up9_9 _ _, Inv_QM hI (QM_9 _ _)⟩
theorem q3s {Y : Mem} (hI : Inv Y) (a : Int32) {c : Option ((Nat × Mem) ⊕ (Int32 × Mem))} {mo : Mem → Option (Int32 × Mem)} (h1 : ∀ s, s < nS (Y 10 0 1) → a = nI s → ∃ r, c = some (.inr (r, Y)) ∧ mo Y = some (r, up Y 10 0 0 9 0)) (h2 : inb a (nS (Y 10 0 1)) = false → c = some (.inl (3, Y)) ∧ ∃ b, mo Y = some (b, up Y 10 0 0 9 1)) : R1 c mo c3 :=
  q3 hI a (fun s hs e => by
    obtain ⟨r, q1, q2⟩ := h1 s hs e
    exact ⟨r, Y, _, q1, q2, up9_9 _ _, Inv_QM hI (QM_9 _ _)⟩) h2
theorem fieldM_in {Y : Mem} (hI : Inv Y) {s w : Nat} (hs : s < nS (Y 10 0 1)) (hw : w < 24) : M12_field Y (nI s) (nI w) = some (fld (Y 10 0 1) s w, up Y 10 0 0 9 0) := by
  have h14 := nS_le hI
  unfold M12_field M12_field_b14
  rw [sS_in hI hs, bd1_e, if_neg (by decide), fails_000, bd2_e, if_pos rfl, of_ok _ (by omega), bd1_e, up9_m]
theorem fieldM_out {Y : Mem} (hI : Inv Y) {a : Int32} (w : Int32) (h : inb a (nS (Y 10 0 1)) = false) : M12_field Y a w = some (0, up Y 10 0 0 9 1) := by
  unfold M12_field M12_field_b14
  rw [sS_out hI h, bd1_e, if_pos rfl, fails_1, bd2_e, if_neg (by decide)]
theorem qfield {Y : Mem} (hI : Inv Y) (a : Int32) {w : Nat} (hw : w < 24) {c : Option ((Nat × Mem) ⊕ (Int32 × Mem))} (h1 : ∀ s, s < nS (Y 10 0 1) → a = nI s → c = some (.inr (fld (Y 10 0 1) s w, Y))) (h2 : inb a (nS (Y 10 0 1)) = false → c = some (.inl (3, Y))) : R1 c (fun Y => bd2 (M12_field Y a (nI w)) fun r Z => some (r, Z)) c3 :=
  q3s hI a (fun s hs e => ⟨_, h1 s hs e, by subst e; show bd2 (M12_field Y (nI s) (nI w)) _ = _; rw [fieldM_in hI hs hw, bd2_e]⟩) (fun h => ⟨h2 h, 0, by show bd2 (M12_field Y a (nI w)) _ = _; rw [fieldM_out hI _ h, bd2_e]⟩)
theorem q_duration {Y : Mem} (hI : Inv Y) (a : Int32) : R1 (T11_duration Y a) (fun Y => M12_duration Y a) c3 := by
  have h14 := nS_le hI
  refine qfield hI a (w := 7) (by omega) (fun s hs e => ?_) (fun h => ?_)
  · subst e; unfold T11_duration; rw [rS_in hI hs, bdxv_r, gdi (show s < 14 by omega), ix_n (by omega), (Inv_A hI s hs).1]
  · unfold T11_duration; rw [rS_out hI h, bdxv_l]
theorem q_remaining {Y : Mem} (hI : Inv Y) (a : Int32) : R1 (T11_remaining Y a) (fun Y => M12_remaining Y a) c3 := by
  have h14 := nS_le hI
  refine qfield hI a (w := 18) (by omega) (fun s hs e => ?_) (fun h => ?_)
  · subst e; unfold T11_remaining; rw [rS_in hI hs, bdxv_r, gdi (show s < 14 by omega), ix_n (by omega), (Inv_A hI s hs).2.1]
  · unfold T11_remaining; rw [rS_out hI h, bdxv_l]
theorem q_age {Y : Mem} (hI : Inv Y) (a : Int32) : R1 (T11_age Y a) (fun Y => M12_age Y a) c3 := by
  have h14 := nS_le hI
  refine qfield hI a (w := 19) (by omega) (fun s hs e => ?_) (fun h => ?_)
  · subst e; unfold T11_age; rw [rS_in hI hs, bdxv_r, gdi (show s < 14 by omega), ix_n (by omega), (Inv_A hI s hs).2.2.1]
  · unfold T11_age; rw [rS_out hI h, bdxv_l]
theorem q_startsOf {Y : Mem} (hI : Inv Y) (a : Int32) : R1 (T11_startsOf Y a) (fun Y => M12_startsOf Y a) c3 := by
  have h14 := nS_le hI
  refine qfield hI a (w := 20) (by omega) (fun s hs e => ?_) (fun h => ?_)
  · subst e; unfold T11_startsOf; rw [rS_in hI hs, bdxv_r, gdi (show s < 14 by omega), ix_n (by omega), (Inv_A hI s hs).2.2.2.1]
  · unfold T11_startsOf; rw [rS_out hI h, bdxv_l]
theorem q_status {Y : Mem} (hI : Inv Y) (a : Int32) : R1 (T11_status Y a) (fun Y => M12_status Y a) c3 := by
  have h14 := nS_le hI
  refine qfield hI a (w := 17) (by omega) (fun s hs e => ?_) (fun h => ?_)
  · subst e; unfold T11_status; rw [rS_in hI hs, bdxv_r, statusOf_ok Y h14 (Inv_SB hI) (Inv_S4 hI) hs, bd1_e]
  · unfold T11_status; rw [rS_out hI h, bdxv_l]
theorem q_stepTaste {Y : Mem} (hI : Inv Y) (a : Int32) : R1 (T11_stepTaste Y a) (fun Y => M12_stepTaste Y a) c3 := by
  have h14 := nS_le hI
  have hR := Inv_R hI
  refine qfield hI a (w := 8) (by omega) (fun s hs e => ?_) (fun h => ?_)
  · subst e; unfold T11_stepTaste; rw [rS_in hI hs, bdxv_r, gd2 hR.1.1, gdi (show s < 14 by omega), ix_n (by omega), (hR.2.2.2.1 s hs).1]
  · unfold T11_stepTaste; rw [rS_out hI h, bdxv_l]
theorem q_panType {Y : Mem} (hI : Inv Y) (a : Int32) : R1 (T11_panType Y a) (fun Y => M12_panType Y a) c3 := by
  have h14 := nS_le hI
  have hR := Inv_R hI
  refine qfield hI a (w := 9) (by omega) (fun s hs e => ?_) (fun h => ?_)
  · subst e; unfold T11_panType; rw [rS_in hI hs, bdxv_r, gd2 hR.1.1, gdi (show s < 14 by omega), ix_n (by omega), (hR.2.2.2.1 s hs).2.1]
  · unfold T11_panType; rw [rS_out hI h, bdxv_l]
theorem if_b1 {x : Int32} {Z : Mem} : (if x = 1 then some ((1 : Int32), Z) else some (0, Z)) = some (bI (x == 1), Z) := by
  by_cases e : x = 1
  · rw [if_pos e, beq_iff_eq.mpr e]; rfl
  · rw [if_neg e, beq_eq_false_iff_ne.mpr e]; rfl
theorem q_isHot {Y : Mem} (hI : Inv Y) (a : Int32) : R1 (T11_isHot Y a) (fun Y => M12_isHot Y a) c3 := by
  have h14 := nS_le hI
  have hR := Inv_R hI
  refine q3s hI a (fun s hs e => ?_) (fun h => ?_)
  · subst e
    refine ⟨bI (fld (Y 10 0 1) s 10 == 1), ?_, ?_⟩
    · unfold T11_isHot
      rw [rS_in hI hs, bdxv_r, gd2 hR.1.1, contains_ok Y _ (by omega), bd1_e, gd_t (bI_01 _), (hR.2.2.2.2.2.1 s (by omega)).1, decide_eq_true hs, Bool.true_and]
    · show M12_isHot Y (nI s) = _
      unfold M12_isHot
      rw [show M12_field Y (nI s) 10 = _ from fieldM_in hI hs (w := 10) (by omega), bd2_e, if_b1]
  · refine ⟨?_, 0, ?_⟩
    · unfold T11_isHot; rw [rS_out hI h, bdxv_l]
    · show M12_isHot Y a = _
      unfold M12_isHot; rw [fieldM_out hI _ h, bd2_e, if_neg (by decide)]
theorem q_isUnattended {Y : Mem} (hI : Inv Y) (a : Int32) : R1 (T11_isUnattended Y a) (fun Y => M12_isUnattended Y a) c3 := by
  have h14 := nS_le hI
  have hR := Inv_R hI
  refine q3s hI a (fun s hs e => ?_) (fun h => ?_)
  · subst e
    refine ⟨bI (fld (Y 10 0 1) s 11 == 1), ?_, ?_⟩
    · unfold T11_isUnattended
      rw [rS_in hI hs, bdxv_r, gd2 hR.1.1, contains_ok Y _ (by omega), bd1_e, gd_t (bI_01 _), (hR.2.2.2.2.2.1 s (by omega)).2, decide_eq_true hs, Bool.true_and]
    · show M12_isUnattended Y (nI s) = _
      unfold M12_isUnattended
      rw [show M12_field Y (nI s) 11 = _ from fieldM_in hI hs (w := 11) (by omega), bd2_e, if_b1]
  · refine ⟨?_, 0, ?_⟩
    · unfold T11_isUnattended; rw [rS_out hI h, bdxv_l]
    · show M12_isUnattended Y a = _
      unfold M12_isUnattended; rw [fieldM_out hI _ h, bd2_e, if_neg (by decide)]
theorem q_predecessor {Y : Mem} (hI : Inv Y) (a b : Int32) : R1 (T11_predecessor Y a b) (fun Y => M12_predecessor Y a b) c3 := by
  have h14 := nS_le hI
  have hR := Inv_R hI
  have W := hI.1
  refine q3s hI a (fun s hs e => ?_) (fun h => ?_)
  · subst e
    obtain ⟨p1, p2⟩ := W.2.2.2.2.1 s hs
    have e7 : Y 3 (rg Y 0) 7 s = nI (np (Y 10 0 1) s) := (hR.2.2.2.1 s hs).2.2.1.trans p1
    have hin : decide ((0 : Int32) ≤ b ∧ b ≤ nI (np (Y 10 0 1) s) - 1) = inb b (np (Y 10 0 1) s) := in_inb b (by omega)
    refine ⟨if inb b (np (Y 10 0 1) s) = true then fld (Y 10 0 1) s (13 + ix b) else -1, ?_, ?_⟩
    · unfold T11_predecessor
      rw [rS_in hI hs, bdxv_r, gd2 hR.1.1, gdi (show s < 14 by omega), ix_n (by omega), e7, within_ok, bd1_e, hin]
      by_cases c : inb b (np (Y 10 0 1) s) = true
      · obtain ⟨k, hk, rfl⟩ := inb_dec b c
        rw [c, bI_t, if_neg (by decide), if_pos rfl, gdi (show k < 4 by omega), ix_n (show k < 2 ^ 31 by omega), (hR.2.2.2.1 s hs).2.2.2 k hk]
      · rw [Bool.not_eq_true] at c
        rw [c, bI_f, if_pos rfl, if_neg (by decide)]
    · show M12_predecessor Y (nI s) b = _
      unfold M12_predecessor M12_predecessor_b14
      rw [sS_in hI hs, bd1_e, if_neg (by decide), fails_000, bd2_e, if_pos rfl]
      rw [show M12_of (up Y 10 0 0 9 0) (nI s) 12 = _ from of_ok _ (s := s) (w := 12) (by omega), bd1_e, up9_m, p1, in_ok, bd1_e, hin]
      by_cases c : inb b (np (Y 10 0 1) s) = true
      · obtain ⟨k, hk, rfl⟩ := inb_dec b c
        rw [c, bI_t, if_neg (by decide), if_pos rfl]
        rw [show (13 : Int32) + nI k = nI (13 + k) from nI_add 13 k, of_ok _ (by omega), bd1_e, up9_m, ix_n (show k < 2 ^ 31 by omega)]
      · rw [Bool.not_eq_true] at c
        rw [c, bI_f, if_pos rfl, if_neg (by decide)]
  · refine ⟨?_, 0, ?_⟩
    · unfold T11_predecessor; rw [rS_out hI h, bdxv_l]
    · show M12_predecessor Y a b = _
      unfold M12_predecessor M12_predecessor_b14
      rw [sS_out hI h, bd1_e, if_pos rfl, fails_1, bd2_e, if_neg (by decide)]
theorem succM_b (Z : Mem) {s : Nat} (W : WF (Z 10 0 1)) (hs : s < nS (Z 10 0 1)) : ∀ i, i ≤ nS (Z 10 0 1) → ∀ f, nS (Z 10 0 1) - i < f → M12_successors_b6 Z (nI s) f (nI i) (nI (cnt (isPred (Z 10 0 1) s) i)) = some (nI (cnt (isPred (Z 10 0 1) s) (nS (Z 10 0 1)))) := by
  have h14 := W.2.1
  have e : (13 : Int32) = nI 13 := rfl
  refine upl ?_ ?_
  · intro f f_h
    obtain ⟨f, rfl⟩ := fuel_s f_h
    unfold M12_successors_b6
    rw [e, gdi (show 13 < 4202 by omega), ix_n (by omega), W.1, if_pos (Int32.le_refl _)]
  · intro i hi ih f f_h
    obtain ⟨f, rfl⟩ := fuel_s f_h
    unfold M12_successors_b6
    rw [e, gdi (show 13 < 4202 by omega), ix_n (by omega), W.1, if_neg (by rw [nI_leI (by omega) (by omega)]; omega), isPred_ok Z W hi (by omega), bd1_e, bI_ne]
    have hk : ∀ v, M12_successors_b32 Z (nI s) (M12_successors_b6 Z (nI s) f) (nI i) (nI v) (nI (cnt (isPred (Z 10 0 1) s) i)) = M12_successors_b6 Z (nI s) f (nI (i + 1)) (nI (cnt (isPred (Z 10 0 1) s) i + v)) := by
      intro v
      unfold M12_successors_b32
      rw [lt_e, nI_1, nI_add]
    have ih2 := ih f (by omega)
    rw [cnt_s] at ih2
    cases c : isPred (Z 10 0 1) s i
    · rw [if_neg (by decide)]
      rw [c, if_neg (by decide)] at ih2
      exact (hk 0).trans ih2
    · rw [if_pos rfl]
      rw [c, if_pos rfl] at ih2
      exact (hk 1).trans ih2
theorem succM_ok (Z : Mem) {s : Nat} (W : WF (Z 10 0 1)) (hs : s < nS (Z 10 0 1)) : M12_successors Z (nI s) = some (nI (cnt (isPred (Z 10 0 1) s) (nS (Z 10 0 1)))) := by
  have h14 := W.2.1
  unfold M12_successors
  rw [nI_1, lt_e]
  have h := succM_b Z W hs (s + 1) (by omega) FU (by have := FU_big; omega)
  rw [cnt_0.mpr (fun i hi => by
    cases c : isPred (Z 10 0 1) s i
    · rfl
    · have := isPred_lt W (by omega) c
      omega)] at h
  exact h
theorem q_successorCount {Y : Mem} (hI : Inv Y) (a : Int32) : R1 (T11_successorCount Y a) (fun Y => M12_successorCount Y a) c3 := by
  have h14 := nS_le hI
  have hR := Inv_R hI
  refine q3s hI a (fun s hs e => ?_) (fun h => ?_)
  · subst e
    refine ⟨nI (cnt (isPred (Y 10 0 1) s) (nS (Y 10 0 1))), ?_, ?_⟩
    · unfold T11_successorCount
      rw [rS_in hI hs, bdxv_r, gd2 hR.1.1, gdi (show s < 14 by omega), ix_n (by omega), setCount_ok Y h14 (fun k hk => (hR.2.2.2.2.1 s hs k hk).2), bd1_e]
    · show M12_successorCount Y (nI s) = _
      unfold M12_successorCount M12_successorCount_b14
      rw [sS_in hI hs, bd1_e, if_neg (by decide), fails_000, bd2_e, if_pos rfl, succM_ok _ (by rw [up9_m]; exact hI.1) (by rw [up9_m]; exact hs), bd1_e, up9_m]
  · refine ⟨?_, 0, ?_⟩
    · unfold T11_successorCount; rw [rS_out hI h, bdxv_l]
    · show M12_successorCount Y a = _
      unfold M12_successorCount M12_successorCount_b14
      rw [sS_out hI h, bd1_e, if_pos rfl, fails_1, bd2_e, if_neg (by decide)]
theorem q_pathLength {Y : Mem} (hI : Inv Y) (a : Int32) : R1 (T11_pathLength Y a) (fun Y => M12_pathLength Y a) c3 := by
  have h14 := nS_le hI
  refine q3 hI a (fun s hs e => ?_) (fun h => ?_)
  · subst e
    obtain ⟨B, -, -, k, -⟩ := KR_of hI
    obtain ⟨p, q, r1, -, -, r4⟩ := KR_rank k
    have hQ : QC Y (upR (upR Y 1 0 1 p) 1 0 2 q) := QC_trans (QC_upR1 Y 0 (by omega) p) (QC_upR1 _ 0 (by omega) q)
    have hIc := Inv_QC hI hQ
    have e10 := QC_lo hQ
    obtain ⟨p2, m1, m2⟩ := paths_ok (up (upR (upR Y 1 0 1 p) 1 0 2 q) 10 0 0 9 0) (by rw [up9_m]; exact hIc.1) (by rw [up9_m]; exact Inv_MI hIc)
    rw [up9_m, e10] at m2
    have hN : QN (up (upR (upR Y 1 0 1 p) 1 0 2 q) 10 0 0 9 0) (upR (up (upR (upR Y 1 0 1 p) 1 0 2 q) 10 0 0 9 0) 10 0 5 p2) := fun k g o h => upR_o (by omega)
    have hQS := QS_QN hN (fun x _ => by rw [upR_o (by omega)])
    refine ⟨nI (pth (Y 10 0 1) s), upR (upR Y 1 0 1 p) 1 0 2 q, _, ?_, ?_, (QS_9 hQS).2, Inv_QM hIc (QS_9 hQS).1⟩
    · unfold T11_pathLength
      rw [rS_in hI hs, bdxv_r, r1, bd1_e, gdi (show s < 14 by omega), ix_n (by omega)]
      have : (upR (upR Y 1 0 1 p) 1 0 2 q) 1 0 1 s = nI (pth (Y 10 0 1) s) := by
        rw [upR_o (by omega), upR_at]; exact r4 s hs
      rw [this]
    · show M12_pathLength _ (nI s) = _
      unfold M12_pathLength M12_pathLength_b14
      rw [sS_in hIc (by rw [e10]; exact hs), bd1_e, if_neg (by decide), fails_000, bd2_e, if_pos rfl, m1, bd1_e, gdi (show s < 14 by omega), ix_n (by omega), upR_at, m2 s hs]
  · refine ⟨?_, 0, ?_⟩
    · unfold T11_pathLength; rw [rS_out hI h, bdxv_l]
    · show M12_pathLength Y a = _
      unfold M12_pathLength M12_pathLength_b14
      rw [sS_out hI h, bd1_e, if_pos rfl, fails_1, bd2_e, if_neg (by decide)]
theorem q_isTakenUp {Y : Mem} (hI : Inv Y) (a : Int32) : R1 (T11_isTakenUp Y a) (fun Y => M12_isTakenUp Y a) c3 := by
  have h14 := nS_le hI
  have hR := Inv_R hI
  refine q3s hI a (fun s hs e => ?_) (fun h => ?_)
  · subst e
    refine ⟨bI (isTaken (Y 10 0 1) s), ?_, ?_⟩
    · unfold T11_isTakenUp
      rw [rS_in hI hs, bdxv_r, contains_ok Y _ (by omega), bd1_e, bI_ne, (Inv_SB hI s (by omega)).2.1, stB_in hs]
      unfold isTaken
      cases c : (fld (Y 10 0 1) s 17 == 2)
      · rw [if_neg (by decide), Bool.false_and]; rfl
      · rw [if_pos rfl, isCont_ok Y hI.1 hR (Inv_SB hI) hs, bd1_e, bI_ne, Bool.true_and]
        cases hasSucc (Y 10 0 1) s 1 2 <;> rfl
    · show M12_isTakenUp Y (nI s) = _
      unfold M12_isTakenUp M12_isTakenUp_b14
      rw [sS_in hI hs, bd1_e, if_neg (by decide), fails_000, bd2_e, if_pos rfl, isTaken_ok _ (by rw [up9_m]; exact hI.1) (by rw [up9_m]; exact hs), bd1_e, gd_t (bI_01 _), up9_m]
  · refine ⟨?_, 0, ?_⟩
    · unfold T11_isTakenUp; rw [rS_out hI h, bdxv_l]
    · show M12_isTakenUp Y a = _
      unfold M12_isTakenUp M12_isTakenUp_b14
      rw [sS_out hI h, bd1_e, if_pos rfl, fails_1, bd2_e, if_neg (by decide)]
/-! why a step is not running -/
def rsn (m : Nat → Int32) (s : Nat) : Int32 := if fld m s 17 = 1 then 0 else if fld m s 17 = 2 then 1 else if (fOpen m s).isNone = false then 2 else if hasPan m s = false then 3 else if hasCook m s = true then 5 else 4
theorem rsn_ok (Z : Mem) {s : Nat} (W : WF (Z 10 0 1)) (hs : s < nS (Z 10 0 1)) : M12_reasonFor Z (nI s) = some (rsn (Z 10 0 1) s) := by
  have h14 := W.2.1
  unfold M12_reasonFor rsn
  rw [show M12_of Z (nI s) 17 = _ from of_ok Z (s := s) (w := 17) (by omega), bd1_e]
  by_cases e1 : fld (Z 10 0 1) s 17 = 1
  · rw [if_pos e1, if_pos e1]
  · rw [if_neg e1, if_neg e1, bd1_e]
    by_cases e2 : fld (Z 10 0 1) s 17 = 2
    · rw [if_pos e2, if_pos e2]
    · rw [if_neg e2, if_neg e2, firstOpen_ok Z W hs, bd1_e]
      have hn := oI_none (o := fOpen (Z 10 0 1) s) (fun i hi => by have := fOpen_lt W hs i hi; omega)
      cases c : (fOpen (Z 10 0 1) s).isNone
      · rw [if_neg (fun q => by rw [hn.mp q] at c; cases c), if_pos rfl]
      · rw [if_pos (hn.mpr c), if_neg (by decide), hasPan_ok Z W hs, bd1_e, bI_ne]
        cases hp : hasPan (Z 10 0 1) s
        · rw [if_neg (by decide), if_pos rfl]
        · rw [if_pos rfl, if_neg (by decide), hasCook_ok Z W hs, bd1_e, bI_ne]
          cases hasCook (Z 10 0 1) s <;> rfl
theorem obs_ok {Y : Mem} (hI : Inv Y) {s : Nat} (hs : s < nS (Y 10 0 1)) : X3_obstacle Y 0 (nI s) = some (rsn (Y 10 0 1) s) :=
  obstacle_ok Y hI.1 (Inv_R hI) (Inv_SB hI) (Inv_S4 hI) (Inv_StS hI).1 hs
theorem q_whyNotRunning {Y : Mem} (hI : Inv Y) (a : Int32) : R1 (T11_whyNotRunning Y a) (fun Y => M12_whyNotRunning Y a) c3 := by
  refine q3s hI a (fun s hs e => ?_) (fun h => ?_)
  · subst e
    refine ⟨rsn (Y 10 0 1) s, ?_, ?_⟩
    · unfold T11_whyNotRunning
      rw [rS_in hI hs, bdxv_r, obs_ok hI hs, bd1_e]
    · show M12_whyNotRunning Y (nI s) = _
      unfold M12_whyNotRunning M12_whyNotRunning_b14
      rw [sS_in hI hs, bd1_e, if_neg (by decide), fails_000, bd2_e, if_pos rfl, rsn_ok _ (by rw [up9_m]; exact hI.1) (by rw [up9_m]; exact hs), bd1_e, up9_m]
  · refine ⟨?_, 0, ?_⟩
    · unfold T11_whyNotRunning; rw [rS_out hI h, bdxv_l]
    · show M12_whyNotRunning Y a = _
      unfold M12_whyNotRunning M12_whyNotRunning_b14
      rw [sS_out hI h, bd1_e, if_pos rfl, fails_1, bd2_e, if_neg (by decide)]
end
