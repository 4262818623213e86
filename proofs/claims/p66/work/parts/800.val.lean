section
theorem nS_in {Y : Mem} (hI : Inv Y) {s : Nat} (hs : s < nS (Y 10 0 1)) : X11_requireStep Y (nI s) = some () := by
  have hR := Inv_R hI
  have h14 := nS_le hI
  unfold X11_requireStep
  rw [gd2 hR.1.1, gd2 hR.1.1, hR.1.2.1, within_ok, bd1_e, show decide ((0 : Int32) ≤ nI s ∧ nI s ≤ nI (nS (Y 10 0 1)) - 1) = inb (nI s) (nS (Y 10 0 1)) from in_inb _ (by omega), inb_n hs (by omega), bI_t, if_neg (by decide)]
theorem nP_in {Y : Mem} (hI : Inv Y) {q : Nat} (hq : q < nP (Y 10 0 1)) : X11_requirePan Y (nI q) = some () := by
  have hR := Inv_R hI
  have h4 := hI.1.2.2.2.1
  unfold X11_requirePan
  rw [gd2 hR.1.1, gd2 hR.1.1, hR.1.2.2, within_ok, bd1_e, show decide ((0 : Int32) ≤ nI q ∧ nI q ≤ nI (nP (Y 10 0 1)) - 1) = inb (nI q) (nP (Y 10 0 1)) from in_inb _ (by omega), inb_n hq (by omega), bI_t, if_neg (by decide)]
/-! WHAT THE QUERIES ANSWER, over the invariant -/
theorem v_duration {Y : Mem} (hI : Inv Y) {s : Nat} (hs : s < nS (Y 10 0 1)) : X11_duration Y (nI s) = some (fld (Y 10 0 1) s 7) := by
  have h14 := nS_le hI
  unfold X11_duration; rw [nS_in hI hs, bd1_e, gdi (show s < 14 by omega), ix_n (by omega), (Inv_A hI s hs).1]
theorem v_remaining {Y : Mem} (hI : Inv Y) {s : Nat} (hs : s < nS (Y 10 0 1)) : X11_remaining Y (nI s) = some (fld (Y 10 0 1) s 18) := by
  have h14 := nS_le hI
  unfold X11_remaining; rw [nS_in hI hs, bd1_e, gdi (show s < 14 by omega), ix_n (by omega), (Inv_A hI s hs).2.1]
theorem v_age {Y : Mem} (hI : Inv Y) {s : Nat} (hs : s < nS (Y 10 0 1)) : X11_age Y (nI s) = some (fld (Y 10 0 1) s 19) := by
  have h14 := nS_le hI
  unfold X11_age; rw [nS_in hI hs, bd1_e, gdi (show s < 14 by omega), ix_n (by omega), (Inv_A hI s hs).2.2.1]
theorem v_status {Y : Mem} (hI : Inv Y) {s : Nat} (hs : s < nS (Y 10 0 1)) : X11_status Y (nI s) = some (fld (Y 10 0 1) s 17) := by
  have h14 := nS_le hI
  unfold X11_status; rw [nS_in hI hs, bd1_e, statusOf_ok Y h14 (Inv_SB hI) (Inv_S4 hI) hs, bd1_e]
theorem v_stepTaste {Y : Mem} (hI : Inv Y) {s : Nat} (hs : s < nS (Y 10 0 1)) : X11_stepTaste Y (nI s) = some (fld (Y 10 0 1) s 8) := by
  have h14 := nS_le hI
  have hR := Inv_R hI
  unfold X11_stepTaste; rw [nS_in hI hs, bd1_e, gd2 hR.1.1, gdi (show s < 14 by omega), ix_n (by omega), (hR.2.2.2.1 s hs).1]
theorem v_panType {Y : Mem} (hI : Inv Y) {s : Nat} (hs : s < nS (Y 10 0 1)) : X11_panType Y (nI s) = some (fld (Y 10 0 1) s 9) := by
  have h14 := nS_le hI
  have hR := Inv_R hI
  unfold X11_panType; rw [nS_in hI hs, bd1_e, gd2 hR.1.1, gdi (show s < 14 by omega), ix_n (by omega), (hR.2.2.2.1 s hs).2.1]
theorem v_isHot {Y : Mem} (hI : Inv Y) {s : Nat} (hs : s < nS (Y 10 0 1)) : X11_isHot Y (nI s) = some (bI (fld (Y 10 0 1) s 10 == 1)) := by
  have h14 := nS_le hI
  have hR := Inv_R hI
  unfold X11_isHot
  rw [nS_in hI hs, bd1_e, gd2 hR.1.1, contains_ok Y _ (by omega), bd1_e, gd_t (bI_01 _), (hR.2.2.2.2.2.1 s (by omega)).1, decide_eq_true hs, Bool.true_and]
theorem v_isUnattended {Y : Mem} (hI : Inv Y) {s : Nat} (hs : s < nS (Y 10 0 1)) : X11_isUnattended Y (nI s) = some (bI (fld (Y 10 0 1) s 11 == 1)) := by
  have h14 := nS_le hI
  have hR := Inv_R hI
  unfold X11_isUnattended
  rw [nS_in hI hs, bd1_e, gd2 hR.1.1, contains_ok Y _ (by omega), bd1_e, gd_t (bI_01 _), (hR.2.2.2.2.2.1 s (by omega)).2, decide_eq_true hs, Bool.true_and]
theorem v_predecessor {Y : Mem} (hI : Inv Y) {s : Nat} (hs : s < nS (Y 10 0 1)) (b : Int32) : X11_predecessor Y (nI s) b = some (if inb b (np (Y 10 0 1) s) = true then fld (Y 10 0 1) s (13 + ix b) else -1) := by
  have h14 := nS_le hI
  have hR := Inv_R hI
  have W := hI.1
  obtain ⟨p1, p2⟩ := W.2.2.2.2.1 s hs
  have e7 : Y 3 (rg Y 0) 7 s = nI (np (Y 10 0 1) s) := (hR.2.2.2.1 s hs).2.2.1.trans p1
  have hin : decide ((0 : Int32) ≤ b ∧ b ≤ nI (np (Y 10 0 1) s) - 1) = inb b (np (Y 10 0 1) s) := in_inb b (by omega)
  unfold X11_predecessor
  rw [nS_in hI hs, bd1_e, gd2 hR.1.1, gdi (show s < 14 by omega), ix_n (by omega), e7, within_ok, bd1_e, hin]
  by_cases c : inb b (np (Y 10 0 1) s) = true
  · obtain ⟨k, hk, rfl⟩ := inb_dec b c
    rw [c, bI_t, if_neg (by decide), if_pos rfl, gdi (show k < 4 by omega), ix_n (show k < 2 ^ 31 by omega), (hR.2.2.2.1 s hs).2.2.2 k hk]
  · rw [Bool.not_eq_true] at c
    rw [c, bI_f, if_pos rfl, if_neg (by decide)]
/-- the k-th predecessor, or -1 -/
theorem v_pred {Y : Mem} (hI : Inv Y) {s k : Nat} (hs : s < nS (Y 10 0 1)) (hk : k < 4) : X11_predecessor Y (nI s) (nI k) = some (if k < np (Y 10 0 1) s then nI (pr (Y 10 0 1) s k) else -1) := by
  rw [v_predecessor hI hs]
  have p2 := (hI.1.2.2.2.2.1 s hs).2
  by_cases c : k < np (Y 10 0 1) s
  · rw [if_pos c, if_pos (inb_n c (by omega)), ix_n (by omega), (hI.1.2.2.2.2.2.1 s hs k c).1]
  · rw [if_neg c, if_neg (fun q => by
      have := inb_lt q
      rw [ix_n (by omega)] at this
      exact c this)]
theorem v_isTakenUp {Y : Mem} (hI : Inv Y) {s : Nat} (hs : s < nS (Y 10 0 1)) : X11_isTakenUp Y (nI s) = some (bI (isTaken (Y 10 0 1) s)) := by
  have h14 := nS_le hI
  have hR := Inv_R hI
  unfold X11_isTakenUp
  rw [nS_in hI hs, bd1_e, contains_ok Y _ (by omega), bd1_e, bI_ne, (Inv_SB hI s (by omega)).2.1, stB_in hs]
  unfold isTaken
  cases c : (fld (Y 10 0 1) s 17 == 2)
  · rw [if_neg (by decide), Bool.false_and]; rfl
  · rw [if_pos rfl, isCont_ok Y hI.1 hR (Inv_SB hI) hs, bd1_e, bI_ne, Bool.true_and]
    cases hasSucc (Y 10 0 1) s 1 2 <;> rfl
theorem v_panCapacity {Y : Mem} (hI : Inv Y) {q : Nat} (hq : q < nP (Y 10 0 1)) : X11_panCapacity Y (nI q) = some (Y 10 0 1 (14 + q * 8 + 7)) := by
  have hR := Inv_R hI
  have h4 := hI.1.2.2.2.1
  have hin := inb_n (j := q) hq (by omega)
  unfold X11_panCapacity
  rw [nP_in hI hq, bd1_e, gd2 hR.1.1, gdi (show q < 4 by omega), ix_n (by omega), (hR.2.2.1 q hq).1]
theorem v_stepCount {Y : Mem} (hI : Inv Y) : X11_stepCount Y = some (nI (nS (Y 10 0 1))) := by
  have hR := Inv_R hI
  unfold X11_stepCount
  rw [gd2 hR.1.1, gd2 hR.1.1, hR.1.2.1]
theorem v_cooks {Y : Mem} (hI : Inv Y) : X11_cooks Y = some (Y 10 0 1 0) := by
  unfold X11_cooks
  rw [(Inv_StS hI).1]
theorem v_minute {Y : Mem} (hI : Inv Y) : X11_minute Y = some (Y 10 0 1 4) := by
  unfold X11_minute
  rw [(Inv_StS hI).2.1]
theorem v_salt {Y : Mem} (hI : Inv Y) : X11_salt Y = some (Y 10 0 1 5) := by
  unfold X11_salt
  rw [(Inv_StS hI).2.2.1]
theorem v_cookMinutes {Y : Mem} (hI : Inv Y) : X11_cookMinutes Y = some (Y 10 0 1 10) := by
  unfold X11_cookMinutes
  rw [Inv_10 hI]
theorem v_taste {Y : Mem} (hI : Inv Y) : X11_taste Y = some (tst (Y 10 0 1)) := by
  unfold X11_taste; rw [dish_ok hI, bd1_e]
theorem v_whyNotServed {Y : Mem} (hI : Inv Y) : X11_whyNotServed Y = some (srv (Y 10 0 1)) := by
  unfold X11_whyNotServed; rw [serv_ok hI, bd1_e]
theorem v_starts {Y : Mem} (hI : Inv Y) : X11_starts Y = some (Y 10 0 1 7) := by
  have hR := Inv_R hI
  unfold X11_starts
  rw [gd2 hR.1.1, gd2 hR.1.1, hR.1.2.1, sum_ok Y 2 0 4 (nS_le hI), bd1_e, (Inv_T hI).1]
theorem v_completions {Y : Mem} (hI : Inv Y) : X11_completions Y = some (Y 10 0 1 8) := by
  have hR := Inv_R hI
  unfold X11_completions
  rw [gd2 hR.1.1, gd2 hR.1.1, hR.1.2.1, sum_ok Y 2 0 5 (nS_le hI), bd1_e, (Inv_T hI).2.1]
theorem v_burns {Y : Mem} (hI : Inv Y) : X11_burns Y = some (Y 10 0 1 9) := by
  have hR := Inv_R hI
  unfold X11_burns
  rw [gd2 hR.1.1, gd2 hR.1.1, hR.1.2.1, sum_ok Y 2 0 6 (nS_le hI), bd1_e, (Inv_T hI).2.2]
/-- the number of inconsistencies -/
def inc (m : Nat → Int32) : Int32 := m 7 - m 8 - nI (wSt m 1) - m 11 + nI (cnt (oddS m) (nS m))
theorem v_inconsistencies {Y : Mem} (hI : Inv Y) : X11_inconsistencies Y = some (inc (Y 10 0 1)) := by
  have h14 := nS_le hI
  have hR := Inv_R hI
  obtain ⟨B, hB, -, k, -⟩ := KR_of hI
  have hC := k.2.2.1.2.2.2.1
  have hp : X3_prematureSteps Y 0 = some (nI (cnt (oddS (Y 10 0 1)) (nS (Y 10 0 1)))) := by
    unfold X3_prematureSteps
    exact ever_b hI (B := B) (by omega) hC (r := fun _ => none) (fun x hx => prem_b hI hx 0 (Nat.zero_le _) FU (by have := FU_big; omega)) 0 (Nat.zero_le _) FU 0 (by have := FU_big; omega) (fun k hk => by rw [b_0, decide_eq_false (Nat.not_lt_zero k), Bool.false_and])
  have hb : J6_bitCount_0f7a4 Y (Y 2 0 0 6) = some (nI (wSt (Y 10 0 1) 1)) := setCount_ok Y h14 (fun k hk => (Inv_SB hI k hk).1)
  unfold X11_inconsistencies inc
  rw [gd2 hR.1.1, gd2 hR.1.1, hR.1.2.1, lt_e, sum_ok Y 2 0 4 h14, bd1_e, sum_ok Y 2 0 5 h14, bd1_e, hb, bd1_e, hp, bd1_e, (Inv_T hI).1, (Inv_T hI).2.1, (Inv_StS hI).2.2.2.1]
end
