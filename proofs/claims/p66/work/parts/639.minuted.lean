/-! THE CLASS'S MINUTE IS THE MODEL'S: the whole -/
theorem growC {Y : Mem} {g : Nat} {B : Nat → Nat} {m : Nat → Int32} {σ : Nat → Nat → Int32} {x : Int32} (W : WF m) (hR : RR Y (rg Y g) m) (hst : St7 σ m B) (h3 : σ 0 3 = m 10) (hx : ∀ k, k < 32 → bt x k = (decide (k < nS m) && (fld m k 23 == 1))) : ∃ σ', X3_growOld (wS Y g σ) g x = some (wS Y g σ') ∧ CoI m B (nS m) σ' (mCools m 0 (nS m)) := by
  have h14 := W.2.1
  have hrg : rg (wS Y g σ) g = rg Y g := by unfold rg; rw [wS_o (by omega)]
  unfold X3_growOld
  rw [gd2 (show rg (wS Y g σ) g < 2 by rw [hrg]; exact hR.1.1), lt_e]
  have hv : ∀ k, k < nS m → bt (((wS Y g σ) 2 g 0 7 &&& (wS Y g σ) 3 (rg (wS Y g σ) g) 0 15) &&& (x ^^^ (-1))) k = ((fld m k 17 == 2) && (fld m k 10 == 1) && !(fld m k 23 == 1)) := fun k hk => by
    have hk32 : k < 32 := by omega
    rw [b_and, b_and, b_not _ hk32, wS_at, (hst.2.1 k hk32).2.1, stB_in hk, hrg, wS_o (by omega), (hR.2.2.2.2.2.1 k hk32).1, decide_eq_true hk, Bool.true_and, hx k hk32, decide_eq_true hk, Bool.true_and]
  exact growC_b (B := B) (a1 := x) W hR hv (nS m) 0 σ m FU (by omega) (by have := FU_big; omega) ⟨re_refl m, hst, h3, fun _ _ _ _ _ => rfl, fun _ _ _ => rfl⟩
theorem startC {Y : Mem} {g : Nat} {B : Nat → Nat} {m : Nat → Int32} {σ : Nat → Nat → Int32} (W : WF m) (hR : RR Y (rg Y g) m) (hst : St7 σ m B) (h3 : σ 0 3 = m 10) (hO : Rep (Y 1 g 2) (ordR (pth m) (nS m))) : ∃ σ', X3_startSteps (wS Y g σ) g = some (wS Y g σ') ∧ St7 σ' (mMinB m) B ∧ σ' 0 3 = (mMinB m) 10 := by
  have h14 := W.2.1
  have hSB : SB (wS Y g σ) g m := fun k hk => by rw [wS_at]; exact hst.2.1 k hk
  unfold X3_startSteps
  obtain ⟨x, hx, hb⟩ := ready_ok (wS Y g σ) (g := g) W (RR_wS hR) hSB
  rw [hx, bd1_e]
  have hrr : (ordR (pth m) (nS m)).reverse.reverse = ordR (pth m) (nS m) := List.reverse_reverse _
  have hs := startsC (Y := Y) (g := g) (B := B) (m0 := m) (l1 := x) W hR (L := (ordR (pth m) (nS m)).reverse) (by rw [hrr]; exact hO) (by rw [List.length_reverse, ordR_len]) (List.pairwise_reverse.mpr ((ordR_nd _ _).imp Ne.symm)) (fun k hk => by rw [hb k (by omega), decide_eq_true hk, Bool.true_and]) ((ordR (pth m) (nS m)).reverse) [] σ m FU rfl (by rw [List.length_reverse, ordR_len]; have := FU_big; omega) (re_refl m) hst h3 (fun s hs => ⟨ordR_mem.mp (List.mem_reverse.mp hs), rfl⟩)
  obtain ⟨σ', q1, q2, q3⟩ := hs
  have hf : (ordR (pth m) (nS m)).reverse.filter (isReady m) = (qR (isReady m) (pth m) (nS m)).reverse := by
    rw [qR_eq, List.filter_reverse]
  rw [hf] at q2 q3
  exact ⟨σ', q1, q2, q3⟩
theorem minuteC {Y : Mem} {g B : Nat} {m : Nat → Int32} (W : WF m) (hR : RR Y (rg Y g) m) (hst : St7 (Y 2 g) m (fun _ => B)) (h3 : Y 2 g 0 3 = m 10) (h6 : m 6 = 0 ∨ m 6 = 1) (hO : Rep (Y 1 g 2) (ordR (pth m) (nS m))) :
    ∃ σ, X3_runMinute Y g = some (mMin m 8 - m 8, wS Y g σ) ∧ St7 σ (mMin m) (fun _ => B + 1) ∧ σ 0 3 = (mMin m) 10 ∧ (m 6 = 0 → MI (mMinA m)) ∧ (mMin m) 6 = m 6 := by
  have h14 := W.2.1
  unfold X3_runMinute
  rw [hst.1.2.2.2.2]
  rcases h6 with e6 | e6
  · rw [e6, if_pos rfl]
    obtain ⟨σ1, x, q1, q2, q3⟩ := workC W hR hst h3
    rw [q1, bd2_e]
    have hr1 := mWorks_re (nS m) 0 m
    have W1 := re_WF hr1 W
    have hn1 := re_nS hr1
    have hR1 := RR_re W hr1 hR
    have hx1 : ∀ k, k < 32 → bt x k = (decide (k < nS (mWorks m 0 (nS m))) && (fld (mWorks m 0 (nS m)) k 23 == 1)) := fun k hk => by rw [hn1]; exact q2.2.2.2.1 k hk
    obtain ⟨σ2, g1, g2⟩ := growC (Y := Y) (g := g) W1 hR1 q2.2.1 q3 hx1
    rw [g1, bd1_e]
    rw [hn1] at g2
    have eA : mCools (mWorks m 0 (nS m)) 0 (nS m) = mMinA m := rfl
    rw [eA] at g2
    have hrA := mMinA_re m
    have WA := re_WF hrA W
    have hnA := re_nS hrA
    have hOA : Rep (Y 1 g 2) (ordR (pth (mMinA m)) (nS (mMinA m))) := by
      rw [hnA, ordR_congr (fun k => pth_A W k)]; exact hO
    obtain ⟨σ3, s1, s2, s3⟩ := startC (Y := Y) (g := g) WA (RR_re W hrA hR) g2.2.1 g2.2.2.1 hOA
    rw [s1, bd1_e]
    have hmin : mMin m = mTick (mMinB (mMinA m)) := by unfold mMin; rw [if_pos e6]
    unfold X3_runMinute_b26
    have hcx : J6_bitCount_0f7a4 (wS Y g (uo σ3 0 1 (σ3 0 1 + 1))) x = some (nI (cnt (frs (mWorks m 0 (nS m))) (nS m))) := setCount_ok _ (n := nS m) (p := frs (mWorks m 0 (nS m))) h14 (fun k hk => q2.2.2.2.1 k hk)
    rw [wS_at, up_wS, lt_e, hcx, bd1_e]
    have lo8 : (mMin m) 8 = (mWorks m 0 (nS m)) 8 := by
      rw [hmin]
      have t : mTick (mMinB (mMinA m)) 8 = mMinB (mMinA m) 8 := pk_un (by omega)
      rw [t]
      have t2 : mMinB (mMinA m) 8 = mMinA m 8 := mStarts_lo _ _ (by omega) (by omega)
      rw [t2]
      exact g2.2.2.2.2 8 (by omega) (by omega)
    have hcnt : nI (cnt (frs (mWorks m 0 (nS m))) (nS m)) = mMin m 8 - m 8 := by
      have h8 := mWorks_8 (nS m) 0 m
      rw [Nat.zero_add] at h8
      have z : nI (cnt (frs m) 0) = 0 := nI_0
      rw [z, Int32.add_zero] at h8
      rw [lo8, h8, Int32.add_comm (m 8), Int32.add_sub_cancel]
    rw [hcnt]
    have lo6 : (mMin m) 6 = m 6 := by
      rw [hmin]
      have t : mTick (mMinB (mMinA m)) 6 = mMinB (mMinA m) 6 := pk_un (by omega)
      rw [t]
      have t2 : mMinB (mMinA m) 6 = mMinA m 6 := mStarts_lo _ _ (by omega) (by omega)
      rw [t2, g2.2.2.2.2 6 (by omega) (by omega)]
      exact q2.2.2.2.2.2 6 (by omega) (by omega) (by omega)
    refine ⟨_, rfl, ?_, ?_, fun _ => g2.2.1.2.2.2.2.2.1, ?_⟩
    · rw [hmin]
      refine St_tick (St_mono s2 (fun s hs => ?_))
      show (if s < nS m then B + 1 else B) ≤ B + 1
      split <;> omega
    · rw [hmin, uo_o (by omega), s3]
      exact (pk_un (by omega) : mTick (mMinB (mMinA m)) 10 = _).symm
    · rw [lo6, e6]
  · have hne : ¬ m 6 = 0 := by rw [e6]; decide
    rw [if_neg hne]
    have hmin : mMin m = mTick m := by unfold mMin; rw [if_neg hne]
    unfold X3_runMinute_b26
    have hcx : J6_bitCount_0f7a4 (wS Y g (uo (Y 2 g) 0 1 (Y 2 g 0 1 + 1))) 0 = some (nI 0) := by
      rw [bitCount_ok _ (fun i _ _ => b_0 i)]
      rfl
    rw [up_self, lt_e, hcx, bd1_e]
    have l8 : mTick m 8 = m 8 := pk_un (by omega)
    have hz : nI 0 = mMin m 8 - m 8 := by
      rw [hmin, l8]; simp [nI_0]
    rw [hz]
    refine ⟨_, rfl, ?_, ?_, fun q => absurd q hne, ?_⟩
    · rw [hmin]
      exact St_tick (St_mono hst (fun s _ => by omega))
    · rw [hmin, uo_o (by omega), h3]
      exact (pk_un (by omega) : mTick m 10 = _).symm
    · rw [hmin]; exact pk_un (by omega)
