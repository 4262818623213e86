/-! THE MINUTE -/
def mMinA (m : Nat → Int32) : Nat → Int32 := mCools (mWorks m 0 (nS m)) 0 (nS m)
def mMinB (b : Nat → Int32) : Nat → Int32 := mStarts b ((qR (isReady b) (pth b) (nS b)).reverse)
def mTick (c : Nat → Int32) : Nat → Int32 := upd c 4 (c 4 + 1)
def mMin (m : Nat → Int32) : Nat → Int32 := if m 6 = 0 then mTick (mMinB (mMinA m)) else mTick m
theorem mCool_re (m : Nat → Int32) (s : Nat) : RecEq m (mCool m s) := by
  unfold mCool
  split
  · exact re_refl m
  · split
    · split
      · exact re_refl m
      · split
        · exact re_refl m
        · split
          · exact re_trans (mC1_re m s) (mC2_re _ s)
          · exact mC1_re m s
    · exact re_refl m
theorem mCools_re : ∀ (d i : Nat) (m : Nat → Int32), RecEq m (mCools m i d) := by
  intro d
  induction d with
  | zero => intro i m; exact re_refl m
  | succ d ih => intro i m; exact re_trans (mCool_re m i) (ih (i + 1) (mCool m i))
theorem mMinA_re (m : Nat → Int32) : RecEq m (mMinA m) := re_trans (mWorks_re _ _ _) (mCools_re _ _ _)
theorem mMinB_re (b : Nat → Int32) : RecEq b (mMinB b) := mStarts_re _ _
theorem mTick_re (c : Nat → Int32) : RecEq c (mTick c) := re_upd (re_refl c) (by decide)
theorem mMin_re (m : Nat → Int32) : RecEq m (mMin m) := by
  unfold mMin
  split
  · exact re_trans (re_trans (mMinA_re m) (mMinB_re _)) (mTick_re _)
  · exact mTick_re m
theorem workM_b (Y : Mem) {n : Nat} (h14 : n ≤ 14) : ∀ d i m f, i + d = n → d < f → m 13 = nI n → (∀ s, RecEq m (mWork m s)) → M12_passMinute_b12 f (upR Y 10 0 1 m) (nI i) = M12_passMinute_b36 FU (upR Y 10 0 1 (mWorks m i d)) 0 := by
  intro d
  induction d with
  | zero =>
    intro i m f hi f_h h13 _
    obtain ⟨f, rfl⟩ := fuel_s f_h
    unfold M12_passMinute_b12
    simp (disch := omega) only [gdi, ix_n, litI]
    rw [upR_at, h13, if_pos (by rw [nI_leI (by omega) (by omega)]; omega)]
    rfl
  | succ d ih =>
    intro i m f hi f_h h13 _
    obtain ⟨f, rfl⟩ := fuel_s f_h
    unfold M12_passMinute_b12
    simp (disch := omega) only [gdi, ix_n, litI]
    rw [upR_at, h13, if_neg (by rw [nI_leI (by omega) (by omega)]; omega), work_ok _ (by omega), bd1_e, upR_at, upR_upR, nI_add]
    have hr := mWork_re m i
    exact ih (i + 1) (mWork m i) f (by omega) (by omega) (by rw [hr 13 (by omega) (by decide)]; exact h13) (fun s => mWork_re _ s)
theorem coolM_b (Y : Mem) {n : Nat} (h14 : n ≤ 14) : ∀ d i m f, i + d = n → d < f → WF m → nS m = n → M12_passMinute_b36 f (upR Y 10 0 1 m) (nI i) = bd2 (M12_queueReady (upR Y 10 0 1 (mCools m i d))) fun r10 Y12 => M12_passMinute_b65 FU Y12 0 r10 := by
  intro d
  induction d with
  | zero =>
    intro i m f hi f_h W hn
    obtain ⟨f, rfl⟩ := fuel_s f_h
    unfold M12_passMinute_b36
    simp (disch := omega) only [gdi, ix_n, litI]
    rw [upR_at, W.1, hn, if_pos (by rw [nI_leI (by omega) (by omega)]; omega)]
    rfl
  | succ d ih =>
    intro i m f hi f_h W hn
    obtain ⟨f, rfl⟩ := fuel_s f_h
    unfold M12_passMinute_b36
    simp (disch := omega) only [gdi, ix_n, litI]
    have hc := cool_ok (upR Y 10 0 1 m) (s := i) (by rw [upR_at]; exact W) (by rw [upR_at]; omega)
    rw [upR_at, upR_upR] at hc
    rw [upR_at, W.1, hn, if_neg (by rw [nI_leI (by omega) (by omega)]; omega), hc, bd1_e, nI_add]
    have hr := mCool_re m i
    have := ih (i + 1) (mCool m i) f (by omega) (by omega) (re_WF hr W) (by rw [re_nS hr]; exact hn)
    rw [this]
    simp only [litI]
    rfl
theorem tickM (Y : Mem) (c : Nat → Int32) : M12_passMinute_b86 (upR Y 10 0 1 c) = some (upR Y 10 0 1 (mTick c)) := by
  unfold M12_passMinute_b86 mTick
  simp (disch := omega) only [gdi, ix_n, litI, lt_e, upR_at, up_upR]
theorem upR_swap (Y : Mem) {o o' : Nat} (h : ¬ o' = o) (f f' : Nat → Int32) : upR (upR Y 10 0 o f) 10 0 o' f' = upR (upR Y 10 0 o' f') 10 0 o f := by
  funext k g o2
  unfold upR
  by_cases e1 : k = 10 ∧ g = 0 ∧ o2 = o
  · have : ¬ (k = 10 ∧ g = 0 ∧ o2 = o') := fun q => h (by rw [← q.2.2, ← e1.2.2])
    rw [if_neg this, if_pos e1, if_pos e1]
  · rw [if_neg e1, if_neg e1]
theorem minuteM (Y : Mem) (W : WF (Y 10 0 1)) (hMb : (Y 10 0 1) 6 = 0 → MI (mMinA (Y 10 0 1))) : ∃ Y', M12_passMinute Y = some Y' ∧ Y' 10 0 1 = mMin (Y 10 0 1) ∧ ∀ k g o, ¬ (k = 10 ∧ g = 0 ∧ (o = 1 ∨ o = 5 ∨ o = 8)) → Y' k g o = Y k g o := by
  have h14 := W.2.1
  unfold M12_passMinute mMin
  have hl6 : gd (inb 6 4202) (if Y 10 0 1 (ix 6) = 0 then M12_passMinute_b12 FU Y 0 else M12_passMinute_b86 Y) = if (Y 10 0 1) 6 = 0 then M12_passMinute_b12 FU Y 0 else M12_passMinute_b86 Y := by
    have e : (6 : Int32) = nI 6 := rfl
    rw [e, gdi (show 6 < 4202 by omega), ix_n (by omega)]
  rw [hl6]
  have hself : upR Y 10 0 1 (Y 10 0 1) = Y := upR_self Y 10 0 1
  by_cases c : (Y 10 0 1) 6 = 0
  · rw [if_pos c, if_pos c]
    have hw := workM_b Y h14 (nS (Y 10 0 1)) 0 (Y 10 0 1) FU (by omega) (by have := FU_big; omega) W.1 (fun s => mWork_re _ s)
    rw [hself] at hw
    have e0 : (0 : Int32) = nI 0 := rfl
    rw [e0, hw, e0]
    have hr1 := mWorks_re (nS (Y 10 0 1)) 0 (Y 10 0 1)
    have hc := coolM_b Y h14 (nS (Y 10 0 1)) 0 (mWorks (Y 10 0 1) 0 (nS (Y 10 0 1))) FU (by omega) (by have := FU_big; omega) (re_WF hr1 W) (re_nS hr1)
    rw [hc]
    show ∃ Y', bd2 (M12_queueReady (upR Y 10 0 1 (mMinA (Y 10 0 1)))) _ = some Y' ∧ _
    have hrA := mMinA_re (Y 10 0 1)
    have WA := re_WF hrA W
    have hnA := re_nS hrA
    obtain ⟨p, q, h1, h2⟩ := queue_ok (upR Y 10 0 1 (mMinA (Y 10 0 1))) (by rw [upR_at]; exact WA) (by rw [upR_at]; exact hMb c)
    rw [upR_at] at h1 h2
    rw [h1, bd2_e]
    generalize hQ : qR (isReady (mMinA (Y 10 0 1))) (pth (mMinA (Y 10 0 1))) (nS (mMinA (Y 10 0 1))) = Q at h1 h2
    have hmem : ∀ s ∈ Q, s < nS (mMinA (Y 10 0 1)) := fun s hs => by rw [← hQ] at hs; exact (qR_mem.mp hs).1
    have hlen : Q.length ≤ 14 := by rw [← hQ]; exact Nat.le_trans (qR_len _ _ _) (by omega)
    have ez : upR (upR (upR Y 10 0 1 (mMinA (Y 10 0 1))) 10 0 5 p) 10 0 8 q = upR (upR (upR Y 10 0 5 p) 10 0 8 q) 10 0 1 (mMinA (Y 10 0 1)) := by
      rw [upR_swap Y (show ¬ 5 = 1 by omega), upR_swap _ (show ¬ 8 = 1 by omega)]
    have hs := startsM (upR (upR Y 10 0 5 p) 10 0 8 q) (Q := Q.reverse) (by rw [upR_at, List.reverse_reverse]; exact h2) Q.reverse [] (mMinA (Y 10 0 1)) FU rfl (by rw [List.length_reverse]; exact hlen) (by rw [List.length_reverse]; have := FU_big; omega) WA (fun s hs => hmem s (List.mem_reverse.mp hs))
    rw [List.length_reverse] at hs
    rw [ez]
    have hs2 : M12_passMinute_b65 FU (upR (upR (upR Y 10 0 5 p) 10 0 8 q) 10 0 1 (mMinA (Y 10 0 1))) 0 (nI Q.length) = M12_passMinute_b86 (upR (upR (upR Y 10 0 5 p) 10 0 8 q) 10 0 1 (mStarts (mMinA (Y 10 0 1)) Q.reverse)) := hs
    rw [hs2, tickM]
    refine ⟨_, rfl, ?_, fun k g o hk => ?_⟩
    · rw [upR_at]
      unfold mMinB
      rw [hQ]
    · rw [upR_o (by omega), upR_o (by omega), upR_o (by omega)]
  · rw [if_neg c, if_neg c]
    have ht := tickM Y (Y 10 0 1)
    rw [hself] at ht
    rw [ht]
    exact ⟨_, rfl, upR_at _ _ _ _ _, fun k g o hk => upR_o (by omega)⟩
/-! the completions of a minute -/
theorem mWork_fld23 (m : Nat → Int32) {i k : Nat} (h : k ≠ i) : fld (mWork m i) k 23 = fld m k 23 := by
  unfold mWork
  split
  · split
    · rw [mW2_fld _ (by omega), if_neg (by omega), if_neg (by omega), if_neg (by omega), mW1_fld m (by omega), if_neg (by omega), if_neg (by omega)]
    · rw [mW1_fld m (by omega), if_neg (by omega), if_neg (by omega)]
  · rw [fr_fld m 0 (by omega), if_neg (by omega)]
theorem mWork_8 (m : Nat → Int32) (i : Nat) : (mWork m i) 8 = m 8 + nI (if (fld (mWork m i) i 23 == 1) = true then 1 else 0) := by
  unfold mWork
  split
  · split
    · have e : fld (mW2 (mW1 m i) i) i 23 = 1 := by rw [mW2_fld _ (by omega), if_neg (by omega), if_neg (by omega), if_pos ⟨rfl, Or.inr rfl⟩]
      rw [e, mW2_lo _ (by omega), if_pos rfl, mW1_lo m (by omega), if_neg (by omega)]; rfl
    · have e : fld (mW1 m i) i 23 = 0 := by rw [mW1_fld m (by omega), if_pos ⟨rfl, rfl⟩]
      rw [e, mW1_lo m (by omega), if_neg (by omega)]
      show m 8 = m 8 + nI 0
      rw [nI_0, Int32.add_zero]
  · have e : fld (upd m (46 + i * 24 + 23) 0) i 23 = 0 := by rw [fr_fld m 0 (by omega), if_pos ⟨rfl, rfl⟩]
    rw [e, lo_upd m 0 (by omega)]
    show m 8 = m 8 + nI 0
    rw [nI_0, Int32.add_zero]
def frs (m : Nat → Int32) (k : Nat) : Bool := fld m k 23 == 1
theorem mWorks_8 : ∀ (d i : Nat) (m : Nat → Int32), (mWorks m i d) 8 + nI (cnt (frs m) i) = m 8 + nI (cnt (frs (mWorks m i d)) (i + d)) := by
  intro d
  induction d with
  | zero => intro i m; rfl
  | succ d ih =>
    intro i m
    have h1 := ih (i + 1) (mWork m i)
    have e1 : cnt (frs (mWork m i)) (i + 1) = cnt (frs m) i + (if frs (mWork m i) i = true then 1 else 0) := by
      rw [cnt_s]
      congr 1
      exact cnt_congr fun k hk => by unfold frs; rw [mWork_fld23 m (by omega)]
    have e2 : (mWork m i) 8 = m 8 + nI (if frs (mWork m i) i = true then 1 else 0) := mWork_8 m i
    show (mWorks (mWork m i) (i + 1) d) 8 + nI (cnt (frs m) i) = m 8 + nI (cnt (frs (mWorks (mWork m i) (i + 1) d)) (i + (d + 1)))
    have e3 : i + (d + 1) = i + 1 + d := by omega
    rw [e3]
    rw [e1, e2, ← nI_add, Int32.add_comm (nI (cnt (frs m) i)), ← Int32.add_assoc] at h1
    generalize hz : nI (if frs (mWork m i) i = true then 1 else 0) = z at h1
    generalize (mWorks (mWork m i) (i + 1) d) 8 = a at h1 ⊢
    generalize nI (cnt (frs m) i) = b at h1 ⊢
    generalize nI (cnt (frs (mWorks (mWork m i) (i + 1) d)) (i + 1 + d)) = c at h1 ⊢
    have h2 : (a + b) + z = (m 8 + c) + z := by
      rw [Int32.add_assoc, Int32.add_comm b z, ← Int32.add_assoc, h1, Int32.add_assoc, Int32.add_comm z c, ← Int32.add_assoc]
    have h3 := congrArg (fun t => t - z) h2
    simpa using h3
theorem mStart_lo (m : Nat → Int32) (s : Nat) {x : Nat} (hx : x < 46) (h7 : x ≠ 7) : mStart m s x = m x := by
  unfold mStart
  split
  · split
    · rw [mSt1_lo m hx, if_neg h7]
    · rfl
  · rfl
theorem mStarts_lo : ∀ (l : List Nat) (m : Nat → Int32) {x : Nat}, x < 46 → x ≠ 7 → mStarts m l x = m x := by
  intro l
  induction l with
  | nil => intro m x _ _; rfl
  | cons s l ih => intro m x hx h7; rw [mStarts_c, ih _ hx h7, mStart_lo m s hx h7]
