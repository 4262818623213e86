/-! THE CLASS'S MINUTE IS THE MODEL'S -/
theorem mxs_congr {f h : Nat → Bool} {p q : Nat → Nat} : ∀ {n : Nat}, (∀ k, k < n → f k = h k) → (∀ k, k < n → p k = q k) → mxs f p n = mxs h q n := by
  intro n
  induction n with
  | zero => intro _ _; rfl
  | succ n ih =>
    intro h1 h2
    rw [mxs_s, mxs_s, ih (fun k hk => h1 k (by omega)) (fun k hk => h2 k (by omega)), h1 n (by omega), h2 n (by omega)]
theorem pa_eq {m m' : Nat → Int32} (W : WF m) (h : RecEq m m') (h7 : ∀ s, s < nS m → fld m' s 7 = fld m s 7) : ∀ d, d ≤ nS m → ∀ k, pa m' d k = pa m d k := by
  have h14 := W.2.1
  have hn := re_nS h
  intro d
  induction d with
  | zero => intro _ k; rfl
  | succ d ih =>
    intro hd k
    rw [pa_s, pa_s, hn, ih (by omega) k]
    have hs : nS m - (d + 1) < nS m := by omega
    have e1 : dur m' (nS m - (d + 1)) = dur m (nS m - (d + 1)) := by unfold dur; rw [h7 _ hs]
    have e2 : mxs (sucs m' (nS m - (d + 1))) (pa m' d) (nS m) = mxs (sucs m (nS m - (d + 1))) (pa m d) (nS m) := mxs_congr (fun k hk => by
      unfold sucs
      rw [re_isPred h (Nat.lt_of_lt_of_le hk h14) (W.2.2.2.2.1 k hk).2]) (fun k _ => ih (by omega) k)
    rw [e1, e2]
theorem ordR_congr {p q : Nat → Nat} (h : ∀ k, p k = q k) (i : Nat) : ordR p i = ordR q i := by
  have : p = q := funext h
  rw [this]
theorem mWork_7 (m : Nat → Int32) (i k : Nat) : fld (mWork m i) k 7 = fld m k 7 := by
  unfold mWork
  split
  · split
    · rw [mW2_fld _ (by omega), if_neg (by omega), if_neg (by omega), if_neg (by omega), mW1_fld m (by omega), if_neg (by omega), if_neg (by omega)]
    · rw [mW1_fld m (by omega), if_neg (by omega), if_neg (by omega)]
  · rw [fr_fld m 0 (by omega), if_neg (by omega)]
theorem mWorks_7 : ∀ (d i : Nat) (m : Nat → Int32) (k : Nat), fld (mWorks m i d) k 7 = fld m k 7 := by
  intro d
  induction d with
  | zero => intro i m k; rfl
  | succ d ih => intro i m k; exact (ih (i + 1) (mWork m i) k).trans (mWork_7 m i k)
theorem mCool_7 (m : Nat → Int32) (i k : Nat) : fld (mCool m i) k 7 = fld m k 7 := by
  unfold mCool
  split
  · rfl
  · split
    · split
      · rfl
      · split
        · rfl
        · split
          · rw [mC2_fld _ (by omega), if_neg (by omega), if_neg (by omega), if_neg (by omega), mC1_fld m (by omega), if_neg (by omega)]
          · rw [mC1_fld m (by omega), if_neg (by omega)]
    · rfl
theorem mCools_7 : ∀ (d i : Nat) (m : Nat → Int32) (k : Nat), fld (mCools m i d) k 7 = fld m k 7 := by
  intro d
  induction d with
  | zero => intro i m k; rfl
  | succ d ih => intro i m k; exact (ih (i + 1) (mCool m i) k).trans (mCool_7 m i k)
theorem mMinA_7 (m : Nat → Int32) (k : Nat) : fld (mMinA m) k 7 = fld m k 7 := (mCools_7 _ _ _ k).trans (mWorks_7 _ _ _ k)
theorem pth_A {m : Nat → Int32} (W : WF m) (k : Nat) : pth (mMinA m) k = pth m k := by
  unfold pth
  have h := mMinA_re m
  rw [re_nS h]
  exact pa_eq W h (fun s _ => mMinA_7 m s) (nS m) (Nat.le_refl _) k
theorem up_self (Y : Mem) (g o j : Nat) (v : Int32) : up Y 2 g o j v = wS Y g (uo (Y 2 g) o j v) := by
  have := up_wS Y g (Y 2 g) o j v
  rw [wS_self] at this
  exact this
theorem St_03 {σ : Nat → Nat → Int32} {m : Nat → Int32} {B : Nat → Nat} (v : Int32) (h : St7 σ m B) : St7 (uo σ 0 3 v) m B := by
  obtain ⟨⟨a1, a2, a3, a4, a5⟩, hB, hA, hC, ⟨t1, t2, t3⟩, hMI, hS4⟩ := h
  have e : ∀ x, x ≠ 3 → uo σ 0 3 v 0 x = σ 0 x := fun x hx => uo_o (by omega)
  have f : ∀ o, o ≠ 0 → uo σ 0 3 v o = σ o := fun o ho => uo_f ho
  refine ⟨⟨(e 0 (by omega)).trans a1, (e 1 (by omega)).trans a2, (e 2 (by omega)).trans a3, (e 4 (by omega)).trans a4, (e 5 (by omega)).trans a5⟩, ?_, ?_, ?_, ⟨?_, ?_, ?_⟩, hMI, hS4⟩
  · intro k hk
    rw [e 6 (by omega), e 7 (by omega), e 8 (by omega)]; exact hB k hk
  · intro s hs
    rw [f 1 (by omega), f 2 (by omega), f 3 (by omega), f 4 (by omega), f 6 (by omega)]; exact hA s hs
  · intro s hs
    rw [f 5 (by omega)]; exact hC s hs
  · rw [f 4 (by omega)]; exact t1
  · rw [f 5 (by omega)]; exact t2
  · rw [f 6 (by omega)]; exact t3
theorem St_tick {σ : Nat → Nat → Int32} {m : Nat → Int32} {B : Nat → Nat} (h : St7 σ m B) : St7 (uo σ 0 1 (σ 0 1 + 1)) (mTick m) B := by
  obtain ⟨⟨a1, a2, a3, a4, a5⟩, hB, hA, hC, ⟨t1, t2, t3⟩, hMI, hS4⟩ := h
  have e : ∀ x, x ≠ 1 → uo σ 0 1 (σ 0 1 + 1) 0 x = σ 0 x := fun x hx => uo_o (by omega)
  have f : ∀ o, o ≠ 0 → uo σ 0 1 (σ 0 1 + 1) o = σ o := fun o ho => uo_f ho
  have lo : ∀ x, x ≠ 4 → mTick m x = m x := fun x hx => pk_un hx
  have fl : ∀ k w, fld (mTick m) k w = fld m k w := fun k w => fld_upd_lo m _ (by omega)
  have hn := re_nS (mTick_re m)
  refine ⟨⟨?_, ?_, ?_, ?_, ?_⟩, ?_, ?_, ?_, ⟨?_, ?_, ?_⟩, ?_, ?_⟩
  · rw [e 0 (by omega), lo 0 (by omega)]; exact a1
  · rw [uo_s, a2]; exact (pk_us).symm
  · rw [e 2 (by omega), lo 5 (by omega)]; exact a3
  · rw [e 4 (by omega), lo 11 (by omega)]; exact a4
  · rw [e 5 (by omega), lo 6 (by omega)]; exact a5
  · intro k hk
    have s1 : ∀ u, stB (mTick m) u k = stB m u k := fun u => stB_eq hn (fun _ => fl k 17)
    rw [e 6 (by omega), e 7 (by omega), e 8 (by omega), s1, s1, s1]; exact hB k hk
  · intro s hs
    rw [hn] at hs
    rw [f 1 (by omega), f 2 (by omega), f 3 (by omega), f 4 (by omega), f 6 (by omega), fl, fl, fl, fl, fl]; exact hA s hs
  · intro s hs
    rw [hn] at hs
    rw [f 5 (by omega), fl]; exact hC s hs
  · rw [hn, f 4 (by omega), lo 7 (by omega)]; exact t1
  · rw [hn, f 5 (by omega), lo 8 (by omega)]; exact t2
  · rw [hn, f 6 (by omega), lo 9 (by omega)]; exact t3
  · intro s hs
    rw [hn] at hs
    rw [fl, fl, fl, fl]; exact hMI s hs
  · intro s hs
    rw [hn] at hs
    rw [fl]; exact hS4 s hs
theorem St_mono {σ : Nat → Nat → Int32} {m : Nat → Int32} {B C : Nat → Nat} (h : St7 σ m B) (hb : ∀ s, s < nS m → B s ≤ C s) : St7 σ m C := ⟨h.1, h.2.1, h.2.2.1, StC_mono h.2.2.2.1 hb, h.2.2.2.2⟩
theorem workC {Y : Mem} {g B : Nat} {m : Nat → Int32} (W : WF m) (hR : RR Y (rg Y g) m) (hst : St7 (Y 2 g) m (fun _ => B)) (h3 : Y 2 g 0 3 = m 10) : ∃ σ x, X3_work Y g = some (x, wS Y g σ) ∧ WI m B (nS m) σ (mWorks m 0 (nS m)) x ∧ σ 0 3 = (mWorks m 0 (nS m)) 10 := by
  have h14 := W.2.1
  unfold X3_work
  rw [lt_e, gd2 hR.1.1, cookCount_ok Y h14 hR hst.2.1, bd1_e, lt_e, up_self]
  have hW0 : WI m B 0 (uo (Y 2 g) 0 3 (Y 2 g 0 3 + nI (busy m))) m 0 := by
    refine ⟨re_refl m, St_mono (St_03 _ hst) (fun s _ => ?_), fun _ _ _ _ _ => rfl, fun k hk => ?_, ?_, fun _ _ _ _ => rfl⟩
    · show B ≤ (if s < 0 then B + 1 else B)
      split <;> omega
    · rw [b_0, decide_eq_false (by omega)]; rfl
    · show m 10 = m 10 + nI 0
      rw [nI_0, Int32.add_zero]
  obtain ⟨σ, x, q1, q2, q3⟩ := workC_b (Y := Y) (g := g) (B := B) (m0 := m) (v2 := Y 2 g 0 6) h14 hR.1.1 hR.1.2.1 (fun s hs => (hR.2.2.2.2.2.2 s hs).2) (fun k hk => (hst.2.1 k hk).1) (nS m) 0 _ m 0 FU (by omega) (by have := FU_big; omega) hW0
  refine ⟨σ, x, q1, q2, ?_⟩
  rw [q3, uo_s, h3]
  exact q2.2.2.2.2.1.symm
