section
/-! CHANGES OF A STATE: cooks, salt, served; a duration; a stop, a redo -/
theorem lo3_re (m : Nat → Int32) {w : Nat} (v : Int32) (hw : w = 0 ∨ w = 5 ∨ w = 6) : RecEq m (upd m w v) := re_upd (re_refl m) (by rcases hw with rfl | rfl | rfl <;> rfl)
theorem St_low {σ : Nat → Nat → Int32} {m : Nat → Int32} {B : Nat → Nat} {x w : Nat} (v : Int32) (hx : (x = 0 ∧ w = 0) ∨ (x = 2 ∧ w = 5) ∨ (x = 5 ∧ w = 6)) (h : St7 σ m B) : St7 (uo σ 0 x v) (upd m w v) B := by
  obtain ⟨⟨a1, a2, a3, a4, a5⟩, hB, hA, hC, ⟨t1, t2, t3⟩, hMI, hS4⟩ := h
  have e : ∀ y, y ≠ x → uo σ 0 x v 0 y = σ 0 y := fun y hy => uo_o (by omega)
  have f : ∀ o, o ≠ 0 → uo σ 0 x v o = σ o := fun o ho => uo_f ho
  have lo : ∀ y, y ≠ w → upd m w v y = m y := fun y hy => pk_un hy
  have fl : ∀ k u, fld (upd m w v) k u = fld m k u := fun k u => fld_upd_lo m _ (by omega)
  have hn : nS (upd m w v) = nS m := re_nS (lo3_re m v (by omega))
  refine ⟨⟨?_, ?_, ?_, ?_, ?_⟩, ?_, ?_, ?_, ⟨?_, ?_, ?_⟩, ?_, ?_⟩
  · by_cases q : x = 0
    · have : w = 0 := by omega
      subst q; subst this; rw [uo_s, pk_us]
    · rw [e 0 (by omega), lo 0 (by omega)]; exact a1
  · rw [e 1 (by omega), lo 4 (by omega)]; exact a2
  · by_cases q : x = 2
    · have : w = 5 := by omega
      subst q; subst this; rw [uo_s, pk_us]
    · rw [e 2 (by omega), lo 5 (by omega)]; exact a3
  · rw [e 4 (by omega), lo 11 (by omega)]; exact a4
  · by_cases q : x = 5
    · have : w = 6 := by omega
      subst q; subst this; rw [uo_s, pk_us]
    · rw [e 5 (by omega), lo 6 (by omega)]; exact a5
  · intro k hk
    have s1 : ∀ u, stB (upd m w v) u k = stB m u k := fun u => stB_eq hn (fun _ => fl k 17)
    rw [e 6 (by omega), e 7 (by omega), e 8 (by omega), s1, s1, s1]; exact hB k hk
  · intro s hs
    rw [hn] at hs
    rw [f 1 (by omega), f 2 (by omega), f 3 (by omega), f 4 (by omega), f 6 (by omega), fl, fl, fl, fl, fl]; exact hA s hs
  · intro s hs
    rw [hn] at hs
    rw [f 5 (by omega), fl]; exact hC s hs
  · rw [hn, f 4 (by omega), lo 7 (by omega)]; exact t1
  · rw [hn, f 5 (by omega), lo 8 (by omega)]; exact t2
  · rw [hn, f 6 (by omega), lo 9 (by omega)]; exact t3
  · intro s hs
    rw [hn] at hs
    rw [fl, fl, fl, fl]; exact hMI s hs
  · intro s hs
    rw [hn] at hs
    rw [fl]; exact hS4 s hs
theorem St_dur {σ : Nat → Nat → Int32} {m : Nat → Int32} {B : Nat → Nat} {i d : Nat} (hd : 1 ≤ d ∧ d ≤ 60) (h : St7 σ m B) : St7 (uo σ 1 i (nI d)) (upd m (46 + i * 24 + 7) (nI d)) B := by
  obtain ⟨⟨a1, a2, a3, a4, a5⟩, hB, hA, hC, ⟨t1, t2, t3⟩, hMI, hS4⟩ := h
  have e : ∀ o, o ≠ 1 → uo σ 1 i (nI d) o = σ o := fun o ho => uo_f ho
  have lo : ∀ y, y < 46 → upd m (46 + i * 24 + 7) (nI d) y = m y := fun y hy => lo_upd m _ hy
  have fl : ∀ k u, u < 24 → ¬ (k = i ∧ u = 7) → fld (upd m (46 + i * 24 + 7) (nI d)) k u = fld m k u := fun k u hu hk => fld_upd_o m _ (by omega) hu hk
  have f7 : fld (upd m (46 + i * 24 + 7) (nI d)) i 7 = nI d := fld_upd_same m i 7 _
  have hn : nS (upd m (46 + i * 24 + 7) (nI d)) = nS m := re_nS (re_up _ (Or.inl rfl))
  refine ⟨⟨?_, ?_, ?_, ?_, ?_⟩, ?_, ?_, ?_, ⟨?_, ?_, ?_⟩, ?_, ?_⟩
  · rw [e 0 (by omega), lo 0 (by omega)]; exact a1
  · rw [e 0 (by omega), lo 4 (by omega)]; exact a2
  · rw [e 0 (by omega), lo 5 (by omega)]; exact a3
  · rw [e 0 (by omega), lo 11 (by omega)]; exact a4
  · rw [e 0 (by omega), lo 6 (by omega)]; exact a5
  · intro k hk
    have s1 : ∀ u, stB (upd m (46 + i * 24 + 7) (nI d)) u k = stB m u k := fun u => stB_eq hn (fun _ => fl k 17 (by omega) (by omega))
    rw [e 0 (by omega), s1, s1, s1]; exact hB k hk
  · intro s hs
    rw [hn] at hs
    rw [e 2 (by omega), e 3 (by omega), e 4 (by omega), e 6 (by omega), fl s 18 (by omega) (by omega), fl s 19 (by omega) (by omega), fl s 20 (by omega) (by omega), fl s 22 (by omega) (by omega)]
    refine ⟨?_, (hA s hs).2⟩
    by_cases q : s = i
    · subst q; rw [f7, uo_s]
    · rw [uo_o (by omega), fl s 7 (by omega) (by omega)]; exact (hA s hs).1
  · intro s hs
    rw [hn] at hs
    rw [e 5 (by omega), fl s 21 (by omega) (by omega)]; exact hC s hs
  · rw [hn, e 4 (by omega), lo 7 (by omega)]; exact t1
  · rw [hn, e 5 (by omega), lo 8 (by omega)]; exact t2
  · rw [hn, e 6 (by omega), lo 9 (by omega)]; exact t3
  · intro s hs
    rw [hn] at hs
    have q := hMI s hs
    rw [fl s 17 (by omega) (by omega), fl s 18 (by omega) (by omega), fl s 19 (by omega) (by omega)]
    refine ⟨q.1, q.2.1, ?_⟩
    by_cases q2 : s = i
    · subst q2; exact ⟨d, f7, hd.1, hd.2⟩
    · rw [fl s 7 (by omega) (by omega)]; exact q.2.2
  · intro s hs
    rw [hn] at hs
    rw [fl s 17 (by omega) (by omega)]; exact hS4 s hs
def sHalt (σ : Nat → Nat → Int32) (s : Nat) : Nat → Nat → Int32 := uo (uo (uo σ 0 6 (σ 0 6 &&& (sBit s ^^^ (-1)))) 2 s 0) 0 4 (σ 0 4 + 1)
theorem halt_ok (Y : Mem) (g : Nat) {s : Nat} (hs : s < 14) : X8_halt Y g (nI s) = some (Y 2 g 2 s, wS Y g (sHalt (Y 2 g) s)) := by
  unfold X8_halt
  rw [gdi hs, lt_e, lt_e, lt_e, lt_e, ix_n (by omega), up_self Y g 0 6, up_wS, wS_at, up_wS]
  rw [show uo (uo (Y 2 g) 0 6 (Y 2 g 0 6 &&& (1 <<< (nI s &&& 31) ^^^ -1))) 2 s 0 0 4 = Y 2 g 0 4 from by rw [uo_f (by omega), uo_o (by omega)]]
  rfl
def sDisc (σ : Nat → Nat → Int32) (s : Nat) : Nat → Nat → Int32 := uo (uo σ 0 7 (σ 0 7 &&& (sBit s ^^^ (-1)))) 3 s 0
theorem disc_ok (Y : Mem) (g : Nat) {s : Nat} (hs : s < 14) : X8_discard Y g (nI s) = some (Y 2 g 3 s, wS Y g (sDisc (Y 2 g) s)) := by
  unfold X8_discard
  rw [gdi hs, lt_e, lt_e, lt_e, ix_n (by omega), up_self Y g 0 7, up_wS]
  rfl
def mHalt (m : Nat → Int32) (s : Nat) : Nat → Int32 :=
  let a := upd m (46 + s * 24 + 17) 0
  let b := upd a (46 + s * 24 + 18) 0
  upd b 11 (b 11 + 1)
def mDisc (m : Nat → Int32) (s : Nat) : Nat → Int32 :=
  let a := upd m (46 + s * 24 + 17) 0
  upd a (46 + s * 24 + 19) 0
theorem stopIt_ok (Y : Mem) {s : Nat} (hs : s < 14) : M12_stopIt Y (nI s) = some (fld (Y 10 0 1) s 18, upR Y 10 0 1 (mHalt (Y 10 0 1) s)) := by
  unfold M12_stopIt
  simp only [litI]
  rw [of_ok _ (by omega), bd1_e, set_ok _ _ (by omega), bd1_e, set_ok _ _ (by omega), bd1_e, gdi (show 11 < 4202 by omega), lt_e, ix_n (by omega), upR_at, upR_upR, upR_at, up_upR]
  rfl
theorem redoIt_ok (Y : Mem) {s : Nat} (hs : s < 14) : M12_redoIt Y (nI s) = some (fld (Y 10 0 1) s 19, upR Y 10 0 1 (mDisc (Y 10 0 1) s)) := by
  unfold M12_redoIt
  simp only [litI]
  rw [of_ok _ (by omega), bd1_e, set_ok _ _ (by omega), bd1_e, set_ok _ _ (by omega), bd1_e, upR_at, upR_upR]
  rfl
theorem mHalt_fld (m : Nat → Int32) {s k w : Nat} (hw : w < 24) : fld (mHalt m s) k w = if k = s ∧ (w = 17 ∨ w = 18) then 0 else fld m k w := by
  unfold mHalt
  rw [fld_upd_lo _ _ (by omega)]
  by_cases e : k = s
  · subst e
    by_cases e18 : w = 18
    · subst e18; rw [fld_upd_same, if_pos ⟨rfl, Or.inr rfl⟩]
    · rw [fld_upd_o _ _ (by omega) hw (by omega)]
      by_cases e17 : w = 17
      · subst e17; rw [fld_upd_same, if_pos ⟨rfl, Or.inl rfl⟩]
      · rw [fld_upd_o _ _ (by omega) hw (by omega), if_neg (by omega)]
  · rw [fld_upd_o _ _ (by omega) hw (by omega), fld_upd_o _ _ (by omega) hw (by omega), if_neg (by omega)]
theorem mHalt_lo (m : Nat → Int32) {s x : Nat} (hx : x < 46) : mHalt m s x = if x = 11 then m 11 + 1 else m x := by
  unfold mHalt
  by_cases e : x = 11
  · subst e; rw [pk_us, lo_upd _ _ (by omega), lo_upd _ _ (by omega), if_pos rfl]
  · rw [pk_un e, lo_upd _ _ hx, lo_upd _ _ hx, if_neg e]
theorem mHalt_re (m : Nat → Int32) (s : Nat) : RecEq m (mHalt m s) := by
  unfold mHalt
  exact re_upd (re_trans (re_up _ (by omega)) (re_up _ (by omega))) rfl
theorem mDisc_fld (m : Nat → Int32) {s k w : Nat} (hw : w < 24) : fld (mDisc m s) k w = if k = s ∧ (w = 17 ∨ w = 19) then 0 else fld m k w := by
  unfold mDisc
  by_cases e : k = s
  · subst e
    by_cases e18 : w = 19
    · subst e18; rw [fld_upd_same, if_pos ⟨rfl, Or.inr rfl⟩]
    · rw [fld_upd_o _ _ (by omega) hw (by omega)]
      by_cases e17 : w = 17
      · subst e17; rw [fld_upd_same, if_pos ⟨rfl, Or.inl rfl⟩]
      · rw [fld_upd_o _ _ (by omega) hw (by omega), if_neg (by omega)]
  · rw [fld_upd_o _ _ (by omega) hw (by omega), fld_upd_o _ _ (by omega) hw (by omega), if_neg (by omega)]
theorem mDisc_lo (m : Nat → Int32) {s x : Nat} (hx : x < 46) : mDisc m s x = m x := by
  unfold mDisc
  rw [lo_upd _ _ hx, lo_upd _ _ hx]
theorem mDisc_re (m : Nat → Int32) (s : Nat) : RecEq m (mDisc m s) := by
  unfold mDisc
  exact re_trans (re_up _ (by omega)) (re_up _ (by omega))
theorem St_halt {σ : Nat → Nat → Int32} {m : Nat → Int32} {B : Nat → Nat} {i : Nat} (h14 : nS m ≤ 14) (h : St7 σ m B) (hi : i < nS m) (h17 : fld m i 17 = 1) : St7 (sHalt σ i) (mHalt m i) B := by
  obtain ⟨⟨a1, a2, a3, a4, a5⟩, hB, hA, hC, ⟨t1, t2, t3⟩, hMI, hS4⟩ := h
  have hn2 := re_nS (mHalt_re m i)
  have c6 : sHalt σ i 0 6 = (σ 0 6 &&& (sBit i ^^^ (-1))) := by unfold sHalt; rw [uo_o (by omega), uo_f (by omega), uo_s]
  have c4 : sHalt σ i 0 4 = σ 0 4 + 1 := by unfold sHalt; rw [uo_s]
  have c0 : ∀ x, x ≠ 6 → x ≠ 4 → sHalt σ i 0 x = σ 0 x := fun x h1 h2 => by unfold sHalt; rw [uo_o (by omega), uo_f (by omega), uo_o (by omega)]
  have co : ∀ o, o ≠ 0 → o ≠ 2 → sHalt σ i o = σ o := fun o h1 h2 => by unfold sHalt; rw [uo_f h1, uo_f h2, uo_f h1]
  have c2 : sHalt σ i 2 = upd (σ 2) i 0 := by unfold sHalt; rw [uo_f (by omega), uo_u, uo_f (by omega)]
  have f1 : ∀ k w, w < 24 → ¬ (k = i ∧ (w = 17 ∨ w = 18)) → fld (mHalt m i) k w = fld m k w := fun k w hw h3 => by rw [mHalt_fld m hw, if_neg h3]
  have g17 : fld (mHalt m i) i 17 = 0 := by rw [mHalt_fld m (by omega), if_pos ⟨rfl, Or.inl rfl⟩]
  have g18 : fld (mHalt m i) i 18 = 0 := by rw [mHalt_fld m (by omega), if_pos ⟨rfl, Or.inr rfl⟩]
  have lo : ∀ x, x < 46 → x ≠ 11 → mHalt m i x = m x := fun x h1 h2 => by rw [mHalt_lo m h1, if_neg h2]
  refine ⟨⟨?_, ?_, ?_, ?_, ?_⟩, ?_, ?_, ?_, ⟨?_, ?_, ?_⟩, ?_, ?_⟩
  · rw [c0 0 (by omega) (by omega), lo 0 (by omega) (by omega)]; exact a1
  · rw [c0 1 (by omega) (by omega), lo 4 (by omega) (by omega)]; exact a2
  · rw [c0 2 (by omega) (by omega), lo 5 (by omega) (by omega)]; exact a3
  · rw [c4, mHalt_lo m (by omega), if_pos rfl, a4]
  · rw [c0 5 (by omega) (by omega), lo 6 (by omega) (by omega)]; exact a5
  · intro k hk2
    have q := hB k hk2
    rw [c6, c0 7 (by omega) (by omega), c0 8 (by omega) (by omega), b_and, b_not _ hk2, b_bit (by omega) hk2, q.1, q.2.1, q.2.2]
    by_cases e : k = i
    · subst e
      have s1 : ∀ u, stB (mHalt m k) u k = (0 == u) := fun u => by rw [stB_in (by omega), g17]
      rw [s1, s1, s1, decide_eq_true rfl, stB_in (by omega), stB_in (by omega), stB_in (by omega), h17]
      exact ⟨rfl, rfl, rfl⟩
    · have s1 : ∀ u, stB (mHalt m i) u k = stB m u k := fun u => stB_eq hn2 (fun q => f1 k 17 (by omega) (by omega))
      rw [s1, s1, s1, decide_eq_false e]
      exact ⟨by simp, rfl, rfl⟩
  · intro s hs
    rw [hn2] at hs
    have q := hA s hs
    rw [co 1 (by omega) (by omega), co 3 (by omega) (by omega), co 4 (by omega) (by omega), co 6 (by omega) (by omega), c2, f1 s 7 (by omega) (by omega), f1 s 19 (by omega) (by omega), f1 s 20 (by omega) (by omega), f1 s 22 (by omega) (by omega)]
    refine ⟨q.1, ?_, q.2.2⟩
    by_cases e : s = i
    · subst e; rw [pk_us, g18]
    · rw [pk_un e, f1 s 18 (by omega) (by omega)]; exact q.2.1
  · intro s hs
    rw [hn2] at hs
    rw [co 5 (by omega) (by omega), f1 s 21 (by omega) (by omega)]; exact hC s hs
  · rw [hn2, lo 7 (by omega) (by omega), co 4 (by omega) (by omega)]; exact t1
  · rw [hn2, lo 8 (by omega) (by omega), co 5 (by omega) (by omega)]; exact t2
  · rw [hn2, lo 9 (by omega) (by omega), co 6 (by omega) (by omega)]; exact t3
  · intro s hs
    rw [hn2] at hs
    have q := hMI s hs
    rw [f1 s 19 (by omega) (by omega), f1 s 7 (by omega) (by omega)]
    by_cases e : s = i
    · subst e
      refine ⟨fun h => ?_, fun _ => q.2.1 (by rw [h17]; decide), q.2.2⟩
      rw [g17] at h; exact absurd h (by decide)
    · rw [f1 s 17 (by omega) (by omega), f1 s 18 (by omega) (by omega)]
      exact q
  · intro s hs
    rw [hn2] at hs
    by_cases e : s = i
    · subst e; rw [g17]; exact Or.inl rfl
    · rw [f1 s 17 (by omega) (by omega)]; exact hS4 s hs
theorem St_disc {σ : Nat → Nat → Int32} {m : Nat → Int32} {B : Nat → Nat} {i : Nat} (h14 : nS m ≤ 14) (h : St7 σ m B) (hi : i < nS m) (h17 : fld m i 17 = 2) : St7 (sDisc σ i) (mDisc m i) B := by
  obtain ⟨⟨a1, a2, a3, a4, a5⟩, hB, hA, hC, ⟨t1, t2, t3⟩, hMI, hS4⟩ := h
  have hn2 := re_nS (mDisc_re m i)
  have c7 : sDisc σ i 0 7 = (σ 0 7 &&& (sBit i ^^^ (-1))) := by unfold sDisc; rw [uo_f (by omega), uo_s]
  have c0 : ∀ x, x ≠ 7 → sDisc σ i 0 x = σ 0 x := fun x h1 => by unfold sDisc; rw [uo_f (by omega), uo_o (by omega)]
  have co : ∀ o, o ≠ 0 → o ≠ 3 → sDisc σ i o = σ o := fun o h1 h2 => by unfold sDisc; rw [uo_f h2, uo_f h1]
  have c2 : sDisc σ i 3 = upd (σ 3) i 0 := by unfold sDisc; rw [uo_u, uo_f (by omega)]
  have f1 : ∀ k w, w < 24 → ¬ (k = i ∧ (w = 17 ∨ w = 19)) → fld (mDisc m i) k w = fld m k w := fun k w hw h3 => by rw [mDisc_fld m hw, if_neg h3]
  have g17 : fld (mDisc m i) i 17 = 0 := by rw [mDisc_fld m (by omega), if_pos ⟨rfl, Or.inl rfl⟩]
  have g19 : fld (mDisc m i) i 19 = 0 := by rw [mDisc_fld m (by omega), if_pos ⟨rfl, Or.inr rfl⟩]
  have lo : ∀ x, x < 46 → mDisc m i x = m x := fun x h1 => mDisc_lo m h1
  refine ⟨⟨?_, ?_, ?_, ?_, ?_⟩, ?_, ?_, ?_, ⟨?_, ?_, ?_⟩, ?_, ?_⟩
  · rw [c0 0 (by omega), lo 0 (by omega)]; exact a1
  · rw [c0 1 (by omega), lo 4 (by omega)]; exact a2
  · rw [c0 2 (by omega), lo 5 (by omega)]; exact a3
  · rw [c0 4 (by omega), lo 11 (by omega)]; exact a4
  · rw [c0 5 (by omega), lo 6 (by omega)]; exact a5
  · intro k hk2
    have q := hB k hk2
    rw [c7, c0 6 (by omega), c0 8 (by omega), b_and, b_not _ hk2, b_bit (by omega) hk2, q.1, q.2.1, q.2.2]
    by_cases e : k = i
    · subst e
      have s1 : ∀ u, stB (mDisc m k) u k = (0 == u) := fun u => by rw [stB_in (by omega), g17]
      rw [s1, s1, s1, decide_eq_true rfl, stB_in (by omega), stB_in (by omega), stB_in (by omega), h17]
      exact ⟨rfl, rfl, rfl⟩
    · have s1 : ∀ u, stB (mDisc m i) u k = stB m u k := fun u => stB_eq hn2 (fun q => f1 k 17 (by omega) (by omega))
      rw [s1, s1, s1, decide_eq_false e]
      exact ⟨rfl, by simp, rfl⟩
  · intro s hs
    rw [hn2] at hs
    have q := hA s hs
    rw [co 1 (by omega) (by omega), co 2 (by omega) (by omega), co 4 (by omega) (by omega), co 6 (by omega) (by omega), c2, f1 s 7 (by omega) (by omega), f1 s 18 (by omega) (by omega), f1 s 20 (by omega) (by omega), f1 s 22 (by omega) (by omega)]
    refine ⟨q.1, q.2.1, ?_, q.2.2.2⟩
    by_cases e : s = i
    · subst e; rw [pk_us, g19]
    · rw [pk_un e, f1 s 19 (by omega) (by omega)]; exact q.2.2.1
  · intro s hs
    rw [hn2] at hs
    rw [co 5 (by omega) (by omega), f1 s 21 (by omega) (by omega)]; exact hC s hs
  · rw [hn2, lo 7 (by omega), co 4 (by omega) (by omega)]; exact t1
  · rw [hn2, lo 8 (by omega), co 5 (by omega) (by omega)]; exact t2
  · rw [hn2, lo 9 (by omega), co 6 (by omega) (by omega)]; exact t3
  · intro s hs
    rw [hn2] at hs
    have q := hMI s hs
    rw [f1 s 18 (by omega) (by omega), f1 s 7 (by omega) (by omega)]
    by_cases e : s = i
    · subst e
      refine ⟨fun h => ?_, fun _ => g19, q.2.2⟩
      rw [g17] at h; exact absurd h (by decide)
    · rw [f1 s 17 (by omega) (by omega), f1 s 19 (by omega) (by omega)]
      exact q
  · intro s hs
    rw [hn2] at hs
    by_cases e : s = i
    · subst e; rw [g17]; exact Or.inl rfl
    · rw [f1 s 17 (by omega) (by omega)]; exact hS4 s hs
end
