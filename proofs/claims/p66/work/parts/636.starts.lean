/-! THE CLASS'S startSteps AND THE MODEL'S queue loop -/
theorem Rep_get {q : Nat → Int32} : ∀ {l : List Nat}, Rep q l → ∀ {j x : Nat}, l.reverse[j]? = some x → q j = nI x := by
  intro l
  induction l with
  | nil => intro _ j x h; rw [List.reverse_nil] at h; cases h
  | cons y ys ih =>
    intro hR j x h
    rw [List.reverse_cons] at h
    by_cases c : j < ys.reverse.length
    · rw [List.getElem?_append_left c] at h
      exact ih hR.2 h
    · rw [List.getElem?_append_right (by omega)] at h
      have hl : ys.reverse.length = ys.length := List.length_reverse
      by_cases e : j - ys.reverse.length = 0
      · rw [e] at h
        have hx : y = x := Option.some.inj h
        have : j = ys.length := by omega
        rw [this, ← hx]; exact hR.1
      · have : 1 ≤ j - ys.reverse.length := by omega
        rw [List.getElem?_eq_none (by show 1 ≤ _; exact this)] at h
        cases h
theorem insr_nd {p : Nat → Nat} {s : Nat} : ∀ {l : List Nat}, s ∉ l → l.Nodup → (insr p s l).Nodup := by
  intro l
  induction l with
  | nil => intro _ _; unfold insr; simp
  | cons x xs ih =>
    intro h1 h2
    rw [insr_c]
    have hx := List.nodup_cons.mp h2
    have hs : s ∉ xs := fun q => h1 (List.mem_cons_of_mem _ q)
    have hsx : ¬ x = s := fun q => h1 (by rw [q]; exact List.mem_cons_self)
    by_cases c : p x < p s
    · rw [if_pos c]
      refine List.nodup_cons.mpr ⟨fun q => ?_, ih hs hx.2⟩
      rcases insr_mem.mp q with e | e
      · exact hsx e
      · exact hx.1 e
    · rw [if_neg c]
      exact List.nodup_cons.mpr ⟨h1, h2⟩
theorem ordR_nd (p : Nat → Nat) : ∀ i, (ordR p i).Nodup := by
  intro i
  induction i with
  | zero => exact List.nodup_nil
  | succ i ih => exact insr_nd (fun q => by have := ordR_mem.mp q; omega) ih
theorem mStart_re (m : Nat → Int32) (s : Nat) : RecEq m (mStart m s) := by
  unfold mStart
  split
  · split
    · exact mSt1_re m s
    · exact re_refl m
  · exact re_refl m
def mStarts (m : Nat → Int32) (l : List Nat) : Nat → Int32 := l.foldl mStart m
theorem mStarts_c (m : Nat → Int32) (s : Nat) (l : List Nat) : mStarts m (s :: l) = mStarts (mStart m s) l := rfl
theorem mStarts_re : ∀ (l : List Nat) (m : Nat → Int32), RecEq m (mStarts m l) := by
  intro l
  induction l with
  | nil => intro m; exact re_refl m
  | cons s l ih => intro m; exact re_trans (mStart_re m s) (ih (mStart m s))
/-- the model's loop over its queue -/
theorem startsM (Z : Mem) {Q : List Nat} (hQ : Rep (Z 10 0 8) Q.reverse) : ∀ (rest done : List Nat) (m : Nat → Int32) (f : Nat), Q = done ++ rest → Q.length ≤ 14 → rest.length < f → WF m → (∀ s ∈ rest, s < nS m) → M12_passMinute_b65 f (upR Z 10 0 1 m) (nI done.length) (nI Q.length) = M12_passMinute_b86 (upR Z 10 0 1 (mStarts m rest)) := by
  intro rest
  induction rest with
  | nil =>
    intro done m f hq hl f_h W hs
    obtain ⟨f, rfl⟩ := fuel_s f_h
    unfold M12_passMinute_b65
    have : Q.length = done.length := by rw [hq, List.append_nil]
    rw [this, if_pos (Int32.le_refl _)]
    rfl
  | cons s rest ih =>
    intro done m f hq hl f_h W hs
    obtain ⟨f, rfl⟩ := fuel_s f_h
    unfold M12_passMinute_b65
    have hlen : Q.length = done.length + (rest.length + 1) := by rw [hq, List.length_append]; rfl
    have h14 := W.2.1
    have hsn := hs s List.mem_cons_self
    have hget : Z 10 0 8 done.length = nI s := by
      refine Rep_get hQ (j := done.length) (x := s) ?_
      rw [List.reverse_reverse, hq, List.getElem?_append_right (Nat.le_refl _), Nat.sub_self]; rfl
    have e8 : (upR Z 10 0 1 m) 10 0 8 = Z 10 0 8 := upR_o (by omega)
    have e1 : (upR Z 10 0 1 m) 10 0 1 = m := upR_at _ _ _ _ _
    rw [if_neg (by rw [nI_leI (by omega) (by omega)]; omega), gdi (show done.length < 14 by omega), ix_n (by omega), e8, hget]
    have hst := start_ok (upR Z 10 0 1 m) (s := s) (by rw [e1]; exact W) (by rw [e1]; exact hsn)
    rw [hst, bd1_e, e1, upR_upR, litI, nI_add]
    have hdl : done.length + 1 = (done ++ [s]).length := by rw [List.length_append]; rfl
    rw [hdl]
    have hr := mStart_re m s
    have hfl : (s :: rest).length = rest.length + 1 := rfl
    exact ih (done ++ [s]) (mStart m s) f (by rw [hq, List.append_assoc]; rfl) hl (by omega) (re_WF hr W) (fun y hy => by rw [re_nS hr]; exact hs y (List.mem_cons_of_mem _ hy))
theorem filter_c (f : Nat → Bool) (s : Nat) (l : List Nat) : (s :: l).filter f = if f s = true then s :: l.filter f else l.filter f := by
  rw [List.filter_cons]
/-- the class's loop over its order -/
theorem startsC {Y : Mem} {g : Nat} {B : Nat → Nat} {m0 : Nat → Int32} {l1 : Int32} (W : WF m0) (hR : RR Y (rg Y g) m0) {L : List Nat} (hL : Rep (Y 1 g 2) L.reverse) (hlen : L.length = nS m0) (hnd : L.Nodup) (hb : ∀ k, k < nS m0 → bt l1 k = isReady m0 k) :
    ∀ (rest done : List Nat) (σ : Nat → Nat → Int32) (m : Nat → Int32) (f : Nat), L = done ++ rest → rest.length < f → RecEq m0 m → St7 σ m B → σ 0 3 = m 10 → (∀ s ∈ rest, s < nS m0 ∧ fld m s 17 = fld m0 s 17) → ∃ σ', X3_startSteps_b7 g f (wS Y g σ) (nI done.length) l1 = some (wS Y g σ') ∧ St7 σ' (mStarts m (rest.filter (isReady m0))) B ∧ σ' 0 3 = (mStarts m (rest.filter (isReady m0))) 10 := by
  intro rest
  have h14 := W.2.1
  have hrg : ∀ σ, rg (wS Y g σ) g = rg Y g := fun σ => by unfold rg; rw [wS_o (by omega)]
  have hr3 : ∀ σ, rg (wS Y g σ) g < 2 := fun σ => by rw [hrg]; exact hR.1.1
  have hcn : ∀ σ, (wS Y g σ) 4 (2 * rg (wS Y g σ) g + 1) 0 2 = nI (nS m0) := fun σ => by rw [hrg, wS_o (by omega)]; exact hR.1.2.1
  induction rest with
  | nil =>
    intro done σ m f hq f_h hre hst h3 hs
    obtain ⟨f, rfl⟩ := fuel_s f_h
    unfold X3_startSteps_b7
    have : nS m0 = done.length := by rw [← hlen, hq, List.append_nil]
    rw [gd2 (hr3 σ), gd2 (hr3 σ), hcn, this, if_pos (Int32.le_refl _)]
    exact ⟨σ, rfl, hst, h3⟩
  | cons s rest ih =>
    intro done σ m f hq f_h hre hst h3 hs
    obtain ⟨f, rfl⟩ := fuel_s f_h
    unfold X3_startSteps_b7
    have hlen2 : nS m0 = done.length + (rest.length + 1) := by rw [← hlen, hq, List.length_append]; rfl
    have hsn := hs s List.mem_cons_self
    have hn := re_nS hre
    have hget : (wS Y g σ) 1 g 2 done.length = nI s := by
      rw [wS_o (by omega)]
      refine Rep_get hL (j := done.length) (x := s) ?_
      rw [List.reverse_reverse, hq, List.getElem?_append_right (Nat.le_refl _), Nat.sub_self]; rfl
    have hnd2 : s ∉ rest := by
      rw [hq] at hnd
      have := (List.nodup_append.mp hnd).2.1
      exact (List.nodup_cons.mp this).1
    rw [gd2 (hr3 σ), gd2 (hr3 σ), hcn, if_neg (by rw [nI_leI (by omega) (by omega)]; omega), gdi (show done.length < 14 by omega), ix_n (by omega), hget, lt_e, contains_ok _ _ (by omega), bd1_e, bI_ne, hb s hsn.1]
    have hj : ∀ Y1, X3_startSteps_b60 g (X3_startSteps_b7 g f) Y1 (nI done.length) l1 = X3_startSteps_b7 g f Y1 (nI (done ++ [s]).length) l1 := by
      intro Y1
      unfold X3_startSteps_b60
      rw [litI, nI_add, List.length_append]; rfl
    have hL2 : L = (done ++ [s]) ++ rest := by rw [hq, List.append_assoc]; rfl
    have hfl : (s :: rest).length = rest.length + 1 := rfl
    rw [filter_c]
    have hkeep : ∃ σ', X3_startSteps_b7 g f (wS Y g σ) (nI (done ++ [s]).length) l1 = some (wS Y g σ') ∧ St7 σ' (mStarts m (rest.filter (isReady m0))) B ∧ σ' 0 3 = (mStarts m (rest.filter (isReady m0))) 10 := ih (done ++ [s]) σ m f hL2 (by omega) hre hst h3 (fun y hy => hs y (List.mem_cons_of_mem _ hy))
    cases cr : isReady m0 s
    · rw [if_neg (by decide), if_neg (by decide), hj]
      exact hkeep
    · rw [if_pos rfl, if_pos rfl, mStarts_c]
      have Wm := re_WF hre W
      have hRm : RR (wS Y g σ) (rg (wS Y g σ) g) m := RR_wS (RR_re W hre hR)
      have hSB : SB (wS Y g σ) g m := fun k hk => by rw [wS_at]; exact hst.2.1 k hk
      have h4 : S4 m := hst.2.2.2.2.2.2
      have hsm : s < nS m := by rw [hn]; exact hsn.1
      rw [hasFreeCook_ok _ (by omega) hRm hSB (by rw [wS_at]; exact hst.1.1) hsm, bd1_e, bI_ne]
      have hstart : mStart m s = if hasCook m s = true then (if hasPan m s = true then mSt1 m s else m) else m := rfl
      rw [hstart]
      cases cc : hasCook m s
      · rw [if_neg (by decide), if_neg (by decide), hj]
        exact hkeep
      · rw [if_pos rfl, if_pos rfl, hasFreePan_ok _ Wm hRm hSB h4 hsm, bd1_e, bI_ne]
        cases cp : hasPan m s
        · rw [if_neg (by decide), if_neg (by decide), hj]
          exact hkeep
        · rw [if_pos rfl, if_pos rfl, startC_ok Y g σ (by omega), bd1_e, hj]
          have hrd : (!(fld m0 s 17 == 1) && !(fld m0 s 17 == 2)) = true := by
            unfold isReady at cr
            rw [Bool.and_eq_true] at cr; exact cr.1
          rw [Bool.and_eq_true, Bool.not_eq_true', Bool.not_eq_true', beq_eq_false_iff_ne, beq_eq_false_iff_ne] at hrd
          refine ih (done ++ [s]) (sStart σ s) (mSt1 m s) f hL2 (by omega) (re_trans hre (mSt1_re m s)) (St_start (by omega) hst hsm (by rw [hsn.2]; exact hrd.1) (by rw [hsn.2]; exact hrd.2)) ?_ (fun y hy => ?_)
          · rw [(sStart_0 σ s).2.2 3 (by omega) (by omega), mSt1_lo m (by omega), if_neg (by omega)]; exact h3
          · have q := hs y (List.mem_cons_of_mem _ hy)
            have hne : ¬ y = s := fun e => hnd2 (by rw [← e]; exact hy)
            rw [mSt1_fld m (by omega), if_neg (by omega), if_neg (by omega), if_neg (by omega)]
            exact q
