section
/-! THE DEEPEST BLOCKER -/
theorem rsn_2 {m : Nat → Int32} {s : Nat} (h : rsn m s = 2) : ∃ p, fOpen m s = some p := by
  unfold rsn at h
  by_cases c1 : fld m s 17 = 1
  · rw [if_pos c1] at h; exact absurd h (by decide)
  · rw [if_neg c1] at h
    by_cases c2 : fld m s 17 = 2
    · rw [if_pos c2] at h; exact absurd h (by decide)
    · rw [if_neg c2] at h
      cases c : fOpen m s with
      | some p => exact ⟨p, rfl⟩
      | none =>
        rw [c] at h
        exfalso
        revert h
        cases hasPan m s <;> cases hasCook m s <;> decide
theorem root_b {Y Z : Mem} (hI : Inv Y) (hZ : Z 10 0 1 = Y 10 0 1) (a : Int32) : ∀ n s, s < n → s < nS (Y 10 0 1) → ∀ acc, ∃ r, (∀ l f, l + s ≤ 13 → s + 2 < f → X3_deepestMissing_b7 Y 0 a f (nI l) (nI s) acc = some r) ∧ (∀ f, s < f → M12_rootBlocker_b28 a f Z (nI s) acc = some (r, Z)) := by
  have h14 := nS_le hI
  intro n
  induction n with
  | zero => intro s h; omega
  | succ n ih =>
    intro s hn hs acc
    have hC : ∀ l, l + s ≤ 13 → ∀ f, X3_deepestMissing_b7 Y 0 a (f + 1) (nI l) (nI s) acc = if rsn (Y 10 0 1) s = 2 then X3_deepestMissing_b37 Y 0 a (X3_deepestMissing_b7 Y 0 a f) (nI l) acc (oI (fOpen (Y 10 0 1) s)) else X3_deepestMissing_b37 Y 0 a (X3_deepestMissing_b7 Y 0 a f) (nI l) acc (-1) := by
      intro l hl f
      rw [X3_deepestMissing_b7]
      rw [if_neg (by show ¬ nI 14 ≤ nI l; rw [nI_leI (by omega) (by omega)]; omega), if_neg (nI_neg1 (by omega)), obs_ok hI hs, bd1_e, missing_ok hI hs, bd1_e]
    have hM : ∀ f, M12_rootBlocker_b28 a (f + 1) Z (nI s) acc = if rsn (Y 10 0 1) s = 2 then M12_rootBlocker_b28 a f Z (oI (fOpen (Y 10 0 1) s)) (oI (fOpen (Y 10 0 1) s)) else some (acc, Z) := by
      intro f
      rw [M12_rootBlocker_b28]
      rw [rsn_ok Z (by rw [hZ]; exact hI.1) (by rw [hZ]; exact hs), bd1_e, firstOpen_ok Z (by rw [hZ]; exact hI.1) (by rw [hZ]; exact hs), bd1_e, hZ]
    by_cases c : rsn (Y 10 0 1) s = 2
    · obtain ⟨p, hp⟩ := rsn_2 c
      have hps := fOpen_lt hI.1 hs p hp
      obtain ⟨r, r1, r2⟩ := ih p (by omega) (by omega) (nI p)
      refine ⟨r, fun l f hl hf => ?_, fun f hf => ?_⟩
      · obtain ⟨f, rfl⟩ := fuel_s (show 0 < f by omega)
        rw [hC l hl, if_pos c, hp]
        show X3_deepestMissing_b37 Y 0 a (X3_deepestMissing_b7 Y 0 a f) (nI l) acc (nI p) = _
        unfold X3_deepestMissing_b37 X3_deepestMissing_b45
        rw [if_neg (nI_neg1 (by omega)), nI_1]
        exact r1 (l + 1) f (by omega) (by omega)
      · obtain ⟨f, rfl⟩ := fuel_s (show 0 < f by omega)
        rw [hM, if_pos c, hp]
        exact r2 f (by omega)
    · refine ⟨acc, fun l f hl hf => ?_, fun f hf => ?_⟩
      · obtain ⟨f, rfl⟩ := fuel_s (show 0 < f by omega)
        rw [hC l hl, if_neg c]
        unfold X3_deepestMissing_b37 X3_deepestMissing_b45
        rw [if_pos rfl]
        obtain ⟨f, rfl⟩ := fuel_s (show 0 < f by omega)
        rw [X3_deepestMissing_b7, if_pos rfl, ite_self]
      · obtain ⟨f, rfl⟩ := fuel_s (show 0 < f by omega)
        rw [hM, if_neg c]
theorem q_rootBlocker {Y : Mem} (hI : Inv Y) (a : Int32) : R1 (T11_rootBlocker Y a) (fun Y => M12_rootBlocker Y a) c3 := by
  have h14 := nS_le hI
  refine q3s hI a (fun s hs e => ?_) (fun h => ?_)
  · subst e
    obtain ⟨r, r1, r2⟩ := root_b hI (Z := up Y 10 0 0 9 0) (up9_m _ _) (nI s) (s + 1) s (by omega) hs (-1)
    refine ⟨r, ?_, ?_⟩
    · unfold T11_rootBlocker X3_deepestMissing
      rw [rS_in hI hs, bdxv_r]
      rw [show X3_deepestMissing_b7 Y 0 (nI s) FU 0 (nI s) (-1) = some r from r1 0 FU (by omega) (by have := FU_big; omega), bd1_e]
    · show M12_rootBlocker Y (nI s) = _
      unfold M12_rootBlocker M12_rootBlocker_b14
      rw [sS_in hI hs, bd1_e, if_neg (by decide), fails_000, bd2_e, if_pos rfl]
      exact r2 FU (by have := FU_big; omega)
  · refine ⟨?_, 0, ?_⟩
    · unfold T11_rootBlocker; rw [rS_out hI h, bdxv_l]
    · show M12_rootBlocker Y a = _
      unfold M12_rootBlocker M12_rootBlocker_b14
      rw [sS_out hI h, bd1_e, if_pos rfl, fails_1, bd2_e, if_neg (by decide)]
/-! THE READY STEPS IN ORDER -/
def rdy (f : Nat → Bool) (a : Int32) : List Nat → Nat → Int32
  | [], _ => -1
  | s :: r, pl => if f s = true then (if nI pl = a then nI s else rdy f a r (pl + 1)) else rdy f a r pl
theorem rdy_c (f : Nat → Bool) (a : Int32) (s : Nat) (r : List Nat) (pl : Nat) : rdy f a (s :: r) pl = if f s = true then (if nI pl = a then nI s else rdy f a r (pl + 1)) else rdy f a r pl := rfl
theorem rdy_out {f : Nat → Bool} {a : Int32} : ∀ (l : List Nat) (pl : Nat), (∀ j, j < (l.filter f).length → ¬ nI (pl + j) = a) → rdy f a l pl = -1 := by
  intro l
  induction l with
  | nil => intro pl _; rfl
  | cons s r ih =>
    intro pl h
    rw [filter_c] at h
    rw [rdy_c]
    cases c : f s
    · rw [if_neg (by decide)]
      rw [c, if_neg (by decide)] at h
      exact ih pl h
    · rw [if_pos rfl]
      rw [c, if_pos rfl] at h
      rw [if_neg (show ¬ nI pl = a from h 0 (by rw [List.length_cons]; omega))]
      refine ih (pl + 1) fun j hj => ?_
      have := h (j + 1) (by rw [List.length_cons]; omega)
      rw [show pl + 1 + j = pl + (j + 1) by omega]
      exact this
theorem rdy_in {f : Nat → Bool} : ∀ (l : List Nat) (pl j x : Nat), pl + j < 2 ^ 30 → (l.filter f)[j]? = some x → rdy f (nI (pl + j)) l pl = nI x := by
  intro l
  induction l with
  | nil => intro pl j x _ h; rw [List.filter_nil] at h; cases h
  | cons s r ih =>
    intro pl j x hb h
    rw [filter_c] at h
    rw [rdy_c]
    cases c : f s
    · rw [if_neg (by decide)]
      rw [c, if_neg (by decide)] at h
      exact ih pl j x hb h
    · rw [if_pos rfl]
      rw [c, if_pos rfl] at h
      cases j with
      | zero =>
        rw [if_pos (show nI pl = nI (pl + 0) from rfl)]
        rw [List.getElem?_cons_zero] at h
        rw [Option.some.inj h]
      | succ j =>
        rw [if_neg (by rw [nI_eq (by omega) (by omega)]; omega)]
        rw [List.getElem?_cons_succ] at h
        have := ih (pl + 1) j x (by omega) h
        rw [show pl + 1 + j = pl + (j + 1) by omega] at this
        exact this
theorem rdyC {Y : Mem} {g n : Nat} {x a : Int32} {f : Nat → Bool} {L : List Nat} (hr2 : rg Y g < 2) (hcnt : Y 4 (2 * rg Y g + 1) 0 2 = nI n) (h14 : n ≤ 14) (hx : ∀ k, k < n → bt x k = f k) (hL : Rep (Y 1 g 2) L.reverse) (hlen : L.length = n) (hlt : ∀ s ∈ L, s < n) : ∀ (rest done : List Nat) (fu pl : Nat), L = done ++ rest → rest.length < fu → X3_readyAt_b14 g a fu Y (nI done.length) (nI pl) x = some (rdy f a rest pl, Y) := by
  intro rest
  induction rest with
  | nil =>
    intro done fu pl e fu_h
    obtain ⟨fu, rfl⟩ := fuel_s fu_h
    have hd : done.length = n := by rw [← hlen, e, List.append_nil]
    unfold X3_readyAt_b14
    rw [gd2 hr2, gd2 hr2, hcnt, hd, if_pos (Int32.le_refl _)]
    rfl
  | cons s rest ih =>
    intro done fu pl e fu_h
    obtain ⟨fu, rfl⟩ := fuel_s fu_h
    have hd : done.length < n := by rw [← hlen, e, List.length_append, List.length_cons]; omega
    have hs : s < n := hlt s (by rw [e]; exact List.mem_append_right _ List.mem_cons_self)
    have hq : Y 1 g 2 done.length = nI s := Rep_get hL (by rw [List.reverse_reverse, e, List.getElem?_append_right (Nat.le_refl _), Nat.sub_self]; rfl)
    unfold X3_readyAt_b14 X3_readyAt_b59
    rw [gd2 hr2, gd2 hr2, hcnt, if_neg (by rw [nI_leI (by omega) (by omega)]; omega), gdi (show done.length < 14 by omega), ix_n (by omega), hq, contains_ok Y _ (by omega), bd1_e, bI_ne, hx s hs, rdy_c, nI_1, nI_1]
    have en : done.length + 1 = (done ++ [s]).length := by rw [List.length_append]; rfl
    have ih2 := fun pl => ih (done ++ [s]) fu pl (by rw [e, List.append_assoc]; rfl) (by rw [List.length_cons] at fu_h; omega)
    rw [← en] at ih2
    cases c : f s
    · rw [if_neg (by decide), if_neg (by decide)]
      exact ih2 pl
    · rw [if_pos rfl, if_pos rfl]
      by_cases c2 : nI pl = a
      · rw [if_pos c2, if_pos c2]
      · rw [if_neg c2, if_neg c2]
        exact ih2 (pl + 1)
theorem q_readyStep {Y : Mem} (hI : Inv Y) (a : Int32) : R0m (X11_readyStep Y a) (fun Y => M12_readyStep Y a) := by
  have h14 := nS_le hI
  obtain ⟨B, -, -, k, -⟩ := KR_of hI
  obtain ⟨p, q, r1, r2, r3, -⟩ := KR_rank k
  have hQ : QC Y (upR (upR Y 1 0 1 p) 1 0 2 q) := QC_trans (QC_upR1 Y 0 (by omega) p) (QC_upR1 _ 0 (by omega) q)
  generalize upR (upR Y 1 0 1 p) 1 0 2 q = Yc at r1 r2 r3 hQ
  have hIc := Inv_QC hI hQ
  have e10 := QC_lo hQ
  have hRc := Inv_R hIc
  obtain ⟨x, x1, x2⟩ := ready_ok Yc hIc.1 hRc (Inv_SB hIc)
  rw [e10] at x2
  have hcnt := hRc.1.2.1
  rw [e10] at hcnt
  obtain ⟨p2, q2, m1, m2⟩ := queue_ok (up Yc 10 0 0 9 0) (by rw [up9_m]; exact hIc.1) (by rw [up9_m]; exact Inv_MI hIc)
  rw [up9_m, e10] at m1 m2
  have hlen : ((ordR (pth (Y 10 0 1)) (nS (Y 10 0 1))).reverse).length = nS (Y 10 0 1) := by rw [List.length_reverse, ordR_len]
  have cl := rdyC (Y := Yc) (g := 0) (a := a) (f := isReady (Y 10 0 1)) (L := (ordR (pth (Y 10 0 1)) (nS (Y 10 0 1))).reverse) hRc.1.1 hcnt h14 (fun k hk => by rw [x2 k (by omega), decide_eq_true hk, Bool.true_and]) (by rw [List.reverse_reverse]; exact r3) hlen (fun s hs => ordR_mem.mp (List.mem_reverse.mp hs)) ((ordR (pth (Y 10 0 1)) (nS (Y 10 0 1))).reverse) [] FU 0 rfl (by rw [hlen]; have := FU_big; omega)
  have hF : ((ordR (pth (Y 10 0 1)) (nS (Y 10 0 1))).reverse).filter (isReady (Y 10 0 1)) = (qR (isReady (Y 10 0 1)) (pth (Y 10 0 1)) (nS (Y 10 0 1))).reverse := by rw [qR_eq, List.filter_reverse]
  have hqlen := qR_len (isReady (Y 10 0 1)) (pth (Y 10 0 1)) (nS (Y 10 0 1))
  have hN : QN (up Yc 10 0 0 9 0) (upR (upR (up Yc 10 0 0 9 0) 10 0 5 p2) 10 0 8 q2) := fun k g o h => by rw [upR_o (by omega), upR_o (by omega)]
  have hQS := QS_QN hN (fun x _ => by rw [upR_o (by omega), upR_o (by omega)])
  refine ⟨rdy (isReady (Y 10 0 1)) a ((ordR (pth (Y 10 0 1)) (nS (Y 10 0 1))).reverse) 0, Yc, _, ?_, ?_, Inv_QM hIc (QS_9 hQS).1⟩
  · unfold X11_readyStep X3_readyAt
    rw [r1, bd1_e, x1, bd1_e]
    rw [show X3_readyAt_b14 0 a FU Yc 0 0 x = _ from cl, bd2_e]
  · show M12_readyStep Yc a = _
    unfold M12_readyStep
    rw [lt_e, m1, bd2_e, in_ok, bd1_e]
    have hin := in_inb a (n := (qR (isReady (Y 10 0 1)) (pth (Y 10 0 1)) (nS (Y 10 0 1))).length) (by omega)
    rw [show (nI (qR (isReady (Y 10 0 1)) (pth (Y 10 0 1)) (nS (Y 10 0 1))).length - 1 : Int32) = nI (qR (isReady (Y 10 0 1)) (pth (Y 10 0 1)) (nS (Y 10 0 1))).length - nI 1 from rfl, hin]
    by_cases c : inb a (qR (isReady (Y 10 0 1)) (pth (Y 10 0 1)) (nS (Y 10 0 1))).length = true
    · obtain ⟨j, hj, rfl⟩ := inb_dec a c
      obtain ⟨x, hx⟩ : ∃ x, ((qR (isReady (Y 10 0 1)) (pth (Y 10 0 1)) (nS (Y 10 0 1))).reverse)[j]? = some x := ⟨_, List.getElem?_eq_getElem (by rw [List.length_reverse]; exact hj)⟩
      have h1 := rdy_in (f := isReady (Y 10 0 1)) ((ordR (pth (Y 10 0 1)) (nS (Y 10 0 1))).reverse) 0 j x (by omega) (by rw [hF]; exact hx)
      rw [Nat.zero_add] at h1
      rw [c, bI_t, if_neg (by decide), gdi (show j < 14 by omega), ix_n (by omega), upR_at, Rep_get m2 hx, h1]
    · rw [Bool.not_eq_true] at c
      rw [c, bI_f, if_pos rfl]
      rw [rdy_out _ 0 (fun j hj e => by
        rw [hF, List.length_reverse] at hj
        rw [← e, Nat.zero_add, inb_n hj (by omega)] at c
        cases c)]
end
