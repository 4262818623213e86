section
/-! CHANGES: the calls -/
def Ch (Yp Yc : Mem) : Prop := (∀ k, k ≠ 1 → k ≠ 2 → Yc k = Yp k) ∧ Yc 1 0 0 = Yp 1 0 0 ∧ ∀ g, 2 ≤ g → Yc 2 g = Yp 2 g
theorem Ch_refl (Y : Mem) : Ch Y Y := ⟨fun _ _ _ => rfl, rfl, fun _ _ => rfl⟩
theorem Ch_trans {a b c : Mem} (h1 : Ch a b) (h2 : Ch b c) : Ch a c := ⟨fun k p q => (h2.1 k p q).trans (h1.1 k p q), h2.2.1.trans h1.2.1, fun g p => (h2.2.2 g p).trans (h1.2.2 g p)⟩
theorem Ch_wS (Yp : Mem) (σ : Nat → Nat → Int32) : Ch Yp (wS Yp 0 σ) :=
  ⟨fun k h1 h2 => wS_k h2, by rw [wS_k (by omega)], fun g hg => by funext o; exact wS_o (by omega)⟩
theorem Ch_run (Yp : Mem) (p q : Nat → Int32) (σ : Nat → Nat → Int32) : Ch Yp (wS (upR (upR Yp 1 0 1 p) 1 0 2 q) 0 σ) :=
  ⟨fun k h1 h2 => by rw [wS_k h2]; funext g o; rw [upR_o (by omega), upR_o (by omega)], by rw [wS_k (by omega), upR_o (by omega), upR_o (by omega)], fun g hg => by funext o; rw [wS_o (by omega), upR_o (by omega), upR_o (by omega)]⟩
/-- a kitchen under change: its present state stands for f -/
def CK (Y Yc : Mem) (f : Nat → Int32) : Prop := Yc 1 0 0 = Y 1 0 0 ∧ Yc 3 = Y 3 ∧ Yc 4 = Y 4 ∧ KS (Yc 2 0) (Y 10 0 1) f
theorem CK_Ch {Y Yp Yc : Mem} {f f' : Nat → Int32} (h : CK Y Yp f) (hc : Ch Yp Yc) (hK : KS (Yc 2 0) (Y 10 0 1) f') : CK Y Yc f' :=
  ⟨hc.2.1.trans h.1, (hc.1 3 (by omega) (by omega)).trans h.2.1, (hc.1 4 (by omega) (by omega)).trans h.2.2.1, hK⟩
theorem CK_KR {Y Yc : Mem} {f : Nat → Int32} (hI : Inv Y) (h : CK Y Yc f) : ∃ B, B ≤ 9999 ∧ f 4 = nI B ∧ KR Yc 0 f B ∧ BU f B ∧ nS f = nS (Y 10 0 1) := by
  obtain ⟨h1, h3, h4, hre, ⟨B, b1, b2, b3, b4⟩, k3, k6⟩ := h
  have er : rg Yc 0 = rg Y 0 := by unfold rg; rw [h1]
  exact ⟨B, b1, b2, ⟨re_WF hre hI.1, by rw [er]; exact RR_re hI.1 hre (RR_mem h3 h4 (Inv_R hI)), b3, k3, k6⟩, b4, re_nS hre⟩
theorem mut_end {Y Yp Yc Ym : Mem} {n c : Nat} {M f' : Nat → Int32} (hI : Inv Y) (hp : PuF Y Yp n c) (hpk : ∀ k, k ≠ 2 → k ≠ 9 → Yp k = Y k) (hc : Ch Yp Yc) (hM : ReF (Y 10 0 1) M c) (hN : QN (upR (up (up Yc 10 0 0 9 0) 10 0 0 2 (nI (min (c + 1) 6))) 10 0 1 M) Ym) (hm : ∀ x, 382 ≤ x → Ym 10 0 1 x = M x) (hb : Ym 10 0 1 = f') (hK : KS (Yc 2 0) (Y 10 0 1) f') : Ym 10 0 0 9 = 0 ∧ Inv Ym := by
  have e10 : Yc 10 = Y 10 := by rw [hc.1 10 (by omega) (by omega), hpk 10 (by omega) (by omega)]
  have ek : ∀ k, k ≠ 10 → Ym k = Yc k := fun k hk => by
    funext g o
    rw [hN k g o (by omega), upR_o (by omega), up_eq, upR_o (by omega), up_eq, upR_o (by omega)]
  have eo : ∀ o, o ≠ 0 → o ≠ 1 → o ≠ 5 → o ≠ 8 → Ym 10 0 o = Y 10 0 o := fun o h0 h1 h5 h8 => by
    rw [hN 10 0 o (by omega), upR_o (by omega), up_eq, upR_o (by omega), up_eq, upR_o (by omega), e10]
  have e0 : ∀ x, x ≠ 2 → x ≠ 9 → Ym 10 0 0 x = Y 10 0 0 x := fun x h2 h9 => by
    rw [hN 10 0 0 (by omega), upR_o (by omega), up_at, pk_un h2, up9_x _ _ h9, e10]
  have e2 : Ym 10 0 0 2 = nI (min (c + 1) 6) := by rw [hN 10 0 0 (by omega), upR_o (by omega), up_at, pk_us]
  have e9 : Ym 10 0 0 9 = 0 := by rw [hN 10 0 0 (by omega), upR_o (by omega), up_at, pk_un (by omega), up9_9]
  have ec : ∀ k, k ≠ 1 → k ≠ 2 → k ≠ 9 → k ≠ 10 → Ym k = Y k := fun k h1 h2 h9 h10 => by rw [ek k h10, hc.1 k h1 h2, hpk k h2 h9]
  refine ⟨e9, ?_⟩
  have hK2 : KS (Ym 2 0) (Y 10 0 1) (Ym 10 0 1) := by
    rw [ek 2 (by omega), hb]
    exact hK
  obtain ⟨-, -, -, -, -, -, hT, hE, hO, -, -⟩ := id hI
  refine mut_fin hI hp hM (by rw [ek 1 (by omega), hc.2.1, hpk 1 (by omega) (by omega)]) (ec 0 (by omega) (by omega) (by omega) (by omega)) (by rw [ek 9 (by omega), hc.1 9 (by omega) (by omega)]) (ec 3 (by omega) (by omega) (by omega) (by omega)) (ec 4 (by omega) (by omega) (by omega) (by omega)) (fun g hg => by rw [ek 2 (by omega), hc.2.2 g hg]) e2 (eo 2 (by omega) (by omega) (by omega) (by omega)) (fun x h1 _ => hm x h1) hK2 ?_ ?_ ?_
  · unfold TX TXn at hT ⊢
    rw [ec 5 (by omega) (by omega) (by omega) (by omega), e0 4 (by omega) (by omega), eo 3 (by omega) (by omega) (by omega) (by omega)]; exact hT
  · unfold ER at hE ⊢
    rw [ec 6 (by omega) (by omega) (by omega) (by omega), e0 5 (by omega) (by omega), e0 6 (by omega) (by omega)]; exact hE
  · unfold OU at hO ⊢
    rw [ec 5 (by omega) (by omega) (by omega) (by omega), e0 8 (by omega) (by omega), eo 4 (by omega) (by omega) (by omega) (by omega)]; exact hO
theorem Inv_KS {Y : Mem} (hI : Inv Y) : KS (Y 2 0) (Y 10 0 1) (Y 10 0 1) := hI.2.2.2.1
theorem Inv_5 {Y : Mem} (hI : Inv Y) : Y 2 0 0 5 = 0 ∨ Y 2 0 0 5 = 1 := by rw [(Inv_StS hI).2.2.2.2]; exact Inv_6 hI
/-- a push, and all that follows where a change follows -/
theorem mut_go {Y : Mem} (hI : Inv Y) : ∃ Yp f, X2_push Y 0 = some Yp ∧ CK Y Yp f ∧ (∀ x, x < 382 → f x = Y 10 0 1 x) ∧ Yp 2 0 = Y 2 0 ∧ ∀ Yc f', Ch Yp Yc → KS (Yc 2 0) (Y 10 0 1) f' → (∀ x, 382 ≤ x → f' x = f x) → Yc 10 = Y 10 ∧ ∃ Z0, M12_remember (up Yc 10 0 0 9 0) 0 = some Z0 ∧ Z0 10 0 1 = f ∧ ∀ Z', QN Z0 Z' → Z' 10 0 1 = f' → Z' 10 0 0 9 = 0 ∧ Inv Z' := by
  obtain ⟨n, c, hH⟩ := hI.2.2.2.2.2.2.2.2.2.1
  obtain ⟨Yp, p1, hp, hpk⟩ := push_ok hH (Inv_5 hI)
  have hM := (rem_ok Y hH.2.1 hH.2.2.2.2.1).2
  have e2 : Yp 2 0 = Y 2 0 := hp.2.1 0 (by omega)
  refine ⟨Yp, remA (Y 10 0 1) c, p1, ⟨by rw [hpk 1 (by omega) (by omega)], hpk 3 (by omega) (by omega), hpk 4 (by omega) (by omega), ?_⟩, hM.1, e2, fun Yc f' hc hK hhi => ?_⟩
  · rw [e2]
    exact KS_cg (Inv_KS hI) hI.1.2.1 (fun _ _ => rfl) hM.1
  · have e10 : Yc 10 = Y 10 := by rw [hc.1 10 (by omega) (by omega), hpk 10 (by omega) (by omega)]
    have r := (rem_ok (up Yc 10 0 0 9 0) (c := c) hH.2.1 (by rw [up9_x _ _ (by omega), e10]; exact hH.2.2.2.2.1)).1
    rw [up9_m, e10] at r
    refine ⟨e10, _, r, upR_at _ _ _ _ _, fun Z' hN hf => ?_⟩
    exact mut_end hI hp hpk hc hM hN (fun x hx => by rw [hf]; exact hhi x hx) hf hK
def c21 (n : Nat) : Int32 := if n = 2 then 1 else if n = 1 then 2 else 0
def c31 (n : Nat) : Int32 := if n = 3 then 1 else if n = 1 then 2 else 0
def c1_ (n : Nat) : Int32 := if n = 1 then 1 else 0
theorem R1l {Y : Mem} (hI : Inv Y) {c : Option ((Nat × Mem) ⊕ (Int32 × Mem))} {mo : Mem → Option (Int32 × Mem)} {code : Nat → Int32} (n : Nat) (v : Int32) (h0 : v ≠ 0) (hc : code n = v) (h1 : c = some (.inl (n, Y))) (h2 : mo Y = some (0, up Y 10 0 0 9 v)) : R1 c mo code :=
  Or.inl ⟨n, Y, h1, by rw [hc]; exact h0, 0, _, h2, by rw [up9_9, hc], Inv_QM hI (QM_9 _ _)⟩
/-! the operations -/
theorem op_pass {Y Yp : Mem} {f : Nat → Int32} (hI : Inv Y) (h : CK Y Yp f) {t : Nat} (ht : t ≤ 200) (hB : ¬ nI 9999 < f 4 + nI t) : ∃ Yc, X3_runMinutes Yp 0 (nI t) = some (mins f t 8 - f 8, Yc) ∧ Ch Yp Yc ∧ KS (Yc 2 0) (Y 10 0 1) (mins f t) ∧ (∀ x, 382 ≤ x → mins f t x = f x) ∧ ∀ Z, Z 10 0 1 = f → ∃ Z', M12_passMinutes Z (nI t) = some (mins f t 8 - f 8, Z') ∧ Z' 10 0 1 = mins f t ∧ QN Z Z' := by
  obtain ⟨B, b1, b2, k, bu, hn⟩ := CK_KR hI h
  rw [b2, nI_add, nI_ltI (by omega) (by omega)] at hB
  obtain ⟨p, q, σ, c1, c2⟩ := runC_ok (t := t) (by omega) k
  exact ⟨_, c1, Ch_run _ _ _ _, KS_mins h.2.2.2.1 b2 bu (by omega) c2, fun x hx => mins_hi k.1 hx t, fun Z hz => runM_ok Z (by omega) hz (KR_hm k)⟩
theorem op_halt {Y Yp : Mem} {f : Nat → Int32} (hI : Inv Y) (h : CK Y Yp f) {s : Nat} (hs : s < nS f) (h17 : fld f s 17 = 1) : ∃ Yc, X8_halt Yp 0 (nI s) = some (fld f s 18, Yc) ∧ Ch Yp Yc ∧ KS (Yc 2 0) (Y 10 0 1) (mHalt f s) ∧ (∀ x, 382 ≤ x → mHalt f s x = f x) ∧ ∀ Z, Z 10 0 1 = f → M12_stopIt Z (nI s) = some (fld f s 18, upR Z 10 0 1 (mHalt f s)) := by
  obtain ⟨B, b1, b2, k, bu, hn⟩ := CK_KR hI h
  have h14 := k.1.2.1
  refine ⟨_, ?_, Ch_wS Yp (sHalt (Yp 2 0) s), by rw [wS_2]; exact KS_halt h14 hs h17 h.2.2.2, fun x hx => ?_, fun Z hz => ?_⟩
  · rw [halt_ok Yp 0 (by omega), (k.2.2.1.2.2.1 s hs).2.1]
  · unfold mHalt; rw [pk_un (by omega), pk_un (by omega), pk_un (by omega)]
  · rw [stopIt_ok Z (by omega), hz]
theorem op_disc {Y Yp : Mem} {f : Nat → Int32} (hI : Inv Y) (h : CK Y Yp f) {s : Nat} (hs : s < nS f) (h17 : fld f s 17 = 2) : ∃ Yc, X8_discard Yp 0 (nI s) = some (fld f s 19, Yc) ∧ Ch Yp Yc ∧ KS (Yc 2 0) (Y 10 0 1) (mDisc f s) ∧ (∀ x, 382 ≤ x → mDisc f s x = f x) ∧ ∀ Z, Z 10 0 1 = f → M12_redoIt Z (nI s) = some (fld f s 19, upR Z 10 0 1 (mDisc f s)) := by
  obtain ⟨B, b1, b2, k, bu, hn⟩ := CK_KR hI h
  have h14 := k.1.2.1
  refine ⟨_, ?_, Ch_wS Yp (sDisc (Yp 2 0) s), by rw [wS_2]; exact KS_disc h14 hs h17 h.2.2.2, fun x hx => ?_, fun Z hz => ?_⟩
  · rw [disc_ok Yp 0 (by omega), (k.2.2.1.2.2.1 s hs).2.2.1]
  · unfold mDisc; rw [pk_un (by omega), pk_un (by omega)]
  · rw [redoIt_ok Z (by omega), hz]
theorem redo_ok {Yc : Mem} {f : Nat → Int32} {B : Nat} (k : KR Yc 0 f B) {s : Nat} (hs : s < nS f) : X3_isRedoable Yc 0 (nI s) = some (bI (canRedo f s)) := by
  have h14 := k.1.2.1
  unfold X3_isRedoable canRedo isTaken
  rw [contains_ok Yc _ (by omega), bd1_e, bI_ne, (k.2.2.1.2.1 s (by omega)).2.1, stB_in hs]
  cases c : (fld f s 17 == 2)
  · rw [if_neg (by decide), Bool.false_and, Bool.false_and]; rfl
  · rw [if_pos rfl, isCont_ok Yc k.1 k.2.1 k.2.2.1.2.1 hs, bd1_e, bI_ne, Bool.true_and, Bool.true_and]
    cases hasSucc f s 1 2
    · rw [if_neg (by decide), k.2.2.1.1.2.2.2.2]
      by_cases e : f 6 = 0
      · rw [if_pos e, e]; rfl
      · rw [if_neg e, beq_eq_false_iff_ne.mpr e]; rfl
    · rw [if_pos rfl]; rfl
theorem hi_u (f : Nat → Int32) {w : Nat} (v : Int32) (hw : w < 382) : ∀ x, 382 ≤ x → upd f w v x = f x := fun x hx => pk_un (by omega)
end
