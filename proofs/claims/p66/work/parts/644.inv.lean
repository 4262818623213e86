section
/-! THE INVARIANT of a run of calls -/
def blk (m : Nat → Int32) (j : Nat) : Nat → Int32 := fun x => m (j * 382 + x)
def BU (m : Nat → Int32) (B : Nat) : Prop := ∀ s, s < nS m → ∃ b, fld m s 22 = nI b ∧ b ≤ B
def KS (σ : Nat → Nat → Int32) (m m' : Nat → Int32) : Prop := RecEq m m' ∧ (∃ B, B ≤ 9999 ∧ m' 4 = nI B ∧ St7 σ m' (fun _ => B) ∧ BU m' B) ∧ σ 0 3 = m' 10 ∧ (m' 6 = 0 ∨ m' 6 = 1)
theorem re_agree {m m' : Nat → Int32} (h : ∀ x, x < 382 → m' x = m x) : RecEq m m' := fun w hw _ => h w hw
theorem nS_lo {m : Nat → Int32} (W : WF m) : nS m ≤ 14 := W.2.1
theorem KS_cg {σ : Nat → Nat → Int32} {a a' b b' : Nat → Int32} (h : KS σ a b) (hn : nS b ≤ 14) (ha : ∀ x, x < 382 → a' x = a x) (hb : ∀ x, x < 382 → b' x = b x) : KS σ a' b' := by
  obtain ⟨h1, ⟨B, b1, b2, b3, b4⟩, h2, h3⟩ := h
  have hn2 : nS b' = nS b := re_nS (re_agree hb)
  refine ⟨re_trans (re_symm (re_agree ha)) (re_trans h1 (re_agree hb)), ⟨B, b1, by rw [hb 4 (by omega)]; exact b2, ?_, fun s hs => by rw [hn2] at hs; rw [show fld b' s 22 = fld b s 22 from hb _ (by omega)]; exact b4 s hs⟩, by rw [hb 10 (by omega)]; exact h2, by rw [hb 6 (by omega)]; exact h3⟩
  exact St_cg hn2 (fun k hk w hw _ => hb _ (by omega)) (fun x hx => hb x (by omega)) b3
theorem KS_st {σ τ : Nat → Nat → Int32} {a b : Nat → Int32} (hn : nS b ≤ 14) (h0 : ∀ x, x ≤ 8 → σ 0 x = τ 0 x) (ho : ∀ o, 1 ≤ o → o ≤ 6 → ∀ j, j < 14 → σ o j = τ o j) (h : KS τ a b) : KS σ a b := by
  obtain ⟨h1, ⟨B, b1, b2, b3, b4⟩, h2, h3⟩ := h
  exact ⟨h1, ⟨B, b1, b2, St_agree hn h0 ho b3, b4⟩, (h0 3 (by omega)).trans h2, h3⟩
theorem KS_copy {σ τ : Nat → Nat → Int32} {a b : Nat → Int32} (hn : nS b ≤ 14) (h : KS τ a b) : KS (sCopy σ τ) a b :=
  KS_st hn (fun _ hx => sCopy_0 σ τ hx) (fun _ h1 h6 _ hj => sCopy_o σ τ h1 h6 hj) h
theorem KS_nS {σ : Nat → Nat → Int32} {a b : Nat → Int32} (h : KS σ a b) (W : WF a) : nS b ≤ 14 := by rw [re_nS h.1]; exact W.2.1
/-- a byte as the class holds it -/
def byt (b : Nat) : Int32 := if b < 128 then nI b else nI b - nI 256
def nameP (Y : Mem) (g : Nat) (m : Nat → Int32) (at_ q : Nat) : Prop := ∃ n, 1 ≤ n ∧ n ≤ 6 ∧ Y 4 g 2 q = nI n ∧ m at_ = nI n ∧ ∀ k, k < n → Y 4 g (10 + q) k = m (at_ + 1 + k) ∧ ∃ c, 97 ≤ c ∧ c ≤ 122 ∧ m (at_ + 1 + k) = nI c
def NM (Y : Mem) (r : Nat) (m : Nat → Int32) : Prop := (∀ q, q < nP m → nameP Y (2 * r) m (14 + q * 8) q) ∧ (∀ s, s < nS m → nameP Y (2 * r + 1) m (46 + s * 24) s)
def TXn (Y : Mem) (n : Nat) : Prop := n ≤ 700 ∧ Y 5 0 0 1 = nI n ∧ Y 10 0 0 4 = nI n ∧ ∀ j, j < n → ∃ b, b < 256 ∧ Y 10 0 3 j = nI b ∧ Y 5 0 1 j = byt b
def TX (Y : Mem) : Prop := ∃ n, TXn Y n
def ER (Y : Mem) : Prop := Y 6 0 0 4 = Y 10 0 0 5 ∧ Y 6 0 0 5 = Y 10 0 0 6
def OU (Y : Mem) : Prop := ∃ n, n ≤ 125 ∧ Y 5 1 0 1 = nI n ∧ Y 10 0 0 8 = nI n ∧ ∀ j, j < n → Y 5 1 1 j = Y 10 0 4 j
def HIn (Y : Mem) (n c : Nat) : Prop := n < 6 ∧ c ≤ 6 ∧ Y 9 0 0 1 = nI n ∧ Y 9 0 0 2 = nI c ∧ Y 10 0 0 2 = nI c ∧ ∀ i, i < c → KS (Y 2 (2 + (n + 6 - (i + 1)) % 6)) (Y 10 0 1) (blk (Y 10 0 1) (c - i))
def HI (Y : Mem) : Prop := ∃ n c, HIn Y n c
def SV (Y : Mem) : Prop := ∀ i, i < 2 → (Y 0 0 2 i = 0 ∧ Y 10 0 2 i = 0) ∨ (Y 0 0 2 i = 1 ∧ Y 10 0 2 i = 1 ∧ KS (Y 2 (8 + i)) (Y 10 0 1) (blk (Y 10 0 1) (7 + i)))
def RC (Y : Mem) : Prop := ∃ r, r < 2 ∧ Y 1 0 0 0 = nI r ∧ Y 0 0 0 10 = nI (1 - r)
def Inv (Y : Mem) : Prop := WF (Y 10 0 1) ∧ 1 ≤ nS (Y 10 0 1) ∧ RR Y (rg Y 0) (Y 10 0 1) ∧ KS (Y 2 0) (Y 10 0 1) (Y 10 0 1) ∧ RC Y ∧ NM Y (rg Y 0) (Y 10 0 1) ∧ TX Y ∧ ER Y ∧ OU Y ∧ HI Y ∧ SV Y
theorem RR_cells {Y Y' : Mem} {r : Nat} {m : Nat → Int32} (h3 : Y' 3 r = Y 3 r) (h4 : Y' 4 (2 * r) = Y 4 (2 * r)) (h5 : Y' 4 (2 * r + 1) = Y 4 (2 * r + 1)) (hR : RR Y r m) : RR Y' r m := by
  unfold RR at hR ⊢
  rw [h3, h4, h5]; exact hR
theorem NM_cells {Y Y' : Mem} {r : Nat} {m m' : Nat → Int32} (h4 : Y' 4 (2 * r) = Y 4 (2 * r)) (h5 : Y' 4 (2 * r + 1) = Y 4 (2 * r + 1)) (W : WF m) (hm : RecEq m m') (hR : NM Y r m) : NM Y' r m' := by
  have h14 := W.2.1
  have hp := W.2.2.2.1
  have w0 : ∀ q k, q < 4 → k < 7 → m' (14 + q * 8 + k) = m (14 + q * 8 + k) := fun q k hq hk => re_w hm _ (by omega) (by simp only [recW, Bool.or_eq_true, Bool.and_eq_true, decide_eq_true_eq]; omega)
  have w1 : ∀ s k, s < 14 → k < 7 → m' (46 + s * 24 + k) = m (46 + s * 24 + k) := fun s k hs hk => re_fld hm hs (by omega) (by omega)
  unfold NM nameP at hR ⊢
  rw [h4, h5, re_nS hm, re_nP hm]
  refine ⟨fun q hq => ?_, fun s hs => ?_⟩
  · obtain ⟨n, n1, n6, e1, e2, e3⟩ := hR.1 q hq
    refine ⟨n, n1, n6, e1, ?_, fun k hk => ?_⟩
    · exact (w0 q 0 (by omega) (by omega)).trans e2
    · have := w0 q (1 + k) (by omega) (by omega)
      rw [← Nat.add_assoc] at this
      rw [this]; exact e3 k hk
  · obtain ⟨n, n1, n6, e1, e2, e3⟩ := hR.2 s hs
    refine ⟨n, n1, n6, e1, ?_, fun k hk => ?_⟩
    · exact (w1 s 0 (by omega) (by omega)).trans e2
    · have := w1 s (1 + k) (by omega) (by omega)
      rw [← Nat.add_assoc] at this
      rw [this]; exact e3 k hk
/-- what a call that changes no more than the present state leaves alone -/
def Fr (Y Y' : Mem) : Prop := Y' 1 0 0 = Y 1 0 0 ∧ Y' 0 = Y 0 ∧ Y' 9 = Y 9 ∧ Y' 3 (rg Y 0) = Y 3 (rg Y 0) ∧ Y' 4 (2 * rg Y 0) = Y 4 (2 * rg Y 0) ∧ Y' 4 (2 * rg Y 0 + 1) = Y 4 (2 * rg Y 0 + 1) ∧ (∀ g, 2 ≤ g → Y' 2 g = Y 2 g) ∧ Y' 10 0 0 2 = Y 10 0 0 2 ∧ Y' 10 0 2 = Y 10 0 2 ∧ ∀ x, 382 ≤ x → x < 3438 → Y' 10 0 1 x = Y 10 0 1 x
theorem Inv_gen {Y Y' : Mem} (hI : Inv Y) (hF : Fr Y Y') (hK : KS (Y' 2 0) (Y 10 0 1) (Y' 10 0 1)) (hT : TX Y') (hE : ER Y') (hO : OU Y') : Inv Y' := by
  obtain ⟨W, n1, hR, -, ⟨r, r2, r3, r4⟩, hN, -, -, -, ⟨n, c, c1, c2, c3, c4, c5, c6⟩, hS⟩ := hI
  obtain ⟨f1, f0, f9, f3, f4, f5, f2, fu, fs, fm⟩ := hF
  have hre := hK.1
  have er : rg Y' 0 = rg Y 0 := by unfold rg; rw [f1]
  have hb : ∀ j, 1 ≤ j → j ≤ 8 → ∀ x, x < 382 → blk (Y' 10 0 1) j x = blk (Y 10 0 1) j x := fun j h1 h8 x hx => fm _ (by omega) (by omega)
  have hks : ∀ g j, 2 ≤ g → 1 ≤ j → j ≤ 8 → KS (Y 2 g) (Y 10 0 1) (blk (Y 10 0 1) j) → KS (Y' 2 g) (Y' 10 0 1) (blk (Y' 10 0 1) j) := by
    intro g j hg h1 h8 hk
    rw [f2 g hg]
    have q := KS_cg hk (KS_nS hk W) (fun x _ => rfl) (hb j h1 h8)
    exact ⟨re_trans (re_symm hre) q.1, q.2⟩
  refine ⟨re_WF hre W, by rw [re_nS hre]; exact n1, ?_, ⟨re_refl _, hK.2⟩, ⟨r, r2, by rw [f1]; exact r3, by rw [f0]; exact r4⟩, ?_, hT, hE, hO, ⟨n, c, c1, c2, by rw [f9]; exact c3, by rw [f9]; exact c4, by rw [fu]; exact c5, fun i hi => hks _ _ (by omega) (by omega) (by omega) (c6 i hi)⟩, ?_⟩
  · rw [er]; exact RR_re W hre (RR_cells f3 f4 f5 hR)
  · rw [er]; exact NM_cells f4 f5 W hre hN
  · intro i hi
    rw [f0, fs]
    rcases hS i hi with q | q
    · exact Or.inl q
    · exact Or.inr ⟨q.1, q.2.1, hks _ _ (by omega) (by omega) (by omega) q.2.2⟩
/-- the class's quiet steps; the model's -/
def QC (Y Y' : Mem) : Prop := Y' 10 = Y 10 ∧ Y' 0 = Y 0 ∧ Y' 9 = Y 9 ∧ Y' 3 = Y 3 ∧ Y' 4 = Y 4 ∧ Y' 5 = Y 5 ∧ Y' 6 = Y 6 ∧ Y' 1 0 0 = Y 1 0 0 ∧ ∀ g, g ≠ 1 → Y' 2 g = Y 2 g
def QM (Y Y' : Mem) : Prop := (∀ k, k ≠ 10 → Y' k = Y k) ∧ Y' 10 0 2 = Y 10 0 2 ∧ Y' 10 0 3 = Y 10 0 3 ∧ Y' 10 0 4 = Y 10 0 4 ∧ (∀ x, x ≠ 9 → Y' 10 0 0 x = Y 10 0 0 x) ∧ ∀ x, x < 3438 → Y' 10 0 1 x = Y 10 0 1 x
theorem Inv_QC {Y Y' : Mem} (hI : Inv Y) (h : QC Y Y') : Inv Y' := by
  obtain ⟨h10, h0, h9, h3, h4, h5, h6, h1, h2⟩ := h
  obtain ⟨W, n1, hR, hK, hrc, hN, hT, hE, hO, hH, hS⟩ := hI
  refine Inv_gen (Y := Y) ⟨W, n1, hR, hK, hrc, hN, hT, hE, hO, hH, hS⟩ ⟨h1, h0, h9, by rw [h3], by rw [h4], by rw [h4], fun g hg => h2 g (by omega), by rw [h10], by rw [h10], fun x _ _ => by rw [h10]⟩ ?_ ?_ ?_ ?_
  · rw [h2 0 (by omega), h10]; exact hK
  · unfold TX TXn at hT ⊢; rw [h10, h5]; exact hT
  · unfold ER at hE ⊢; rw [h10, h6]; exact hE
  · unfold OU at hO ⊢; rw [h10, h5]; exact hO
theorem Inv_QM {Y Y' : Mem} (hI : Inv Y) (h : QM Y Y') : Inv Y' := by
  obtain ⟨hk, h2, h3, h4, h0, h1⟩ := h
  obtain ⟨W, n1, hR, hK, hrc, hN, hT, hE, hO, hH, hS⟩ := hI
  refine Inv_gen (Y := Y) ⟨W, n1, hR, hK, hrc, hN, hT, hE, hO, hH, hS⟩ ⟨by rw [hk 1 (by omega)], hk 0 (by omega), hk 9 (by omega), by rw [hk 3 (by omega)], by rw [hk 4 (by omega)], by rw [hk 4 (by omega)], fun g _ => by rw [hk 2 (by omega)], h0 2 (by omega), h2, fun x _ hx => h1 x hx⟩ ?_ ?_ ?_ ?_
  · rw [hk 2 (by omega)]
    have q := KS_cg hK W.2.1 (fun x _ => rfl) (fun x hx => h1 x (by omega))
    exact q
  · unfold TX TXn at hT ⊢; rw [hk 5 (by omega), h0 4 (by omega), h3]; exact hT
  · unfold ER at hE ⊢; rw [hk 6 (by omega), h0 5 (by omega), h0 6 (by omega)]; exact hE
  · unfold OU at hO ⊢; rw [hk 5 (by omega), h0 8 (by omega), h4]; exact hO
theorem QC_refl (Y : Mem) : QC Y Y := ⟨rfl, rfl, rfl, rfl, rfl, rfl, rfl, rfl, fun _ _ => rfl⟩
theorem QM_9 (Y : Mem) (v : Int32) : QM Y (up Y 10 0 0 9 v) := by
  have e : ∀ k o, ¬ (k = 10 ∧ o = 0) → ∀ g, up Y 10 0 0 9 v k g o = Y k g o := fun k o h g => by rw [up_eq]; exact upR_o (by omega)
  refine ⟨fun k hk => ?_, e 10 2 (by omega) 0, e 10 3 (by omega) 0, e 10 4 (by omega) 0, fun x hx => ?_, fun x _ => ?_⟩
  · funext g o; exact e k o (by omega) g
  · rw [up_at]; exact pk_un hx
  · rw [e 10 1 (by omega) 0]
theorem QM_trans {a b c : Mem} (h1 : QM a b) (h2 : QM b c) : QM a c :=
  ⟨fun k hk => (h2.1 k hk).trans (h1.1 k hk), h2.2.1.trans h1.2.1, h2.2.2.1.trans h1.2.2.1, h2.2.2.2.1.trans h1.2.2.2.1, fun x hx => (h2.2.2.2.2.1 x hx).trans (h1.2.2.2.2.1 x hx), fun x hx => (h2.2.2.2.2.2 x hx).trans (h1.2.2.2.2.2 x hx)⟩
theorem QC_trans {a b c : Mem} (h1 : QC a b) (h2 : QC b c) : QC a c := by
  obtain ⟨p1, p2, p3, p4, p5, p6, p7, p8, p9⟩ := h1
  obtain ⟨q1, q2, q3, q4, q5, q6, q7, q8, q9⟩ := h2
  exact ⟨q1.trans p1, q2.trans p2, q3.trans p3, q4.trans p4, q5.trans p5, q6.trans p6, q7.trans p7, q8.trans p8, fun g hg => (q9 g hg).trans (p9 g hg)⟩
/-- what a call of class and model must come to -/
def R1 (c : Option ((Nat × Mem) ⊕ (Int32 × Mem))) (mo : Mem → Option (Int32 × Mem)) (code : Nat → Int32) : Prop :=
  (∃ n Yc, c = some (.inl (n, Yc)) ∧ code n ≠ 0 ∧ ∃ b Ym, mo Yc = some (b, Ym) ∧ Ym 10 0 0 9 = code n ∧ Inv Ym) ∨ (∃ r Yc, c = some (.inr (r, Yc)) ∧ ∃ Ym, mo Yc = some (r, Ym) ∧ Ym 10 0 0 9 = 0 ∧ Inv Ym)
def R0 (c : Option Int32) (mo : Option (Int32 × Mem)) : Prop := ∃ r Ym, c = some r ∧ mo = some (r, Ym) ∧ Inv Ym
def R0m (c : Option (Int32 × Mem)) (mo : Mem → Option (Int32 × Mem)) : Prop := ∃ r Yc Ym, c = some (r, Yc) ∧ mo Yc = some (r, Ym) ∧ Inv Ym
theorem KR_of {Y : Mem} (hI : Inv Y) : ∃ B, B ≤ 9999 ∧ Y 10 0 1 4 = nI B ∧ KR Y 0 (Y 10 0 1) B ∧ BU (Y 10 0 1) B := by
  obtain ⟨W, n1, hR, ⟨-, ⟨B, b1, b2, b3, b4⟩, h2, h3⟩, -⟩ := hI
  exact ⟨B, b1, b2, ⟨W, hR, b3, h2, h3⟩, b4⟩
theorem KR_ag {Y : Mem} {g B : Nat} {m m' : Nat → Int32} (h : KR Y g m B) (hm : ∀ x, x < 382 → m' x = m x) : KR Y g m' B := by
  obtain ⟨W, hR, b3, h2, h3⟩ := h
  have q := KS_cg (a := m) (b := m) (a' := m') (b' := m') (σ := Y 2 g)
  refine ⟨re_WF (re_agree hm) W, RR_re W (re_agree hm) hR, St_cg (re_nS (re_agree hm)) (fun k hk w hw _ => hm _ (by have := W.2.1; omega)) (fun x hx => hm x (by omega)) b3, by rw [hm 10 (by omega)]; exact h2, by rw [hm 6 (by omega)]; exact h3⟩
end
