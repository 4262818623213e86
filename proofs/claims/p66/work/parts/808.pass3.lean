section
/-! THE LAW'S KITCHEN: pass, the starts -/
def M14 (Y : Mem) (g q : Nat → Int32) (h : Nat → Nat → Int32) : Mem := upR (M13 Y g h) 14 0 0 q
theorem M14_up14 (Y : Mem) (g q : Nat → Int32) (h : Nat → Nat → Int32) (j : Nat) (v : Int32) : up (M14 Y g q h) 14 0 0 j v = M14 Y g (upd q j v) h := by
  unfold M14
  rw [up_eq, upR_upR, upR_at]
theorem up_upR_c (Z : Mem) {k g o k' g' o' j : Nat} (f : Nat → Int32) (v : Int32) (hk : k' ≠ k) : up (upR Z k g o f) k' g' o' j v = upR (up Z k' g' o' j v) k g o f := by
  funext a b c d
  unfold up upR
  by_cases q : a = k ∧ b = g ∧ c = o
  · rw [if_neg (by omega), if_pos q, if_pos q]
  · rw [if_neg q, if_neg q]
theorem M14_up12 (Y : Mem) (g q : Nat → Int32) (h : Nat → Nat → Int32) (o j : Nat) (v : Int32) : up (M14 Y g q h) 12 0 o j v = M14 Y g q (uo h o j v) := by
  unfold M14
  rw [up_upR_c _ _ _ (by decide), M13_up12]
theorem M14_lo {Y : Mem} {g q : Nat → Int32} {h : Nat → Nat → Int32} {k : Nat} (hk : k ≤ 10) : M14 Y g q h k = Y k := by
  have e : M14 Y g q h k = M13 Y g h k := by funext g' o'; exact upR_ne _ _ (by omega)
  rw [e, M13_lo hk]
theorem M14_m (Y : Mem) (g q : Nat → Int32) (h : Nat → Nat → Int32) : M14 Y g q h 10 0 1 = Y 10 0 1 := by rw [M14_lo (by decide)]
theorem M14_12 (Y : Mem) (g q : Nat → Int32) (h : Nat → Nat → Int32) (o : Nat) : M14 Y g q h 12 0 o = h o := by
  unfold M14
  rw [upR_ne _ _ (by omega), M13_12]
theorem M14_14 (Y : Mem) (g q : Nat → Int32) (h : Nat → Nat → Int32) : M14 Y g q h 14 0 0 = q := upR_at _ _ _ _ _
theorem Inv_M14 {Y : Mem} (g q : Nat → Int32) (h : Nat → Nat → Int32) (hI : Inv Y) : Inv (M14 Y g q h) := Inv_fr (fun _ hk => M14_lo hk) hI
theorem flag_loop {Y : Mem} (hI : Inv Y) {μ : Nat → Int32} {p : Nat → Nat} {g : Nat → Int32} {h : Nat → Nat → Int32} (hE : RcE (Y 10 0 1) μ) (hL : LPk h μ p) : ∀ i, i ≤ nS (Y 10 0 1) → ∀ f q, nS (Y 10 0 1) - i < f → (∀ s, s < i → q s = bI (isReady μ s)) →
    ∃ q', X12_pass_b219 f (M14 Y g q h) (nI i) = (bd1 (X12_next (M14 Y g q' h)) <| fun r8 => X12_pass_b247 FU (M14 Y g q' h) r8) ∧ ∀ s, s < nS (Y 10 0 1) → q' s = bI (isReady μ s) := by
  have h14 := nS_le hI
  have hn : nS μ = nS (Y 10 0 1) := re_nS hE.1
  refine upl ?_ ?_
  · intro f q f_h hq
    obtain ⟨f, rfl⟩ := fuel_s f_h
    refine ⟨q, ?_, hq⟩
    rw [X12_pass_b219, M14_12, hL.1, hn, if_pos (Int32.le_refl _)]
  · intro i hi ih f q f_h hq
    obtain ⟨f, rfl⟩ := fuel_s f_h
    have hr : X12_isReady (M14 Y g q h) (nI i) = some (bI (isReady μ i)) := kready_ok (Inv_M14 g q h hI) (by rw [M14_m]; exact hE) ⟨by rw [M14_12]; exact hL.1, fun s hs => by rw [M14_12]; exact (hL.2.1 s hs).1⟩ (by rw [M14_m]; exact hi)
    obtain ⟨q', w1, w2⟩ := ih f (upd q i (bI (isReady μ i))) (by omega) (fun s hs => by
      by_cases e : s = i
      · subst e; exact pk_us
      · rw [pk_un e]; exact hq s (by omega))
    refine ⟨q', ?_, w2⟩
    rw [X12_pass_b219, M14_12, hL.1, hn, if_neg (by rw [nI_leI (by omega) (by omega)]; omega), hr, bd1_e, gdi (show i < 14 by omega), ix_n (by omega), narb, M14_up14, lt_e, nI_1]
    exact w1
/-- before: the better -/
def Bfr (p : Nat → Nat) (a b : Nat) : Prop := p b < p a ∨ (p b = p a ∧ a < b)
theorem next_head {Y : Mem} {n : Nat} {p : Nat → Nat} {q : Nat → Int32} {L : List Nat} (h1 : Y 12 0 0 1 = nI n) (h14 : n ≤ 14) (hq : Y 14 0 0 = q) (hf : ∀ s, s < n → q s = bI (decide (s ∈ L))) (hp : ∀ k, k < n → Y 12 0 4 k = nI (p k)) (hlt : ∀ k, p k < 2 ^ 30) (hm : ∀ s ∈ L, s < n) (hs : L.Pairwise (Bfr p)) : X12_next Y = some (oI L.head?) := by
  rw [next_ok h1 h14 (g := fun s => decide (s ∈ L)) (fun k hk => by rw [hq]; exact hf k hk) hp hlt]
  congr 2
  cases L with
  | nil => exact best_no fun k hk => by simp
  | cons x xs =>
    refine best_of (hm x List.mem_cons_self) (by simp) fun k hk hg hne => ?_
    have hk2 : k ∈ xs := by
      rcases List.mem_cons.mp (of_decide_eq_true hg) with e | e
      · exact absurd e hne
      · exact e
    exact (List.pairwise_cons.mp hs).1 k hk2
theorem st1_step {h : Nat → Nat → Int32} {μ : Nat → Int32} {p : Nat → Nat} {i : Nat} (hL : LPk h μ p) (hi : i < nS μ) : LPk (uo (uo (uo h 1 i 1) 2 i (fld μ i 7)) 0 8 (h 0 8 + 1)) (mSt1 μ i) p := by
  have hn9 : nS (mSt1 μ i) = nS μ := re_nS (mSt1_re μ i)
  obtain ⟨a1, a2, a3, a4, a5, a6, a7⟩ := hL
  have lo : ∀ x, x < 46 → x ≠ 7 → (mSt1 μ i) x = μ x := fun x hx h7 => by rw [mSt1_lo _ hx, if_neg h7]
  refine ⟨by rw [uo_o (by omega), uo_f (by decide), uo_f (by decide), hn9]; exact a1, fun s hs => ?_, by rw [uo_o (by omega), uo_f (by decide), uo_f (by decide), lo 4 (by omega) (by omega)]; exact a3, by rw [uo_s, mSt1_lo _ (by omega), if_pos rfl, a4], by rw [uo_o (by omega), uo_f (by decide), uo_f (by decide), lo 8 (by omega) (by omega)]; exact a5, by rw [uo_o (by omega), uo_f (by decide), uo_f (by decide), lo 9 (by omega) (by omega)]; exact a6, by rw [uo_o (by omega), uo_f (by decide), uo_f (by decide), lo 10 (by omega) (by omega)]; exact a7⟩
  rw [hn9] at hs
  obtain ⟨z1, z2, z3, z4⟩ := a2 s hs
  by_cases e : s = i
  · subst e
    refine ⟨?_, fun _ => ?_, ?_, ?_⟩
    · rw [uo_f (by decide), uo_f (by decide), uo_s, mSt1_fld _ (by omega), if_pos ⟨rfl, rfl⟩]
    · rw [uo_f (by decide), uo_s, mSt1_fld _ (by omega), if_neg (by omega), if_pos ⟨rfl, rfl⟩]
    · rw [uo_f (by decide), uo_f (by decide), uo_f (by decide), mSt1_fld _ (by omega), if_neg (by omega), if_neg (by omega), if_neg (by omega)]; exact z3
    · rw [uo_f (by decide), uo_f (by decide), uo_f (by decide)]; exact z4
  · have ef : ∀ w, w < 24 → fld (mSt1 μ i) s w = fld μ s w := fun w hw => by rw [mSt1_fld _ hw, if_neg (by omega), if_neg (by omega), if_neg (by omega)]
    rw [ef 17 (by omega), ef 18 (by omega), ef 19 (by omega)]
    refine ⟨?_, fun q => ?_, ?_, ?_⟩
    · rw [uo_f (by decide), uo_f (by decide), uo_o (by omega)]; exact z1
    · rw [uo_f (by decide), uo_o (by omega), uo_f (by decide)]; exact z2 q
    · rw [uo_f (by decide), uo_f (by decide), uo_f (by decide)]; exact z3
    · rw [uo_f (by decide), uo_f (by decide), uo_f (by decide)]; exact z4
theorem start_loop {Y : Mem} (hI : Inv Y) {p : Nat → Nat} {g : Nat → Int32} (hlt : ∀ k, p k < 2 ^ 30) : ∀ (L : List Nat) μ q h f, L.length < f → (∀ s ∈ L, s < nS (Y 10 0 1)) → L.Pairwise (Bfr p) → (∀ s, s < nS (Y 10 0 1) → q s = bI (decide (s ∈ L))) → RcE (Y 10 0 1) μ → LPk h μ p →
    ∃ q' h', X12_pass_b247 f (M14 Y g q h) (oI L.head?) = some (M14 Y g q' (uo h' 0 7 (h' 0 7 + 1))) ∧ LPk h' (mStarts μ L) p ∧ h' 0 2 = h 0 2 ∧ RcE (Y 10 0 1) (mStarts μ L) := by
  have h14 := nS_le hI
  intro L
  induction L with
  | nil =>
    intro μ q h f f_h _ _ _ hE hL
    obtain ⟨f, rfl⟩ := fuel_s f_h
    refine ⟨q, h, ?_, hL, rfl, hE⟩
    rw [X12_pass_b247, show oI ([] : List Nat).head? = -1 from rfl, if_pos (by decide), M14_12, M14_up12, lt_e]
  | cons x xs ih =>
    intro μ q h f f_h hm hs hf hE hL
    obtain ⟨f, rfl⟩ := fuel_s f_h
    have hn : nS μ = nS (Y 10 0 1) := re_nS hE.1
    have hx := hm x List.mem_cons_self
    obtain ⟨p1, p2⟩ := List.pairwise_cons.mp hs
    have hnx : x ∉ xs := fun hmem => by
      rcases p1 x hmem with e | e <;> omega
    have hf2 : ∀ s, s < nS (Y 10 0 1) → (upd q x 0) s = bI (decide (s ∈ xs)) := fun s hs9 => by
      by_cases e : s = x
      · subst e; rw [pk_us, decide_eq_false hnx]; rfl
      · rw [pk_un e, hf s hs9]
        congr 1
        rw [decide_eq_decide]
        exact ⟨fun z => (List.mem_cons.mp z).resolve_left e, fun z => List.mem_cons_of_mem _ z⟩
    have hcs : X12_canStart (M14 Y g (upd q x 0) h) (nI x) = some (bI (hasCook μ x && hasPan μ x)) := canStart_ok (Inv_M14 _ _ _ hI) (by rw [M14_m]; exact hE) ⟨by rw [M14_12]; exact hL.1, fun s hs => by rw [M14_12]; exact (hL.2.1 s hs).1⟩ (by rw [M14_m]; exact hx)
    have hnext : ∀ h9 μ9, LPk h9 μ9 p → RcE (Y 10 0 1) μ9 → X12_next (M14 Y g (upd q x 0) h9) = some (oI xs.head?) := fun h9 μ9 l9 e9 => by
      have hn9 : nS μ9 = nS (Y 10 0 1) := re_nS e9.1
      exact next_head (by rw [M14_12, l9.1, hn9]) h14 (M14_14 _ _ _ _) hf2 (fun k hk => by rw [M14_12]; exact (l9.2.1 k (by omega)).2.2.2) hlt (fun s z => hm s (List.mem_cons_of_mem _ z)) p2
    have hms : mStarts μ (x :: xs) = mStarts (mStart μ x) xs := mStarts_c μ x xs
    rw [hms]
    rw [X12_pass_b247, show oI (x :: xs).head? = nI x from rfl, if_neg (show ¬ nI x < 0 from nI_pos (by omega)), gdi (show x < 14 by omega), ix_n (by omega), nar0k, M14_up14, lt_e, hcs, bd1_e]
    unfold X12_pass_b297
    cases c : (hasCook μ x && hasPan μ x)
    · have e9 : mStart μ x = μ := by
        unfold mStart
        cases c1 : hasCook μ x
        · rw [if_neg (by decide)]
        · rw [if_pos rfl]
          rw [c1, Bool.true_and] at c
          rw [c, if_neg (by decide)]
      rw [e9, bI_f, if_pos rfl, hnext h μ hL hE, bd1_e]
      exact ih μ (upd q x 0) h f (by simpa using f_h) (fun s z => hm s (List.mem_cons_of_mem _ z)) p2 hf2 hE hL
    · obtain ⟨c1, c2⟩ := Bool.and_eq_true_iff.mp c
      have e9 : mStart μ x = mSt1 μ x := by unfold mStart; rw [if_pos c1, if_pos c2]
      have hE2 : RcE (Y 10 0 1) (mSt1 μ x) := by
        rw [← e9]
        exact RcE_re hE (mStart_re μ x) (mStart_7 μ x) (mStart_lo μ x (by omega) (by omega))
      have hd : fld (Y 10 0 1) x 7 = fld μ x 7 := (hE.2.1 x hx).symm
      have hL2 := st1_step hL (i := x) (by omega)
      rw [e9, bI_t, if_neg (by decide), M14_up12, lt_e, v_duration (Inv_M14 _ _ _ hI) (by rw [M14_m]; exact hx), bd1_e, M14_m, hd, M14_up12, lt_e, M14_12, show (uo (uo h 1 x 1) 2 x (fld μ x 7)) 0 8 = h 0 8 by rw [uo_f (by decide), uo_f (by decide)], M14_up12, lt_e, hnext _ _ hL2 hE2, bd1_e]
      obtain ⟨q', h', w1, w2, w3, w4⟩ := ih (mSt1 μ x) (upd q x 0) _ f (by simpa using f_h) (fun s z => hm s (List.mem_cons_of_mem _ z)) p2 hf2 hE2 hL2
      exact ⟨q', h', w1, w2, w3.trans (by rw [uo_o (by omega), uo_f (by decide), uo_f (by decide)]), w4⟩
theorem insr_bfr {p : Nat → Nat} {s : Nat} : ∀ {l : List Nat}, (∀ x ∈ l, x < s) → l.Pairwise (fun a b => Bfr p b a) → (insr p s l).Pairwise (fun a b => Bfr p b a) := by
  intro l
  induction l with
  | nil => intro _ _; exact List.pairwise_singleton _ _
  | cons x xs ih =>
    intro hl hp
    obtain ⟨p1, p2⟩ := List.pairwise_cons.mp hp
    rw [insr_c]
    by_cases c : p x < p s
    · rw [if_pos c]
      refine List.pairwise_cons.mpr ⟨fun y hy => ?_, ih (fun y hy => hl y (List.mem_cons_of_mem _ hy)) p2⟩
      rcases insr_mem.mp hy with rfl | h
      · exact Or.inl c
      · exact p1 y h
    · rw [if_neg c]
      refine List.pairwise_cons.mpr ⟨fun y hy => ?_, hp⟩
      have hys := hl y hy
      have hpy : p x ≤ p y := by
        rcases List.mem_cons.mp hy with rfl | h
        · exact Nat.le_refl _
        · rcases p1 y h with e | e
          · exact Nat.le_of_lt e
          · exact Nat.le_of_eq e.1
      by_cases e : p s < p y
      · exact Or.inl e
      · exact Or.inr ⟨by omega, hys⟩
theorem ordR_bfr (p : Nat → Nat) : ∀ i, (ordR p i).Pairwise (fun a b => Bfr p b a) := by
  intro i
  induction i with
  | zero => exact List.Pairwise.nil
  | succ i ih => exact insr_bfr (fun x hx => ordR_mem.mp hx) ih
theorem qR_bfr (f : Nat → Bool) (p : Nat → Nat) (n : Nat) : (qR f p n).reverse.Pairwise (Bfr p) := by
  rw [List.pairwise_reverse, qR_eq]
  exact (ordR_bfr p n).filter _
theorem LP_tick {h : Nat → Nat → Int32} {μ : Nat → Int32} {p : Nat → Nat} (hL : LPk h μ p) : LPk (uo h 0 7 (h 0 7 + 1)) (mTick μ) p := by
  obtain ⟨a1, a2, a3, a4, a5, a6, a7⟩ := hL
  have lo : ∀ x, x ≠ 4 → mTick μ x = μ x := fun x hx => pk_un hx
  have hn : nS (mTick μ) = nS μ := re_nS (mTick_re μ)
  have ef : ∀ s w, fld (mTick μ) s w = fld μ s w := fun s w => lo _ (by omega)
  refine ⟨by rw [uo_o (by omega), hn]; exact a1, fun s hs => ?_, by rw [uo_s, a3]; exact pk_us.symm, by rw [uo_o (by omega), lo 7 (by omega)]; exact a4, by rw [uo_o (by omega), lo 8 (by omega)]; exact a5, by rw [uo_o (by omega), lo 9 (by omega)]; exact a6, by rw [uo_o (by omega), lo 10 (by omega)]; exact a7⟩
  rw [hn] at hs
  rw [ef, ef, ef, uo_f (by decide), uo_f (by decide), uo_f (by decide), uo_f (by decide)]
  exact a2 s hs
theorem pass_ok {Y : Mem} (hI : Inv Y) {μ : Nat → Int32} (hE : RcE (Y 10 0 1) μ) (W : WF μ) (hM : MI μ) (h6 : μ 6 = 0) (hL : LK (Y 12 0) μ) (h2 : Y 12 0 0 2 = Y 10 0 1 1) : ∃ Y', X12_pass Y = some Y' ∧ (∀ k, k ≤ 10 → Y' k = Y k) ∧ LK (Y' 12 0) (mMin μ) ∧ Y' 12 0 0 2 = Y 10 0 1 1 ∧ RcE (Y 10 0 1) (mMin μ) := by
  have h14 := nS_le hI
  have hn : nS μ = nS (Y 10 0 1) := re_nS hE.1
  have hlt : ∀ k, pth μ k < 2 ^ 30 := fun k => Nat.lt_trans (pa_lt hM W.2.1 (Nat.le_refl _) k) (by decide)
  have e13 : upR Y 13 0 0 (fun _ => 0) = M13 Y (fun _ => 0) (Y 12 0) := by
    unfold M13
    have : (upR Y 13 0 0 (fun _ => 0)) 12 0 = Y 12 0 := by funext o; exact upR_ne _ _ (by omega)
    rw [← this, k12_self]
  obtain ⟨g1, h1, w1, w2, w3, w4⟩ := work_loop hI (p := pth μ) (nS (Y 10 0 1)) 0 μ (fun _ => 0) (Y 12 0) FU (by omega) (by have := FU_big; omega) hE hL (fun s _ => by rw [decide_eq_false (Nat.not_lt_zero s), Bool.false_and]; rfl) (fun s _ hs h17 => (hM s (by omega)).1 h17)
  have hE1 : RcE (Y 10 0 1) (mWorks μ 0 (nS (Y 10 0 1))) := by
    refine RcE_re hE (mWorks_re _ _ _) (mWorks_7 _ _ _) ?_
    have : ∀ d i (ν : Nat → Int32), mWorks ν i d 0 = ν 0 := by
      intro d
      induction d with
      | zero => intro i ν; rfl
      | succ d ih => intro i ν; exact (ih (i + 1) (mWork ν i)).trans (mWork_0 ν i (by omega) (by omega) (by omega))
    exact this _ _ _
  obtain ⟨h3, x1, x2, x3, x4⟩ := cool_loop hI (p := pth μ) (g := g1) (nS (Y 10 0 1)) 0 _ h1 FU (by omega) (by have := FU_big; omega) hE1 w2 (fun s hs => by rw [w3 s (by rw [re_nS hE1.1]; exact hs), decide_eq_true hs, Bool.true_and]) (w4.trans h2)
  have eA : mCools (mWorks μ 0 (nS (Y 10 0 1))) 0 (nS (Y 10 0 1)) = mMinA μ := by unfold mMinA; rw [hn]
  rw [eA] at x2 x4
  have hnA : nS (mMinA μ) = nS (Y 10 0 1) := re_nS x4.1
  obtain ⟨q1, y1, y2⟩ := flag_loop hI x4 x2 (g := g1) 0 (Nat.zero_le _) FU (fun _ => 0) (by have := FU_big; omega) (fun s hs => by omega)
  have ep : pth (mMinA μ) = pth μ := funext fun k => pth_A W k
  have hmem : ∀ s ∈ (qR (isReady (mMinA μ)) (pth μ) (nS (Y 10 0 1))).reverse, s < nS (Y 10 0 1) := fun s hs => (qR_mem.mp (List.mem_reverse.mp hs)).1
  have hflag : ∀ s, s < nS (Y 10 0 1) → q1 s = bI (decide (s ∈ (qR (isReady (mMinA μ)) (pth μ) (nS (Y 10 0 1))).reverse)) := fun s hs => by
    rw [y2 s hs]
    congr 1
    rw [Bool.eq_iff_iff, decide_eq_true_iff, List.mem_reverse, qR_mem]
    exact ⟨fun z => ⟨hs, z⟩, fun z => z.2⟩
  have hnx : X12_next (M14 Y g1 q1 h3) = some (oI (qR (isReady (mMinA μ)) (pth μ) (nS (Y 10 0 1))).reverse.head?) := next_head (by rw [M14_12, x2.1, hnA]) h14 (M14_14 _ _ _ _) hflag (fun k hk => by rw [M14_12]; exact (x2.2.1 k (by omega)).2.2.2) hlt hmem (qR_bfr _ _ _)
  obtain ⟨q2, h5, z1, z2, z3, z4⟩ := start_loop hI (p := pth μ) (g := g1) hlt _ (mMinA μ) q1 h3 FU (by have := qR_len (isReady (mMinA μ)) (pth μ) (nS (Y 10 0 1)); have := FU_big; rw [List.length_reverse]; omega) hmem (qR_bfr _ _ _) hflag x4 x2
  have eB : mStarts (mMinA μ) (qR (isReady (mMinA μ)) (pth μ) (nS (Y 10 0 1))).reverse = mMinB (mMinA μ) := by unfold mMinB; rw [ep, hnA]
  rw [eB] at z2 z4
  have eM : mMin μ = mTick (mMinB (mMinA μ)) := by unfold mMin; rw [if_pos h6]
  refine ⟨M14 Y g1 q2 (uo h5 0 7 (h5 0 7 + 1)), ?_, fun k hk => M14_lo hk, ?_, ?_, ?_⟩
  · unfold X12_pass
    rw [lt_e, e13]
    exact w1.trans (x1.trans (y1.trans (by rw [hnx, bd1_e]; exact z1)))
  · have e12 : M14 Y g1 q2 (uo h5 0 7 (h5 0 7 + 1)) 12 0 = uo h5 0 7 (h5 0 7 + 1) := funext fun o => M14_12 _ _ _ _ _
    rw [e12, eM]
    have hl := LP_tick z2
    have epm : pth (mTick (mMinB (mMinA μ))) = pth μ := funext fun k => by rw [← eM]; exact pth_min W k
    refine ⟨hl.1, fun s hs => ?_, hl.2.2⟩
    rw [epm]
    exact hl.2.1 s hs
  · rw [M14_12, uo_o (by omega), z3, x3, w4]; exact h2
  · rw [eM]
    exact RcE_re z4 (mTick_re _) (fun s => by unfold mTick fld; exact pk_un (by omega)) (by unfold mTick; exact pk_un (by decide))
end
