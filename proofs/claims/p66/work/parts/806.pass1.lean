section
/-! THE LAW'S KITCHEN: pass, its first two loops -/
/-- the memory with the law's kitchen, its array of the fresh, its array of the next -/
def M13 (Y : Mem) (g : Nat → Int32) (h : Nat → Nat → Int32) : Mem := k12 (upR Y 13 0 0 g) h
theorem M13_up12 (Y : Mem) (g : Nat → Int32) (h : Nat → Nat → Int32) (o j : Nat) (v : Int32) : up (M13 Y g h) 12 0 o j v = M13 Y g (uo h o j v) := up_k12 _ _ _ _ _
theorem k12_upR (Y : Mem) (h : Nat → Nat → Int32) {k g o : Nat} (f : Nat → Int32) (hk : k ≠ 12) : upR (k12 Y h) k g o f = k12 (upR Y k g o f) h := by
  funext k' g' o'
  unfold upR k12
  by_cases q : k' = k ∧ g' = g ∧ o' = o
  · rw [if_pos q, if_neg (by omega)]; dsimp only; rw [if_pos q]
  · rw [if_neg q]; dsimp only; rw [if_neg q]
theorem M13_up13 (Y : Mem) (g : Nat → Int32) (h : Nat → Nat → Int32) (j : Nat) (v : Int32) : up (M13 Y g h) 13 0 0 j v = M13 Y (upd g j v) h := by
  unfold M13
  rw [up_eq, k12_upR _ _ _ (by decide), upR_upR, k12_k (by decide), upR_at]
theorem M13_lo {Y : Mem} {g : Nat → Int32} {h : Nat → Nat → Int32} {k : Nat} (hk : k ≤ 10) : M13 Y g h k = Y k := by
  unfold M13
  rw [k12_k (by omega)]
  funext g' o'
  exact upR_ne Y _ (by omega)
theorem M13_m (Y : Mem) (g : Nat → Int32) (h : Nat → Nat → Int32) : M13 Y g h 10 0 1 = Y 10 0 1 := by rw [M13_lo (by decide)]
theorem M13_12 (Y : Mem) (g : Nat → Int32) (h : Nat → Nat → Int32) (o : Nat) : M13 Y g h 12 0 o = h o := k12_at _ _ _
theorem M13_13 (Y : Mem) (g : Nat → Int32) (h : Nat → Nat → Int32) : M13 Y g h 13 0 0 = g := by
  unfold M13
  rw [k12_k (by decide), upR_at]
theorem Inv_M13 {Y : Mem} (g : Nat → Int32) (h : Nat → Nat → Int32) (hI : Inv Y) : Inv (M13 Y g h) := Inv_fr (fun _ hk => M13_lo hk) hI
/-- what the law's kitchen holds; its paths stand apart -/
def LPk (h : Nat → Nat → Int32) (μ : Nat → Int32) (p : Nat → Nat) : Prop :=
  h 0 1 = nI (nS μ) ∧ (∀ s, s < nS μ → h 1 s = fld μ s 17 ∧ (fld μ s 17 = 1 → h 2 s = fld μ s 18) ∧ h 3 s = fld μ s 19 ∧ h 4 s = nI (p s)) ∧ h 0 7 = μ 4 ∧ h 0 8 = μ 7 ∧ h 0 9 = μ 8 ∧ h 0 10 = μ 9 ∧ h 0 11 = μ 10
def Frs (g : Nat → Int32) (μ : Nat → Int32) (i : Nat) : Prop := ∀ s, s < nS μ → g s = bI (decide (s < i) && (fld μ s 23 == 1))
theorem nar1 : vp_nar .boolean 1 = 1 := by decide
theorem nar0k : vp_nar .boolean 0 = 0 := by decide
theorem narb (b : Bool) : vp_nar .boolean (bI b) = bI b := by cases b <;> decide
theorem RcE_re {m μ μ' : Nat → Int32} (h : RcE m μ) (hr : RecEq μ μ') (h7 : ∀ s, fld μ' s 7 = fld μ s 7) (h0 : μ' 0 = μ 0) : RcE m μ' :=
  ⟨re_trans h.1 hr, fun s hs => (h7 s).trans (h.2.1 s hs), h0.trans h.2.2⟩
theorem mWork_0 (m : Nat → Int32) (i : Nat) {x : Nat} (hx : x < 46) (h8 : x ≠ 8) (h10 : x ≠ 10) : mWork m i x = m x := by
  unfold mWork
  split
  · split
    · rw [mW2_lo _ hx, if_neg h8, mW1_lo _ hx, if_neg h10]
    · rw [mW1_lo _ hx, if_neg h10]
  · exact lo_upd m _ hx
theorem work_step {h : Nat → Nat → Int32} {g : Nat → Int32} {μ : Nat → Int32} {p : Nat → Nat} {i : Nat} (hL : LPk h μ p) (hF : Frs g μ i) (hi : i < nS μ) (hn : ¬ fld μ i 17 = 1) : LPk h (mWork μ i) p ∧ Frs g (mWork μ i) (i + 1) := by
  have hn9 : nS (mWork μ i) = nS μ := re_nS (mWork_re μ i)
  rw [mWork_fr hn] at hn9 ⊢
  obtain ⟨a1, a2, a3, a4, a5, a6, a7⟩ := hL
  have lo : ∀ x, x < 46 → (upd μ (46 + i * 24 + 23) 0) x = μ x := fun x hx => lo_upd μ _ hx
  refine ⟨⟨by rw [hn9]; exact a1, fun s hs => ?_, by rw [lo 4 (by omega)]; exact a3, by rw [lo 7 (by omega)]; exact a4, by rw [lo 8 (by omega)]; exact a5, by rw [lo 9 (by omega)]; exact a6, by rw [lo 10 (by omega)]; exact a7⟩, fun s hs => ?_⟩
  · rw [hn9] at hs
    rw [fr_fld μ 0 (by omega), if_neg (by omega), fr_fld μ 0 (by omega), if_neg (by omega), fr_fld μ 0 (by omega), if_neg (by omega)]
    exact a2 s hs
  · rw [hn9] at hs
    rw [hF s hs, fr_fld μ 0 (by omega)]
    by_cases e : s = i
    · subst e
      rw [if_pos ⟨rfl, rfl⟩, decide_eq_false (Nat.lt_irrefl _), Bool.false_and]
      rw [show ((0 : Int32) == 1) = false by decide, Bool.and_false]
    · rw [if_neg (by omega)]
      have : decide (s < i) = decide (s < i + 1) := by
        by_cases q : s < i
        · rw [decide_eq_true q, decide_eq_true (by omega)]
        · rw [decide_eq_false q, decide_eq_false (by omega)]
      rw [this]
theorem run_step {h : Nat → Nat → Int32} {g : Nat → Int32} {μ : Nat → Int32} {p : Nat → Nat} {i r : Nat} (hL : LPk h μ p) (hF : Frs g μ i) (hi : i < nS μ) (hr : fld μ i 17 = 1) (h18 : fld μ i 18 = nI r) (h1 : 1 ≤ r) (h60 : r ≤ 60) (h11 : fld μ i 11 = 0 ∨ fld μ i 11 = 1) :
    (¬ r = 1 → LPk (uo (uo h 0 11 (h 0 11 + (1 - fld μ i 11))) 2 i (nI r - 1)) (mWork μ i) p ∧ Frs g (mWork μ i) (i + 1)) ∧
    (r = 1 → LPk (uo (uo (uo (uo (uo h 0 11 (h 0 11 + (1 - fld μ i 11))) 2 i (nI r - 1)) 1 i 2) 3 i 0) 0 9 (h 0 9 + 1)) (mWork μ i) p ∧ Frs (upd g i 1) (mWork μ i) (i + 1)) := by
  have hn9 : nS (mWork μ i) = nS μ := re_nS (mWork_re μ i)
  obtain ⟨a1, a2, a3, a4, a5, a6, a7⟩ := hL
  have hdec : ∀ s, s ≠ i → decide (s < i) = decide (s < i + 1) := fun s e => by
    by_cases q : s < i
    · rw [decide_eq_true q, decide_eq_true (by omega)]
    · rw [decide_eq_false q, decide_eq_false (by omega)]
  rw [mWork_run hr h18 h1 h60] at hn9 ⊢
  constructor
  · intro hne
    rw [if_neg hne] at hn9 ⊢
    have lo : ∀ x, x < 46 → x ≠ 10 → (mW1 μ i) x = μ x := fun x hx h10 => by rw [mW1_lo μ hx, if_neg h10]
    refine ⟨⟨?_, fun s hs => ?_, ?_, ?_, ?_, ?_, ?_⟩, fun s hs => ?_⟩
    · rw [uo_f (by decide), uo_o (by omega), hn9]; exact a1
    · rw [hn9] at hs
      obtain ⟨z1, z2, z3, z4⟩ := a2 s hs
      have e17 : fld (mW1 μ i) s 17 = fld μ s 17 := by rw [mW1_fld μ (by omega), if_neg (by omega), if_neg (by omega)]
      have e18 : fld (mW1 μ i) s 18 = if s = i then fld μ i 18 - 1 else fld μ s 18 := by
        rw [mW1_fld μ (by omega), if_neg (by omega)]
        by_cases e : s = i
        · rw [if_pos ⟨e, rfl⟩, if_pos e]
        · rw [if_neg (by omega), if_neg e]
      have e19 : fld (mW1 μ i) s 19 = fld μ s 19 := by rw [mW1_fld μ (by omega), if_neg (by omega), if_neg (by omega)]
      rw [e17, e18, e19]
      refine ⟨?_, fun q => ?_, ?_, ?_⟩
      · rw [uo_f (by decide), uo_f (by decide)]; exact z1
      · by_cases e : s = i
        · subst e; rw [uo_s, if_pos rfl, h18]
        · rw [uo_o (by omega), uo_f (by decide), if_neg e]; exact z2 q
      · rw [uo_f (by decide), uo_f (by decide)]; exact z3
      · rw [uo_f (by decide), uo_f (by decide)]; exact z4
    · rw [uo_f (by decide), uo_o (by omega), lo 4 (by omega) (by omega)]; exact a3
    · rw [uo_f (by decide), uo_o (by omega), lo 7 (by omega) (by omega)]; exact a4
    · rw [uo_f (by decide), uo_o (by omega), lo 8 (by omega) (by omega)]; exact a5
    · rw [uo_f (by decide), uo_o (by omega), lo 9 (by omega) (by omega)]; exact a6
    · rw [uo_f (by decide), uo_s, mW1_lo μ (by omega), if_pos rfl, a7]
    · rw [hn9] at hs
      rw [hF s hs, mW1_fld μ (by omega)]
      by_cases e : s = i
      · subst e
        rw [if_pos ⟨rfl, rfl⟩, decide_eq_false (Nat.lt_irrefl _), Bool.false_and, show ((0 : Int32) == 1) = false by decide, Bool.and_false]
      · rw [if_neg (by omega), if_neg (by omega), hdec s e]
  · intro he
    rw [if_pos he] at hn9 ⊢
    have lo : ∀ x, x < 46 → x ≠ 8 → x ≠ 10 → (mW2 (mW1 μ i) i) x = μ x := fun x hx h8 h10 => by rw [mW2_lo _ hx, if_neg h8, mW1_lo μ hx, if_neg h10]
    refine ⟨⟨?_, fun s hs => ?_, ?_, ?_, ?_, ?_, ?_⟩, fun s hs => ?_⟩
    · rw [uo_o (by omega), uo_f (by decide), uo_f (by decide), uo_f (by decide), uo_o (by omega), hn9]; exact a1
    · rw [hn9] at hs
      obtain ⟨z1, z2, z3, z4⟩ := a2 s hs
      by_cases e : s = i
      · subst e
        refine ⟨?_, fun q => ?_, ?_, ?_⟩
        · rw [uo_f (by decide), uo_f (by decide), uo_s, mW2_fld _ (by omega), if_pos ⟨rfl, rfl⟩]
        · rw [mW2_fld _ (by omega), if_pos ⟨rfl, rfl⟩] at q
          exact absurd q (by decide)
        · rw [uo_f (by decide), uo_s, mW2_fld _ (by omega), if_neg (by omega), if_pos ⟨rfl, rfl⟩]
        · rw [uo_f (by decide), uo_f (by decide), uo_f (by decide), uo_f (by decide), uo_f (by decide)]; exact z4
      · have ef : ∀ w, w < 24 → fld (mW2 (mW1 μ i) i) s w = fld μ s w := fun w hw => by rw [mW2_fld _ hw, if_neg (by omega), if_neg (by omega), if_neg (by omega), mW1_fld μ hw, if_neg (by omega), if_neg (by omega)]
        rw [ef 17 (by omega), ef 18 (by omega), ef 19 (by omega)]
        refine ⟨?_, fun q => ?_, ?_, ?_⟩
        · rw [uo_f (by decide), uo_f (by decide), uo_o (by omega), uo_f (by decide), uo_f (by decide)]; exact z1
        · rw [uo_f (by decide), uo_f (by decide), uo_f (by decide), uo_o (by omega), uo_f (by decide)]; exact z2 q
        · rw [uo_f (by decide), uo_o (by omega), uo_f (by decide), uo_f (by decide), uo_f (by decide)]; exact z3
        · rw [uo_f (by decide), uo_f (by decide), uo_f (by decide), uo_f (by decide), uo_f (by decide)]; exact z4
    · rw [uo_o (by omega), uo_f (by decide), uo_f (by decide), uo_f (by decide), uo_o (by omega), lo 4 (by omega) (by omega) (by omega)]; exact a3
    · rw [uo_o (by omega), uo_f (by decide), uo_f (by decide), uo_f (by decide), uo_o (by omega), lo 7 (by omega) (by omega) (by omega)]; exact a4
    · rw [uo_s, mW2_lo _ (by omega), if_pos rfl, mW1_lo μ (by omega), if_neg (by omega), a5]
    · rw [uo_o (by omega), uo_f (by decide), uo_f (by decide), uo_f (by decide), uo_o (by omega), lo 9 (by omega) (by omega) (by omega)]; exact a6
    · rw [uo_o (by omega), uo_f (by decide), uo_f (by decide), uo_f (by decide), uo_s, mW2_lo _ (by omega), if_neg (by omega), mW1_lo μ (by omega), if_pos rfl, a7]
    · rw [hn9] at hs
      by_cases e : s = i
      · subst e
        rw [pk_us, mW2_fld _ (by omega), if_neg (by omega), if_neg (by omega), if_pos ⟨rfl, Or.inr rfl⟩, decide_eq_true (Nat.lt_succ_self _)]
        rfl
      · rw [pk_un e, hF s hs, mW2_fld _ (by omega), if_neg (by omega), if_neg (by omega), if_neg (by omega), mW1_fld μ (by omega), if_neg (by omega), if_neg (by omega), hdec s e]
end
