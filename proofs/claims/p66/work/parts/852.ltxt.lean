/-! THE LAW: the text's length and letters; the world with the made String in it; the kitchen's cell -/
theorem pansF_len (sf : Nat → Int32) (sl : Nat) : ∀ d k, (pansF sf sl d k).length ≤ 10 * d := by
  intro d
  induction d with
  | zero => intro k; exact Nat.le_refl _
  | succ d ih =>
    intro k
    have h1 := panT_len sf sl k
    have h2 := ih (k + 1)
    rw [pansF, List.length_append]
    omega
theorem rowsF_len (sf : Nat → Int32) (sl pans : Nat) : ∀ d k, (rowsF sf sl pans d k).length ≤ 60 * d := by
  intro d
  induction d with
  | zero => intro k; exact Nat.le_refl _
  | succ d ih =>
    intro k
    have h1 := rowT_len sf sl pans k
    have h2 := ih (k + 1)
    rw [rowsF, List.length_append]
    omega
theorem setT_600 (sf : Nat → Int32) (sl : Nat) {n : Nat} (h : n ≤ 9) : (setT sf sl n).length ≤ 600 := by
  have h1 := headT_len sf sl
  have h2 := pansF_len sf sl (pick sf sl 1 4) 0
  have h3 := rowsF_len sf sl (pick sf sl 1 4) n 0
  have h4 : pick sf sl 1 4 < 4 := pick_lt (by decide)
  unfold setT
  rw [List.length_append, List.length_append]
  omega
/-- the letters of the text -/
def lC (sf : Nat → Int32) (sl n j : Nat) : Nat := if j < (mL sf sl n).length then (mL sf sl n).getD j 0 else 32
theorem lC_7 (sf : Nat → Int32) (sl : Nat) {n : Nat} (h : n ≤ 9) (j : Nat) : lC sf sl n j < 128 := by
  unfold lC
  by_cases hj : j < (mL sf sl n).length
  · rw [if_pos hj, List.getD_eq_getElem?_getD, List.getElem?_eq_getElem hj]
    exact mL_7 sf sl h _ (List.getElem_mem hj)
  · rw [if_neg hj]; decide
theorem setT_len (sf : Nat → Int32) (sl : Nat) {n : Nat} (h : n ≤ 9) : (setT sf sl n).length = (mL sf sl n).length := by rw [← set_m sf sl h, List.length_map]
theorem lC_s (sf : Nat → Int32) (sl : Nat) {n : Nat} (h : n ≤ 9) (j : Nat) (hj : j < (setT sf sl n).length) : nI (lC sf sl n j) = (setT sf sl n).getD j 0 := by
  rw [setT_len sf sl h] at hj
  unfold lC
  rw [if_pos hj, ← set_m sf sl h, List.getD_eq_getElem?_getD, List.getD_eq_getElem?_getD, List.getElem?_map, List.getElem?_eq_getElem hj]
  rfl
theorem lC_32 (sf : Nat → Int32) (sl : Nat) {n : Nat} (h : n ≤ 9) (j : Nat) (hj : ¬ j < (setT sf sl n).length) : nI (lC sf sl n j) = 32 := by
  rw [setT_len sf sl h] at hj
  unfold lC
  rw [if_neg hj]
  rfl
/-- the naming, the memory with the String -/
def adS (ad : Nat → Nat → Nat → Nat) (r0 a : Nat) : Nat → Nat → Nat → Nat := fun k g o => if k = 15 then r0 else if k = 16 then a else ad k g o
def YS (Y : Mem) (n : Nat) (f : Nat → Int32) : Mem := upR Y 16 0 0 (fun j => if j = 100000 then nI n else f j)
abbrev gr1 : List (Nat × Nat) := allG ++ [(15, 0), (16, 0)]
abbrev gr2 : List (Nat × Nat) := gr1 ++ [(12, 0)]
theorem adS_k {ad : Nat → Nat → Nat → Nat} {r0 a k : Nat} (h : k ≠ 15) (h2 : k ≠ 16) : adS ad r0 a k = ad k := by
  funext g o
  unfold adS
  rw [if_neg h, if_neg h2]
theorem YS_k {Y : Mem} {n k : Nat} {f : Nat → Int32} (h : k ≠ 16) : YS Y n f k = Y k := by
  funext g o
  unfold YS
  exact upR_ne Y _ (fun q => h q.1)
theorem lwS9 {T : Nat → ClassId} {ad : Nat → Nat → Nat → Nat} {Y : Mem} {n r0 a : Nat} {f : Nat → Int32} : wC T gr1 (adS ad r0 a) (YS Y n f) = wC T allG ad Y ++ [(r0, .inr (0, [.ref a, .int 0, .int 0, .int 0])), (a, .inl (T 1, (nI n).toNatClampNeg, .inl (fun j => if j = 100000 then nI n else f j)))] := by
  rw [wC_app, wC_adX (ad := ad) (Y := Y) (fun k hk => adS_k (by omega) (by omega)) (adS_k (by decide) (by decide)) (by decide) (fun k hk => YS_k (by omega))]
  congr 1
theorem g1 {g : List (Nat × Nat)} (h : (g.all fun q => decide (q ∈ gr1)) = true) : ∀ q ∈ g, q ∈ gr1 := fun q hq => of_decide_eq_true (List.all_eq_true.mp h q hq)
theorem g2 {g : List (Nat × Nat)} (h : (g.all fun q => decide (q ∈ gr2)) = true) : ∀ q ∈ g, q ∈ gr2 := fun q hq => of_decide_eq_true (List.all_eq_true.mp h q hq)
theorem n1_10 : ∀ q ∈ gr1, q.1 ≠ 10 := by decide +kernel
theorem n1_12 : ∀ q ∈ gr1, q.1 ≠ 12 := by decide +kernel
theorem n2_10 : ∀ q ∈ gr2, q.1 ≠ 10 := by decide +kernel
theorem n2_13 : ∀ q ∈ gr2, q.1 ≠ 13 := by decide +kernel
theorem n2_14 : ∀ q ∈ gr2, q.1 ≠ 14 := by decide +kernel
/-- the kitchen's own cell -/
theorem k2_at : ∃ qk : Nat, (keys gr2)[qk]? = some (12, 0, 0) := keys_at (gr := gr2) (k := 12) (g := 0) (o := 0) (by decide +kernel) (by decide)
theorem k2_cell {T : Nat → ClassId} {ad : Nat → Nat → Nat → Nat} {qk : Nat} (h : (keys gr2)[qk]? = some (12, 0, 0)) (Y : Mem) : (wC T gr2 ad Y)[qk]? = some (ad 12 0 0, .inr (12, [.ref (ad 0 0 0), .int (Y 12 0 0 1), .int (Y 12 0 0 2), .ref (ad 12 0 1), .ref (ad 12 0 2), .ref (ad 12 0 3), .ref (ad 12 0 4), .int (Y 12 0 0 7), .int (Y 12 0 0 8), .int (Y 12 0 0 9), .int (Y 12 0 0 10), .int (Y 12 0 0 11)])) := by
  rw [wC_key h]
  rfl
theorem jl_law_12 : ∀ w ∈ u_ws RX12 TX12 12, w ∈ wsL_law := by decide +kernel
theorem jl_law_11 : ∀ w ∈ u_ws RX11 TX11 11, w ∈ wsL_law := by decide +kernel
theorem jw_law_c124 : (Cond.constant RL 124 16777216) ∈ wsL_law := by decide +kernel
theorem jw_law_f141 : (Cond.fieldLink RL 141 "RecipeSchedulerLaw$Kitchen" "minute" "I") ∈ wsL_law := by decide +kernel
theorem jw_law_f147 : (Cond.fieldLink RL 147 "RecipeSchedulerLaw$Kitchen" "completions" "I") ∈ wsL_law := by decide +kernel
theorem lwc_19 : Cond.classLink RL 19 RX11 ∈ wsL_law := by decide +kernel
theorem lwc_119 : Cond.classLink RL 119 RX12 ∈ wsL_law := by decide +kernel
theorem lwi_11 : Cond.instantiable RX11 11 ∈ wsL_law := by decide +kernel
theorem lwi_12 : Cond.instantiable RX12 12 ∈ wsL_law := by decide +kernel
theorem lwn_11 : Cond.initialized RX11 ∈ wsL_law := by decide +kernel
theorem lwn_12 : Cond.initialized RX12 ∈ wsL_law := by decide +kernel
theorem lwm_11 : Cond.instanceMethod yX11_init ∈ wsL_law := by decide +kernel
theorem lwm_12 : Cond.instanceMethod yX12_init ∈ wsL_law := by decide +kernel
theorem lwk_107 : Cond.methodLink RL 107 yX11_init ∈ wsL_law := by decide +kernel
theorem lwk_121 : Cond.methodLink RL 121 yX12_init ∈ wsL_law := by decide +kernel
