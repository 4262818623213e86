/-! PHASE 3: CONSTRUCTORS: where the cells come to lie; worlds of groups -/
/-- the places of the law's cells, counted from the first -/
def posR (g : Nat) : Nat := if g = 0 then 5 else 141
def pos (k g o : Nat) : Nat :=
  if k = 0 then (if o = 0 then 0 else if o = 1 then 125 else 140)
  else if k = 1 then (if g = 0 then 59 else 70) + (if o = 0 then 0 else 7 + o)
  else if k = 2 then (if g = 0 then 60 else if g = 1 then 71 else if g < 8 then 83 + 7 * (g - 2) else 126 + 7 * (g - 8)) + o
  else if k = 3 then posR g + (if o = 0 then 0 else if o = 1 then 8 else if o = 2 then 9 else if o = 3 then 27 else if o = 4 then 28 else if o = 5 then 29 else if o = 6 then 30 else if o = 7 then 45 else if o = 8 then 46 else if o = 9 then 47 else 11 + o)
  else if k = 4 then posR (g / 2) + (if g % 2 = 0 then (if o = 0 then 1 else if o = 1 then 2 else if o = 2 then 7 else o - 7) else (if o = 0 then 10 else if o = 1 then 11 else if o = 2 then 26 else 2 + o))
  else if k = 5 then (if g = 0 then 1 else 53) + o
  else if k = 6 then 3
  else if k = 7 then 4
  else if k = 8 then 55 + o
  else if k = 9 then 81 + o
  else if k = 10 then 189 + o
  else 199
def adr (M : Nat) (cst : Nat → Nat → Nat → Nat) (k g o : Nat) : Nat := if 12 ≤ k then cst k g o else M + pos k g o
theorem adr_lo {M : Nat} {cst : Nat → Nat → Nat → Nat} {k g o : Nat} (h : k < 12) : adr M cst k g o = M + pos k g o := by
  unfold adr
  rw [if_neg (by omega)]
theorem adr_hi {M : Nat} {cst : Nat → Nat → Nat → Nat} {k g o : Nat} (h : 12 ≤ k) : adr M cst k g o = cst k g o := by
  unfold adr
  rw [if_pos h]
/-- a group's cells lie as the memory says -/
def GP (D : va_G) (T : Nat → ClassId) (ad : Nat → Nat → Nat → Nat) (Y : Mem) (k g : Nat) (H : Heap) : Prop := ∀ o ∈ offs k g, va_at D vwCl (ad k g o, cell T ad k g o (Y k g o)) H
theorem PM_wC {D : va_G} {T : Nat → ClassId} {ad : Nat → Nat → Nat → Nat} {Y : Mem} {gr : List (Nat × Nat)} {H : Heap} (h : ∀ q ∈ gr, GP D T ad Y q.1 q.2 H) : PM D (wC T gr ad Y) H := by
  intro q hq
  obtain ⟨c, hc, rfl⟩ := List.mem_map.mp hq
  obtain ⟨x, hx, hc⟩ := List.mem_flatMap.mp hc
  obtain ⟨o, ho, rfl⟩ := List.mem_map.mp hc
  exact h x hx o ho
theorem wC_GP {D : va_G} {T : Nat → ClassId} {ad : Nat → Nat → Nat → Nat} {Y : Mem} {gr : List (Nat × Nat)} {H : Heap} (h : PM D (wC T gr ad Y) H) {k g : Nat} (hq : (k, g) ∈ gr) : GP D T ad Y k g H := fun o ho =>
  h _ (List.mem_map.mpr ⟨(k, g, o), List.mem_flatMap.mpr ⟨(k, g), hq, List.mem_map.mpr ⟨o, ho, rfl⟩⟩, rfl⟩)
theorem GP_mem {D : va_G} {T : Nat → ClassId} {ad : Nat → Nat → Nat → Nat} {Y Y' : Mem} {k g : Nat} {H : Heap} (h : GP D T ad Y k g H) (e : Y' k g = Y k g) : GP D T ad Y' k g H := by
  unfold GP at h ⊢
  rw [e]
  exact h
/-- all places differ, all lie above -/
theorem DM_adr {T : Nat → ClassId} {M : Nat} {cst : Nat → Nat → Nat → Nat} {Y : Mem} {gr : List (Nat × Nat)} {A : Nat → Prop} (lo : Nat) (hk : (gr.all fun q => decide (q.1 < 12)) = true) (hn : ((keys gr).map fun q => pos q.1 q.2.1 q.2.2).Nodup) (hlo : ((keys gr).all fun q => decide (lo ≤ pos q.1 q.2.1 q.2.2)) = true) (hA : ∀ q, M + lo ≤ q → A q) : DM A (wC T gr (adr M cst) Y) := by
  have hk20 : ∀ c ∈ keys gr, c.1 < 12 := fun c hc => by
    obtain ⟨x, hx, hc⟩ := List.mem_flatMap.mp hc
    obtain ⟨o, ho, rfl⟩ := List.mem_map.mp hc
    exact of_decide_eq_true (List.all_eq_true.mp hk x hx)
  refine ⟨?_, fun q hq => ?_⟩
  · unfold wC
    rw [List.pairwise_map]
    have h1 := List.pairwise_map.mp hn
    refine List.Pairwise.imp_of_mem (fun {a b} ha hb hab e => hab ?_) h1
    dsimp only at e
    rw [adr_lo (hk20 a ha), adr_lo (hk20 b hb)] at e
    exact Nat.add_left_cancel e
  · obtain ⟨c, hc, rfl⟩ := List.mem_map.mp hq
    dsimp only
    rw [adr_lo (hk20 c hc)]
    have h1 := of_decide_eq_true (List.all_eq_true.mp hlo c hc)
    exact hA _ (by omega)
theorem at_of {D : va_G} {a a' : Nat} {e e' : va_E} {H : Heap} (ha : a' = a) (he : e' = e) (h : va_at D vwCl (a, e) H) : va_at D vwCl (a', e') H := by
  subst ha; subst he; exact h
/-- arrays of references: what lies beyond the length counts for nothing -/
theorem at_refs {D : va_G} {a a' : Nat} {cT : ClassId} {n : Nat} {f f' : Nat → Option Nat} {H : Heap} (ha : a' = a) (hf : ∀ j, j < n → f' j = f j) (h : va_at D vwCl (a, .inl (cT, n, .inr (.inr (.inr (.inr f))))) H) : va_at D vwCl (a', .inl (cT, n, .inr (.inr (.inr (.inr f'))))) H := by
  subst ha
  show H[a']? = some (vp_cell cT (n, .inr (.inr (.inr (.inr f')))))
  have h1 : H[a']? = some (vp_cell cT (n, .inr (.inr (.inr (.inr f))))) := h
  rw [h1, vp_cell_q, vp_cell_q]
  congr 1
  exact arrV_cong fun j hj => by rw [hf j hj]
section
variable {D : va_G} {T : Nat → ClassId} {ad : Nat → Nat → Nat → Nat} {Y : Mem} {H : Heap} {g h sz : Nat}
theorem GP_Text0 (h1 : PM D (wText700 T h sz) H) (hY : ∀ o, Y 5 0 o = fun _ => 0) (a0 : ad 5 0 0 = h) (a1 : ad 5 0 1 = sz) : GP D T ad Y 5 0 H := by
  intro o ho
  rcases (by simpa [offs] using ho : o = 0 ∨ o = 1) with rfl | rfl
  · exact at_of a0 (by rw [ce5, hY, a1]) (h1 _ (List.mem_of_getElem? (i := 0) rfl))
  · exact at_of a1 (by rw [hY]; rfl) (h1 _ (List.mem_of_getElem? (i := 1) rfl))
theorem GP_Text1 (h1 : PM D (wText125 T h sz) H) (hY : ∀ o, Y 5 1 o = fun _ => 0) (a0 : ad 5 1 0 = h) (a1 : ad 5 1 1 = sz) : GP D T ad Y 5 1 H := by
  intro o ho
  rcases (by simpa [offs] using ho : o = 0 ∨ o = 1) with rfl | rfl
  · exact at_of a0 (by rw [ce5, hY, a1]) (h1 _ (List.mem_of_getElem? (i := 0) rfl))
  · exact at_of a1 (by rw [hY]; rfl) (h1 _ (List.mem_of_getElem? (i := 1) rfl))
theorem GP_Tokens {a1 : Nat} (h1 : PM D (wTokens T a1 h sz) H) (hY : Y 6 0 0 = fun j => if j = 5 then -1 else 0) (a0 : ad 6 0 0 = h) (e1 : ad 5 0 0 = a1) : GP D T ad Y 6 0 H := by
  intro o ho
  obtain rfl : o = 0 := by simpa [offs] using ho
  exact at_of a0 (by rw [ce6, hY, e1]; rfl) (h1 _ (List.mem_of_getElem? (i := 0) rfl))
theorem GP_Setup {a1 : Nat} (h1 : PM D (wSetup T a1 h sz) H) (a0 : ad 7 0 0 = h) (e1 : ad 6 0 0 = a1) : GP D T ad Y 7 0 H := by
  intro o ho
  obtain rfl : o = 0 := by simpa [offs] using ho
  exact at_of a0 (by rw [ce7, e1]) (h1 _ (List.mem_of_getElem? (i := 0) rfl))
theorem GP_State (h1 : PM D (wState T h sz) H) (hY : ∀ o, Y 2 g o = fun _ => 0) (a0 : ad 2 g 0 = h) (a1 : ad 2 g 1 = sz) (a2 : ad 2 g 2 = sz + 1) (a3 : ad 2 g 3 = sz + 2) (a4 : ad 2 g 4 = sz + 3) (a5 : ad 2 g 5 = sz + 4) (a6 : ad 2 g 6 = sz + 5) : GP D T ad Y 2 g H := by
  intro o ho
  rcases (by simpa [offs] using ho : o = 0 ∨ o = 1 ∨ o = 2 ∨ o = 3 ∨ o = 4 ∨ o = 5 ∨ o = 6) with rfl | rfl | rfl | rfl | rfl | rfl | rfl
  · exact at_of a0 (by rw [ce2, hY, a1, a2, a3, a4, a5, a6]) (h1 _ (List.mem_of_getElem? (i := 0) rfl))
  · exact at_of a1 (by rw [hY]; rfl) (h1 _ (List.mem_of_getElem? (i := 6) rfl))
  · exact at_of a2 (by rw [hY]; rfl) (h1 _ (List.mem_of_getElem? (i := 5) rfl))
  · exact at_of a3 (by rw [hY]; rfl) (h1 _ (List.mem_of_getElem? (i := 4) rfl))
  · exact at_of a4 (by rw [hY]; rfl) (h1 _ (List.mem_of_getElem? (i := 3) rfl))
  · exact at_of a5 (by rw [hY]; rfl) (h1 _ (List.mem_of_getElem? (i := 2) rfl))
  · exact at_of a6 (by rw [hY]; rfl) (h1 _ (List.mem_of_getElem? (i := 1) rfl))
theorem GP_Script {a1 P : Nat} (h1 : PM D (wScript T a1 P h sz) H) (hY : ∀ o, o ≠ 1 → Y 8 0 o = fun _ => 0) (hY1 : Y 8 0 1 = fun _ => 1) (hp : ad 20 0 0 = P) (a0 : ad 8 0 0 = h) (b1 : ad 8 0 1 = sz) (b2 : ad 8 0 2 = sz + 1) (b3 : ad 8 0 3 = sz + 2) (e1 : ad 6 0 0 = a1) : GP D T ad Y 8 0 H := by
  intro o ho
  rcases (by simpa [offs] using ho : o = 0 ∨ o = 1 ∨ o = 2 ∨ o = 3) with rfl | rfl | rfl | rfl
  · exact at_of a0 (by rw [ce8, hY 0 (by decide), e1, b1, b2, b3]) (h1 _ (List.mem_of_getElem? (i := 0) rfl))
  · exact at_refs b1 (fun j hj => by rw [if_pos hj, ← hp, hY1]; exact if_neg (show ¬ (1 : Int32) = 0 by decide)) (h1 _ (List.mem_of_getElem? (i := 3) rfl))
  · exact at_of b2 (by rw [hY 2 (by decide)]; rfl) (h1 _ (List.mem_of_getElem? (i := 2) rfl))
  · exact at_of b3 (by rw [hY 3 (by decide)]; rfl) (h1 _ (List.mem_of_getElem? (i := 1) rfl))
theorem mem_rows {cT : ClassId} {b0 : vp_A} {a i N : Nat} (h : i < N) : (a + i, (.inl (cT, b0) : va_E)) ∈ rowsW cT b0 a N := List.mem_map.mpr ⟨i, List.mem_range.mpr h, rfl⟩
theorem cell4_r (T : Nat → ClassId) (ad : Nat → Nat → Nat → Nat) (g i : Nat) (y : Nat → Int32) : cell T ad 4 g (10 + i) y = .inl (T 1, 6, .inl y) := by
  unfold cell
  rw [if_neg (by omega), if_neg (by omega), if_neg (by omega), if_neg (by omega), if_pos rfl, if_neg (by omega), if_neg (by omega), if_neg (by omega)]
theorem cell3_r (T : Nat → ClassId) (ad : Nat → Nat → Nat → Nat) (g i : Nat) (y : Nat → Int32) : cell T ad 3 g (20 + i) y = .inl (T 0, 4, .inl y) := by
  unfold cell
  rw [if_neg (by omega), if_neg (by omega), if_neg (by omega), if_pos rfl, if_neg (by omega), if_neg (by omega), if_pos (by omega)]
theorem cell4_1 (T : Nat → ClassId) (ad : Nat → Nat → Nat → Nat) (g : Nat) (y : Nat → Int32) : cell T ad 4 g 1 y = .inl (T 4, ncap g, .inr (.inr (.inr (.inr (fun i => some (ad 4 g (10 + i))))))) := rfl
theorem cell4_2 (T : Nat → ClassId) (ad : Nat → Nat → Nat → Nat) (g : Nat) (y : Nat → Int32) : cell T ad 4 g 2 y = .inl (T 0, ncap g, .inl y) := rfl
theorem offs4 {g o : Nat} (ho : o ∈ offs 4 g) : o = 0 ∨ o = 1 ∨ o = 2 ∨ ∃ i, i < ncap g ∧ o = 10 + i := by
  unfold offs at ho
  rw [if_neg (by omega), if_neg (by omega), if_neg (by omega), if_neg (by omega), if_pos rfl] at ho
  rcases List.mem_append.mp ho with h | h
  · simp at h
    rcases h with h | h | h
    · exact Or.inl h
    · exact Or.inr (Or.inl h)
    · exact Or.inr (Or.inr (Or.inl h))
  · obtain ⟨i, hi, rfl⟩ := List.mem_map.mp h
    exact Or.inr (Or.inr (Or.inr ⟨i, List.mem_range.mp hi, rfl⟩))
theorem GP_Names4 (h1 : PM D (wNames4 T h sz) H) (hc : ncap g = 4) (hY : ∀ o, Y 4 g o = fun _ => 0) (a0 : ad 4 g 0 = h) (a1 : ad 4 g 1 = sz) (a2 : ad 4 g 2 = sz + 5) (ar : ∀ i, ad 4 g (10 + i) = sz + 1 + i) : GP D T ad Y 4 g H := by
  intro o ho
  rcases offs4 ho with rfl | rfl | rfl | ⟨i, hi, rfl⟩
  · exact at_of a0 (by rw [ce4, hY, a1, a2]) (h1 _ (List.mem_of_getElem? (i := 0) rfl))
  · rw [cell4_1, hc]
    exact at_refs a1 (fun j _ => by rw [ar]) (h1 _ (List.mem_of_getElem? (i := 2) rfl))
  · exact at_of a2 (by rw [cell4_2, hY, hc]) (h1 _ (List.mem_of_getElem? (i := 1) rfl))
  · rw [cell4_r, hY]
    rw [hc] at hi
    exact at_of (ar i) rfl (h1 _ (List.mem_cons_of_mem _ (List.mem_cons_of_mem _ (List.mem_cons_of_mem _ (mem_rows hi)))))
theorem GP_Names14 (h1 : PM D (wNames14 T h sz) H) (hc : ncap g = 14) (hY : ∀ o, Y 4 g o = fun _ => 0) (a0 : ad 4 g 0 = h) (a1 : ad 4 g 1 = sz) (a2 : ad 4 g 2 = sz + 15) (ar : ∀ i, ad 4 g (10 + i) = sz + 1 + i) : GP D T ad Y 4 g H := by
  intro o ho
  rcases offs4 ho with rfl | rfl | rfl | ⟨i, hi, rfl⟩
  · exact at_of a0 (by rw [ce4, hY, a1, a2]) (h1 _ (List.mem_of_getElem? (i := 0) rfl))
  · rw [cell4_1, hc]
    exact at_refs a1 (fun j _ => by rw [ar]) (h1 _ (List.mem_of_getElem? (i := 2) rfl))
  · exact at_of a2 (by rw [cell4_2, hY, hc]) (h1 _ (List.mem_of_getElem? (i := 1) rfl))
  · rw [cell4_r, hY]
    rw [hc] at hi
    exact at_of (ar i) rfl (h1 _ (List.mem_cons_of_mem _ (List.mem_cons_of_mem _ (List.mem_cons_of_mem _ (mem_rows hi)))))
end
section
variable {D : va_G} {T : Nat → ClassId} {ad : Nat → Nat → Nat → Nat} {Y : Mem} {H : Heap} {g h sz : Nat}
theorem offs3 {g o : Nat} (ho : o ∈ offs 3 g) : o < 10 ∨ ∃ i, i < 14 ∧ o = 20 + i := by
  unfold offs at ho
  rw [if_neg (by omega), if_neg (by omega), if_neg (by omega), if_pos rfl] at ho
  rcases List.mem_append.mp ho with h | h
  · simp at h
    left
    omega
  · obtain ⟨i, hi, rfl⟩ := List.mem_map.mp h
    exact Or.inr ⟨i, List.mem_range.mp hi, rfl⟩
theorem cell3_6 (T : Nat → ClassId) (ad : Nat → Nat → Nat → Nat) (g : Nat) (y : Nat → Int32) : cell T ad 3 g 6 y = .inl (T 5, 14, .inr (.inr (.inr (.inr (fun i => some (ad 3 g (20 + i))))))) := rfl
theorem GP_Recipe (h1 : PM D (wRecipe T h sz) H) (hY : ∀ o, Y 3 g o = fun _ => 0) (a0 : ad 3 g 0 = h) (p0 : ad 4 (2 * g) 0 = sz) (p1 : ad 4 (2 * g + 1) 0 = sz + 9) (a1 : ad 3 g 1 = sz + 7) (a2 : ad 3 g 2 = sz + 8) (a3 : ad 3 g 3 = sz + 26) (a4 : ad 3 g 4 = sz + 27) (a5 : ad 3 g 5 = sz + 28) (a6 : ad 3 g 6 = sz + 29) (a7 : ad 3 g 7 = sz + 44) (a8 : ad 3 g 8 = sz + 45) (a9 : ad 3 g 9 = sz + 46) (ar : ∀ i, ad 3 g (20 + i) = sz + 30 + i) : GP D T ad Y 3 g H := by
  intro o ho
  rcases offs3 ho with h9 | ⟨i, hi, rfl⟩
  · rcases (by omega : o = 0 ∨ o = 1 ∨ o = 2 ∨ o = 3 ∨ o = 4 ∨ o = 5 ∨ o = 6 ∨ o = 7 ∨ o = 8 ∨ o = 9) with rfl | rfl | rfl | rfl | rfl | rfl | rfl | rfl | rfl | rfl
    · exact at_of a0 (by rw [ce3, hY, p0, p1, a1, a2, a3, a4, a5, a6, a7, a8, a9]) (h1 _ (List.mem_of_getElem? (i := 0) rfl))
    · exact at_of a1 (by rw [hY]; rfl) (h1 _ (List.mem_of_getElem? (i := 40) rfl))
    · exact at_of a2 (by rw [hY]; rfl) (h1 _ (List.mem_of_getElem? (i := 39) rfl))
    · exact at_of a3 (by rw [hY]; rfl) (h1 _ (List.mem_of_getElem? (i := 21) rfl))
    · exact at_of a4 (by rw [hY]; rfl) (h1 _ (List.mem_of_getElem? (i := 20) rfl))
    · exact at_of a5 (by rw [hY]; rfl) (h1 _ (List.mem_of_getElem? (i := 19) rfl))
    · rw [cell3_6]
      exact at_refs a6 (fun j _ => by rw [ar]) (h1 _ (List.mem_of_getElem? (i := 4) rfl))
    · exact at_of a7 (by rw [hY]; rfl) (h1 _ (List.mem_of_getElem? (i := 3) rfl))
    · exact at_of a8 (by rw [hY]; rfl) (h1 _ (List.mem_of_getElem? (i := 2) rfl))
    · exact at_of a9 (by rw [hY]; rfl) (h1 _ (List.mem_of_getElem? (i := 1) rfl))
  · rw [cell3_r, hY]
    exact at_of (ar i) rfl (h1 _ (List.mem_cons_of_mem _ (List.mem_cons_of_mem _ (List.mem_cons_of_mem _ (List.mem_cons_of_mem _ (List.mem_cons_of_mem _ (List.mem_append_left _ (mem_rows hi))))))))
theorem wRecipe_n4 (h1 : PM D (wRecipe T h sz) H) : PM D (wNames4 T sz (sz + 1)) H := fun q hq => h1 q (by
  unfold wRecipe
  simp only [List.mem_cons, List.mem_append, hq, or_true])
theorem wRecipe_n14 (h1 : PM D (wRecipe T h sz) H) : PM D (wNames14 T (sz + 9) (sz + 10)) H := fun q hq => h1 q (by
  unfold wRecipe
  simp only [List.mem_cons, List.mem_append, hq, or_true, true_or])
theorem GP_History (h1 : PM D (wHistory T h sz) H) (hY : ∀ o, Y 9 0 o = fun _ => 0) (a0 : ad 9 0 0 = h) (a1 : ad 9 0 1 = sz) (b0 : ad 2 2 0 = sz + 1) (b1 : ad 2 3 0 = sz + 8) (b2 : ad 2 4 0 = sz + 15) (b3 : ad 2 5 0 = sz + 22) (b4 : ad 2 6 0 = sz + 29) (b5 : ad 2 7 0 = sz + 36) : GP D T ad Y 9 0 H := by
  intro o ho
  rcases (by simpa [offs] using ho : o = 0 ∨ o = 1) with rfl | rfl
  · exact at_of a0 (by rw [ce9, hY, a1]) (h1 _ (List.mem_of_getElem? (i := 0) rfl))
  · refine at_refs a1 (fun j hj => ?_) (h1 _ (List.mem_of_getElem? (i := 43) rfl))
    have e0 : (0 : Int32).toNatClampNeg = 0 := by decide
    have e1 : (1 : Int32).toNatClampNeg = 1 := by decide
    have e2 : (2 : Int32).toNatClampNeg = 2 := by decide
    have e3 : (3 : Int32).toNatClampNeg = 3 := by decide
    have e4 : (4 : Int32).toNatClampNeg = 4 := by decide
    have e5 : (5 : Int32).toNatClampNeg = 5 := by decide
    rw [e0, e1, e2, e3, e4, e5]
    show some (ad 2 (2 + j) 0) = _
    rcases (by omega : j = 0 ∨ j = 1 ∨ j = 2 ∨ j = 3 ∨ j = 4 ∨ j = 5) with rfl | rfl | rfl | rfl | rfl | rfl
    · rw [show 2 + 0 = 2 from rfl, b0]; rfl
    · rw [show 2 + 1 = 3 from rfl, b1]; rfl
    · rw [show 2 + 2 = 4 from rfl, b2]; rfl
    · rw [show 2 + 3 = 5 from rfl, b3]; rfl
    · rw [show 2 + 4 = 6 from rfl, b4]; rfl
    · rw [show 2 + 5 = 7 from rfl, b5]; rfl
theorem wHistory_s (i : Nat) (hi : i < 6) (h1 : PM D (wHistory T h sz) H) : PM D (wState T (sz + 1 + 7 * i) (sz + 2 + 7 * i)) H := fun q hq => h1 q (by
  unfold wHistory
  rcases (by omega : i = 0 ∨ i = 1 ∨ i = 2 ∨ i = 3 ∨ i = 4 ∨ i = 5) with rfl | rfl | rfl | rfl | rfl | rfl <;> simp only [Nat.mul_zero, Nat.mul_one, Nat.reduceMul, Nat.add_zero, Nat.add_assoc, Nat.reduceAdd] at hq <;> simp only [List.mem_cons, List.mem_append, hq, or_true, true_or])
end
theorem SStr.narrow {N0 N1 : Nat} {ad : Nat → Nat → Nat → Nat} {s : State} {H : Heap} (hN : N0 ≤ N1) (h : SStr N0 ad s H) : SStr N1 ad s H := fun i hi => ⟨(h i hi).1.narrow (fun _ q => Nat.le_trans hN q), (h i hi).2.1.narrow (fun _ q => Nat.le_trans hN q), (h i hi).2.2.1.narrow (fun _ q => Nat.le_trans hN q), (h i hi).2.2.2.narrow (fun _ q => Nat.le_trans hN q)⟩
theorem SEnum.narrow {N0 N1 : Nat} {ad : Nat → Nat → Nat → Nat} {s : State} {H : Heap} (hN : N0 ≤ N1) (h : SEnum N0 ad s H) : SEnum N1 ad s H := fun i hi => (h i hi).narrow (fun _ q => Nat.le_trans hN q)
theorem Stt.narrow {N0 N1 : Nat} {ad : Nat → Nat → Nat → Nat} {s : State} {H : Heap} (hN : N0 ≤ N1) (h : Stt N0 ad s H) : Stt N1 ad s H := by
  obtain ⟨h1, hR, h3, ⟨h4, h5⟩, ⟨h6, h7⟩, h8, h9, h10, h11, h12⟩ := h
  have hq : ∀ q : Nat, N1 ≤ q → N0 ≤ q := fun _ q => Nat.le_trans hN q
  exact ⟨h1.narrow hN, hR, h3.narrow hN, ⟨h4.narrow hq, h5.narrow hq⟩, ⟨h6.narrow hq, h7.narrow hq⟩, h8.narrow hq, h9.narrow hq, h10.narrow hq, h11.narrow hq, h12.narrow hq⟩
section GWC
variable {p : Program} {l : Launch} {e : Env} {R : Room} {s : State} {m : MethodId} {args : Array Value} {below : List Frame} {meth : Method} {c : Code} {cc : ByteArray} {nL : Nat} {T : Nat → ClassId} {D : va_G} {A : Nat → Prop} {sz cells slots : Nat} {Q : State → Prop} {ws : va_W} {pc : Nat} {L L' : List (Nat × Value)} {st : List Value} {Ts : List Cond} {own : String}
/-- the world told otherwise -/
theorem gw_conv (ws' : va_W) (hP : ∀ H : Heap, PM D ws H → PM D ws' H) (hD : DM A ws') (k : GW p l e R s m args below meth c nL D A sz cells slots Q ws' pc L st) : GW p l e R s m args below meth c nL D A sz cells slots Q ws pc L st :=
  fun H locs ls h1 _ hz hS hl1 => k H locs ls (hP H h1) hD hz hS hl1
/-- a method called over a world of groups, with one more object below -/
theorem gw_callVv (C : CG p s m args meth c cc nL Ts own T D A sz) {Nc N0 : Nat} {gr : List (Nat × Nat)} {ad : Nat → Nat → Nat → Nat} {Y res : Mem} {pre : va_W} {k0 g0 o0 ci index n maxL N : Nat} {Cn : String} {Tc : u_T} {fs : List Value} {y : MethodName} {bytes : ByteArray} {ret : Option FieldType} {wsy : List Cond} {rm : Room} {As st0 : List Value} (hM : CV l y wsy rm N0 T D gr ad Y (.ref (ad k0 g0 o0) :: As) (fun Y1 => Y1 = res)) (cw : CallW R s args own Cn index y bytes maxL ret wsy rm 0 0 n) (hc : vwCl[ci]? = some (Cn, Tc, N)) (hg : (k0, g0) ∈ gr) (ho : o0 ∈ offs k0 g0) (he : cell T ad k0 g0 o0 (Y k0 g0 o0) = .inr (ci, fs))
    (hDw : DM (fun q => N0 ≤ q) (wC T gr ad Y)) (hpre : ∀ q ∈ pre, q.1 < N0) (hA : ∀ q, N0 ≤ q → A q) (hSt : Stt Nc ad s s.heap) (hNc : Nc ≤ N0) (hcA : ∀ q, q < Nc → ¬ A q) (hNcs : Nc ≤ sz) (hN : N0 ≤ sz + cells)
    (hn : As.length = n) (hst : st0 = As.reverse ++ .ref (ad k0 g0 o0) :: st) (hcat : (st.map fun v => v.category).sum ≤ 8) (hf : cells ≤ R.cells ∧ slots ≤ R.slots) (d : decode cc pc = .ok (.invokevirtual index, 3)) (k : GW p l e R s m args below meth c nL D A sz cells slots Q (pre ++ wC T gr ad res) (pc + 3) L st) : GW p l e R s m args below meth c nL D A sz cells slots Q (pre ++ wC T gr ad Y) pc L st0 := by
  intro H locs ls hP hD hz hS hl1
  obtain ⟨q0, hq⟩ := keys_at hg ho
  have hPw : PM D (wC T gr ad Y) H := fun q hq => hP q (List.mem_append_right _ hq)
  have hDv : va_D (fun q => N0 ≤ q) (wC T gr ad Y) := hDw.to
  have hss : Nc ≤ s.heap.size := by rw [cg_sz C]; exact hNcs
  refine va_callv (va_runV (As := As) (rest := st) ⟨C.1, C.2.1, C.2.2.1, C.2.2.2.1, C.2.2.2.2.1⟩ hM cw ⟨WP_blind N0 T D gr ad Y (Value.ref (ad k0 g0 o0) :: As), va_recv C.2.2.2.2.2.1 hPw.to (ci := ci) (q0 := q0) hc (by rw [wC_key hq, he]), fun U hU hW => ⟨rfl, by rw [hU, hz]; exact hN, by rw [hU]; exact hPw.to, va_K.moved hW.alike C.2.2.2.2.2.1, hDv, Nst_warm hW (cg_nst C), (Stt_moved hW (by rw [hU]; exact hS.1) (fun q h1 _ => by rw [hU]; exact hS.2.1 q (Nat.lt_of_lt_of_le h1 hss) (hcA q h1)) hSt).narrow hNc⟩⟩ rfl hn hl1.1 hst (lv_room hcat) d hf) hS (fun q _ h => hA q h) (fun q h => hA q h) (fun u t H1 locs1 ht hvm hw hB hz1 hk1 hS1 => W_sz fun hu => ?_)
  subst hw
  have hPn : PM D (wC T gr ad u) H1 := PM.of (by rw [← ht]; exact hB)
  have hDn := DM.of (wC_D hDv u)
  refine k H1 locs1 ls (PM.app (PM.kept (D := D) (ws := pre) (H := H) (fun q hq => hP q (List.mem_append_left _ hq)) fun q hq => hk1 q.1 (hP q (List.mem_append_left _ hq)).lt (Nat.not_le.mpr (hpre q hq))) hPn) ⟨List.pairwise_append.mpr ⟨(List.pairwise_append.mp hD.1).1, hDn.1, fun a ha b hb e => ?_⟩, fun q hq => ?_⟩ (by rw [cg_sz C] at hu; omega) hS1 hl1
  · have h1 := hpre a ha
    have h2 := hDn.2 b hb
    rw [e] at h1
    exact Nat.not_le.mpr h1 h2
  · rcases List.mem_append.mp hq with h | h
    · exact hD.2 q (List.mem_append_left _ h)
    · exact hA _ (hDn.2 q h)
/-- one of the three string constants or more: ldc -/
theorem gw_ldc (C : CG p s m args meth c cc nL Ts own T D A sz) {k0 a : Nat} {tx : String} (hR : vk_R own k0 tx a s) (d : decode cc pc = .ok (.ldc k0, 2)) (k : GW p l e R s m args below meth c nL D A sz cells slots Q ws (pc + 2) L (.ref a :: st)) : GW p l e R s m args below meth c nL D A sz cells slots Q ws pc L st := by
  intro H locs ls hP hD hz hS hl1
  exact va_ldcS C.1 C.2.1 C.2.2.2.1 hR d (k H locs ls hP hD hz hS hl1)
end GWC
