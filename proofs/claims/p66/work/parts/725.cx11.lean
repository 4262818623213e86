/-! PHASE 3: CONSTRUCTORS: the RecipeScheduler -/
abbrev grA : List (Nat × Nat) := [(5, 0), (6, 0), (7, 0), (3, 0), (4, 0), (4, 1)]
abbrev grB : List (Nat × Nat) := [(5, 0), (6, 0), (7, 0), (3, 0), (4, 0), (4, 1), (5, 1), (8, 0)]
abbrev grC : List (Nat × Nat) := grB ++ [(1, 0), (2, 0)]
abbrev grD : List (Nat × Nat) := grC ++ [(1, 1), (2, 1)]
section
variable {T : Nat → ClassId} {Y : Mem} (M : Nat) (cst : Nat → Nat → Nat → Nat)
theorem dmA : DM (fun q => M + 1 ≤ q) (wC T grA (adr M cst) Y) := DM_adr 1 (by decide) (by decide +kernel) (by decide +kernel) (fun _ h => h)
theorem dmB : DM (fun q => M + 1 ≤ q) (wC T grB (adr M cst) Y) := DM_adr 1 (by decide) (by decide +kernel) (by decide +kernel) (fun _ h => h)
theorem dmC : DM (fun q => M + 1 ≤ q) (wC T grC (adr M cst) Y) := DM_adr 1 (by decide) (by decide +kernel) (by decide +kernel) (fun _ h => h)
theorem dmD : DM (fun q => M + 1 ≤ q) (wC T grD (adr M cst) Y) := DM_adr 1 (by decide) (by decide +kernel) (by decide +kernel) (fun _ h => h)
theorem dmZ : DM (fun q => M ≤ q) (wC T allG (adr M cst) Y) := DM_adr 0 (by decide) (by decide +kernel) (by decide +kernel) (fun _ h => h)
theorem ne_adr {gr : List (Nat × Nat)} (n : Nat) (hk : (gr.all fun q => decide (q.1 < 12)) = true) (hn : ((keys gr).all fun q => decide (n ≠ pos q.1 q.2.1 q.2.2)) = true) : ∀ q ∈ wC T gr (adr M cst) Y, M + n ≠ q.1 := by
  intro q hq e
  obtain ⟨c, hc, rfl⟩ := List.mem_map.mp hq
  have hk20 : c.1 < 12 := by
    obtain ⟨x, hx, hc⟩ := List.mem_flatMap.mp hc
    obtain ⟨o, ho, rfl⟩ := List.mem_map.mp hc
    exact of_decide_eq_true (List.all_eq_true.mp hk x hx)
  dsimp only at e
  rw [adr_lo hk20] at e
  exact of_decide_eq_true (List.all_eq_true.mp hn c hc) (Nat.add_left_cancel e)
theorem ne0 : ∀ q ∈ wC T grB (adr M cst) Y, M + 59 ≠ q.1 := ne_adr M cst 59 (by decide) (by decide +kernel)
theorem ne1 : ∀ q ∈ wC T grC (adr M cst) Y, M + 70 ≠ q.1 := ne_adr M cst 70 (by decide) (by decide +kernel)
variable {M} {cst}
theorem dm1 {gr : List (Nat × Nat)} {e1 : va_E} (hD : DM (fun q => M + 1 ≤ q) (wC T gr (adr M cst) Y)) : DM (fun q => M ≤ q) ((M, e1) :: wC T gr (adr M cst) Y) :=
  DM.cons ⟨hD.1, fun q hq => Nat.le_trans (Nat.le_succ _) (hD.2 q hq)⟩ (Nat.le_refl _) fun q hq e => by
    have h1 := hD.2 q hq
    rw [← e] at h1
    exact Nat.not_succ_le_self _ h1
theorem dm2 {gr : List (Nat × Nat)} {e1 e2 : va_E} {n : Nat} (h1 : 1 ≤ n) (hD : DM (fun q => M + 1 ≤ q) (wC T gr (adr M cst) Y)) (hne : ∀ q ∈ wC T gr (adr M cst) Y, M + n ≠ q.1) : DM (fun q => M ≤ q) ((M, e1) :: (M + n, e2) :: wC T gr (adr M cst) Y) := by
  refine DM.cons (DM.cons ⟨hD.1, fun q hq => Nat.le_trans (Nat.le_succ _) (hD.2 q hq)⟩ (Nat.le_add_right _ _) hne) (Nat.le_refl _) fun q hq e => ?_
  rcases List.mem_cons.mp hq with rfl | h
  · dsimp only at e; omega
  · have h2 := hD.2 q h
    rw [← e] at h2
    exact Nat.not_succ_le_self _ h2
theorem adr40 (i : Nat) : adr M cst 4 0 (10 + i) = M + (8 + i) := by
  rw [adr_lo (by decide)]
  show M + (posR (0 / 2) + (if 0 % 2 = 0 then (if 10 + i = 0 then 1 else if 10 + i = 1 then 2 else if 10 + i = 2 then 7 else 10 + i - 7) else (if 10 + i = 0 then 10 else if 10 + i = 1 then 11 else if 10 + i = 2 then 26 else 2 + (10 + i)))) = _
  rw [if_neg (show ¬ 10 + i = 0 by omega), if_neg (show ¬ 10 + i = 1 by omega), if_neg (show ¬ 10 + i = 2 by omega), if_neg (show ¬ 10 + i = 0 by omega), if_neg (show ¬ 10 + i = 1 by omega), if_neg (show ¬ 10 + i = 2 by omega)]
  show M + (5 + _) = _
  rw [if_pos (by decide)]
  omega
theorem adr41 (i : Nat) : adr M cst 4 1 (10 + i) = M + (17 + i) := by
  rw [adr_lo (by decide)]
  show M + (posR (1 / 2) + (if 1 % 2 = 0 then (if 10 + i = 0 then 1 else if 10 + i = 1 then 2 else if 10 + i = 2 then 7 else 10 + i - 7) else (if 10 + i = 0 then 10 else if 10 + i = 1 then 11 else if 10 + i = 2 then 26 else 2 + (10 + i)))) = _
  rw [if_neg (show ¬ 10 + i = 0 by omega), if_neg (show ¬ 10 + i = 1 by omega), if_neg (show ¬ 10 + i = 2 by omega), if_neg (show ¬ 10 + i = 0 by omega), if_neg (show ¬ 10 + i = 1 by omega), if_neg (show ¬ 10 + i = 2 by omega)]
  show M + (5 + _) = _
  rw [if_neg (by decide)]
  omega
theorem adr42 (i : Nat) : adr M cst 4 2 (10 + i) = M + (144 + i) := by
  rw [adr_lo (by decide)]
  show M + (posR (2 / 2) + (if 2 % 2 = 0 then (if 10 + i = 0 then 1 else if 10 + i = 1 then 2 else if 10 + i = 2 then 7 else 10 + i - 7) else (if 10 + i = 0 then 10 else if 10 + i = 1 then 11 else if 10 + i = 2 then 26 else 2 + (10 + i)))) = _
  rw [if_neg (show ¬ 10 + i = 0 by omega), if_neg (show ¬ 10 + i = 1 by omega), if_neg (show ¬ 10 + i = 2 by omega), if_neg (show ¬ 10 + i = 0 by omega), if_neg (show ¬ 10 + i = 1 by omega), if_neg (show ¬ 10 + i = 2 by omega)]
  show M + (141 + _) = _
  rw [if_pos (by decide)]
  omega
theorem adr43 (i : Nat) : adr M cst 4 3 (10 + i) = M + (153 + i) := by
  rw [adr_lo (by decide)]
  show M + (posR (3 / 2) + (if 3 % 2 = 0 then (if 10 + i = 0 then 1 else if 10 + i = 1 then 2 else if 10 + i = 2 then 7 else 10 + i - 7) else (if 10 + i = 0 then 10 else if 10 + i = 1 then 11 else if 10 + i = 2 then 26 else 2 + (10 + i)))) = _
  rw [if_neg (show ¬ 10 + i = 0 by omega), if_neg (show ¬ 10 + i = 1 by omega), if_neg (show ¬ 10 + i = 2 by omega), if_neg (show ¬ 10 + i = 0 by omega), if_neg (show ¬ 10 + i = 1 by omega), if_neg (show ¬ 10 + i = 2 by omega)]
  show M + (141 + _) = _
  rw [if_neg (by decide)]
  omega
theorem adr30 (i : Nat) : adr M cst 3 0 (20 + i) = M + (36 + i) := by
  rw [adr_lo (by decide)]
  show M + (posR 0 + (if 20 + i = 0 then 0 else if 20 + i = 1 then 8 else if 20 + i = 2 then 9 else if 20 + i = 3 then 27 else if 20 + i = 4 then 28 else if 20 + i = 5 then 29 else if 20 + i = 6 then 30 else if 20 + i = 7 then 45 else if 20 + i = 8 then 46 else if 20 + i = 9 then 47 else 11 + (20 + i))) = _
  rw [if_neg (show ¬ 20 + i = 0 by omega), if_neg (show ¬ 20 + i = 1 by omega), if_neg (show ¬ 20 + i = 2 by omega), if_neg (show ¬ 20 + i = 3 by omega), if_neg (show ¬ 20 + i = 4 by omega), if_neg (show ¬ 20 + i = 5 by omega), if_neg (show ¬ 20 + i = 6 by omega), if_neg (show ¬ 20 + i = 7 by omega), if_neg (show ¬ 20 + i = 8 by omega), if_neg (show ¬ 20 + i = 9 by omega)]
  show M + (5 + _) = _
  omega
theorem adr31 (i : Nat) : adr M cst 3 1 (20 + i) = M + (172 + i) := by
  rw [adr_lo (by decide)]
  show M + (posR 1 + (if 20 + i = 0 then 0 else if 20 + i = 1 then 8 else if 20 + i = 2 then 9 else if 20 + i = 3 then 27 else if 20 + i = 4 then 28 else if 20 + i = 5 then 29 else if 20 + i = 6 then 30 else if 20 + i = 7 then 45 else if 20 + i = 8 then 46 else if 20 + i = 9 then 47 else 11 + (20 + i))) = _
  rw [if_neg (show ¬ 20 + i = 0 by omega), if_neg (show ¬ 20 + i = 1 by omega), if_neg (show ¬ 20 + i = 2 by omega), if_neg (show ¬ 20 + i = 3 by omega), if_neg (show ¬ 20 + i = 4 by omega), if_neg (show ¬ 20 + i = 5 by omega), if_neg (show ¬ 20 + i = 6 by omega), if_neg (show ¬ 20 + i = 7 by omega), if_neg (show ¬ 20 + i = 8 by omega), if_neg (show ¬ 20 + i = 9 by omega)]
  show M + (141 + _) = _
  omega
end
section
variable {D : va_G} {T : Nat → ClassId} {M : Nat} {cst : Nat → Nat → Nat → Nat} {H : Heap}
theorem cv_A {Ya : Mem} {o : Nat × va_E} (hP : PM D (o :: (wRecipe T (M + 5) (M + 6) ++ (wSetup T (M + 3) (M + 4) (M + 5) ++ (wTokens T (M + 1) (M + 3) (M + 4) ++ wText700 T (M + 1) (M + 2))))) H) (y5 : ∀ o, Ya 5 0 o = fun _ => 0) (y6 : Ya 6 0 0 = fun j => if j = 5 then -1 else 0) (y3 : ∀ o, Ya 3 0 o = fun _ => 0) (y40 : ∀ o, Ya 4 0 o = fun _ => 0) (y41 : ∀ o, Ya 4 1 o = fun _ => 0) : PM D (wC T grA (adr M cst) Ya) H := by
  have hR : PM D (wRecipe T (M + 5) (M + 6)) H := fun q hq => hP q (List.mem_cons_of_mem _ (List.mem_append_left _ hq))
  have hS : PM D (wSetup T (M + 3) (M + 4) (M + 5)) H := fun q hq => hP q (List.mem_cons_of_mem _ (List.mem_append_right _ (List.mem_append_left _ hq)))
  have hT : PM D (wTokens T (M + 1) (M + 3) (M + 4)) H := fun q hq => hP q (List.mem_cons_of_mem _ (List.mem_append_right _ (List.mem_append_right _ (List.mem_append_left _ hq))))
  have hX : PM D (wText700 T (M + 1) (M + 2)) H := fun q hq => hP q (List.mem_cons_of_mem _ (List.mem_append_right _ (List.mem_append_right _ (List.mem_append_right _ hq))))
  refine PM_wC (List.forall_mem_cons.mpr ⟨?_, List.forall_mem_cons.mpr ⟨?_, List.forall_mem_cons.mpr ⟨?_, List.forall_mem_cons.mpr ⟨?_, List.forall_mem_cons.mpr ⟨?_, List.forall_mem_cons.mpr ⟨?_, fun q hq => nomatch hq⟩⟩⟩⟩⟩⟩)
  · exact GP_Text0 hX y5 rfl rfl
  · exact GP_Tokens hT y6 rfl rfl
  · exact GP_Setup hS rfl rfl
  · exact GP_Recipe hR y3 rfl rfl rfl rfl rfl rfl rfl rfl rfl rfl rfl rfl (fun i => by rw [adr30]; omega)
  · exact GP_Names4 (wRecipe_n4 hR) rfl y40 rfl rfl rfl (fun i => by rw [adr40]; omega)
  · exact GP_Names14 (wRecipe_n14 hR) rfl y41 rfl rfl rfl (fun i => by rw [adr41]; omega)
theorem cv_B {Yd : Mem} {o o2 : Nat × va_E} (hP : PM D (o :: o2 :: (wScript T (M + 3) (adr M cst 20 0 0) (M + 55) (M + 56) ++ (wText125 T (M + 53) (M + 54) ++ wC T grA (adr M cst) Yd))) H) (z51 : ∀ o, Yd 5 1 o = fun _ => 0) (z8 : ∀ o, o ≠ 1 → Yd 8 0 o = fun _ => 0) (z81 : Yd 8 0 1 = fun _ => 1) : PM D (wC T grB (adr M cst) Yd) H := by
  have hS : PM D (wScript T (M + 3) (adr M cst 20 0 0) (M + 55) (M + 56)) H := fun q hq => hP q (List.mem_cons_of_mem _ (List.mem_cons_of_mem _ (List.mem_append_left _ hq)))
  have hX : PM D (wText125 T (M + 53) (M + 54)) H := fun q hq => hP q (List.mem_cons_of_mem _ (List.mem_cons_of_mem _ (List.mem_append_right _ (List.mem_append_left _ hq))))
  have hC : PM D (wC T grA (adr M cst) Yd) H := fun q hq => hP q (List.mem_cons_of_mem _ (List.mem_cons_of_mem _ (List.mem_append_right _ (List.mem_append_right _ hq))))
  refine PM_wC (List.forall_mem_cons.mpr ⟨wC_GP hC (by decide), List.forall_mem_cons.mpr ⟨wC_GP hC (by decide), List.forall_mem_cons.mpr ⟨wC_GP hC (by decide), List.forall_mem_cons.mpr ⟨wC_GP hC (by decide), List.forall_mem_cons.mpr ⟨wC_GP hC (by decide), List.forall_mem_cons.mpr ⟨wC_GP hC (by decide), List.forall_mem_cons.mpr ⟨?_, List.forall_mem_cons.mpr ⟨?_, fun q hq => nomatch hq⟩⟩⟩⟩⟩⟩⟩⟩)
  · exact GP_Text1 hX z51 rfl rfl
  · exact GP_Script hS z8 z81 rfl rfl rfl rfl rfl rfl
theorem cv_Z {Yf : Mem} (hP : PM D ((M, .inr (11, [.ref (M + 1), .ref (M + 53), .ref (M + 3), .ref (M + 4), .ref (M + 55), .ref (M + 59), .ref (M + 70), .ref (M + 81), .ref (M + 125), .ref (M + 140), .ref (M + 141)])) :: (wRecipe T (M + 141) (M + 142) ++ ((M + 140, .inl (T 2, 2, .inl (fun _ => 0))) :: (wState T (M + 133) (M + 134) ++ ((wState T (M + 126) (M + 127) ++ ((M + 125, .inl (T 3, 2, .inr (.inr (.inr (.inr (va_up (va_up (fun _ => none) (0 : Int32).toNatClampNeg (some (M + 126))) (1 : Int32).toNatClampNeg (some (M + 133)))))))) :: (wHistory T (M + 81) (M + 82) ++ wC T grD (adr M cst) Yf)))))))) H) (z0 : Yf 0 0 0 10 = 1) (z02 : Yf 0 0 2 = fun _ => 0) (z9 : ∀ o, Yf 9 0 o = fun _ => 0) (z2 : ∀ g, 2 ≤ g → ∀ o, Yf 2 g o = fun _ => 0) (z3 : ∀ o, Yf 3 1 o = fun _ => 0) (z42 : ∀ o, Yf 4 2 o = fun _ => 0) (z43 : ∀ o, Yf 4 3 o = fun _ => 0) : PM D (wC T allG (adr M cst) Yf) H := by
  have hR : PM D (wRecipe T (M + 141) (M + 142)) H := fun q hq => hP q (List.mem_cons_of_mem _ (List.mem_append_left _ hq))
  have h2 := fun q hq => hP q (List.mem_cons_of_mem _ (List.mem_append_right _ hq))
  have hz : va_at D vwCl (M + 140, .inl (T 2, 2, .inl (fun _ => 0))) H := h2 _ List.mem_cons_self
  have h3 := fun q hq => h2 q (List.mem_cons_of_mem _ hq)
  have hs9 : PM D (wState T (M + 133) (M + 134)) H := fun q hq => h3 q (List.mem_append_left _ hq)
  have h4 := fun q hq => h3 q (List.mem_append_right _ hq)
  have hs8 : PM D (wState T (M + 126) (M + 127)) H := fun q hq => h4 q (List.mem_append_left _ hq)
  have h5 := fun q hq => h4 q (List.mem_append_right _ hq)
  have ha := h5 _ List.mem_cons_self
  have h6 := fun q hq => h5 q (List.mem_cons_of_mem _ hq)
  have hh : PM D (wHistory T (M + 81) (M + 82)) H := fun q hq => h6 q (List.mem_append_left _ hq)
  have hC : PM D (wC T grD (adr M cst) Yf) H := fun q hq => h6 q (List.mem_append_right _ hq)
  refine PM_wC fun q hq => ?_
  rcases (by simpa [allG] using hq : q = (0, 0) ∨ q = (1, 0) ∨ q = (1, 1) ∨ q = (2, 0) ∨ q = (2, 1) ∨ q = (2, 2) ∨ q = (2, 3) ∨ q = (2, 4) ∨ q = (2, 5) ∨ q = (2, 6) ∨ q = (2, 7) ∨ q = (2, 8) ∨ q = (2, 9) ∨ q = (3, 0) ∨ q = (3, 1) ∨ q = (4, 0) ∨ q = (4, 1) ∨ q = (4, 2) ∨ q = (4, 3) ∨ q = (5, 0) ∨ q = (5, 1) ∨ q = (6, 0) ∨ q = (7, 0) ∨ q = (8, 0) ∨ q = (9, 0)) with rfl | rfl | rfl | rfl | rfl | rfl | rfl | rfl | rfl | rfl | rfl | rfl | rfl | rfl | rfl | rfl | rfl | rfl | rfl | rfl | rfl | rfl | rfl | rfl | rfl
  · intro o ho
    rcases (by simpa [offs] using ho : o = 0 ∨ o = 1 ∨ o = 2) with rfl | rfl | rfl
    · exact at_of rfl (by rw [ce0, z0, show (1 : Int32).toNatClampNeg = 1 by decide]; rfl) (hP _ List.mem_cons_self)
    · refine at_refs (f' := fun i => some (adr M cst 2 (8 + i) 0)) (n := 2) rfl (fun j hj => ?_) ha
      have e0 : (0 : Int32).toNatClampNeg = 0 := by decide
      have e1 : (1 : Int32).toNatClampNeg = 1 := by decide
      rw [e0, e1]
      rcases (by omega : j = 0 ∨ j = 1) with rfl | rfl <;> rfl
    · exact at_of rfl (by rw [show (0, 0).1 = 0 from rfl, show (0, 0).2 = 0 from rfl, z02]; rfl) hz
  · exact wC_GP hC (by decide)
  · exact wC_GP hC (by decide)
  · exact wC_GP hC (by decide)
  · exact wC_GP hC (by decide)
  · exact GP_State (wHistory_s 0 (by omega) hh) (z2 2 (by omega)) rfl rfl rfl rfl rfl rfl rfl
  · exact GP_State (wHistory_s 1 (by omega) hh) (z2 3 (by omega)) rfl rfl rfl rfl rfl rfl rfl
  · exact GP_State (wHistory_s 2 (by omega) hh) (z2 4 (by omega)) rfl rfl rfl rfl rfl rfl rfl
  · exact GP_State (wHistory_s 3 (by omega) hh) (z2 5 (by omega)) rfl rfl rfl rfl rfl rfl rfl
  · exact GP_State (wHistory_s 4 (by omega) hh) (z2 6 (by omega)) rfl rfl rfl rfl rfl rfl rfl
  · exact GP_State (wHistory_s 5 (by omega) hh) (z2 7 (by omega)) rfl rfl rfl rfl rfl rfl rfl
  · exact GP_State hs8 (z2 8 (by omega)) rfl rfl rfl rfl rfl rfl rfl
  · exact GP_State hs9 (z2 9 (by omega)) rfl rfl rfl rfl rfl rfl rfl
  · exact wC_GP hC (by decide)
  · exact GP_Recipe hR z3 rfl rfl rfl rfl rfl rfl rfl rfl rfl rfl rfl rfl (fun i => by rw [adr31]; omega)
  · exact wC_GP hC (by decide)
  · exact wC_GP hC (by decide)
  · exact GP_Names4 (wRecipe_n4 hR) rfl z42 rfl rfl rfl (fun i => by rw [adr42]; omega)
  · exact GP_Names14 (wRecipe_n14 hR) rfl z43 rfl rfl rfl (fun i => by rw [adr43]; omega)
  · exact wC_GP hC (by decide)
  · exact wC_GP hC (by decide)
  · exact wC_GP hC (by decide)
  · exact wC_GP hC (by decide)
  · exact wC_GP hC (by decide)
  · exact GP_History hh z9 rfl rfl rfl rfl rfl rfl rfl rfl
end
theorem wd_X11_o1 : (.methodLink RX11 3 objectInit : Cond) ∈ wsX11_init := by decide +kernel
theorem wd_X11_o2 : (.instanceMethod objectInit : Cond) ∈ wsX11_init := by decide +kernel
theorem wd_X11_o3 : (.code objectInit ⟨#[0xb1]⟩ 1 none : Cond) ∈ wsX11_init := by decide +kernel
theorem ly_X11_i9 : ∀ w ∈ u_ws RX9 TX9 2, w ∈ wsX11_init := by decide +kernel
theorem wd_X11_c9 : (.classLink RX11 9 RX9 : Cond) ∈ wsX11_init := by decide +kernel
theorem wd_X11_i9 : (.instantiable RX9 2 : Cond) ∈ wsX11_init := by decide +kernel
theorem wd_X11_n9 : (.initialized RX9 : Cond) ∈ wsX11_init := by decide +kernel
theorem wd_X11_m9 : (.instanceMethod yX9_init : Cond) ∈ wsX11_init := by decide +kernel
theorem wd_X11_k11 : (.methodLink RX11 11 yX9_init : Cond) ∈ wsX11_init := by decide +kernel
theorem ly_X11_i10 : ∀ w ∈ u_ws RX10 TX10 6, w ∈ wsX11_init := by decide +kernel
theorem wd_X11_c14 : (.classLink RX11 14 RX10 : Cond) ∈ wsX11_init := by decide +kernel
theorem wd_X11_i10 : (.instantiable RX10 6 : Cond) ∈ wsX11_init := by decide +kernel
theorem wd_X11_n10 : (.initialized RX10 : Cond) ∈ wsX11_init := by decide +kernel
theorem wd_X11_m10 : (.instanceMethod yX10_init : Cond) ∈ wsX11_init := by decide +kernel
theorem wd_X11_k16 : (.methodLink RX11 16 yX10_init : Cond) ∈ wsX11_init := by decide +kernel
theorem ly_X11_i7 : ∀ w ∈ u_ws RX7 TX7 1, w ∈ wsX11_init := by decide +kernel
theorem wd_X11_c19 : (.classLink RX11 19 RX7 : Cond) ∈ wsX11_init := by decide +kernel
theorem wd_X11_i7 : (.instantiable RX7 1 : Cond) ∈ wsX11_init := by decide +kernel
theorem wd_X11_n7 : (.initialized RX7 : Cond) ∈ wsX11_init := by decide +kernel
theorem wd_X11_m7 : (.instanceMethod yX7_init : Cond) ∈ wsX11_init := by decide +kernel
theorem wd_X11_k21 : (.methodLink RX11 21 yX7_init : Cond) ∈ wsX11_init := by decide +kernel
theorem ly_X11_i5 : ∀ w ∈ u_ws RX5 TX5 17, w ∈ wsX11_init := by decide +kernel
theorem wd_X11_c24 : (.classLink RX11 24 RX5 : Cond) ∈ wsX11_init := by decide +kernel
theorem wd_X11_i5 : (.instantiable RX5 17 : Cond) ∈ wsX11_init := by decide +kernel
theorem wd_X11_n5 : (.initialized RX5 : Cond) ∈ wsX11_init := by decide +kernel
theorem wd_X11_m5 : (.instanceMethod yX5_init : Cond) ∈ wsX11_init := by decide +kernel
theorem nx_X11_5_26 : (.methodLinkNest RX11 26 yX5_init "RecipeScheduler" : Cond) ∈ nestL := by decide +kernel
theorem wd_X11_f41 : (.fieldLink RX11 41 "RecipeScheduler" "input" "LRecipeScheduler$Text;" : Cond) ∈ wsX11_init := by decide +kernel
theorem ly_X11_i11 : ∀ w ∈ u_ws RX11 TX11 11, w ∈ wsX11_init := by decide +kernel
theorem wd_X11_f45 : (.fieldLink RX11 45 "RecipeScheduler" "output" "LRecipeScheduler$Text;" : Cond) ∈ wsX11_init := by decide +kernel
theorem wd_X11_f48 : (.fieldLink RX11 48 "RecipeScheduler" "tokens" "LRecipeScheduler$Tokens;" : Cond) ∈ wsX11_init := by decide +kernel
theorem wd_X11_f52 : (.fieldLink RX11 52 "RecipeScheduler" "setupReader" "LRecipeScheduler$SetupReader;" : Cond) ∈ wsX11_init := by decide +kernel
theorem ly_X11_i6 : ∀ w ∈ u_ws RX6 TX6 5, w ∈ wsX11_init := by decide +kernel
theorem wd_X11_c56 : (.classLink RX11 56 RX6 : Cond) ∈ wsX11_init := by decide +kernel
theorem wd_X11_i6 : (.instantiable RX6 5 : Cond) ∈ wsX11_init := by decide +kernel
theorem wd_X11_n6 : (.initialized RX6 : Cond) ∈ wsX11_init := by decide +kernel
theorem wd_X11_m6 : (.instanceMethod yX6_init : Cond) ∈ wsX11_init := by decide +kernel
theorem wd_X11_k58 : (.methodLink RX11 58 yX6_init : Cond) ∈ wsX11_init := by decide +kernel
theorem wd_X11_f59 : (.fieldLink RX11 59 "RecipeScheduler" "scriptReader" "LRecipeScheduler$ScriptReader;" : Cond) ∈ wsX11_init := by decide +kernel
theorem ly_X11_i3 : ∀ w ∈ u_ws RX3 TX3 5, w ∈ wsX11_init := by decide +kernel
theorem wd_X11_c63 : (.classLink RX11 63 RX3 : Cond) ∈ wsX11_init := by decide +kernel
theorem wd_X11_i3 : (.instantiable RX3 5 : Cond) ∈ wsX11_init := by decide +kernel
theorem wd_X11_n3 : (.initialized RX3 : Cond) ∈ wsX11_init := by decide +kernel
theorem wd_X11_k65 : (.methodLink RX11 65 yX3_init : Cond) ∈ wsX11_init := by decide +kernel
theorem wd_X11_m3 : (.instanceMethod yX3_init : Cond) ∈ wsX11_init := by decide +kernel
theorem wd_X11_f67 : (.fieldLink RX11 67 "RecipeScheduler" "now" "LRecipeScheduler$Kitchen;" : Cond) ∈ wsX11_init := by decide +kernel
theorem wd_X11_f71 : (.fieldLink RX11 71 "RecipeScheduler" "forecast" "LRecipeScheduler$Kitchen;" : Cond) ∈ wsX11_init := by decide +kernel
theorem ly_X11_i2 : ∀ w ∈ u_ws RX2 TX2 3, w ∈ wsX11_init := by decide +kernel
theorem wd_X11_c74 : (.classLink RX11 74 RX2 : Cond) ∈ wsX11_init := by decide +kernel
theorem wd_X11_i2 : (.instantiable RX2 3 : Cond) ∈ wsX11_init := by decide +kernel
theorem wd_X11_n2 : (.initialized RX2 : Cond) ∈ wsX11_init := by decide +kernel
theorem wd_X11_m2 : (.instanceMethod yX2_init : Cond) ∈ wsX11_init := by decide +kernel
theorem wd_X11_k76 : (.methodLink RX11 76 yX2_init : Cond) ∈ wsX11_init := by decide +kernel
theorem wd_X11_f77 : (.fieldLink RX11 77 "RecipeScheduler" "history" "LRecipeScheduler$History;" : Cond) ∈ wsX11_init := by decide +kernel
theorem wd_X11_c81 : (.classLink RX11 81 RX8 : Cond) ∈ wsX11_init := by decide +kernel
theorem wd_X11_f83 : (.fieldLink RX11 83 "RecipeScheduler" "saved" "[LRecipeScheduler$State;" : Cond) ∈ wsX11_init := by decide +kernel
theorem ly_X11_i8 : ∀ w ∈ u_ws RX8 TX8 15, w ∈ wsX11_init := by decide +kernel
theorem wd_X11_i8 : (.instantiable RX8 15 : Cond) ∈ wsX11_init := by decide +kernel
theorem wd_X11_n8 : (.initialized RX8 : Cond) ∈ wsX11_init := by decide +kernel
theorem wd_X11_m8 : (.instanceMethod yX8_init : Cond) ∈ wsX11_init := by decide +kernel
theorem nx_X11_8_87 : (.methodLinkNest RX11 87 yX8_init "RecipeScheduler" : Cond) ∈ nestL := by decide +kernel
theorem wd_X11_aboolean : (.arrayClass .boolean : Cond) ∈ wsX11_init := by decide +kernel
theorem wd_X11_f88 : (.fieldLink RX11 88 "RecipeScheduler" "isSaved" "[Z" : Cond) ∈ wsX11_init := by decide +kernel
theorem wd_X11_f92 : (.fieldLink RX11 92 "RecipeScheduler" "spare" "LRecipeScheduler$Recipe;" : Cond) ∈ wsX11_init := by decide +kernel
theorem nx_X11_37 : Cond.fieldLinkNest RX11 37 "RecipeScheduler$Text" "length" "I" "RecipeScheduler" ∈ nestL := by decide +kernel
section
variable {p : Program} {l : Launch} {e : Env} {s : State} {m : MethodId} {below : List Frame} {meth : Method} {c : Code} {T : Nat → ClassId} {D : va_G} {M : Nat} {cst : Nat → Nat → Nat → Nat} {Ya Yb Yc Yd Ye Yf : Mem}
set_option maxHeartbeats 8000000 in
theorem w_X11 (C : CG p s m [.ref M].toArray meth c cX11_init 6 wsX11_init RX11 T D (fun q => M ≤ q) (M + 1)) (hSt : Stt M (adr M cst) s s.heap) (hi : meth.name = "<init>") (hr : meth.sig.returnType = none) (hl : l.stackTraces = false)
    (y5 : ∀ o, Ya 5 0 o = fun _ => 0) (y6 : Ya 6 0 0 = fun j => if j = 5 then -1 else 0) (y3 : ∀ o, Ya 3 0 o = fun _ => 0) (y40 : ∀ o, Ya 4 0 o = fun _ => 0) (y41 : ∀ o, Ya 4 1 o = fun _ => 0)
    (hs : X9_addString Ya 0 0 = some Yb) (hr0 : X7_readInto Yb 0 = some Yc) (hd : Yd = up Yc 5 0 0 1 0)
    (z51 : ∀ o, Yd 5 1 o = fun _ => 0) (z8 : ∀ o, o ≠ 1 → Yd 8 0 o = fun _ => 0) (z81 : Yd 8 0 1 = fun _ => 1) (zk0 : ∀ o, Yd 1 0 o = fun _ => 0) (zs0 : ∀ o, Yd 2 0 o = fun _ => 0) (hk0 : X8_begin Yd 0 0 = some Ye) (zk1 : ∀ o, Ye 1 1 o = fun _ => 0) (zs1 : ∀ o, Ye 2 1 o = fun _ => 0) (hk1 : X8_begin Ye 1 0 = some Yf)
    (z0 : Yf 0 0 0 10 = 1) (z02 : Yf 0 0 2 = fun _ => 0) (z9 : ∀ o, Yf 9 0 o = fun _ => 0) (z2 : ∀ g, 2 ≤ g → ∀ o, Yf 2 g o = fun _ => 0) (z3 : ∀ o, Yf 3 1 o = fun _ => 0) (z42 : ∀ o, Yf 4 2 o = fun _ => 0) (z43 : ∀ o, Yf 4 3 o = fun _ => 0) :
    GW p l e (Rc 9 188 2686) s m [.ref M].toArray below meth c 6 D (fun q => M ≤ q) (M + 1) 0 0 (MQ below (va_Qv (fun _ : Unit => True) (fun _ t => PM D (wC T allG (adr M cst) Yf) t.heap ∧ t.heap.size = M + 1 + 188) (fun q => M ≤ q)) [.ref M].toArray s 188 2686 (fun q => M ≤ q)) [(M, .inr (11, [.null, .null, .null, .null, .null, .null, .null, .null, .null, .null, .null]))] 0 [(0, .ref M)] [] := by
  refine gw_aload_n C dX11_init_0 rfl 0 rfl ?_
  refine gw_objInit C wd_X11_o1 wd_X11_o2 wd_X11_o3 rfl ⟨(Nat.le_of_ble_eq_true rfl), (Nat.le_of_ble_eq_true rfl)⟩ dX11_init_1 ?_
  refine gx_new C (ci := 9) (fs := [.null, .int 0]) tyX9 ly_X11_i9 tyX9_ok wd_X11_c9 wd_X11_i9 wd_X11_n9 rfl (by decide) (Nat.le_of_ble_eq_true rfl) (Nat.le_of_ble_eq_true rfl) dX11_init_4 ?_
  refine gw_dup C dX11_init_7 rfl ?_
  refine gw_sipush C dX11_init_8 (v := 700) (by decide) ?_
  refine gx_ctor C (As := [.int 700]) (ct_Text700 D T (M + 1) (M + 2) hl) (cwI 1 (cg_ts C) gX11_init_X9_init rfl rfl rfl (cg_ts C _ wd_X11_n9) (cg_ts C _ wd_X11_k11) (cg_ts C _ wd_X11_m9) rfl (by decide +kernel) ⟨(Nat.le_of_ble_eq_true rfl), (Nat.le_of_ble_eq_true rfl)⟩) rfl rfl (Nat.le_of_ble_eq_true rfl) ⟨(Nat.le_of_ble_eq_true rfl), (Nat.le_of_ble_eq_true rfl)⟩ dX11_init_11 ?_
  refine gw_astore_n C dX11_init_14 rfl (by decide) rfl ?_
  refine gx_new C (ci := 10) (fs := [.null, .int 0, .int 0, .int 0, .int 0, .int 0]) tyX10 ly_X11_i10 tyX10_ok wd_X11_c14 wd_X11_i10 wd_X11_n10 rfl (by decide) (Nat.le_of_ble_eq_true rfl) (Nat.le_of_ble_eq_true rfl) dX11_init_15 ?_
  refine gw_dup C dX11_init_18 rfl ?_
  refine gw_aload_n C dX11_init_19 rfl 0 rfl ?_
  refine gx_ctor C (As := [.ref (M + 1)]) (ct_Tokens D T (M + 1) (M + 3) (M + 4) hl) (cwI 1 (cg_ts C) gX11_init_X10_init rfl rfl rfl (cg_ts C _ wd_X11_n10) (cg_ts C _ wd_X11_k16) (cg_ts C _ wd_X11_m10) rfl (by decide +kernel) ⟨(Nat.le_of_ble_eq_true rfl), (Nat.le_of_ble_eq_true rfl)⟩) rfl rfl (Nat.le_of_ble_eq_true rfl) ⟨(Nat.le_of_ble_eq_true rfl), (Nat.le_of_ble_eq_true rfl)⟩ dX11_init_20 ?_
  refine gw_astore_n C dX11_init_23 rfl (by decide) rfl ?_
  refine gx_new C (ci := 7) (fs := [.null]) tyX7 ly_X11_i7 tyX7_ok wd_X11_c19 wd_X11_i7 wd_X11_n7 rfl (by decide) (Nat.le_of_ble_eq_true rfl) (Nat.le_of_ble_eq_true rfl) dX11_init_24 ?_
  refine gw_dup C dX11_init_27 rfl ?_
  refine gw_aload_n C dX11_init_28 rfl 0 rfl ?_
  refine gx_ctor C (As := [.ref (M + 3)]) (ct_Setup D T (M + 3) (M + 4) (M + 5) hl) (cwI 1 (cg_ts C) gX11_init_X7_init rfl rfl rfl (cg_ts C _ wd_X11_n7) (cg_ts C _ wd_X11_k21) (cg_ts C _ wd_X11_m7) rfl (by decide +kernel) ⟨(Nat.le_of_ble_eq_true rfl), (Nat.le_of_ble_eq_true rfl)⟩) rfl rfl (Nat.le_of_ble_eq_true rfl) ⟨(Nat.le_of_ble_eq_true rfl), (Nat.le_of_ble_eq_true rfl)⟩ dX11_init_29 ?_
  refine gw_astore_n C dX11_init_32 rfl (by decide) rfl ?_
  refine gx_new C (ci := 5) (fs := [.int 0, .int 0, .int 0, .int 0, .null, .null, .null, .null, .null, .null, .null, .null, .null, .null, .null, .int 0, .int 0]) tyX5 ly_X11_i5 tyX5_ok wd_X11_c24 wd_X11_i5 wd_X11_n5 rfl (by decide) (Nat.le_of_ble_eq_true rfl) (Nat.le_of_ble_eq_true rfl) dX11_init_33 ?_
  refine gw_dup C dX11_init_36 rfl ?_
  refine gx_ctorN C (As := []) (ct_Recipe D T (M + 5) (M + 6) hl) (⟨va_cnB (ws' := _) 0 (cg_ts C) gX11_init_X5_init_n26 rfl rfl rfl (cg_nst C _ nx_X11_5_26) (cg_ts C _ wd_X11_n5) (by decide +kernel) ⟨(Nat.le_of_ble_eq_true rfl), (Nat.le_of_ble_eq_true rfl)⟩, rfl, cg_ts C _ wd_X11_m5⟩) rfl rfl (Nat.le_of_ble_eq_true rfl) ⟨(Nat.le_of_ble_eq_true rfl), (Nat.le_of_ble_eq_true rfl)⟩ dX11_init_37 ?_
  refine gw_astore C dX11_init_40 (by decide) rfl ?_
  refine gw_conv ([(M, .inr (11, [.null, .null, .null, .null, .null, .null, .null, .null, .null, .null, .null]))] ++ wC T grA (adr M cst) Ya) (fun H hP => PM.cons (hP _ List.mem_cons_self) (cv_A hP y5 y6 y3 y40 y41)) (dm1 (dmA M cst)) ?_
  refine gw_aload_n C dX11_init_42 rfl 3 rfl ?_
  refine gw_ldc C (hSt.2.1 _ (List.mem_of_getElem? (i := 0) rfl)) dX11_init_43 ?_
  refine gw_callVv C (Nc := M) (N0 := M + 1) (gr := grA) (ad := adr M cst) (Y := Ya) (res := Yb) (pre := [(M, .inr (11, [.null, .null, .null, .null, .null, .null, .null, .null, .null, .null, .null]))]) (k0 := 5) (g0 := 0) (o0 := 0) (ci := 9) (Cn := RX9) (Tc := TX9) (N := 2) (As := [.ref (adr M cst 21 0 0)]) (c_X9_addString (by decide) hs) (cwV 1 (cg_ts C) gX11_init_X9_addString rfl rfl rfl (by decide +kernel) ⟨(Nat.le_of_ble_eq_true rfl), (Nat.le_of_ble_eq_true rfl)⟩) rfl (by decide) (of5_0 _) (ce5 T _ _ _) (dmA M cst) (fun q hq => by rw [List.mem_singleton.mp hq]; exact Nat.lt_succ_self _) (fun q h => Nat.le_trans (Nat.le_succ _) h) hSt (Nat.le_succ _) (fun q h => Nat.not_le.mpr h) (Nat.le_succ _) (Nat.le_add_right _ _) rfl rfl (Nat.le_of_ble_eq_true rfl) ⟨(Nat.le_of_ble_eq_true rfl), (Nat.le_of_ble_eq_true rfl)⟩ dX11_init_45 ?_
  refine gw_aload_n C dX11_init_48 rfl 1 rfl ?_
  refine gw_aload C dX11_init_49 0 rfl ?_
  refine gw_callVv C (Nc := M) (N0 := M + 1) (gr := grA) (ad := adr M cst) (Y := Yb) (res := Yc) (pre := [(M, .inr (11, [.null, .null, .null, .null, .null, .null, .null, .null, .null, .null, .null]))]) (k0 := 7) (g0 := 0) (o0 := 0) (ci := 7) (Cn := RX7) (Tc := TX7) (N := 1) (As := [.ref (adr M cst 3 0 0)]) (c_X7_readInto (by decide) hr0) (cwV 1 (cg_ts C) gX11_init_X7_readInto rfl rfl rfl (by decide +kernel) ⟨(Nat.le_of_ble_eq_true rfl), (Nat.le_of_ble_eq_true rfl)⟩) rfl (by decide) (of7_0 _) (ce7 T _ _ _) (dmA M cst) (fun q hq => by rw [List.mem_singleton.mp hq]; exact Nat.lt_succ_self _) (fun q h => Nat.le_trans (Nat.le_succ _) h) hSt (Nat.le_succ _) (fun q h => Nat.not_le.mpr h) (Nat.le_succ _) (Nat.le_add_right _ _) rfl rfl (Nat.le_of_ble_eq_true rfl) ⟨(Nat.le_of_ble_eq_true rfl), (Nat.le_of_ble_eq_true rfl)⟩ dX11_init_51 ?_
  refine gw_aload_n C dX11_init_54 rfl 3 rfl ?_
  refine gw_iconst C dX11_init_55 (v := 0) rfl ?_
  refine gw_putN C (ci := 9) (Cn := RX9) (Tc := TX9) (N := 2) (j := 1) (ty := .int) (fs := [.ref (adr M cst 5 0 1), .int (Yc 5 0 0 1)]) (ws' := (M, .inr (11, [.null, .null, .null, .null, .null, .null, .null, .null, .null, .null, .null])) :: wC T grA (adr M cst) Yd) 1 rfl ly_X11_i9 rfl tyX9_ok nmX9 (by decide) (Nst_use' (cg_nst C) nx_X11_37) (fun _ h => h) rfl (by decide +kernel) rfl rfl (Nat.le_of_ble_eq_true rfl) (by rw [hd, up_eq, ← wC_set (A := fun q => M + 1 ≤ q) (dmA M cst).to (q0 := 0) (k := 5) (g := 0) (o := 0) rfl]; rfl) dX11_init_56 ?_
  refine gw_aload_n C dX11_init_59 rfl 4 rfl ?_
  refine gw_aload_n C dX11_init_60 rfl 3 rfl ?_
  refine gw_putF C hi (ci := 11) (Cn := RX11) (Tc := TX11) (N := 11) (j := 0) (ty := tyX11 0) (ws' := (M, .inr (11, [.ref (M + 1), .null, .null, .null, .null, .null, .null, .null, .null, .null, .null])) :: wC T grA (adr M cst) Yd) 0 rfl ly_X11_i11 rfl tyX11_ok nmX11 (by decide) (cg_ts C _ wd_X11_f41) (fun _ h => h) rfl rfl (by decide +kernel) rfl rfl (Nat.le_of_ble_eq_true rfl) rfl dX11_init_61 ?_
  refine gw_aload_n C dX11_init_64 rfl 4 rfl ?_
  refine gx_new C (ci := 9) (fs := [.null, .int 0]) tyX9 ly_X11_i9 tyX9_ok wd_X11_c9 wd_X11_i9 wd_X11_n9 rfl (by decide) (Nat.le_of_ble_eq_true rfl) (Nat.le_of_ble_eq_true rfl) dX11_init_65 ?_
  refine gw_dup C dX11_init_68 rfl ?_
  refine gw_bipush C dX11_init_69 (v := 125) (by decide) ?_
  refine gx_ctor C (As := [.int 125]) (ct_Text125 D T (M + 53) (M + 54) hl) (cwI 1 (cg_ts C) gX11_init_X9_init rfl rfl rfl (cg_ts C _ wd_X11_n9) (cg_ts C _ wd_X11_k11) (cg_ts C _ wd_X11_m9) rfl (by decide +kernel) ⟨(Nat.le_of_ble_eq_true rfl), (Nat.le_of_ble_eq_true rfl)⟩) rfl rfl (Nat.le_of_ble_eq_true rfl) ⟨(Nat.le_of_ble_eq_true rfl), (Nat.le_of_ble_eq_true rfl)⟩ dX11_init_71 ?_
  refine gw_putF C hi (ci := 11) (Cn := RX11) (Tc := TX11) (N := 11) (j := 1) (ty := tyX11 1) (ws' := (M, .inr (11, [.ref (M + 1), .ref (M + 53), .null, .null, .null, .null, .null, .null, .null, .null, .null])) :: (wText125 T (M + 53) (M + 54) ++ wC T grA (adr M cst) Yd)) 0 rfl ly_X11_i11 rfl tyX11_ok nmX11 (by decide) (cg_ts C _ wd_X11_f45) (fun _ h => h) rfl rfl (by decide +kernel) rfl rfl (Nat.le_of_ble_eq_true rfl) rfl dX11_init_74 ?_
  refine gw_aload_n C dX11_init_77 rfl 4 rfl ?_
  refine gw_aload_n C dX11_init_78 rfl 2 rfl ?_
  refine gw_putF C hi (ci := 11) (Cn := RX11) (Tc := TX11) (N := 11) (j := 2) (ty := tyX11 2) (ws' := (M, .inr (11, [.ref (M + 1), .ref (M + 53), .ref (M + 3), .null, .null, .null, .null, .null, .null, .null, .null])) :: (wText125 T (M + 53) (M + 54) ++ wC T grA (adr M cst) Yd)) 0 rfl ly_X11_i11 rfl tyX11_ok nmX11 (by decide) (cg_ts C _ wd_X11_f48) (fun _ h => h) rfl rfl (by decide +kernel) rfl rfl (Nat.le_of_ble_eq_true rfl) rfl dX11_init_79 ?_
  refine gw_aload_n C dX11_init_82 rfl 4 rfl ?_
  refine gw_aload_n C dX11_init_83 rfl 1 rfl ?_
  refine gw_putF C hi (ci := 11) (Cn := RX11) (Tc := TX11) (N := 11) (j := 3) (ty := tyX11 3) (ws' := (M, .inr (11, [.ref (M + 1), .ref (M + 53), .ref (M + 3), .ref (M + 4), .null, .null, .null, .null, .null, .null, .null])) :: (wText125 T (M + 53) (M + 54) ++ wC T grA (adr M cst) Yd)) 0 rfl ly_X11_i11 rfl tyX11_ok nmX11 (by decide) (cg_ts C _ wd_X11_f52) (fun _ h => h) rfl rfl (by decide +kernel) rfl rfl (Nat.le_of_ble_eq_true rfl) rfl dX11_init_84 ?_
  refine gw_aload_n C dX11_init_87 rfl 4 rfl ?_
  refine gx_new C (ci := 6) (fs := [.null, .null, .null, .null, .int 0]) tyX6 ly_X11_i6 tyX6_ok wd_X11_c56 wd_X11_i6 wd_X11_n6 rfl (by decide) (Nat.le_of_ble_eq_true rfl) (Nat.le_of_ble_eq_true rfl) dX11_init_88 ?_
  refine gw_dup C dX11_init_91 rfl ?_
  refine gw_aload_n C dX11_init_92 rfl 2 rfl ?_
  refine gx_ctorS C (Nc := M) (ad := adr M cst) (As := [.ref (M + 3)]) (ct_Script D T M (adr M cst) (M + 3) (M + 55) (M + 56) hl (by omega) (by omega)) (cwI 1 (cg_ts C) gX11_init_X6_init rfl rfl rfl (cg_ts C _ wd_X11_n6) (cg_ts C _ wd_X11_k58) (cg_ts C _ wd_X11_m6) rfl (by decide +kernel) ⟨(Nat.le_of_ble_eq_true rfl), (Nat.le_of_ble_eq_true rfl)⟩) hSt (fun q h => Nat.not_le.mpr h) (Nat.le_succ _) rfl rfl (Nat.le_of_ble_eq_true rfl) ⟨(Nat.le_of_ble_eq_true rfl), (Nat.le_of_ble_eq_true rfl)⟩ dX11_init_93 ?_
  refine gw_putF C hi (ci := 11) (Cn := RX11) (Tc := TX11) (N := 11) (j := 4) (ty := tyX11 4) (ws' := (M, .inr (11, [.ref (M + 1), .ref (M + 53), .ref (M + 3), .ref (M + 4), .ref (M + 55), .null, .null, .null, .null, .null, .null])) :: (wScript T (M + 3) (adr M cst 20 0 0) (M + 55) (M + 56) ++ (wText125 T (M + 53) (M + 54) ++ wC T grA (adr M cst) Yd))) 0 rfl ly_X11_i11 rfl tyX11_ok nmX11 (by decide) (cg_ts C _ wd_X11_f59) (fun _ h => h) rfl rfl (by decide +kernel) rfl rfl (Nat.le_of_ble_eq_true rfl) rfl dX11_init_96 ?_
  refine gw_aload_n C dX11_init_99 rfl 4 rfl ?_
  refine gx_new C (ci := 3) (fs := [.null, .null, .null, .null, .null]) tyX3 ly_X11_i3 tyX3_ok wd_X11_c63 wd_X11_i3 wd_X11_n3 rfl (by decide) (Nat.le_of_ble_eq_true rfl) (Nat.le_of_ble_eq_true rfl) dX11_init_100 ?_
  refine gw_dup C dX11_init_103 rfl ?_
  refine gw_aload C dX11_init_104 0 rfl ?_
  refine gw_conv ((M, .inr (11, [.ref (M + 1), .ref (M + 53), .ref (M + 3), .ref (M + 4), .ref (M + 55), .null, .null, .null, .null, .null, .null])) :: (M + 59, .inr (3, [.null, .null, .null, .null, .null])) :: wC T grB (adr M cst) Yd) (fun H hP => PM.cons (hP _ List.mem_cons_self) (PM.cons (hP _ (List.mem_cons_of_mem _ List.mem_cons_self)) (cv_B hP z51 z8 z81))) (dm2 (by decide) (dmB M cst) (ne0 M cst)) ?_
  refine gw_ctorW C (Nc := M) (N0 := M + 1) (As := [.ref (adr M cst 3 0 0)]) (ct_Kitchen D T 0 (M + 59) (M + 60) hl (by omega) (by omega) (ne0 M cst) (by decide) zk0 zs0 hk0 (dmB M cst) (dmC M cst) rfl rfl rfl rfl rfl rfl rfl rfl rfl rfl rfl) (cwI 1 (cg_ts C) gX11_init_X3_init rfl rfl rfl (cg_ts C _ wd_X11_n3) (cg_ts C _ wd_X11_k65) (cg_ts C _ wd_X11_m3) rfl (by decide +kernel) ⟨(Nat.le_of_ble_eq_true rfl), (Nat.le_of_ble_eq_true rfl)⟩) (dmC M cst) (by show M < M + 1; omega) (fun q h => by omega) hSt (by omega) (fun q h => by omega) (by omega) rfl rfl (Nat.le_of_ble_eq_true rfl) ⟨(Nat.le_of_ble_eq_true rfl), (Nat.le_of_ble_eq_true rfl)⟩ dX11_init_106 ?_
  refine gw_putF C hi (ci := 11) (Cn := RX11) (Tc := TX11) (N := 11) (j := 5) (ty := tyX11 5) (ws' := (M, .inr (11, [.ref (M + 1), .ref (M + 53), .ref (M + 3), .ref (M + 4), .ref (M + 55), .ref (M + 59), .null, .null, .null, .null, .null])) :: wC T grC (adr M cst) Ye) 0 rfl ly_X11_i11 rfl tyX11_ok nmX11 (by decide) (cg_ts C _ wd_X11_f67) (fun _ h => h) rfl rfl (by decide +kernel) rfl rfl (Nat.le_of_ble_eq_true rfl) rfl dX11_init_109 ?_
  refine gw_aload_n C dX11_init_112 rfl 4 rfl ?_
  refine gx_new C (ci := 3) (fs := [.null, .null, .null, .null, .null]) tyX3 ly_X11_i3 tyX3_ok wd_X11_c63 wd_X11_i3 wd_X11_n3 rfl (by decide) (Nat.le_of_ble_eq_true rfl) (Nat.le_of_ble_eq_true rfl) dX11_init_113 ?_
  refine gw_dup C dX11_init_116 rfl ?_
  refine gw_aload C dX11_init_117 0 rfl ?_
  refine gw_ctorW C (Nc := M) (N0 := M + 1) (As := [.ref (adr M cst 3 0 0)]) (ct_Kitchen D T 1 (M + 70) (M + 71) hl (by omega) (by omega) (ne1 M cst) (by decide) zk1 zs1 hk1 (dmC M cst) (dmD M cst) rfl rfl rfl rfl rfl rfl rfl rfl rfl rfl rfl) (cwI 1 (cg_ts C) gX11_init_X3_init rfl rfl rfl (cg_ts C _ wd_X11_n3) (cg_ts C _ wd_X11_k65) (cg_ts C _ wd_X11_m3) rfl (by decide +kernel) ⟨(Nat.le_of_ble_eq_true rfl), (Nat.le_of_ble_eq_true rfl)⟩) (dmD M cst) (by show M < M + 1; omega) (fun q h => by omega) hSt (by omega) (fun q h => by omega) (by omega) rfl rfl (Nat.le_of_ble_eq_true rfl) ⟨(Nat.le_of_ble_eq_true rfl), (Nat.le_of_ble_eq_true rfl)⟩ dX11_init_119 ?_
  refine gw_putF C hi (ci := 11) (Cn := RX11) (Tc := TX11) (N := 11) (j := 6) (ty := tyX11 6) (ws' := (M, .inr (11, [.ref (M + 1), .ref (M + 53), .ref (M + 3), .ref (M + 4), .ref (M + 55), .ref (M + 59), .ref (M + 70), .null, .null, .null, .null])) :: wC T grD (adr M cst) Yf) 0 rfl ly_X11_i11 rfl tyX11_ok nmX11 (by decide) (cg_ts C _ wd_X11_f71) (fun _ h => h) rfl rfl (by decide +kernel) rfl rfl (Nat.le_of_ble_eq_true rfl) rfl dX11_init_122 ?_
  refine gw_aload_n C dX11_init_125 rfl 4 rfl ?_
  refine gx_new C (ci := 2) (fs := [.null, .int 0, .int 0]) tyX2 ly_X11_i2 tyX2_ok wd_X11_c74 wd_X11_i2 wd_X11_n2 rfl (by decide) (Nat.le_of_ble_eq_true rfl) (Nat.le_of_ble_eq_true rfl) dX11_init_126 ?_
  refine gw_dup C dX11_init_129 rfl ?_
  refine gx_ctor C (As := []) (ct_History D T (M + 81) (M + 82) hl) (cwI 0 (cg_ts C) gX11_init_X2_init rfl rfl rfl (cg_ts C _ wd_X11_n2) (cg_ts C _ wd_X11_k76) (cg_ts C _ wd_X11_m2) rfl (by decide +kernel) ⟨(Nat.le_of_ble_eq_true rfl), (Nat.le_of_ble_eq_true rfl)⟩) rfl rfl (Nat.le_of_ble_eq_true rfl) ⟨(Nat.le_of_ble_eq_true rfl), (Nat.le_of_ble_eq_true rfl)⟩ dX11_init_130 ?_
  refine gw_putF C hi (ci := 11) (Cn := RX11) (Tc := TX11) (N := 11) (j := 7) (ty := tyX11 7) (ws' := (M, .inr (11, [.ref (M + 1), .ref (M + 53), .ref (M + 3), .ref (M + 4), .ref (M + 55), .ref (M + 59), .ref (M + 70), .ref (M + 81), .null, .null, .null])) :: (wHistory T (M + 81) (M + 82) ++ wC T grD (adr M cst) Yf)) 0 rfl ly_X11_i11 rfl tyX11_ok nmX11 (by decide) (cg_ts C _ wd_X11_f77) (fun _ h => h) rfl rfl (by decide +kernel) rfl rfl (Nat.le_of_ble_eq_true rfl) rfl dX11_init_133 ?_
  refine gw_aload_n C dX11_init_136 rfl 4 rfl ?_
  refine gw_iconst C dX11_init_137 (v := 2) rfl ?_
  refine gx_newq C (Cn := RX8) 3 rfl wd_X11_c81 (cg_aov C).1 (N := 2) (by decide) (by decide +kernel) (by decide) (Nat.le_of_ble_eq_true rfl) (Nat.le_of_ble_eq_true rfl) dX11_init_138 ?_
  refine gw_putF C hi (ci := 11) (Cn := RX11) (Tc := TX11) (N := 11) (j := 8) (ty := tyX11 8) (ws' := (M, .inr (11, [.ref (M + 1), .ref (M + 53), .ref (M + 3), .ref (M + 4), .ref (M + 55), .ref (M + 59), .ref (M + 70), .ref (M + 81), .ref (M + 125), .null, .null])) :: (M + 125, .inl (T 3, 2, .inr (.inr (.inr (.inr (fun _ => none)))))) :: (wHistory T (M + 81) (M + 82) ++ wC T grD (adr M cst) Yf)) 0 rfl ly_X11_i11 rfl tyX11_ok nmX11 (by decide) (cg_ts C _ wd_X11_f83) (fun _ h => h) rfl rfl (by decide +kernel) rfl rfl (Nat.le_of_ble_eq_true rfl) rfl dX11_init_141 ?_
  refine gw_iconst C dX11_init_144 (v := 0) rfl ?_
  refine gw_istore C dX11_init_145 (by decide) rfl ?_
  refine gw_iload C dX11_init_147 0 rfl ?_
  refine gw_iconst C dX11_init_149 (v := 2) rfl ?_
  refine gw_icmp_ge C dX11_init_150 (tgt := 173) rfl (fun h9 => absurd h9 (by decide)) (fun _ => ?_)
  refine gw_aload_n C dX11_init_153 rfl 5 rfl ?_
  refine gw_get C (ci := 11) (Cn := RX11) (Tc := TX11) (N := 11) (j := 8) (v := .ref (M + 125)) 0 rfl ly_X11_i11 rfl (by decide) (cg_ts C _ wd_X11_f83) (fun _ h => h) rfl dX11_init_154 ?_
  refine gw_iload C dX11_init_157 0 rfl ?_
  refine gx_new C (ci := 8) (fs := [.int 0, .int 0, .int 0, .int 0, .int 0, .int 0, .int 0, .int 0, .int 0, .null, .null, .null, .null, .null, .null]) tyX8 ly_X11_i8 tyX8_ok wd_X11_c81 wd_X11_i8 wd_X11_n8 rfl (by decide) (Nat.le_of_ble_eq_true rfl) (Nat.le_of_ble_eq_true rfl) dX11_init_159 ?_
  refine gw_dup C dX11_init_162 rfl ?_
  refine gx_ctorN C (As := []) (ct_State D T (M + 126) (M + 127) hl) (⟨va_cnB (ws' := _) 0 (cg_ts C) gX11_init_X8_init_n87 rfl rfl rfl (cg_nst C _ nx_X11_8_87) (cg_ts C _ wd_X11_n8) (by decide +kernel) ⟨(Nat.le_of_ble_eq_true rfl), (Nat.le_of_ble_eq_true rfl)⟩, rfl, cg_ts C _ wd_X11_m8⟩) rfl rfl (Nat.le_of_ble_eq_true rfl) ⟨(Nat.le_of_ble_eq_true rfl), (Nat.le_of_ble_eq_true rfl)⟩ dX11_init_163 ?_
  refine gw_aast C 8 3 1 8 (ws' := (M, .inr (11, [.ref (M + 1), .ref (M + 53), .ref (M + 3), .ref (M + 4), .ref (M + 55), .ref (M + 59), .ref (M + 70), .ref (M + 81), .ref (M + 125), .null, .null])) :: (wState T (M + 126) (M + 127) ++ ((M + 125, .inl (T 3, 2, .inr (.inr (.inr (.inr (va_up (fun _ => none) (0 : Int32).toNatClampNeg (some (M + 126)))))))) :: (wHistory T (M + 81) (M + 82) ++ wC T grD (adr M cst) Yf)))) rfl rfl rfl rfl (vp_in_iff.mpr (by decide)) rfl dX11_init_166 ?_
  refine gw_iinc C dX11_init_167 (kk := 0) rfl (v := 1) rfl (by decide) rfl ?_
  refine gw_goto C dX11_init_170 (tgt := 147) rfl ?_
  refine gw_iload C dX11_init_147 0 rfl ?_
  refine gw_iconst C dX11_init_149 (v := 2) rfl ?_
  refine gw_icmp_ge C dX11_init_150 (tgt := 173) rfl (fun h9 => absurd h9 (by decide)) (fun _ => ?_)
  refine gw_aload_n C dX11_init_153 rfl 5 rfl ?_
  refine gw_get C (ci := 11) (Cn := RX11) (Tc := TX11) (N := 11) (j := 8) (v := .ref (M + 125)) 0 rfl ly_X11_i11 rfl (by decide) (cg_ts C _ wd_X11_f83) (fun _ h => h) rfl dX11_init_154 ?_
  refine gw_iload C dX11_init_157 0 rfl ?_
  refine gx_new C (ci := 8) (fs := [.int 0, .int 0, .int 0, .int 0, .int 0, .int 0, .int 0, .int 0, .int 0, .null, .null, .null, .null, .null, .null]) tyX8 ly_X11_i8 tyX8_ok wd_X11_c81 wd_X11_i8 wd_X11_n8 rfl (by decide) (Nat.le_of_ble_eq_true rfl) (Nat.le_of_ble_eq_true rfl) dX11_init_159 ?_
  refine gw_dup C dX11_init_162 rfl ?_
  refine gx_ctorN C (As := []) (ct_State D T (M + 133) (M + 134) hl) (⟨va_cnB (ws' := _) 0 (cg_ts C) gX11_init_X8_init_n87 rfl rfl rfl (cg_nst C _ nx_X11_8_87) (cg_ts C _ wd_X11_n8) (by decide +kernel) ⟨(Nat.le_of_ble_eq_true rfl), (Nat.le_of_ble_eq_true rfl)⟩, rfl, cg_ts C _ wd_X11_m8⟩) rfl rfl (Nat.le_of_ble_eq_true rfl) ⟨(Nat.le_of_ble_eq_true rfl), (Nat.le_of_ble_eq_true rfl)⟩ dX11_init_163 ?_
  refine gw_aast C 15 3 1 8 (ws' := (M, .inr (11, [.ref (M + 1), .ref (M + 53), .ref (M + 3), .ref (M + 4), .ref (M + 55), .ref (M + 59), .ref (M + 70), .ref (M + 81), .ref (M + 125), .null, .null])) :: (wState T (M + 133) (M + 134) ++ ((wState T (M + 126) (M + 127) ++ ((M + 125, .inl (T 3, 2, .inr (.inr (.inr (.inr (va_up (va_up (fun _ => none) (0 : Int32).toNatClampNeg (some (M + 126))) (1 : Int32).toNatClampNeg (some (M + 133)))))))) :: (wHistory T (M + 81) (M + 82) ++ wC T grD (adr M cst) Yf)))))) rfl rfl rfl rfl (vp_in_iff.mpr (by decide)) rfl dX11_init_166 ?_
  refine gw_iinc C dX11_init_167 (kk := 0) rfl (v := 2) rfl (by decide) rfl ?_
  refine gw_goto C dX11_init_170 (tgt := 147) rfl ?_
  refine gw_iload C dX11_init_147 0 rfl ?_
  refine gw_iconst C dX11_init_149 (v := 2) rfl ?_
  refine gw_icmp_ge C dX11_init_150 (tgt := 173) rfl (fun _ => ?_) (fun h9 => absurd (by decide) h9)
  refine gw_aload_n C dX11_init_173 rfl 5 rfl ?_
  refine gw_iconst C dX11_init_174 (v := 2) rfl ?_
  refine gx_newa C (atype := .boolean) 2 rfl wd_X11_aboolean (N := 2) (a0 := (2, .inl (fun _ => 0))) rfl (fun h => h) (by decide) (by decide +kernel) (by decide) (Nat.le_of_ble_eq_true rfl) (Nat.le_of_ble_eq_true rfl) dX11_init_175 ?_
  refine gw_putF C hi (ci := 11) (Cn := RX11) (Tc := TX11) (N := 11) (j := 9) (ty := tyX11 9) (ws' := (M, .inr (11, [.ref (M + 1), .ref (M + 53), .ref (M + 3), .ref (M + 4), .ref (M + 55), .ref (M + 59), .ref (M + 70), .ref (M + 81), .ref (M + 125), .ref (M + 140), .null])) :: (M + 140, .inl (T 2, 2, .inl (fun _ => 0))) :: (wState T (M + 133) (M + 134) ++ ((wState T (M + 126) (M + 127) ++ ((M + 125, .inl (T 3, 2, .inr (.inr (.inr (.inr (va_up (va_up (fun _ => none) (0 : Int32).toNatClampNeg (some (M + 126))) (1 : Int32).toNatClampNeg (some (M + 133)))))))) :: (wHistory T (M + 81) (M + 82) ++ wC T grD (adr M cst) Yf)))))) 0 rfl ly_X11_i11 rfl tyX11_ok nmX11 (by decide) (cg_ts C _ wd_X11_f88) (fun _ h => h) rfl rfl (by decide +kernel) rfl rfl (Nat.le_of_ble_eq_true rfl) rfl dX11_init_177 ?_
  refine gw_aload_n C dX11_init_180 rfl 5 rfl ?_
  refine gx_new C (ci := 5) (fs := [.int 0, .int 0, .int 0, .int 0, .null, .null, .null, .null, .null, .null, .null, .null, .null, .null, .null, .int 0, .int 0]) tyX5 ly_X11_i5 tyX5_ok wd_X11_c24 wd_X11_i5 wd_X11_n5 rfl (by decide) (Nat.le_of_ble_eq_true rfl) (Nat.le_of_ble_eq_true rfl) dX11_init_181 ?_
  refine gw_dup C dX11_init_184 rfl ?_
  refine gx_ctorN C (As := []) (ct_Recipe D T (M + 141) (M + 142) hl) (⟨va_cnB (ws' := _) 0 (cg_ts C) gX11_init_X5_init_n26 rfl rfl rfl (cg_nst C _ nx_X11_5_26) (cg_ts C _ wd_X11_n5) (by decide +kernel) ⟨(Nat.le_of_ble_eq_true rfl), (Nat.le_of_ble_eq_true rfl)⟩, rfl, cg_ts C _ wd_X11_m5⟩) rfl rfl (Nat.le_of_ble_eq_true rfl) ⟨(Nat.le_of_ble_eq_true rfl), (Nat.le_of_ble_eq_true rfl)⟩ dX11_init_185 ?_
  refine gw_put C (ci := 11) (Cn := RX11) (Tc := TX11) (N := 11) (j := 10) (ty := tyX11 10) (ws' := (M, .inr (11, [.ref (M + 1), .ref (M + 53), .ref (M + 3), .ref (M + 4), .ref (M + 55), .ref (M + 59), .ref (M + 70), .ref (M + 81), .ref (M + 125), .ref (M + 140), .ref (M + 141)])) :: (wRecipe T (M + 141) (M + 142) ++ ((M + 140, .inl (T 2, 2, .inl (fun _ => 0))) :: (wState T (M + 133) (M + 134) ++ ((wState T (M + 126) (M + 127) ++ ((M + 125, .inl (T 3, 2, .inr (.inr (.inr (.inr (va_up (va_up (fun _ => none) (0 : Int32).toNatClampNeg (some (M + 126))) (1 : Int32).toNatClampNeg (some (M + 133)))))))) :: (wHistory T (M + 81) (M + 82) ++ wC T grD (adr M cst) Yf)))))))) 0 rfl ly_X11_i11 rfl tyX11_ok nmX11 (by decide) (cg_ts C _ wd_X11_f92) (fun _ h => h) rfl (by decide +kernel) rfl rfl (Nat.le_of_ble_eq_true rfl) rfl dX11_init_188 ?_
  refine gw_conv (wC T allG (adr M cst) Yf) (fun H hP => cv_Z hP z0 z02 z9 z2 z3 z42 z43) (dmZ M cst) ?_
  exact gw_vret C hr () trivial (fun t h1 h2 h3 => ⟨h1, h3⟩) dX11_init_191
theorem ct_X11 {l : Launch} (D : va_G) (T : Nat → ClassId) (M : Nat) (cst : Nat → Nat → Nat → Nat) (hl : l.stackTraces = false)
    (y5 : ∀ o, Ya 5 0 o = fun _ => 0) (y6 : Ya 6 0 0 = fun j => if j = 5 then -1 else 0) (y3 : ∀ o, Ya 3 0 o = fun _ => 0) (y40 : ∀ o, Ya 4 0 o = fun _ => 0) (y41 : ∀ o, Ya 4 1 o = fun _ => 0)
    (hs : X9_addString Ya 0 0 = some Yb) (hr0 : X7_readInto Yb 0 = some Yc) (hd : Yd = up Yc 5 0 0 1 0)
    (z51 : ∀ o, Yd 5 1 o = fun _ => 0) (z8 : ∀ o, o ≠ 1 → Yd 8 0 o = fun _ => 0) (z81 : Yd 8 0 1 = fun _ => 1) (zk0 : ∀ o, Yd 1 0 o = fun _ => 0) (zs0 : ∀ o, Yd 2 0 o = fun _ => 0) (hk0 : X8_begin Yd 0 0 = some Ye) (zk1 : ∀ o, Ye 1 1 o = fun _ => 0) (zs1 : ∀ o, Ye 2 1 o = fun _ => 0) (hk1 : X8_begin Ye 1 0 = some Yf)
    (z0 : Yf 0 0 0 10 = 1) (z02 : Yf 0 0 2 = fun _ => 0) (z9 : ∀ o, Yf 9 0 o = fun _ => 0) (z2 : ∀ g, 2 ≤ g → ∀ o, Yf 2 g o = fun _ => 0) (z3 : ∀ o, Yf 3 1 o = fun _ => 0) (z42 : ∀ o, Yf 4 2 o = fun _ => 0) (z43 : ∀ o, Yf 4 3 o = fun _ => 0) :
    CtW l yX11_init wsX11_init (Rc 9 188 2686) D T M (adr M cst) [] M (.inr (11, [.null, .null, .null, .null, .null, .null, .null, .null, .null, .null, .null])) (M + 1) [] Ya allG Yf 188 2686 :=
  gw_bodyW (by decide +kernel) rfl rfl (Nat.le_of_ble_eq_true rfl) (Nat.le_succ _) ⟨List.pairwise_singleton _ _, fun q hq => by rw [List.mem_singleton.mp hq]; exact Nat.le_refl _⟩ (fun p e s m below meth c C hSt hi hr => w_X11 C hSt hi hr hl y5 y6 y3 y40 y41 hs hr0 hd z51 z8 z81 zk0 zs0 hk0 zk1 zs1 hk1 z0 z02 z9 z2 z3 z42 z43)
end
