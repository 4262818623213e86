/-! PHASE 3: WHAT LIES BELOW THE LAW'S OWN THINGS AT ITS START -/
abbrev FL : List Cond := flatC (Jvm.Cond.and given_1 narrow_1)
theorem skol {P : Nat → Nat → Prop} {n : Nat} (h : ∀ i, i < n → ∃ a, P i a) : ∃ f : Nat → Nat, ∀ i, i < n → P i (f i) :=
  ⟨fun i => if hi : i < n then Classical.choose (h i hi) else 0, fun i hi => by
    show P i (if hi : i < n then Classical.choose (h i hi) else 0)
    rw [dif_pos hi]
    exact Classical.choose_spec (h i hi)⟩
theorem eqv {args : Array Value} {s : State} {t : Term} {z : Int32} (h : (Cond.eq t (.int z)).before args s = true) : t.eval args s none [] s = some (.int z) := by
  cases hv : t.eval args s none [] s with
  | none => simp [Cond.before, Cond.holds, Cond.value, hv] at h
  | some w =>
    have hz : (Term.int z).eval args s none [] s = some (.int z) := rfl
    simp only [Cond.before, Cond.holds, Cond.value, hv, hz] at h
    cases w <;> simp_all
theorem eqr {args : Array Value} {s : State} {t u : Term} {a : Nat} (h : (Cond.eq t u).before args s = true) (hu : u.eval args s none [] s = some (.ref a)) : t.eval args s none [] s = some (.ref a) := by
  cases hv : t.eval args s none [] s with
  | none => simp [Cond.before, Cond.holds, Cond.value, hv] at h
  | some w =>
    simp only [Cond.before, Cond.holds, Cond.value, hv, hu] at h
    cases w <;> simp_all
theorem eql {args : Array Value} {s : State} {t u : Term} {a : Nat} (h : (Cond.eq t u).before args s = true) (ht : t.eval args s none [] s = some (.ref a)) : u.eval args s none [] s = some (.ref a) := by
  cases hv : u.eval args s none [] s with
  | none => simp [Cond.before, Cond.holds, Cond.value, hv, ht] at h
  | some w =>
    simp only [Cond.before, Cond.holds, Cond.value, hv, ht] at h
    cases w <;> simp_all
theorem exr {args : Array Value} {s : State} {t : Term} {nm : String} (h : (Cond.exactly t nm).before args s = true) : ∃ a, t.eval args s none [] s = some (.ref a) := by
  obtain ⟨a, c, cell, k, h1, -⟩ := Cond.exactly_spec h
  exact ⟨a, h1⟩
/-- String constant i: its class, its entry -/
def sOwn (i : Nat) : String × Nat := ([("RecipeScheduler", 27), ("RecipeScheduler$SetupReader", 45), ("RecipeScheduler$SetupReader", 29), ("RecipeScheduler$SetupReader", 100), ("RecipeScheduler$SetupReader", 127), ("RecipeScheduler$SetupReader", 112), ("RecipeScheduler$SetupReader", 116), ("RecipeScheduler$SetupReader", 120), ("RecipeSchedulerLaw", 40), ("RecipeSchedulerLaw", 51), ("RecipeSchedulerLaw", 57), ("RecipeSchedulerLaw", 59), ("RecipeSchedulerLaw", 61), ("RecipeSchedulerLaw", 63), ("RecipeSchedulerLaw", 65), ("RecipeSchedulerLaw", 67), ("RecipeSchedulerLaw", 69), ("RecipeScheduler", 440), ("RecipeScheduler", 296), ("RecipeScheduler", 339), ("RecipeScheduler", 426), ("RecipeScheduler", 431), ("RecipeScheduler", 111), ("RecipeScheduler", 98), ("RecipeScheduler", 356), ("RecipeScheduler", 364), ("RecipeScheduler", 438), ("RecipeScheduler", 372), ("RecipeScheduler", 348), ("RecipeScheduler", 354), ("RecipeScheduler", 374)] : List (String × Nat)).getD i ("", 0)
theorem str_of {args : Array Value} {s : State} {A : Nat → Prop} {own : String} {k a : Nat} {bs : List Int32} (hA : ∀ a : Nat, a < s.heap.size → ¬ A a) (hb : bs.length < 2 ^ 31) (ha : (Term.string own k).eval args s none [] s = some (.ref a))
    (h1 : (Cond.exactly (.string own k) "java/lang/String").before args s = true) (h2 : (Cond.eq (.field (.string own k) "java/lang/String" "coder" "B") (.int 0)).before args s = true) (h3 : (Cond.arrayOf (.field (.string own k) "java/lang/String" "value" "[B") .byte).before args s = true)
    (h4 : (Cond.eq (.length (.field (.string own k) "java/lang/String" "value" "[B")) (.int (Int32.ofNat bs.length))).before args s = true) (h5 : ∀ j, j < bs.length → (Cond.eq (.elem (.field (.string own k) "java/lang/String" "value" "[B") (.int (Int32.ofNat j))) (.int (bs.getD j 0))).before args s = true) :
    ∃ v, va_O "java/lang/String" a A s s.heap ∧ va_OF "java/lang/String" "coder" "B" (.int 0) a A s s.heap ∧ va_OF "java/lang/String" "value" "[B" (.ref v) a A s s.heap ∧ va_T .byte v bs.length (fun j => .int (bs.getD j 0)) A s s.heap := by
  obtain ⟨v, hv, hT⟩ := va_Tof hb h3 (eqv h4) (fun j hj => eqv (h5 j hj)) hA
  exact ⟨v, va_Oof h1 ha hA, vk_OFof ha (eqv h2) hA, vk_OFof ha hv hA, hT⟩
theorem fx_0 : Cond.exactly (.string "RecipeScheduler" 27) "java/lang/String" ∈ FL := List.mem_of_getElem? (i := 255) (by decide +kernel)
theorem fx_1 : Cond.exactly (.string "RecipeScheduler$SetupReader" 45) "java/lang/String" ∈ FL := List.mem_of_getElem? (i := 443) (by decide +kernel)
theorem fx_2 : Cond.exactly (.string "RecipeScheduler$SetupReader" 29) "java/lang/String" ∈ FL := List.mem_of_getElem? (i := 453) (by decide +kernel)
theorem fx_3 : Cond.exactly (.string "RecipeScheduler$SetupReader" 100) "java/lang/String" ∈ FL := List.mem_of_getElem? (i := 460) (by decide +kernel)
theorem fx_4 : Cond.exactly (.string "RecipeScheduler$SetupReader" 127) "java/lang/String" ∈ FL := List.mem_of_getElem? (i := 468) (by decide +kernel)
theorem fx_5 : Cond.exactly (.string "RecipeScheduler$SetupReader" 112) "java/lang/String" ∈ FL := List.mem_of_getElem? (i := 474) (by decide +kernel)
theorem fx_6 : Cond.exactly (.string "RecipeScheduler$SetupReader" 116) "java/lang/String" ∈ FL := List.mem_of_getElem? (i := 481) (by decide +kernel)
theorem fx_7 : Cond.exactly (.string "RecipeScheduler$SetupReader" 120) "java/lang/String" ∈ FL := List.mem_of_getElem? (i := 490) (by decide +kernel)
theorem fx_8 : Cond.exactly (.string "RecipeSchedulerLaw" 40) "java/lang/String" ∈ FL := List.mem_of_getElem? (i := 685) (by decide +kernel)
theorem fx_9 : Cond.exactly (.string "RecipeSchedulerLaw" 51) "java/lang/String" ∈ FL := List.mem_of_getElem? (i := 696) (by decide +kernel)
theorem fx_10 : Cond.exactly (.string "RecipeSchedulerLaw" 57) "java/lang/String" ∈ FL := List.mem_of_getElem? (i := 705) (by decide +kernel)
theorem fx_11 : Cond.exactly (.string "RecipeSchedulerLaw" 59) "java/lang/String" ∈ FL := List.mem_of_getElem? (i := 715) (by decide +kernel)
theorem fx_12 : Cond.exactly (.string "RecipeSchedulerLaw" 61) "java/lang/String" ∈ FL := List.mem_of_getElem? (i := 724) (by decide +kernel)
theorem fx_13 : Cond.exactly (.string "RecipeSchedulerLaw" 63) "java/lang/String" ∈ FL := List.mem_of_getElem? (i := 732) (by decide +kernel)
theorem fx_14 : Cond.exactly (.string "RecipeSchedulerLaw" 65) "java/lang/String" ∈ FL := List.mem_of_getElem? (i := 736) (by decide +kernel)
theorem fx_15 : Cond.exactly (.string "RecipeSchedulerLaw" 67) "java/lang/String" ∈ FL := List.mem_of_getElem? (i := 746) (by decide +kernel)
theorem fx_16 : Cond.exactly (.string "RecipeSchedulerLaw" 69) "java/lang/String" ∈ FL := List.mem_of_getElem? (i := 758) (by decide +kernel)
theorem fx_17 : Cond.exactly (.string "RecipeScheduler" 440) "java/lang/String" ∈ FL := List.mem_of_getElem? (i := 499) (by decide +kernel)
theorem fx_18 : Cond.exactly (.string "RecipeScheduler" 296) "java/lang/String" ∈ FL := List.mem_of_getElem? (i := 524) (by decide +kernel)
theorem fx_19 : Cond.exactly (.string "RecipeScheduler" 339) "java/lang/String" ∈ FL := List.mem_of_getElem? (i := 553) (by decide +kernel)
theorem fx_20 : Cond.exactly (.string "RecipeScheduler" 426) "java/lang/String" ∈ FL := List.mem_of_getElem? (i := 593) (by decide +kernel)
theorem fx_21 : Cond.exactly (.string "RecipeScheduler" 431) "java/lang/String" ∈ FL := List.mem_of_getElem? (i := 609) (by decide +kernel)
theorem fx_22 : Cond.exactly (.string "RecipeScheduler" 111) "java/lang/String" ∈ FL := List.mem_of_getElem? (i := 629) (by decide +kernel)
theorem fx_23 : Cond.exactly (.string "RecipeScheduler" 98) "java/lang/String" ∈ FL := List.mem_of_getElem? (i := 647) (by decide +kernel)
theorem fx_24 : Cond.exactly (.string "RecipeScheduler" 356) "java/lang/String" ∈ FL := List.mem_of_getElem? (i := 764) (by decide +kernel)
theorem fx_25 : Cond.exactly (.string "RecipeScheduler" 364) "java/lang/String" ∈ FL := List.mem_of_getElem? (i := 791) (by decide +kernel)
theorem fx_26 : Cond.exactly (.string "RecipeScheduler" 438) "java/lang/String" ∈ FL := List.mem_of_getElem? (i := 823) (by decide +kernel)
theorem fx_27 : Cond.exactly (.string "RecipeScheduler" 372) "java/lang/String" ∈ FL := List.mem_of_getElem? (i := 850) (by decide +kernel)
theorem fx_28 : Cond.exactly (.string "RecipeScheduler" 348) "java/lang/String" ∈ FL := List.mem_of_getElem? (i := 870) (by decide +kernel)
theorem fx_29 : Cond.exactly (.string "RecipeScheduler" 354) "java/lang/String" ∈ FL := List.mem_of_getElem? (i := 888) (by decide +kernel)
theorem fx_30 : Cond.exactly (.string "RecipeScheduler" 374) "java/lang/String" ∈ FL := List.mem_of_getElem? (i := 911) (by decide +kernel)
theorem fc_0 : Cond.eq (.field (.string "RecipeScheduler" 27) "java/lang/String" "coder" "B") (.int 0) ∈ FL := List.mem_of_getElem? (i := 256) (by decide +kernel)
theorem fa_0 : Cond.arrayOf (.field (.string "RecipeScheduler" 27) "java/lang/String" "value" "[B") .byte ∈ FL := List.mem_of_getElem? (i := 257) (by decide +kernel)
theorem fl_0 : Cond.eq (.length (.field (.string "RecipeScheduler" 27) "java/lang/String" "value" "[B")) (.int (Int32.ofNat (sByt 0).length)) ∈ FL := List.mem_of_getElem? (i := 258) (by decide +kernel)
set_option maxRecDepth 20000 in
theorem fb_0 : ∀ j, j < (sByt 0).length → FL[259 + j]? = some (Cond.eq (.elem (.field (.string "RecipeScheduler" 27) "java/lang/String" "value" "[B") (.int (Int32.ofNat j))) (.int ((sByt 0).getD j 0))) := by decide +kernel
theorem fc_1 : Cond.eq (.field (.string "RecipeScheduler$SetupReader" 45) "java/lang/String" "coder" "B") (.int 0) ∈ FL := List.mem_of_getElem? (i := 444) (by decide +kernel)
theorem fa_1 : Cond.arrayOf (.field (.string "RecipeScheduler$SetupReader" 45) "java/lang/String" "value" "[B") .byte ∈ FL := List.mem_of_getElem? (i := 445) (by decide +kernel)
theorem fl_1 : Cond.eq (.length (.field (.string "RecipeScheduler$SetupReader" 45) "java/lang/String" "value" "[B")) (.int (Int32.ofNat (sByt 1).length)) ∈ FL := List.mem_of_getElem? (i := 446) (by decide +kernel)
set_option maxRecDepth 20000 in
theorem fb_1 : ∀ j, j < (sByt 1).length → FL[447 + j]? = some (Cond.eq (.elem (.field (.string "RecipeScheduler$SetupReader" 45) "java/lang/String" "value" "[B") (.int (Int32.ofNat j))) (.int ((sByt 1).getD j 0))) := by decide +kernel
theorem fc_2 : Cond.eq (.field (.string "RecipeScheduler$SetupReader" 29) "java/lang/String" "coder" "B") (.int 0) ∈ FL := List.mem_of_getElem? (i := 454) (by decide +kernel)
theorem fa_2 : Cond.arrayOf (.field (.string "RecipeScheduler$SetupReader" 29) "java/lang/String" "value" "[B") .byte ∈ FL := List.mem_of_getElem? (i := 455) (by decide +kernel)
theorem fl_2 : Cond.eq (.length (.field (.string "RecipeScheduler$SetupReader" 29) "java/lang/String" "value" "[B")) (.int (Int32.ofNat (sByt 2).length)) ∈ FL := List.mem_of_getElem? (i := 456) (by decide +kernel)
set_option maxRecDepth 20000 in
theorem fb_2 : ∀ j, j < (sByt 2).length → FL[457 + j]? = some (Cond.eq (.elem (.field (.string "RecipeScheduler$SetupReader" 29) "java/lang/String" "value" "[B") (.int (Int32.ofNat j))) (.int ((sByt 2).getD j 0))) := by decide +kernel
theorem fc_3 : Cond.eq (.field (.string "RecipeScheduler$SetupReader" 100) "java/lang/String" "coder" "B") (.int 0) ∈ FL := List.mem_of_getElem? (i := 461) (by decide +kernel)
theorem fa_3 : Cond.arrayOf (.field (.string "RecipeScheduler$SetupReader" 100) "java/lang/String" "value" "[B") .byte ∈ FL := List.mem_of_getElem? (i := 462) (by decide +kernel)
theorem fl_3 : Cond.eq (.length (.field (.string "RecipeScheduler$SetupReader" 100) "java/lang/String" "value" "[B")) (.int (Int32.ofNat (sByt 3).length)) ∈ FL := List.mem_of_getElem? (i := 463) (by decide +kernel)
set_option maxRecDepth 20000 in
theorem fb_3 : ∀ j, j < (sByt 3).length → FL[464 + j]? = some (Cond.eq (.elem (.field (.string "RecipeScheduler$SetupReader" 100) "java/lang/String" "value" "[B") (.int (Int32.ofNat j))) (.int ((sByt 3).getD j 0))) := by decide +kernel
theorem fc_4 : Cond.eq (.field (.string "RecipeScheduler$SetupReader" 127) "java/lang/String" "coder" "B") (.int 0) ∈ FL := List.mem_of_getElem? (i := 469) (by decide +kernel)
theorem fa_4 : Cond.arrayOf (.field (.string "RecipeScheduler$SetupReader" 127) "java/lang/String" "value" "[B") .byte ∈ FL := List.mem_of_getElem? (i := 470) (by decide +kernel)
theorem fl_4 : Cond.eq (.length (.field (.string "RecipeScheduler$SetupReader" 127) "java/lang/String" "value" "[B")) (.int (Int32.ofNat (sByt 4).length)) ∈ FL := List.mem_of_getElem? (i := 471) (by decide +kernel)
set_option maxRecDepth 20000 in
theorem fb_4 : ∀ j, j < (sByt 4).length → FL[472 + j]? = some (Cond.eq (.elem (.field (.string "RecipeScheduler$SetupReader" 127) "java/lang/String" "value" "[B") (.int (Int32.ofNat j))) (.int ((sByt 4).getD j 0))) := by decide +kernel
theorem fc_5 : Cond.eq (.field (.string "RecipeScheduler$SetupReader" 112) "java/lang/String" "coder" "B") (.int 0) ∈ FL := List.mem_of_getElem? (i := 475) (by decide +kernel)
theorem fa_5 : Cond.arrayOf (.field (.string "RecipeScheduler$SetupReader" 112) "java/lang/String" "value" "[B") .byte ∈ FL := List.mem_of_getElem? (i := 476) (by decide +kernel)
theorem fl_5 : Cond.eq (.length (.field (.string "RecipeScheduler$SetupReader" 112) "java/lang/String" "value" "[B")) (.int (Int32.ofNat (sByt 5).length)) ∈ FL := List.mem_of_getElem? (i := 477) (by decide +kernel)
set_option maxRecDepth 20000 in
theorem fb_5 : ∀ j, j < (sByt 5).length → FL[478 + j]? = some (Cond.eq (.elem (.field (.string "RecipeScheduler$SetupReader" 112) "java/lang/String" "value" "[B") (.int (Int32.ofNat j))) (.int ((sByt 5).getD j 0))) := by decide +kernel
theorem fc_6 : Cond.eq (.field (.string "RecipeScheduler$SetupReader" 116) "java/lang/String" "coder" "B") (.int 0) ∈ FL := List.mem_of_getElem? (i := 482) (by decide +kernel)
theorem fa_6 : Cond.arrayOf (.field (.string "RecipeScheduler$SetupReader" 116) "java/lang/String" "value" "[B") .byte ∈ FL := List.mem_of_getElem? (i := 483) (by decide +kernel)
theorem fl_6 : Cond.eq (.length (.field (.string "RecipeScheduler$SetupReader" 116) "java/lang/String" "value" "[B")) (.int (Int32.ofNat (sByt 6).length)) ∈ FL := List.mem_of_getElem? (i := 484) (by decide +kernel)
set_option maxRecDepth 20000 in
theorem fb_6 : ∀ j, j < (sByt 6).length → FL[485 + j]? = some (Cond.eq (.elem (.field (.string "RecipeScheduler$SetupReader" 116) "java/lang/String" "value" "[B") (.int (Int32.ofNat j))) (.int ((sByt 6).getD j 0))) := by decide +kernel
theorem fc_7 : Cond.eq (.field (.string "RecipeScheduler$SetupReader" 120) "java/lang/String" "coder" "B") (.int 0) ∈ FL := List.mem_of_getElem? (i := 491) (by decide +kernel)
theorem fa_7 : Cond.arrayOf (.field (.string "RecipeScheduler$SetupReader" 120) "java/lang/String" "value" "[B") .byte ∈ FL := List.mem_of_getElem? (i := 492) (by decide +kernel)
theorem fl_7 : Cond.eq (.length (.field (.string "RecipeScheduler$SetupReader" 120) "java/lang/String" "value" "[B")) (.int (Int32.ofNat (sByt 7).length)) ∈ FL := List.mem_of_getElem? (i := 493) (by decide +kernel)
set_option maxRecDepth 20000 in
theorem fb_7 : ∀ j, j < (sByt 7).length → FL[494 + j]? = some (Cond.eq (.elem (.field (.string "RecipeScheduler$SetupReader" 120) "java/lang/String" "value" "[B") (.int (Int32.ofNat j))) (.int ((sByt 7).getD j 0))) := by decide +kernel
theorem fc_8 : Cond.eq (.field (.string "RecipeSchedulerLaw" 40) "java/lang/String" "coder" "B") (.int 0) ∈ FL := List.mem_of_getElem? (i := 686) (by decide +kernel)
theorem fa_8 : Cond.arrayOf (.field (.string "RecipeSchedulerLaw" 40) "java/lang/String" "value" "[B") .byte ∈ FL := List.mem_of_getElem? (i := 687) (by decide +kernel)
theorem fl_8 : Cond.eq (.length (.field (.string "RecipeSchedulerLaw" 40) "java/lang/String" "value" "[B")) (.int (Int32.ofNat (sByt 8).length)) ∈ FL := List.mem_of_getElem? (i := 688) (by decide +kernel)
set_option maxRecDepth 20000 in
theorem fb_8 : ∀ j, j < (sByt 8).length → FL[689 + j]? = some (Cond.eq (.elem (.field (.string "RecipeSchedulerLaw" 40) "java/lang/String" "value" "[B") (.int (Int32.ofNat j))) (.int ((sByt 8).getD j 0))) := by decide +kernel
theorem fc_9 : Cond.eq (.field (.string "RecipeSchedulerLaw" 51) "java/lang/String" "coder" "B") (.int 0) ∈ FL := List.mem_of_getElem? (i := 697) (by decide +kernel)
theorem fa_9 : Cond.arrayOf (.field (.string "RecipeSchedulerLaw" 51) "java/lang/String" "value" "[B") .byte ∈ FL := List.mem_of_getElem? (i := 698) (by decide +kernel)
theorem fl_9 : Cond.eq (.length (.field (.string "RecipeSchedulerLaw" 51) "java/lang/String" "value" "[B")) (.int (Int32.ofNat (sByt 9).length)) ∈ FL := List.mem_of_getElem? (i := 699) (by decide +kernel)
set_option maxRecDepth 20000 in
theorem fb_9 : ∀ j, j < (sByt 9).length → FL[700 + j]? = some (Cond.eq (.elem (.field (.string "RecipeSchedulerLaw" 51) "java/lang/String" "value" "[B") (.int (Int32.ofNat j))) (.int ((sByt 9).getD j 0))) := by decide +kernel
theorem fc_10 : Cond.eq (.field (.string "RecipeSchedulerLaw" 57) "java/lang/String" "coder" "B") (.int 0) ∈ FL := List.mem_of_getElem? (i := 706) (by decide +kernel)
theorem fa_10 : Cond.arrayOf (.field (.string "RecipeSchedulerLaw" 57) "java/lang/String" "value" "[B") .byte ∈ FL := List.mem_of_getElem? (i := 707) (by decide +kernel)
theorem fl_10 : Cond.eq (.length (.field (.string "RecipeSchedulerLaw" 57) "java/lang/String" "value" "[B")) (.int (Int32.ofNat (sByt 10).length)) ∈ FL := List.mem_of_getElem? (i := 708) (by decide +kernel)
set_option maxRecDepth 20000 in
theorem fb_10 : ∀ j, j < (sByt 10).length → FL[709 + j]? = some (Cond.eq (.elem (.field (.string "RecipeSchedulerLaw" 57) "java/lang/String" "value" "[B") (.int (Int32.ofNat j))) (.int ((sByt 10).getD j 0))) := by decide +kernel
theorem fc_11 : Cond.eq (.field (.string "RecipeSchedulerLaw" 59) "java/lang/String" "coder" "B") (.int 0) ∈ FL := List.mem_of_getElem? (i := 716) (by decide +kernel)
theorem fa_11 : Cond.arrayOf (.field (.string "RecipeSchedulerLaw" 59) "java/lang/String" "value" "[B") .byte ∈ FL := List.mem_of_getElem? (i := 717) (by decide +kernel)
theorem fl_11 : Cond.eq (.length (.field (.string "RecipeSchedulerLaw" 59) "java/lang/String" "value" "[B")) (.int (Int32.ofNat (sByt 11).length)) ∈ FL := List.mem_of_getElem? (i := 718) (by decide +kernel)
set_option maxRecDepth 20000 in
theorem fb_11 : ∀ j, j < (sByt 11).length → FL[719 + j]? = some (Cond.eq (.elem (.field (.string "RecipeSchedulerLaw" 59) "java/lang/String" "value" "[B") (.int (Int32.ofNat j))) (.int ((sByt 11).getD j 0))) := by decide +kernel
theorem fc_12 : Cond.eq (.field (.string "RecipeSchedulerLaw" 61) "java/lang/String" "coder" "B") (.int 0) ∈ FL := List.mem_of_getElem? (i := 725) (by decide +kernel)
theorem fa_12 : Cond.arrayOf (.field (.string "RecipeSchedulerLaw" 61) "java/lang/String" "value" "[B") .byte ∈ FL := List.mem_of_getElem? (i := 726) (by decide +kernel)
theorem fl_12 : Cond.eq (.length (.field (.string "RecipeSchedulerLaw" 61) "java/lang/String" "value" "[B")) (.int (Int32.ofNat (sByt 12).length)) ∈ FL := List.mem_of_getElem? (i := 727) (by decide +kernel)
set_option maxRecDepth 20000 in
theorem fb_12 : ∀ j, j < (sByt 12).length → FL[728 + j]? = some (Cond.eq (.elem (.field (.string "RecipeSchedulerLaw" 61) "java/lang/String" "value" "[B") (.int (Int32.ofNat j))) (.int ((sByt 12).getD j 0))) := by decide +kernel
theorem fc_13 : Cond.eq (.field (.string "RecipeSchedulerLaw" 63) "java/lang/String" "coder" "B") (.int 0) ∈ FL := List.mem_of_getElem? (i := 733) (by decide +kernel)
theorem fa_13 : Cond.arrayOf (.field (.string "RecipeSchedulerLaw" 63) "java/lang/String" "value" "[B") .byte ∈ FL := List.mem_of_getElem? (i := 734) (by decide +kernel)
theorem fl_13 : Cond.eq (.length (.field (.string "RecipeSchedulerLaw" 63) "java/lang/String" "value" "[B")) (.int (Int32.ofNat (sByt 13).length)) ∈ FL := List.mem_of_getElem? (i := 735) (by decide +kernel)
set_option maxRecDepth 20000 in
theorem fb_13 : ∀ j, j < (sByt 13).length → FL[0 + j]? = some (Cond.eq (.elem (.field (.string "RecipeSchedulerLaw" 63) "java/lang/String" "value" "[B") (.int (Int32.ofNat j))) (.int ((sByt 13).getD j 0))) := by decide +kernel
theorem fc_14 : Cond.eq (.field (.string "RecipeSchedulerLaw" 65) "java/lang/String" "coder" "B") (.int 0) ∈ FL := List.mem_of_getElem? (i := 737) (by decide +kernel)
theorem fa_14 : Cond.arrayOf (.field (.string "RecipeSchedulerLaw" 65) "java/lang/String" "value" "[B") .byte ∈ FL := List.mem_of_getElem? (i := 738) (by decide +kernel)
theorem fl_14 : Cond.eq (.length (.field (.string "RecipeSchedulerLaw" 65) "java/lang/String" "value" "[B")) (.int (Int32.ofNat (sByt 14).length)) ∈ FL := List.mem_of_getElem? (i := 739) (by decide +kernel)
set_option maxRecDepth 20000 in
theorem fb_14 : ∀ j, j < (sByt 14).length → FL[740 + j]? = some (Cond.eq (.elem (.field (.string "RecipeSchedulerLaw" 65) "java/lang/String" "value" "[B") (.int (Int32.ofNat j))) (.int ((sByt 14).getD j 0))) := by decide +kernel
theorem fc_15 : Cond.eq (.field (.string "RecipeSchedulerLaw" 67) "java/lang/String" "coder" "B") (.int 0) ∈ FL := List.mem_of_getElem? (i := 747) (by decide +kernel)
theorem fa_15 : Cond.arrayOf (.field (.string "RecipeSchedulerLaw" 67) "java/lang/String" "value" "[B") .byte ∈ FL := List.mem_of_getElem? (i := 748) (by decide +kernel)
theorem fl_15 : Cond.eq (.length (.field (.string "RecipeSchedulerLaw" 67) "java/lang/String" "value" "[B")) (.int (Int32.ofNat (sByt 15).length)) ∈ FL := List.mem_of_getElem? (i := 749) (by decide +kernel)
set_option maxRecDepth 20000 in
theorem fb_15 : ∀ j, j < (sByt 15).length → FL[750 + j]? = some (Cond.eq (.elem (.field (.string "RecipeSchedulerLaw" 67) "java/lang/String" "value" "[B") (.int (Int32.ofNat j))) (.int ((sByt 15).getD j 0))) := by decide +kernel
theorem fc_16 : Cond.eq (.field (.string "RecipeSchedulerLaw" 69) "java/lang/String" "coder" "B") (.int 0) ∈ FL := List.mem_of_getElem? (i := 759) (by decide +kernel)
theorem fa_16 : Cond.arrayOf (.field (.string "RecipeSchedulerLaw" 69) "java/lang/String" "value" "[B") .byte ∈ FL := List.mem_of_getElem? (i := 760) (by decide +kernel)
theorem fl_16 : Cond.eq (.length (.field (.string "RecipeSchedulerLaw" 69) "java/lang/String" "value" "[B")) (.int (Int32.ofNat (sByt 16).length)) ∈ FL := List.mem_of_getElem? (i := 761) (by decide +kernel)
set_option maxRecDepth 20000 in
theorem fb_16 : ∀ j, j < (sByt 16).length → FL[762 + j]? = some (Cond.eq (.elem (.field (.string "RecipeSchedulerLaw" 69) "java/lang/String" "value" "[B") (.int (Int32.ofNat j))) (.int ((sByt 16).getD j 0))) := by decide +kernel
section
variable {args : Array Value} {s : State} {A : Nat → Prop} {sa : Nat → Nat}
theorem st_ex (hs : ∀ w ∈ FL, w.before args s = true) : ∀ i, i < 31 → ∃ a, (Term.string (sOwn i).1 (sOwn i).2).eval args s none [] s = some (.ref a) := by
  intro i hi
  match i, hi with
  | 0, _ => exact exr (hs _ fx_0)
  | 1, _ => exact exr (hs _ fx_1)
  | 2, _ => exact exr (hs _ fx_2)
  | 3, _ => exact exr (hs _ fx_3)
  | 4, _ => exact exr (hs _ fx_4)
  | 5, _ => exact exr (hs _ fx_5)
  | 6, _ => exact exr (hs _ fx_6)
  | 7, _ => exact exr (hs _ fx_7)
  | 8, _ => exact exr (hs _ fx_8)
  | 9, _ => exact exr (hs _ fx_9)
  | 10, _ => exact exr (hs _ fx_10)
  | 11, _ => exact exr (hs _ fx_11)
  | 12, _ => exact exr (hs _ fx_12)
  | 13, _ => exact exr (hs _ fx_13)
  | 14, _ => exact exr (hs _ fx_14)
  | 15, _ => exact exr (hs _ fx_15)
  | 16, _ => exact exr (hs _ fx_16)
  | 17, _ => exact exr (hs _ fx_17)
  | 18, _ => exact exr (hs _ fx_18)
  | 19, _ => exact exr (hs _ fx_19)
  | 20, _ => exact exr (hs _ fx_20)
  | 21, _ => exact exr (hs _ fx_21)
  | 22, _ => exact exr (hs _ fx_22)
  | 23, _ => exact exr (hs _ fx_23)
  | 24, _ => exact exr (hs _ fx_24)
  | 25, _ => exact exr (hs _ fx_25)
  | 26, _ => exact exr (hs _ fx_26)
  | 27, _ => exact exr (hs _ fx_27)
  | 28, _ => exact exr (hs _ fx_28)
  | 29, _ => exact exr (hs _ fx_29)
  | 30, _ => exact exr (hs _ fx_30)
  | n + 31, h => exact absurd h (by omega)
theorem st_str (hs : ∀ w ∈ FL, w.before args s = true) (hA : ∀ a : Nat, a < s.heap.size → ¬ A a) (ha : ∀ i, i < 31 → (Term.string (sOwn i).1 (sOwn i).2).eval args s none [] s = some (.ref (sa i))) : ∀ i, i < 17 → ∃ v, va_O "java/lang/String" (sa i) A s s.heap ∧ va_OF "java/lang/String" "coder" "B" (.int 0) (sa i) A s s.heap ∧ va_OF "java/lang/String" "value" "[B" (.ref v) (sa i) A s s.heap ∧ va_T .byte v (sByt i).length (fun j => .int ((sByt i).getD j 0)) A s s.heap := by
  intro i hi
  match i, hi with
  | 0, _ => exact str_of hA (by decide +kernel) (ha 0 (by decide)) (hs _ fx_0) (hs _ fc_0) (hs _ fa_0) (hs _ fl_0) (fun j hj => hs _ (List.mem_of_getElem? (fb_0 j hj)))
  | 1, _ => exact str_of hA (by decide +kernel) (ha 1 (by decide)) (hs _ fx_1) (hs _ fc_1) (hs _ fa_1) (hs _ fl_1) (fun j hj => hs _ (List.mem_of_getElem? (fb_1 j hj)))
  | 2, _ => exact str_of hA (by decide +kernel) (ha 2 (by decide)) (hs _ fx_2) (hs _ fc_2) (hs _ fa_2) (hs _ fl_2) (fun j hj => hs _ (List.mem_of_getElem? (fb_2 j hj)))
  | 3, _ => exact str_of hA (by decide +kernel) (ha 3 (by decide)) (hs _ fx_3) (hs _ fc_3) (hs _ fa_3) (hs _ fl_3) (fun j hj => hs _ (List.mem_of_getElem? (fb_3 j hj)))
  | 4, _ => exact str_of hA (by decide +kernel) (ha 4 (by decide)) (hs _ fx_4) (hs _ fc_4) (hs _ fa_4) (hs _ fl_4) (fun j hj => hs _ (List.mem_of_getElem? (fb_4 j hj)))
  | 5, _ => exact str_of hA (by decide +kernel) (ha 5 (by decide)) (hs _ fx_5) (hs _ fc_5) (hs _ fa_5) (hs _ fl_5) (fun j hj => hs _ (List.mem_of_getElem? (fb_5 j hj)))
  | 6, _ => exact str_of hA (by decide +kernel) (ha 6 (by decide)) (hs _ fx_6) (hs _ fc_6) (hs _ fa_6) (hs _ fl_6) (fun j hj => hs _ (List.mem_of_getElem? (fb_6 j hj)))
  | 7, _ => exact str_of hA (by decide +kernel) (ha 7 (by decide)) (hs _ fx_7) (hs _ fc_7) (hs _ fa_7) (hs _ fl_7) (fun j hj => hs _ (List.mem_of_getElem? (fb_7 j hj)))
  | 8, _ => exact str_of hA (by decide +kernel) (ha 8 (by decide)) (hs _ fx_8) (hs _ fc_8) (hs _ fa_8) (hs _ fl_8) (fun j hj => hs _ (List.mem_of_getElem? (fb_8 j hj)))
  | 9, _ => exact str_of hA (by decide +kernel) (ha 9 (by decide)) (hs _ fx_9) (hs _ fc_9) (hs _ fa_9) (hs _ fl_9) (fun j hj => hs _ (List.mem_of_getElem? (fb_9 j hj)))
  | 10, _ => exact str_of hA (by decide +kernel) (ha 10 (by decide)) (hs _ fx_10) (hs _ fc_10) (hs _ fa_10) (hs _ fl_10) (fun j hj => hs _ (List.mem_of_getElem? (fb_10 j hj)))
  | 11, _ => exact str_of hA (by decide +kernel) (ha 11 (by decide)) (hs _ fx_11) (hs _ fc_11) (hs _ fa_11) (hs _ fl_11) (fun j hj => hs _ (List.mem_of_getElem? (fb_11 j hj)))
  | 12, _ => exact str_of hA (by decide +kernel) (ha 12 (by decide)) (hs _ fx_12) (hs _ fc_12) (hs _ fa_12) (hs _ fl_12) (fun j hj => hs _ (List.mem_of_getElem? (fb_12 j hj)))
  | 13, _ => exact str_of hA (by decide +kernel) (ha 13 (by decide)) (hs _ fx_13) (hs _ fc_13) (hs _ fa_13) (hs _ fl_13) (fun j hj => hs _ (List.mem_of_getElem? (fb_13 j hj)))
  | 14, _ => exact str_of hA (by decide +kernel) (ha 14 (by decide)) (hs _ fx_14) (hs _ fc_14) (hs _ fa_14) (hs _ fl_14) (fun j hj => hs _ (List.mem_of_getElem? (fb_14 j hj)))
  | 15, _ => exact str_of hA (by decide +kernel) (ha 15 (by decide)) (hs _ fx_15) (hs _ fc_15) (hs _ fa_15) (hs _ fl_15) (fun j hj => hs _ (List.mem_of_getElem? (fb_15 j hj)))
  | 16, _ => exact str_of hA (by decide +kernel) (ha 16 (by decide)) (hs _ fx_16) (hs _ fc_16) (hs _ fa_16) (hs _ fl_16) (fun j hj => hs _ (List.mem_of_getElem? (fb_16 j hj)))
  | n + 17, h => exact absurd h (by omega)
end
theorem sr9_0 : Cond.stringRef "RecipeScheduler" 27 "recipe 1 2 4 9;pan pot 2;pan bowl 2;step cut 3 1 in bowl;step boil 5 2 in pot alone after cut;step fry 2 3 in pot hot;step mix 2 1 in bowl after boil fry;step rest 4 0 alone after mix;" ∈ lw_tbl := by decide +kernel
theorem sr9_1 : Cond.stringRef "RecipeScheduler$SetupReader" 45 "recipe" ∈ lw_tbl := by decide +kernel
theorem sr9_2 : Cond.stringRef "RecipeScheduler$SetupReader" 29 "pan" ∈ lw_tbl := by decide +kernel
theorem sr9_3 : Cond.stringRef "RecipeScheduler$SetupReader" 100 "step" ∈ lw_tbl := by decide +kernel
theorem sr9_4 : Cond.stringRef "RecipeScheduler$SetupReader" 127 "in" ∈ lw_tbl := by decide +kernel
theorem sr9_5 : Cond.stringRef "RecipeScheduler$SetupReader" 112 "hot" ∈ lw_tbl := by decide +kernel
theorem sr9_6 : Cond.stringRef "RecipeScheduler$SetupReader" 116 "alone" ∈ lw_tbl := by decide +kernel
theorem sr9_7 : Cond.stringRef "RecipeScheduler$SetupReader" 120 "after" ∈ lw_tbl := by decide +kernel
theorem sr9_8 : Cond.stringRef "RecipeScheduler" 440 "the text has an error" ∈ lw_tbl := by decide +kernel
theorem sr9_9 : Cond.stringRef "RecipeScheduler" 296 "no such number of minutes" ∈ lw_tbl := by decide +kernel
theorem sr9_10 : Cond.stringRef "RecipeScheduler" 339 "the current minute would be too late" ∈ lw_tbl := by decide +kernel
theorem sr9_11 : Cond.stringRef "RecipeScheduler" 426 "no such step" ∈ lw_tbl := by decide +kernel
theorem sr9_12 : Cond.stringRef "RecipeScheduler" 431 "no such pan type" ∈ lw_tbl := by decide +kernel
theorem sr9_13 : Cond.stringRef "RecipeScheduler" 111 "no such length" ∈ lw_tbl := by decide +kernel
theorem sr9_14 : Cond.stringRef "RecipeScheduler" 98 "the input buffer would be too long" ∈ lw_tbl := by decide +kernel
theorem sr9_15 : Cond.stringRef "RecipeSchedulerLaw" 40 "recipe " ∈ lw_tbl := by decide +kernel
theorem sr9_16 : Cond.stringRef "RecipeSchedulerLaw" 51 "pan p" ∈ lw_tbl := by decide +kernel
theorem sr9_17 : Cond.stringRef "RecipeSchedulerLaw" 57 "step s" ∈ lw_tbl := by decide +kernel
theorem sr9_18 : Cond.stringRef "RecipeSchedulerLaw" 59 " in p" ∈ lw_tbl := by decide +kernel
theorem sr9_19 : Cond.stringRef "RecipeSchedulerLaw" 61 " hot" ∈ lw_tbl := by decide +kernel
theorem sr9_20 : Cond.stringRef "RecipeSchedulerLaw" 63 "" ∈ lw_tbl := by decide +kernel
theorem sr9_21 : Cond.stringRef "RecipeSchedulerLaw" 65 " alone" ∈ lw_tbl := by decide +kernel
theorem sr9_22 : Cond.stringRef "RecipeSchedulerLaw" 67 " after s" ∈ lw_tbl := by decide +kernel
theorem sr9_23 : Cond.stringRef "RecipeSchedulerLaw" 69 " s" ∈ lw_tbl := by decide +kernel
theorem sr9_24 : Cond.stringRef "RecipeScheduler" 356 "the step is not running" ∈ lw_tbl := by decide +kernel
theorem sr9_25 : Cond.stringRef "RecipeScheduler" 364 "the step cannot be discarded" ∈ lw_tbl := by decide +kernel
theorem sr9_26 : Cond.stringRef "RecipeScheduler" 438 "no such number of cooks" ∈ lw_tbl := by decide +kernel
theorem sr9_27 : Cond.stringRef "RecipeScheduler" 372 "no such duration" ∈ lw_tbl := by decide +kernel
theorem sr9_28 : Cond.stringRef "RecipeScheduler" 348 "no such amount" ∈ lw_tbl := by decide +kernel
theorem sr9_29 : Cond.stringRef "RecipeScheduler" 354 "the dish was served" ∈ lw_tbl := by decide +kernel
theorem sr9_30 : Cond.stringRef "RecipeScheduler" 374 "the dish cannot be served" ∈ lw_tbl := by decide +kernel
theorem st_tab {args : Array Value} {s : State} {sa : Nat → Nat} (hs : ∀ w ∈ FL, w.before args s = true) (hts : ∀ w ∈ lw_tbl, w.before args s = true) (ha : ∀ i, i < 31 → (Term.string (sOwn i).1 (sOwn i).2).eval args s none [] s = some (.ref (sa i))) : ∀ r ∈ sTab, vk_R r.1 r.2.1 r.2.2.1 (sa r.2.2.2) s :=
  (List.forall_mem_cons.mpr ⟨vk_R.of (hts _ sr9_0) (ha 0 (by decide)), (List.forall_mem_cons.mpr ⟨vk_R.of (hts _ sr9_1) (ha 1 (by decide)), (List.forall_mem_cons.mpr ⟨vk_R.of (hts _ sr9_2) (ha 2 (by decide)), (List.forall_mem_cons.mpr ⟨vk_R.of (hts _ sr9_3) (ha 3 (by decide)), (List.forall_mem_cons.mpr ⟨vk_R.of (hts _ sr9_4) (ha 4 (by decide)), (List.forall_mem_cons.mpr ⟨vk_R.of (hts _ sr9_5) (ha 5 (by decide)), (List.forall_mem_cons.mpr ⟨vk_R.of (hts _ sr9_6) (ha 6 (by decide)), (List.forall_mem_cons.mpr ⟨vk_R.of (hts _ sr9_7) (ha 7 (by decide)), (List.forall_mem_cons.mpr ⟨vk_R.of (hts _ sr9_8) (ha 17 (by decide)), (List.forall_mem_cons.mpr ⟨vk_R.of (hts _ sr9_9) (ha 18 (by decide)), (List.forall_mem_cons.mpr ⟨vk_R.of (hts _ sr9_10) (ha 19 (by decide)), (List.forall_mem_cons.mpr ⟨vk_R.of (hts _ sr9_11) (ha 20 (by decide)), (List.forall_mem_cons.mpr ⟨vk_R.of (hts _ sr9_12) (ha 21 (by decide)), (List.forall_mem_cons.mpr ⟨vk_R.of (hts _ sr9_13) (ha 22 (by decide)), (List.forall_mem_cons.mpr ⟨vk_R.of (hts _ sr9_14) (ha 23 (by decide)), (List.forall_mem_cons.mpr ⟨vk_R.of (hts _ sr9_15) (ha 8 (by decide)), (List.forall_mem_cons.mpr ⟨vk_R.of (hts _ sr9_16) (ha 9 (by decide)), (List.forall_mem_cons.mpr ⟨vk_R.of (hts _ sr9_17) (ha 10 (by decide)), (List.forall_mem_cons.mpr ⟨vk_R.of (hts _ sr9_18) (ha 11 (by decide)), (List.forall_mem_cons.mpr ⟨vk_R.of (hts _ sr9_19) (ha 12 (by decide)), (List.forall_mem_cons.mpr ⟨vk_R.of (hts _ sr9_20) (ha 13 (by decide)), (List.forall_mem_cons.mpr ⟨vk_R.of (hts _ sr9_21) (ha 14 (by decide)), (List.forall_mem_cons.mpr ⟨vk_R.of (hts _ sr9_22) (ha 15 (by decide)), (List.forall_mem_cons.mpr ⟨vk_R.of (hts _ sr9_23) (ha 16 (by decide)), (List.forall_mem_cons.mpr ⟨vk_R.of (hts _ sr9_24) (ha 24 (by decide)), (List.forall_mem_cons.mpr ⟨vk_R.of (hts _ sr9_25) (ha 25 (by decide)), (List.forall_mem_cons.mpr ⟨vk_R.of (hts _ sr9_26) (ha 26 (by decide)), (List.forall_mem_cons.mpr ⟨vk_R.of (hts _ sr9_27) (ha 27 (by decide)), (List.forall_mem_cons.mpr ⟨vk_R.of (hts _ sr9_28) (ha 28 (by decide)), (List.forall_mem_cons.mpr ⟨vk_R.of (hts _ sr9_29) (ha 29 (by decide)), (List.forall_mem_cons.mpr ⟨vk_R.of (hts _ sr9_30) (ha 30 (by decide)), (fun _ h => nomatch h)⟩)⟩)⟩)⟩)⟩)⟩)⟩)⟩)⟩)⟩)⟩)⟩)⟩)⟩)⟩)⟩)⟩)⟩)⟩)⟩)⟩)⟩)⟩)⟩)⟩)⟩)⟩)⟩)⟩)⟩)⟩)
theorem en_x0 : Cond.exactly (.static "RecipeScheduler$Command" "PASS" "LRecipeScheduler$Command;") "RecipeScheduler$Command" ∈ FL := List.mem_of_getElem? (i := 9) (by decide +kernel)
theorem dg_aDigitOnes : Cond.arrayOf (.static "java/lang/Integer" "DigitOnes" "[B") .byte ∈ FL := List.mem_of_getElem? (i := 16) (by decide +kernel)
theorem dg_lDigitOnes : Cond.eq (.length (.static "java/lang/Integer" "DigitOnes" "[B")) (.int (Int32.ofNat 100)) ∈ FL := List.mem_of_getElem? (i := 17) (by decide +kernel)
set_option maxRecDepth 20000 in
theorem dg_eDigitOnes : ∀ j, j < 100 → FL[18 + j]? = some (Cond.eq (.elem (.static "java/lang/Integer" "DigitOnes" "[B") (.int (Int32.ofNat j))) (.int (dOne j))) := by decide +kernel
theorem dg_aDigitTens : Cond.arrayOf (.static "java/lang/Integer" "DigitTens" "[B") .byte ∈ FL := List.mem_of_getElem? (i := 119) (by decide +kernel)
theorem dg_lDigitTens : Cond.eq (.length (.static "java/lang/Integer" "DigitTens" "[B")) (.int (Int32.ofNat 100)) ∈ FL := List.mem_of_getElem? (i := 120) (by decide +kernel)
set_option maxRecDepth 20000 in
theorem dg_eDigitTens : ∀ j, j < 100 → FL[121 + j]? = some (Cond.eq (.elem (.static "java/lang/Integer" "DigitTens" "[B") (.int (Int32.ofNat j))) (.int (dTen j))) := by decide +kernel
theorem jd_c : Cond.eq (.static "java/lang/String" "COMPACT_STRINGS" "Z") (.int 1) ∈ FL := List.mem_of_getElem? (i := 4) (by decide +kernel)
theorem jd_f : Cond.isRef (.static "jdk/internal/util/Preconditions" "SIOOBE_FORMATTER" "Ljava/util/function/BiFunction;") ∈ FL := List.mem_of_getElem? (i := 5) (by decide +kernel)
theorem jd_u : Cond.isRef (.static Bundle.tN "UNASSIGNED_STACK" Bundle.steD) ∈ FL := List.mem_of_getElem? (i := 13) (by decide +kernel)
theorem jd_s : Cond.isRef (.static Bundle.tN "SUPPRESSED_SENTINEL" Bundle.listD) ∈ FL := List.mem_of_getElem? (i := 14) (by decide +kernel)
theorem tb_l0 : Cond.laysStatic "java/lang/String" "COMPACT_STRINGS" "Z" ∈ lw_tbl := by decide +kernel
theorem tb_i0 : Cond.initialized "java/lang/String" ∈ lw_tbl := by decide +kernel
theorem tb_l1 : Cond.laysStatic "jdk/internal/util/Preconditions" "SIOOBE_FORMATTER" "Ljava/util/function/BiFunction;" ∈ lw_tbl := by decide +kernel
theorem tb_i1 : Cond.initialized "jdk/internal/util/Preconditions" ∈ lw_tbl := by decide +kernel
theorem tb_l2 : Cond.laysStatic Bundle.tN "UNASSIGNED_STACK" Bundle.steD ∈ lw_tbl := by decide +kernel
theorem tb_i2 : Cond.initialized Bundle.tN ∈ lw_tbl := by decide +kernel
theorem tb_l3 : Cond.laysStatic Bundle.tN "SUPPRESSED_SENTINEL" Bundle.listD ∈ lw_tbl := by decide +kernel
theorem tb_i3 : Cond.initialized Bundle.tN ∈ lw_tbl := by decide +kernel
theorem tb_l4 : Cond.laysStatic "java/lang/Integer" "DigitOnes" "[B" ∈ lw_tbl := by decide +kernel
theorem tb_i4 : Cond.initialized "java/lang/Integer" ∈ lw_tbl := by decide +kernel
theorem tb_l5 : Cond.laysStatic "java/lang/Integer" "DigitTens" "[B" ∈ lw_tbl := by decide +kernel
theorem tb_i5 : Cond.initialized "java/lang/Integer" ∈ lw_tbl := by decide +kernel
theorem tb_l6 : Cond.laysStatic "RecipeScheduler$Command" "PASS" "LRecipeScheduler$Command;" ∈ lw_tbl := by decide +kernel
theorem tb_i6 : Cond.initialized "RecipeScheduler$Command" ∈ lw_tbl := by decide +kernel
/-- the constants' addresses -/
def cstOf (ea : Nat) (sa va : Nat → Nat) (c0 w0 : Nat) : Nat → Nat → Nat → Nat := fun k g _ => if k = 20 then ea else if k = 21 then sa g else if k = 22 then va g else if k = 24 then c0 else w0
theorem st_below {args : Array Value} {s : State} (hs : ∀ w ∈ FL, w.before args s = true) (hts : ∀ w ∈ lw_tbl, w.before args s = true) : ∃ cst, Stt s.heap.size (adr s.heap.size cst) s s.heap := by
  have hA : ∀ a : Nat, a < s.heap.size → ¬ (fun q : Nat => s.heap.size ≤ q) a := fun a h => Nat.not_le.mpr h
  obtain ⟨sa, hsa⟩ := skol (st_ex hs)
  obtain ⟨va, hva⟩ := skol (st_str (A := fun q : Nat => s.heap.size ≤ q) hs hA hsa)
  obtain ⟨ea, hea⟩ := exr (hs _ en_x0)
  obtain ⟨c0, hc0, hcT⟩ := va_Tof (A := fun q : Nat => s.heap.size ≤ q) (N := 100) (f := fun j => .int (dOne j)) (by decide) (hs _ dg_aDigitOnes) (eqv (hs _ dg_lDigitOnes)) (fun j hj => eqv (hs _ (List.mem_of_getElem? (dg_eDigitOnes j hj)))) hA
  obtain ⟨w0, hw0, hwT⟩ := va_Tof (A := fun q : Nat => s.heap.size ≤ q) (N := 100) (f := fun j => .int (dTen j)) (by decide) (hs _ dg_aDigitTens) (eqv (hs _ dg_lDigitTens)) (fun j hj => eqv (hs _ (List.mem_of_getElem? (dg_eDigitTens j hj)))) hA
  have e20 : ∀ i o, adr s.heap.size (cstOf ea sa va c0 w0) 20 i o = ea := fun i o => by rw [adr_hi (by omega)]; rfl
  have e21 : ∀ i o, adr s.heap.size (cstOf ea sa va c0 w0) 21 i o = sa i := fun i o => by rw [adr_hi (by omega)]; rfl
  have e22 : ∀ i o, adr s.heap.size (cstOf ea sa va c0 w0) 22 i o = va i := fun i o => by rw [adr_hi (by omega)]; rfl
  have e24 : adr s.heap.size (cstOf ea sa va c0 w0) 24 0 0 = c0 := by rw [adr_hi (by omega)]; rfl
  have e25 : adr s.heap.size (cstOf ea sa va c0 w0) 25 0 0 = w0 := by rw [adr_hi (by omega)]; rfl
  refine ⟨cstOf ea sa va c0 w0, fun i hi => ?_, fun r hr => ?_, fun i hi => ?_, ⟨?_, ?_⟩, ⟨?_, ?_⟩, ?_, ?_, ?_, ?_, ?_⟩
  · rw [e21, e22]; exact hva i hi
  · rw [e21]; exact st_tab hs hts hsa r hr
  · rw [e20]; exact va_Oof (hs _ en_x0) hea hA
  · rw [e24]; exact va_Zof (hts _ tb_l4) (hts _ tb_i4) hc0 hA
  · rw [e24]; exact hcT
  · rw [e25]; exact va_Zof (hts _ tb_l5) (hts _ tb_i5) hw0 hA
  · rw [e25]; exact hwT
  · exact va_Zof (hts _ tb_l0) (hts _ tb_i0) (eqv (hs _ jd_c)) hA
  · exact va_Zqof (hts _ tb_l1) (hts _ tb_i1) (hs _ jd_f) hA
  · exact vx_Zqof (hts _ tb_l2) (hts _ tb_i2) (hs _ jd_u) hA
  · exact vx_Zqof (hts _ tb_l3) (hts _ tb_i3) (hs _ jd_s) hA
  · rw [e20]; exact va_Zof (hts _ tb_l6) (hts _ tb_i6) hea hA
theorem tb_sub : ∀ w ∈ tables_1, w ∈ lw_tbl := fun _ h => List.mem_append_right _ h
theorem st_nst {args : Array Value} {s : State} (hts : ∀ w ∈ lw_tbl, w.before args s = true) : Nst s := fun w hw => va_tabs (isNestW_tab (List.mem_filter.mp hw).2) rfl (hts w (tb_sub w (List.mem_filter.mp hw).1))
theorem ao_8 : Cond.arrayOver (.object RX8) ∈ lw_tbl := by decide +kernel
theorem ao_1 : Cond.arrayOver (.object RX1) ∈ lw_tbl := by decide +kernel
theorem ao_b : Cond.arrayOver (.array .byte) ∈ lw_tbl := by decide +kernel
theorem ao_i : Cond.arrayOver (.array .int) ∈ lw_tbl := by decide +kernel
theorem ac_i : Cond.arrayClass .int ∈ lw_tbl := by decide +kernel
theorem ac_b : Cond.arrayClass .byte ∈ lw_tbl := by decide +kernel
theorem ac_z : Cond.arrayClass .boolean ∈ lw_tbl := by decide +kernel
theorem st_aov {args : Array Value} {s : State} (hts : ∀ w ∈ lw_tbl, w.before args s = true) : Aov s := ⟨va_AO.of (hts _ ao_8), va_AO.of (hts _ ao_1), AOA.of (hts _ ao_b), AOA.of (hts _ ao_i)⟩
theorem ar_q {args : Array Value} {s : State} {C : String} (h : (Cond.arrayOver (.object C)).before args s = true) : ∃ cA, ArrOfT s cA (.object C) ∧ va_RA s cA (.object C) := by
  obtain ⟨comp, c, k, h1, -, h3, h4, h5⟩ := Cond.arrayOver_spec h
  exact ⟨c, fun n z => ⟨(fun k h => by cases h), k, h3, comp, h4⟩, k, comp, h3, h4, h1, h5⟩
theorem ar_a {s : State} {ty : FieldType} (h : AOA ty s) : ∃ cA, ArrOfT s cA (.array ty) ∧ va_RA s cA (.array ty) := by
  obtain ⟨comp, cA, kA, h1, h2, h3, h4⟩ := h
  exact ⟨cA, fun n z => ⟨(fun k h => by cases h), kA, h2, comp, h3⟩, h4⟩
theorem ar_p {args : Array Value} {s : State} {ty : FieldType} (hty : ∀ c, va_RA s c ty = (s.vm.findClass ("[" ++ ty.toString) = some c)) (h : (Cond.arrayClass ty).before args s = true) : ∃ cA, ArrOfT s cA ty ∧ va_RA s cA ty := by
  obtain ⟨c, k, comp, h1, h2, h3⟩ := Cond.arrayClass_spec h
  exact ⟨c, fun n z => ⟨(fun k h => by cases h), k, h2, comp, h3⟩, by rw [hty]; exact h1⟩
theorem st_arr {args : Array Value} {s : State} (hts : ∀ w ∈ lw_tbl, w.before args s = true) : ∃ T : Nat → ClassId, ∀ (k : Nat) (q : ClassId × FieldType), (ftys T)[k]? = some q → ArrOfT s q.1 q.2 ∧ va_RA s q.1 q.2 := by
  have hO := st_aov hts
  obtain ⟨t0, h0⟩ := ar_p (fun _ => rfl) (hts _ ac_i)
  obtain ⟨t1, h1⟩ := ar_p (fun _ => rfl) (hts _ ac_b)
  obtain ⟨t2, h2⟩ := ar_p (fun _ => rfl) (hts _ ac_z)
  obtain ⟨t3, h3⟩ := ar_q (hts _ ao_8)
  obtain ⟨t4, h4⟩ := ar_a hO.2.2.1
  obtain ⟨t5, h5⟩ := ar_a hO.2.2.2
  obtain ⟨t6, h6⟩ := ar_q (hts _ ao_1)
  refine ⟨fun k => [t0, t1, t2, t3, t4, t5, t6].getD k t0, fun k q hq => ?_⟩
  match k, hq with
  | 0, hq => cases hq; exact h0
  | 1, hq => cases hq; exact h1
  | 2, hq => cases hq; exact h2
  | 3, hq => cases hq; exact h3
  | 4, hq => cases hq; exact h4
  | 5, hq => cases hq; exact h5
  | 6, hq => cases hq; exact h6
  | k + 7, hq => simp [ftys] at hq
theorem uk_J0 : ∀ w ∈ u_ws RJ0 TJ0 4, w ∈ lw_tbl := by decide +kernel
theorem ui_J0 : Cond.instantiable RJ0 4 ∈ lw_tbl := by decide +kernel
theorem uk_J4 : ∀ w ∈ u_ws RJ4 TJ4 4, w ∈ lw_tbl := by decide +kernel
theorem ui_J4 : Cond.instantiable RJ4 4 ∈ lw_tbl := by decide +kernel
theorem uk_X2 : ∀ w ∈ u_ws RX2 TX2 3, w ∈ lw_tbl := by decide +kernel
theorem ui_X2 : Cond.instantiable RX2 3 ∈ lw_tbl := by decide +kernel
theorem uk_X3 : ∀ w ∈ u_ws RX3 TX3 5, w ∈ lw_tbl := by decide +kernel
theorem ui_X3 : Cond.instantiable RX3 5 ∈ lw_tbl := by decide +kernel
theorem uk_X4 : ∀ w ∈ u_ws RX4 TX4 3, w ∈ lw_tbl := by decide +kernel
theorem ui_X4 : Cond.instantiable RX4 3 ∈ lw_tbl := by decide +kernel
theorem uk_X5 : ∀ w ∈ u_ws RX5 TX5 17, w ∈ lw_tbl := by decide +kernel
theorem ui_X5 : Cond.instantiable RX5 17 ∈ lw_tbl := by decide +kernel
theorem uk_X6 : ∀ w ∈ u_ws RX6 TX6 5, w ∈ lw_tbl := by decide +kernel
theorem ui_X6 : Cond.instantiable RX6 5 ∈ lw_tbl := by decide +kernel
theorem uk_X7 : ∀ w ∈ u_ws RX7 TX7 1, w ∈ lw_tbl := by decide +kernel
theorem ui_X7 : Cond.instantiable RX7 1 ∈ lw_tbl := by decide +kernel
theorem uk_X8 : ∀ w ∈ u_ws RX8 TX8 15, w ∈ lw_tbl := by decide +kernel
theorem ui_X8 : Cond.instantiable RX8 15 ∈ lw_tbl := by decide +kernel
theorem uk_X9 : ∀ w ∈ u_ws RX9 TX9 2, w ∈ lw_tbl := by decide +kernel
theorem ui_X9 : Cond.instantiable RX9 2 ∈ lw_tbl := by decide +kernel
theorem uk_X10 : ∀ w ∈ u_ws RX10 TX10 6, w ∈ lw_tbl := by decide +kernel
theorem ui_X10 : Cond.instantiable RX10 6 ∈ lw_tbl := by decide +kernel
theorem uk_X11 : ∀ w ∈ u_ws RX11 TX11 11, w ∈ lw_tbl := by decide +kernel
theorem ui_X11 : Cond.instantiable RX11 11 ∈ lw_tbl := by decide +kernel
theorem uk_X12 : ∀ w ∈ u_ws RX12 TX12 12, w ∈ lw_tbl := by decide +kernel
theorem ui_X12 : Cond.instantiable RX12 12 ∈ lw_tbl := by decide +kernel
theorem st_cls {args : Array Value} {s : State} (hts : ∀ w ∈ lw_tbl, w.before args s = true) : ∃ D : va_G, ∀ (k : Nat) (q : vw_C), vwCl[k]? = some q → u_Kn s q.1 q.2.1 q.2.2 (D.1 k) (D.2 k) := by
  obtain ⟨cJ0, iJ0, hJ0⟩ := u_known (C := RJ0) (T := TJ0) (N := 4) (n := 4) hts uk_J0 (hts _ ui_J0)
  obtain ⟨cJ4, iJ4, hJ4⟩ := u_known (C := RJ4) (T := TJ4) (N := 4) (n := 4) hts uk_J4 (hts _ ui_J4)
  obtain ⟨cX2, iX2, hX2⟩ := u_known (C := RX2) (T := TX2) (N := 3) (n := 3) hts uk_X2 (hts _ ui_X2)
  obtain ⟨cX3, iX3, hX3⟩ := u_known (C := RX3) (T := TX3) (N := 5) (n := 5) hts uk_X3 (hts _ ui_X3)
  obtain ⟨cX4, iX4, hX4⟩ := u_known (C := RX4) (T := TX4) (N := 3) (n := 3) hts uk_X4 (hts _ ui_X4)
  obtain ⟨cX5, iX5, hX5⟩ := u_known (C := RX5) (T := TX5) (N := 17) (n := 17) hts uk_X5 (hts _ ui_X5)
  obtain ⟨cX6, iX6, hX6⟩ := u_known (C := RX6) (T := TX6) (N := 5) (n := 5) hts uk_X6 (hts _ ui_X6)
  obtain ⟨cX7, iX7, hX7⟩ := u_known (C := RX7) (T := TX7) (N := 1) (n := 1) hts uk_X7 (hts _ ui_X7)
  obtain ⟨cX8, iX8, hX8⟩ := u_known (C := RX8) (T := TX8) (N := 15) (n := 15) hts uk_X8 (hts _ ui_X8)
  obtain ⟨cX9, iX9, hX9⟩ := u_known (C := RX9) (T := TX9) (N := 2) (n := 2) hts uk_X9 (hts _ ui_X9)
  obtain ⟨cX10, iX10, hX10⟩ := u_known (C := RX10) (T := TX10) (N := 6) (n := 6) hts uk_X10 (hts _ ui_X10)
  obtain ⟨cX11, iX11, hX11⟩ := u_known (C := RX11) (T := TX11) (N := 11) (n := 11) hts uk_X11 (hts _ ui_X11)
  obtain ⟨cX12, iX12, hX12⟩ := u_known (C := RX12) (T := TX12) (N := 12) (n := 12) hts uk_X12 (hts _ ui_X12)
  refine ⟨(fun k => [cJ0, cJ4, cX2, cX3, cX4, cX5, cX6, cX7, cX8, cX9, cX10, cX11, cX12].getD k cJ0, fun k => ([iJ0, iJ4, iX2, iX3, iX4, iX5, iX6, iX7, iX8, iX9, iX10, iX11, iX12] : List (Nat → Nat)).getD k iJ0), fun k q hq => ?_⟩
  match k, hq with
  | 0, hq => cases hq; exact hJ0
  | 1, hq => cases hq; exact hJ4
  | 2, hq => cases hq; exact hX2
  | 3, hq => cases hq; exact hX3
  | 4, hq => cases hq; exact hX4
  | 5, hq => cases hq; exact hX5
  | 6, hq => cases hq; exact hX6
  | 7, hq => cases hq; exact hX7
  | 8, hq => cases hq; exact hX8
  | 9, hq => cases hq; exact hX9
  | 10, hq => cases hq; exact hX10
  | 11, hq => cases hq; exact hX11
  | 12, hq => cases hq; exact hX12
  | k + 13, hq => simp [vwCl] at hq
theorem st_K {args : Array Value} {s : State} (hts : ∀ w ∈ lw_tbl, w.before args s = true) : ∃ (D : va_G) (T : Nat → ClassId), va_K D vwCl (ftys T) s := by
  obtain ⟨D, hD⟩ := st_cls hts
  obtain ⟨T, hT⟩ := st_arr hts
  exact ⟨D, T, hD, hT⟩
