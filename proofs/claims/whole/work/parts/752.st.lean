/-! PHASE 3: WHAT LIES BELOW THE LAW'S OWN THINGS AT ITS START -/
abbrev FL : List Cond := flatC (Jvm.Cond.and given_1 narrow_1)
theorem skol {P : Nat → Nat → Prop} {n : Nat} (h : ∀ i, i < n → ∃ a, P i a) : ∃ f : Nat → Nat, ∀ i, i < n → P i (f i) :=
  ⟨fun i => if hi : i < n then Classical.choose (h i hi) else 0, fun i hi => by
    show P i (if hi : i < n then Classical.choose (h i hi) else 0)
    rw [dif_pos hi]
    exact Classical.choose_spec (h i hi)⟩
theorem eqv {args : Array Value} {s : State} {t : Term} {z : Int32} (h : (Cond.eq t (.int z)).before args s = true) : t.eval args s none [] s = some (.int z) := by
  cases hv : t.eval args s none [] s with
  | none => simp [Cond.before, Cond.holds, Cond.value, hv] at h
  | some w =>
    have hz : (Term.int z).eval args s none [] s = some (.int z) := rfl
    simp only [Cond.before, Cond.holds, Cond.value, hv, hz] at h
    cases w <;> simp_all
theorem eqr {args : Array Value} {s : State} {t u : Term} {a : Nat} (h : (Cond.eq t u).before args s = true) (hu : u.eval args s none [] s = some (.ref a)) : t.eval args s none [] s = some (.ref a) := by
  cases hv : t.eval args s none [] s with
  | none => simp [Cond.before, Cond.holds, Cond.value, hv] at h
  | some w =>
    simp only [Cond.before, Cond.holds, Cond.value, hv, hu] at h
    cases w <;> simp_all
theorem eql {args : Array Value} {s : State} {t u : Term} {a : Nat} (h : (Cond.eq t u).before args s = true) (ht : t.eval args s none [] s = some (.ref a)) : u.eval args s none [] s = some (.ref a) := by
  cases hv : u.eval args s none [] s with
  | none => simp [Cond.before, Cond.holds, Cond.value, hv, ht] at h
  | some w =>
    simp only [Cond.before, Cond.holds, Cond.value, hv, ht] at h
    cases w <;> simp_all
theorem exr {args : Array Value} {s : State} {t : Term} {nm : String} (h : (Cond.exactly t nm).before args s = true) : ∃ a, t.eval args s none [] s = some (.ref a) := by
  obtain ⟨a, c, cell, k, h1, -⟩ := Cond.exactly_spec h
  exact ⟨a, h1⟩
/-- String constant i: its class, its entry -/
def sOwn (i : Nat) : String × Nat := ([("RecipeScheduler", 27), ("RecipeScheduler$SetupReader", 45), ("RecipeScheduler$SetupReader", 29), ("RecipeScheduler$SetupReader", 100), ("RecipeScheduler$SetupReader", 127), ("RecipeScheduler$SetupReader", 112), ("RecipeScheduler$SetupReader", 116), ("RecipeScheduler$SetupReader", 120), ("RecipeSchedulerModel", 239), ("RecipeSchedulerModel", 241), ("RecipeSchedulerModel", 243), ("RecipeSchedulerModel", 245), ("RecipeSchedulerModel", 247), ("RecipeSchedulerModel", 249), ("RecipeSchedulerModel", 251), ("RecipeSchedulerModel", 253), ("RecipeScheduler", 98), ("RecipeScheduler", 111), ("RecipeScheduler", 440), ("RecipeScheduler", 156), ("RecipeScheduler", 431), ("RecipeScheduler", 426), ("RecipeScheduler", 239), ("RecipeScheduler", 252), ("RecipeScheduler", 296), ("RecipeScheduler", 438), ("RecipeScheduler", 313), ("RecipeScheduler", 339), ("RecipeScheduler", 348), ("RecipeScheduler", 354), ("RecipeScheduler", 356), ("RecipeScheduler", 364), ("RecipeScheduler", 372), ("RecipeScheduler", 374), ("RecipeScheduler", 398), ("RecipeScheduler", 433), ("RecipeScheduler", 408), ("RecipeScheduler", 420)] : List (String × Nat)).getD i ("", 0)
theorem str_of {args : Array Value} {s : State} {A : Nat → Prop} {own : String} {k a : Nat} {bs : List Int32} (hA : ∀ a : Nat, a < s.heap.size → ¬ A a) (hb : bs.length < 2 ^ 31) (ha : (Term.string own k).eval args s none [] s = some (.ref a))
    (h1 : (Cond.exactly (.string own k) "java/lang/String").before args s = true) (h2 : (Cond.eq (.field (.string own k) "java/lang/String" "coder" "B") (.int 0)).before args s = true) (h3 : (Cond.arrayOf (.field (.string own k) "java/lang/String" "value" "[B") .byte).before args s = true)
    (h4 : (Cond.eq (.length (.field (.string own k) "java/lang/String" "value" "[B")) (.int (Int32.ofNat bs.length))).before args s = true) (h5 : ∀ j, j < bs.length → (Cond.eq (.elem (.field (.string own k) "java/lang/String" "value" "[B") (.int (Int32.ofNat j))) (.int (bs.getD j 0))).before args s = true) :
    ∃ v, va_O "java/lang/String" a A s s.heap ∧ va_OF "java/lang/String" "coder" "B" (.int 0) a A s s.heap ∧ va_OF "java/lang/String" "value" "[B" (.ref v) a A s s.heap ∧ va_T .byte v bs.length (fun j => .int (bs.getD j 0)) A s s.heap := by
  obtain ⟨v, hv, hT⟩ := va_Tof hb h3 (eqv h4) (fun j hj => eqv (h5 j hj)) hA
  exact ⟨v, va_Oof h1 ha hA, vk_OFof ha (eqv h2) hA, vk_OFof ha hv hA, hT⟩
theorem fx_0 : Cond.exactly (.string "RecipeScheduler" 27) "java/lang/String" ∈ FL := List.mem_of_getElem? (i := 197) (by decide +kernel)
theorem fx_1 : Cond.exactly (.string "RecipeScheduler$SetupReader" 45) "java/lang/String" ∈ FL := List.mem_of_getElem? (i := 385) (by decide +kernel)
theorem fx_2 : Cond.exactly (.string "RecipeScheduler$SetupReader" 29) "java/lang/String" ∈ FL := List.mem_of_getElem? (i := 395) (by decide +kernel)
theorem fx_3 : Cond.exactly (.string "RecipeScheduler$SetupReader" 100) "java/lang/String" ∈ FL := List.mem_of_getElem? (i := 402) (by decide +kernel)
theorem fx_4 : Cond.exactly (.string "RecipeScheduler$SetupReader" 127) "java/lang/String" ∈ FL := List.mem_of_getElem? (i := 410) (by decide +kernel)
theorem fx_5 : Cond.exactly (.string "RecipeScheduler$SetupReader" 112) "java/lang/String" ∈ FL := List.mem_of_getElem? (i := 416) (by decide +kernel)
theorem fx_6 : Cond.exactly (.string "RecipeScheduler$SetupReader" 116) "java/lang/String" ∈ FL := List.mem_of_getElem? (i := 423) (by decide +kernel)
theorem fx_7 : Cond.exactly (.string "RecipeScheduler$SetupReader" 120) "java/lang/String" ∈ FL := List.mem_of_getElem? (i := 432) (by decide +kernel)
theorem fx_8 : Cond.exactly (.string "RecipeSchedulerModel" 239) "java/lang/String" ∈ FL := List.mem_of_getElem? (i := 1221) (by decide +kernel)
theorem fx_9 : Cond.exactly (.string "RecipeSchedulerModel" 241) "java/lang/String" ∈ FL := List.mem_of_getElem? (i := 1229) (by decide +kernel)
theorem fx_10 : Cond.exactly (.string "RecipeSchedulerModel" 243) "java/lang/String" ∈ FL := List.mem_of_getElem? (i := 1237) (by decide +kernel)
theorem fx_11 : Cond.exactly (.string "RecipeSchedulerModel" 245) "java/lang/String" ∈ FL := List.mem_of_getElem? (i := 1246) (by decide +kernel)
theorem fx_12 : Cond.exactly (.string "RecipeSchedulerModel" 247) "java/lang/String" ∈ FL := List.mem_of_getElem? (i := 1254) (by decide +kernel)
theorem fx_13 : Cond.exactly (.string "RecipeSchedulerModel" 249) "java/lang/String" ∈ FL := List.mem_of_getElem? (i := 1262) (by decide +kernel)
theorem fx_14 : Cond.exactly (.string "RecipeSchedulerModel" 251) "java/lang/String" ∈ FL := List.mem_of_getElem? (i := 1271) (by decide +kernel)
theorem fx_15 : Cond.exactly (.string "RecipeSchedulerModel" 253) "java/lang/String" ∈ FL := List.mem_of_getElem? (i := 1279) (by decide +kernel)
theorem fx_16 : Cond.exactly (.string "RecipeScheduler" 98) "java/lang/String" ∈ FL := List.mem_of_getElem? (i := 441) (by decide +kernel)
theorem fx_17 : Cond.exactly (.string "RecipeScheduler" 111) "java/lang/String" ∈ FL := List.mem_of_getElem? (i := 479) (by decide +kernel)
theorem fx_18 : Cond.exactly (.string "RecipeScheduler" 440) "java/lang/String" ∈ FL := List.mem_of_getElem? (i := 497) (by decide +kernel)
theorem fx_19 : Cond.exactly (.string "RecipeScheduler" 156) "java/lang/String" ∈ FL := List.mem_of_getElem? (i := 522) (by decide +kernel)
theorem fx_20 : Cond.exactly (.string "RecipeScheduler" 431) "java/lang/String" ∈ FL := List.mem_of_getElem? (i := 540) (by decide +kernel)
theorem fx_21 : Cond.exactly (.string "RecipeScheduler" 426) "java/lang/String" ∈ FL := List.mem_of_getElem? (i := 560) (by decide +kernel)
theorem fx_22 : Cond.exactly (.string "RecipeScheduler" 239) "java/lang/String" ∈ FL := List.mem_of_getElem? (i := 576) (by decide +kernel)
theorem fx_23 : Cond.exactly (.string "RecipeScheduler" 252) "java/lang/String" ∈ FL := List.mem_of_getElem? (i := 594) (by decide +kernel)
theorem fx_24 : Cond.exactly (.string "RecipeScheduler" 296) "java/lang/String" ∈ FL := List.mem_of_getElem? (i := 619) (by decide +kernel)
theorem fx_25 : Cond.exactly (.string "RecipeScheduler" 438) "java/lang/String" ∈ FL := List.mem_of_getElem? (i := 648) (by decide +kernel)
theorem fx_26 : Cond.exactly (.string "RecipeScheduler" 313) "java/lang/String" ∈ FL := List.mem_of_getElem? (i := 675) (by decide +kernel)
theorem fx_27 : Cond.exactly (.string "RecipeScheduler" 339) "java/lang/String" ∈ FL := List.mem_of_getElem? (i := 697) (by decide +kernel)
theorem fx_28 : Cond.exactly (.string "RecipeScheduler" 348) "java/lang/String" ∈ FL := List.mem_of_getElem? (i := 737) (by decide +kernel)
theorem fx_29 : Cond.exactly (.string "RecipeScheduler" 354) "java/lang/String" ∈ FL := List.mem_of_getElem? (i := 755) (by decide +kernel)
theorem fx_30 : Cond.exactly (.string "RecipeScheduler" 356) "java/lang/String" ∈ FL := List.mem_of_getElem? (i := 778) (by decide +kernel)
theorem fx_31 : Cond.exactly (.string "RecipeScheduler" 364) "java/lang/String" ∈ FL := List.mem_of_getElem? (i := 805) (by decide +kernel)
theorem fx_32 : Cond.exactly (.string "RecipeScheduler" 372) "java/lang/String" ∈ FL := List.mem_of_getElem? (i := 837) (by decide +kernel)
theorem fx_33 : Cond.exactly (.string "RecipeScheduler" 374) "java/lang/String" ∈ FL := List.mem_of_getElem? (i := 857) (by decide +kernel)
theorem fx_34 : Cond.exactly (.string "RecipeScheduler" 398) "java/lang/String" ∈ FL := List.mem_of_getElem? (i := 886) (by decide +kernel)
theorem fx_35 : Cond.exactly (.string "RecipeScheduler" 433) "java/lang/String" ∈ FL := List.mem_of_getElem? (i := 905) (by decide +kernel)
theorem fx_36 : Cond.exactly (.string "RecipeScheduler" 408) "java/lang/String" ∈ FL := List.mem_of_getElem? (i := 921) (by decide +kernel)
theorem fx_37 : Cond.exactly (.string "RecipeScheduler" 420) "java/lang/String" ∈ FL := List.mem_of_getElem? (i := 953) (by decide +kernel)
theorem fc_0 : Cond.eq (.field (.string "RecipeScheduler" 27) "java/lang/String" "coder" "B") (.int 0) ∈ FL := List.mem_of_getElem? (i := 198) (by decide +kernel)
theorem fa_0 : Cond.arrayOf (.field (.string "RecipeScheduler" 27) "java/lang/String" "value" "[B") .byte ∈ FL := List.mem_of_getElem? (i := 199) (by decide +kernel)
theorem fl_0 : Cond.eq (.length (.field (.string "RecipeScheduler" 27) "java/lang/String" "value" "[B")) (.int (Int32.ofNat (sByt 0).length)) ∈ FL := List.mem_of_getElem? (i := 200) (by decide +kernel)
set_option maxRecDepth 20000 in
theorem fb_0 : ∀ j, j < (sByt 0).length → FL[201 + j]? = some (Cond.eq (.elem (.field (.string "RecipeScheduler" 27) "java/lang/String" "value" "[B") (.int (Int32.ofNat j))) (.int ((sByt 0).getD j 0))) := by decide +kernel
theorem fc_1 : Cond.eq (.field (.string "RecipeScheduler$SetupReader" 45) "java/lang/String" "coder" "B") (.int 0) ∈ FL := List.mem_of_getElem? (i := 386) (by decide +kernel)
theorem fa_1 : Cond.arrayOf (.field (.string "RecipeScheduler$SetupReader" 45) "java/lang/String" "value" "[B") .byte ∈ FL := List.mem_of_getElem? (i := 387) (by decide +kernel)
theorem fl_1 : Cond.eq (.length (.field (.string "RecipeScheduler$SetupReader" 45) "java/lang/String" "value" "[B")) (.int (Int32.ofNat (sByt 1).length)) ∈ FL := List.mem_of_getElem? (i := 388) (by decide +kernel)
set_option maxRecDepth 20000 in
theorem fb_1 : ∀ j, j < (sByt 1).length → FL[389 + j]? = some (Cond.eq (.elem (.field (.string "RecipeScheduler$SetupReader" 45) "java/lang/String" "value" "[B") (.int (Int32.ofNat j))) (.int ((sByt 1).getD j 0))) := by decide +kernel
theorem fc_2 : Cond.eq (.field (.string "RecipeScheduler$SetupReader" 29) "java/lang/String" "coder" "B") (.int 0) ∈ FL := List.mem_of_getElem? (i := 396) (by decide +kernel)
theorem fa_2 : Cond.arrayOf (.field (.string "RecipeScheduler$SetupReader" 29) "java/lang/String" "value" "[B") .byte ∈ FL := List.mem_of_getElem? (i := 397) (by decide +kernel)
theorem fl_2 : Cond.eq (.length (.field (.string "RecipeScheduler$SetupReader" 29) "java/lang/String" "value" "[B")) (.int (Int32.ofNat (sByt 2).length)) ∈ FL := List.mem_of_getElem? (i := 398) (by decide +kernel)
set_option maxRecDepth 20000 in
theorem fb_2 : ∀ j, j < (sByt 2).length → FL[399 + j]? = some (Cond.eq (.elem (.field (.string "RecipeScheduler$SetupReader" 29) "java/lang/String" "value" "[B") (.int (Int32.ofNat j))) (.int ((sByt 2).getD j 0))) := by decide +kernel
theorem fc_3 : Cond.eq (.field (.string "RecipeScheduler$SetupReader" 100) "java/lang/String" "coder" "B") (.int 0) ∈ FL := List.mem_of_getElem? (i := 403) (by decide +kernel)
theorem fa_3 : Cond.arrayOf (.field (.string "RecipeScheduler$SetupReader" 100) "java/lang/String" "value" "[B") .byte ∈ FL := List.mem_of_getElem? (i := 404) (by decide +kernel)
theorem fl_3 : Cond.eq (.length (.field (.string "RecipeScheduler$SetupReader" 100) "java/lang/String" "value" "[B")) (.int (Int32.ofNat (sByt 3).length)) ∈ FL := List.mem_of_getElem? (i := 405) (by decide +kernel)
set_option maxRecDepth 20000 in
theorem fb_3 : ∀ j, j < (sByt 3).length → FL[406 + j]? = some (Cond.eq (.elem (.field (.string "RecipeScheduler$SetupReader" 100) "java/lang/String" "value" "[B") (.int (Int32.ofNat j))) (.int ((sByt 3).getD j 0))) := by decide +kernel
theorem fc_4 : Cond.eq (.field (.string "RecipeScheduler$SetupReader" 127) "java/lang/String" "coder" "B") (.int 0) ∈ FL := List.mem_of_getElem? (i := 411) (by decide +kernel)
theorem fa_4 : Cond.arrayOf (.field (.string "RecipeScheduler$SetupReader" 127) "java/lang/String" "value" "[B") .byte ∈ FL := List.mem_of_getElem? (i := 412) (by decide +kernel)
theorem fl_4 : Cond.eq (.length (.field (.string "RecipeScheduler$SetupReader" 127) "java/lang/String" "value" "[B")) (.int (Int32.ofNat (sByt 4).length)) ∈ FL := List.mem_of_getElem? (i := 413) (by decide +kernel)
set_option maxRecDepth 20000 in
theorem fb_4 : ∀ j, j < (sByt 4).length → FL[414 + j]? = some (Cond.eq (.elem (.field (.string "RecipeScheduler$SetupReader" 127) "java/lang/String" "value" "[B") (.int (Int32.ofNat j))) (.int ((sByt 4).getD j 0))) := by decide +kernel
theorem fc_5 : Cond.eq (.field (.string "RecipeScheduler$SetupReader" 112) "java/lang/String" "coder" "B") (.int 0) ∈ FL := List.mem_of_getElem? (i := 417) (by decide +kernel)
theorem fa_5 : Cond.arrayOf (.field (.string "RecipeScheduler$SetupReader" 112) "java/lang/String" "value" "[B") .byte ∈ FL := List.mem_of_getElem? (i := 418) (by decide +kernel)
theorem fl_5 : Cond.eq (.length (.field (.string "RecipeScheduler$SetupReader" 112) "java/lang/String" "value" "[B")) (.int (Int32.ofNat (sByt 5).length)) ∈ FL := List.mem_of_getElem? (i := 419) (by decide +kernel)
set_option maxRecDepth 20000 in
theorem fb_5 : ∀ j, j < (sByt 5).length → FL[420 + j]? = some (Cond.eq (.elem (.field (.string "RecipeScheduler$SetupReader" 112) "java/lang/String" "value" "[B") (.int (Int32.ofNat j))) (.int ((sByt 5).getD j 0))) := by decide +kernel
theorem fc_6 : Cond.eq (.field (.string "RecipeScheduler$SetupReader" 116) "java/lang/String" "coder" "B") (.int 0) ∈ FL := List.mem_of_getElem? (i := 424) (by decide +kernel)
theorem fa_6 : Cond.arrayOf (.field (.string "RecipeScheduler$SetupReader" 116) "java/lang/String" "value" "[B") .byte ∈ FL := List.mem_of_getElem? (i := 425) (by decide +kernel)
theorem fl_6 : Cond.eq (.length (.field (.string "RecipeScheduler$SetupReader" 116) "java/lang/String" "value" "[B")) (.int (Int32.ofNat (sByt 6).length)) ∈ FL := List.mem_of_getElem? (i := 426) (by decide +kernel)
set_option maxRecDepth 20000 in
theorem fb_6 : ∀ j, j < (sByt 6).length → FL[427 + j]? = some (Cond.eq (.elem (.field (.string "RecipeScheduler$SetupReader" 116) "java/lang/String" "value" "[B") (.int (Int32.ofNat j))) (.int ((sByt 6).getD j 0))) := by decide +kernel
theorem fc_7 : Cond.eq (.field (.string "RecipeScheduler$SetupReader" 120) "java/lang/String" "coder" "B") (.int 0) ∈ FL := List.mem_of_getElem? (i := 433) (by decide +kernel)
theorem fa_7 : Cond.arrayOf (.field (.string "RecipeScheduler$SetupReader" 120) "java/lang/String" "value" "[B") .byte ∈ FL := List.mem_of_getElem? (i := 434) (by decide +kernel)
theorem fl_7 : Cond.eq (.length (.field (.string "RecipeScheduler$SetupReader" 120) "java/lang/String" "value" "[B")) (.int (Int32.ofNat (sByt 7).length)) ∈ FL := List.mem_of_getElem? (i := 435) (by decide +kernel)
set_option maxRecDepth 20000 in
theorem fb_7 : ∀ j, j < (sByt 7).length → FL[436 + j]? = some (Cond.eq (.elem (.field (.string "RecipeScheduler$SetupReader" 120) "java/lang/String" "value" "[B") (.int (Int32.ofNat j))) (.int ((sByt 7).getD j 0))) := by decide +kernel
theorem fc_8 : Cond.eq (.field (.string "RecipeSchedulerModel" 239) "java/lang/String" "coder" "B") (.int 0) ∈ FL := List.mem_of_getElem? (i := 1222) (by decide +kernel)
theorem fa_8 : Cond.arrayOf (.field (.string "RecipeSchedulerModel" 239) "java/lang/String" "value" "[B") .byte ∈ FL := List.mem_of_getElem? (i := 1223) (by decide +kernel)
theorem fl_8 : Cond.eq (.length (.field (.string "RecipeSchedulerModel" 239) "java/lang/String" "value" "[B")) (.int (Int32.ofNat (sByt 8).length)) ∈ FL := List.mem_of_getElem? (i := 1224) (by decide +kernel)
set_option maxRecDepth 20000 in
theorem fb_8 : ∀ j, j < (sByt 8).length → FL[1225 + j]? = some (Cond.eq (.elem (.field (.string "RecipeSchedulerModel" 239) "java/lang/String" "value" "[B") (.int (Int32.ofNat j))) (.int ((sByt 8).getD j 0))) := by decide +kernel
theorem fc_9 : Cond.eq (.field (.string "RecipeSchedulerModel" 241) "java/lang/String" "coder" "B") (.int 0) ∈ FL := List.mem_of_getElem? (i := 1230) (by decide +kernel)
theorem fa_9 : Cond.arrayOf (.field (.string "RecipeSchedulerModel" 241) "java/lang/String" "value" "[B") .byte ∈ FL := List.mem_of_getElem? (i := 1231) (by decide +kernel)
theorem fl_9 : Cond.eq (.length (.field (.string "RecipeSchedulerModel" 241) "java/lang/String" "value" "[B")) (.int (Int32.ofNat (sByt 9).length)) ∈ FL := List.mem_of_getElem? (i := 1232) (by decide +kernel)
set_option maxRecDepth 20000 in
theorem fb_9 : ∀ j, j < (sByt 9).length → FL[1233 + j]? = some (Cond.eq (.elem (.field (.string "RecipeSchedulerModel" 241) "java/lang/String" "value" "[B") (.int (Int32.ofNat j))) (.int ((sByt 9).getD j 0))) := by decide +kernel
theorem fc_10 : Cond.eq (.field (.string "RecipeSchedulerModel" 243) "java/lang/String" "coder" "B") (.int 0) ∈ FL := List.mem_of_getElem? (i := 1238) (by decide +kernel)
theorem fa_10 : Cond.arrayOf (.field (.string "RecipeSchedulerModel" 243) "java/lang/String" "value" "[B") .byte ∈ FL := List.mem_of_getElem? (i := 1239) (by decide +kernel)
theorem fl_10 : Cond.eq (.length (.field (.string "RecipeSchedulerModel" 243) "java/lang/String" "value" "[B")) (.int (Int32.ofNat (sByt 10).length)) ∈ FL := List.mem_of_getElem? (i := 1240) (by decide +kernel)
set_option maxRecDepth 20000 in
theorem fb_10 : ∀ j, j < (sByt 10).length → FL[1241 + j]? = some (Cond.eq (.elem (.field (.string "RecipeSchedulerModel" 243) "java/lang/String" "value" "[B") (.int (Int32.ofNat j))) (.int ((sByt 10).getD j 0))) := by decide +kernel
theorem fc_11 : Cond.eq (.field (.string "RecipeSchedulerModel" 245) "java/lang/String" "coder" "B") (.int 0) ∈ FL := List.mem_of_getElem? (i := 1247) (by decide +kernel)
theorem fa_11 : Cond.arrayOf (.field (.string "RecipeSchedulerModel" 245) "java/lang/String" "value" "[B") .byte ∈ FL := List.mem_of_getElem? (i := 1248) (by decide +kernel)
theorem fl_11 : Cond.eq (.length (.field (.string "RecipeSchedulerModel" 245) "java/lang/String" "value" "[B")) (.int (Int32.ofNat (sByt 11).length)) ∈ FL := List.mem_of_getElem? (i := 1249) (by decide +kernel)
set_option maxRecDepth 20000 in
theorem fb_11 : ∀ j, j < (sByt 11).length → FL[1250 + j]? = some (Cond.eq (.elem (.field (.string "RecipeSchedulerModel" 245) "java/lang/String" "value" "[B") (.int (Int32.ofNat j))) (.int ((sByt 11).getD j 0))) := by decide +kernel
theorem fc_12 : Cond.eq (.field (.string "RecipeSchedulerModel" 247) "java/lang/String" "coder" "B") (.int 0) ∈ FL := List.mem_of_getElem? (i := 1255) (by decide +kernel)
theorem fa_12 : Cond.arrayOf (.field (.string "RecipeSchedulerModel" 247) "java/lang/String" "value" "[B") .byte ∈ FL := List.mem_of_getElem? (i := 1256) (by decide +kernel)
theorem fl_12 : Cond.eq (.length (.field (.string "RecipeSchedulerModel" 247) "java/lang/String" "value" "[B")) (.int (Int32.ofNat (sByt 12).length)) ∈ FL := List.mem_of_getElem? (i := 1257) (by decide +kernel)
set_option maxRecDepth 20000 in
theorem fb_12 : ∀ j, j < (sByt 12).length → FL[1258 + j]? = some (Cond.eq (.elem (.field (.string "RecipeSchedulerModel" 247) "java/lang/String" "value" "[B") (.int (Int32.ofNat j))) (.int ((sByt 12).getD j 0))) := by decide +kernel
theorem fc_13 : Cond.eq (.field (.string "RecipeSchedulerModel" 249) "java/lang/String" "coder" "B") (.int 0) ∈ FL := List.mem_of_getElem? (i := 1263) (by decide +kernel)
theorem fa_13 : Cond.arrayOf (.field (.string "RecipeSchedulerModel" 249) "java/lang/String" "value" "[B") .byte ∈ FL := List.mem_of_getElem? (i := 1264) (by decide +kernel)
theorem fl_13 : Cond.eq (.length (.field (.string "RecipeSchedulerModel" 249) "java/lang/String" "value" "[B")) (.int (Int32.ofNat (sByt 13).length)) ∈ FL := List.mem_of_getElem? (i := 1265) (by decide +kernel)
set_option maxRecDepth 20000 in
theorem fb_13 : ∀ j, j < (sByt 13).length → FL[1266 + j]? = some (Cond.eq (.elem (.field (.string "RecipeSchedulerModel" 249) "java/lang/String" "value" "[B") (.int (Int32.ofNat j))) (.int ((sByt 13).getD j 0))) := by decide +kernel
theorem fc_14 : Cond.eq (.field (.string "RecipeSchedulerModel" 251) "java/lang/String" "coder" "B") (.int 0) ∈ FL := List.mem_of_getElem? (i := 1272) (by decide +kernel)
theorem fa_14 : Cond.arrayOf (.field (.string "RecipeSchedulerModel" 251) "java/lang/String" "value" "[B") .byte ∈ FL := List.mem_of_getElem? (i := 1273) (by decide +kernel)
theorem fl_14 : Cond.eq (.length (.field (.string "RecipeSchedulerModel" 251) "java/lang/String" "value" "[B")) (.int (Int32.ofNat (sByt 14).length)) ∈ FL := List.mem_of_getElem? (i := 1274) (by decide +kernel)
set_option maxRecDepth 20000 in
theorem fb_14 : ∀ j, j < (sByt 14).length → FL[1275 + j]? = some (Cond.eq (.elem (.field (.string "RecipeSchedulerModel" 251) "java/lang/String" "value" "[B") (.int (Int32.ofNat j))) (.int ((sByt 14).getD j 0))) := by decide +kernel
theorem fc_15 : Cond.eq (.field (.string "RecipeSchedulerModel" 253) "java/lang/String" "coder" "B") (.int 0) ∈ FL := List.mem_of_getElem? (i := 1280) (by decide +kernel)
theorem fa_15 : Cond.arrayOf (.field (.string "RecipeSchedulerModel" 253) "java/lang/String" "value" "[B") .byte ∈ FL := List.mem_of_getElem? (i := 1281) (by decide +kernel)
theorem fl_15 : Cond.eq (.length (.field (.string "RecipeSchedulerModel" 253) "java/lang/String" "value" "[B")) (.int (Int32.ofNat (sByt 15).length)) ∈ FL := List.mem_of_getElem? (i := 1282) (by decide +kernel)
set_option maxRecDepth 20000 in
theorem fb_15 : ∀ j, j < (sByt 15).length → FL[1283 + j]? = some (Cond.eq (.elem (.field (.string "RecipeSchedulerModel" 253) "java/lang/String" "value" "[B") (.int (Int32.ofNat j))) (.int ((sByt 15).getD j 0))) := by decide +kernel
section
variable {args : Array Value} {s : State} {A : Nat → Prop} {sa : Nat → Nat}
theorem st_ex (hs : ∀ w ∈ FL, w.before args s = true) : ∀ i, i < 38 → ∃ a, (Term.string (sOwn i).1 (sOwn i).2).eval args s none [] s = some (.ref a) := by
  intro i hi
  match i, hi with
  | 0, _ => exact exr (hs _ fx_0)
  | 1, _ => exact exr (hs _ fx_1)
  | 2, _ => exact exr (hs _ fx_2)
  | 3, _ => exact exr (hs _ fx_3)
  | 4, _ => exact exr (hs _ fx_4)
  | 5, _ => exact exr (hs _ fx_5)
  | 6, _ => exact exr (hs _ fx_6)
  | 7, _ => exact exr (hs _ fx_7)
  | 8, _ => exact exr (hs _ fx_8)
  | 9, _ => exact exr (hs _ fx_9)
  | 10, _ => exact exr (hs _ fx_10)
  | 11, _ => exact exr (hs _ fx_11)
  | 12, _ => exact exr (hs _ fx_12)
  | 13, _ => exact exr (hs _ fx_13)
  | 14, _ => exact exr (hs _ fx_14)
  | 15, _ => exact exr (hs _ fx_15)
  | 16, _ => exact exr (hs _ fx_16)
  | 17, _ => exact exr (hs _ fx_17)
  | 18, _ => exact exr (hs _ fx_18)
  | 19, _ => exact exr (hs _ fx_19)
  | 20, _ => exact exr (hs _ fx_20)
  | 21, _ => exact exr (hs _ fx_21)
  | 22, _ => exact exr (hs _ fx_22)
  | 23, _ => exact exr (hs _ fx_23)
  | 24, _ => exact exr (hs _ fx_24)
  | 25, _ => exact exr (hs _ fx_25)
  | 26, _ => exact exr (hs _ fx_26)
  | 27, _ => exact exr (hs _ fx_27)
  | 28, _ => exact exr (hs _ fx_28)
  | 29, _ => exact exr (hs _ fx_29)
  | 30, _ => exact exr (hs _ fx_30)
  | 31, _ => exact exr (hs _ fx_31)
  | 32, _ => exact exr (hs _ fx_32)
  | 33, _ => exact exr (hs _ fx_33)
  | 34, _ => exact exr (hs _ fx_34)
  | 35, _ => exact exr (hs _ fx_35)
  | 36, _ => exact exr (hs _ fx_36)
  | 37, _ => exact exr (hs _ fx_37)
  | n + 38, h => exact absurd h (by omega)
theorem st_str (hs : ∀ w ∈ FL, w.before args s = true) (hA : ∀ a : Nat, a < s.heap.size → ¬ A a) (ha : ∀ i, i < 38 → (Term.string (sOwn i).1 (sOwn i).2).eval args s none [] s = some (.ref (sa i))) : ∀ i, i < 16 → ∃ v, va_O "java/lang/String" (sa i) A s s.heap ∧ va_OF "java/lang/String" "coder" "B" (.int 0) (sa i) A s s.heap ∧ va_OF "java/lang/String" "value" "[B" (.ref v) (sa i) A s s.heap ∧ va_T .byte v (sByt i).length (fun j => .int ((sByt i).getD j 0)) A s s.heap := by
  intro i hi
  match i, hi with
  | 0, _ => exact str_of hA (by decide +kernel) (ha 0 (by decide)) (hs _ fx_0) (hs _ fc_0) (hs _ fa_0) (hs _ fl_0) (fun j hj => hs _ (List.mem_of_getElem? (fb_0 j hj)))
  | 1, _ => exact str_of hA (by decide +kernel) (ha 1 (by decide)) (hs _ fx_1) (hs _ fc_1) (hs _ fa_1) (hs _ fl_1) (fun j hj => hs _ (List.mem_of_getElem? (fb_1 j hj)))
  | 2, _ => exact str_of hA (by decide +kernel) (ha 2 (by decide)) (hs _ fx_2) (hs _ fc_2) (hs _ fa_2) (hs _ fl_2) (fun j hj => hs _ (List.mem_of_getElem? (fb_2 j hj)))
  | 3, _ => exact str_of hA (by decide +kernel) (ha 3 (by decide)) (hs _ fx_3) (hs _ fc_3) (hs _ fa_3) (hs _ fl_3) (fun j hj => hs _ (List.mem_of_getElem? (fb_3 j hj)))
  | 4, _ => exact str_of hA (by decide +kernel) (ha 4 (by decide)) (hs _ fx_4) (hs _ fc_4) (hs _ fa_4) (hs _ fl_4) (fun j hj => hs _ (List.mem_of_getElem? (fb_4 j hj)))
  | 5, _ => exact str_of hA (by decide +kernel) (ha 5 (by decide)) (hs _ fx_5) (hs _ fc_5) (hs _ fa_5) (hs _ fl_5) (fun j hj => hs _ (List.mem_of_getElem? (fb_5 j hj)))
  | 6, _ => exact str_of hA (by decide +kernel) (ha 6 (by decide)) (hs _ fx_6) (hs _ fc_6) (hs _ fa_6) (hs _ fl_6) (fun j hj => hs _ (List.mem_of_getElem? (fb_6 j hj)))
  | 7, _ => exact str_of hA (by decide +kernel) (ha 7 (by decide)) (hs _ fx_7) (hs _ fc_7) (hs _ fa_7) (hs _ fl_7) (fun j hj => hs _ (List.mem_of_getElem? (fb_7 j hj)))
  | 8, _ => exact str_of hA (by decide +kernel) (ha 8 (by decide)) (hs _ fx_8) (hs _ fc_8) (hs _ fa_8) (hs _ fl_8) (fun j hj => hs _ (List.mem_of_getElem? (fb_8 j hj)))
  | 9, _ => exact str_of hA (by decide +kernel) (ha 9 (by decide)) (hs _ fx_9) (hs _ fc_9) (hs _ fa_9) (hs _ fl_9) (fun j hj => hs _ (List.mem_of_getElem? (fb_9 j hj)))
  | 10, _ => exact str_of hA (by decide +kernel) (ha 10 (by decide)) (hs _ fx_10) (hs _ fc_10) (hs _ fa_10) (hs _ fl_10) (fun j hj => hs _ (List.mem_of_getElem? (fb_10 j hj)))
  | 11, _ => exact str_of hA (by decide +kernel) (ha 11 (by decide)) (hs _ fx_11) (hs _ fc_11) (hs _ fa_11) (hs _ fl_11) (fun j hj => hs _ (List.mem_of_getElem? (fb_11 j hj)))
  | 12, _ => exact str_of hA (by decide +kernel) (ha 12 (by decide)) (hs _ fx_12) (hs _ fc_12) (hs _ fa_12) (hs _ fl_12) (fun j hj => hs _ (List.mem_of_getElem? (fb_12 j hj)))
  | 13, _ => exact str_of hA (by decide +kernel) (ha 13 (by decide)) (hs _ fx_13) (hs _ fc_13) (hs _ fa_13) (hs _ fl_13) (fun j hj => hs _ (List.mem_of_getElem? (fb_13 j hj)))
  | 14, _ => exact str_of hA (by decide +kernel) (ha 14 (by decide)) (hs _ fx_14) (hs _ fc_14) (hs _ fa_14) (hs _ fl_14) (fun j hj => hs _ (List.mem_of_getElem? (fb_14 j hj)))
  | 15, _ => exact str_of hA (by decide +kernel) (ha 15 (by decide)) (hs _ fx_15) (hs _ fc_15) (hs _ fa_15) (hs _ fl_15) (fun j hj => hs _ (List.mem_of_getElem? (fb_15 j hj)))
  | n + 16, h => exact absurd h (by omega)
end
theorem sr9_0 : Cond.stringRef "RecipeScheduler" 27 "recipe 1 2 4 9;pan pot 2;pan bowl 2;step cut 3 1 in bowl;step boil 5 2 in pot alone after cut;step fry 2 3 in pot hot;step mix 2 1 in bowl after boil fry;step rest 4 0 alone after mix;" ∈ lw_tbl := by decide +kernel
theorem sr9_1 : Cond.stringRef "RecipeScheduler$SetupReader" 45 "recipe" ∈ lw_tbl := by decide +kernel
theorem sr9_2 : Cond.stringRef "RecipeScheduler$SetupReader" 29 "pan" ∈ lw_tbl := by decide +kernel
theorem sr9_3 : Cond.stringRef "RecipeScheduler$SetupReader" 100 "step" ∈ lw_tbl := by decide +kernel
theorem sr9_4 : Cond.stringRef "RecipeScheduler$SetupReader" 127 "in" ∈ lw_tbl := by decide +kernel
theorem sr9_5 : Cond.stringRef "RecipeScheduler$SetupReader" 112 "hot" ∈ lw_tbl := by decide +kernel
theorem sr9_6 : Cond.stringRef "RecipeScheduler$SetupReader" 116 "alone" ∈ lw_tbl := by decide +kernel
theorem sr9_7 : Cond.stringRef "RecipeScheduler$SetupReader" 120 "after" ∈ lw_tbl := by decide +kernel
theorem sr9_8 : Cond.stringRef "RecipeScheduler" 98 "the input buffer would be too long" ∈ lw_tbl := by decide +kernel
theorem sr9_9 : Cond.stringRef "RecipeScheduler" 111 "no such length" ∈ lw_tbl := by decide +kernel
theorem sr9_10 : Cond.stringRef "RecipeScheduler" 440 "the text has an error" ∈ lw_tbl := by decide +kernel
theorem sr9_11 : Cond.stringRef "RecipeScheduler" 156 "no such status" ∈ lw_tbl := by decide +kernel
theorem sr9_12 : Cond.stringRef "RecipeScheduler" 431 "no such pan type" ∈ lw_tbl := by decide +kernel
theorem sr9_13 : Cond.stringRef "RecipeScheduler" 426 "no such step" ∈ lw_tbl := by decide +kernel
theorem sr9_14 : Cond.stringRef "RecipeScheduler" 239 "no such letter" ∈ lw_tbl := by decide +kernel
theorem sr9_15 : Cond.stringRef "RecipeScheduler" 252 "no step has this name" ∈ lw_tbl := by decide +kernel
theorem sr9_16 : Cond.stringRef "RecipeScheduler" 296 "no such number of minutes" ∈ lw_tbl := by decide +kernel
theorem sr9_17 : Cond.stringRef "RecipeScheduler" 438 "no such number of cooks" ∈ lw_tbl := by decide +kernel
theorem sr9_18 : Cond.stringRef "RecipeScheduler" 313 "all steps are done" ∈ lw_tbl := by decide +kernel
theorem sr9_19 : Cond.stringRef "RecipeScheduler" 339 "the current minute would be too late" ∈ lw_tbl := by decide +kernel
theorem sr9_20 : Cond.stringRef "RecipeScheduler" 348 "no such amount" ∈ lw_tbl := by decide +kernel
theorem sr9_21 : Cond.stringRef "RecipeScheduler" 354 "the dish was served" ∈ lw_tbl := by decide +kernel
theorem sr9_22 : Cond.stringRef "RecipeScheduler" 356 "the step is not running" ∈ lw_tbl := by decide +kernel
theorem sr9_23 : Cond.stringRef "RecipeScheduler" 364 "the step cannot be discarded" ∈ lw_tbl := by decide +kernel
theorem sr9_24 : Cond.stringRef "RecipeScheduler" 372 "no such duration" ∈ lw_tbl := by decide +kernel
theorem sr9_25 : Cond.stringRef "RecipeScheduler" 374 "the dish cannot be served" ∈ lw_tbl := by decide +kernel
theorem sr9_26 : Cond.stringRef "RecipeScheduler" 398 "nothing to undo" ∈ lw_tbl := by decide +kernel
theorem sr9_27 : Cond.stringRef "RecipeScheduler" 433 "no such slot" ∈ lw_tbl := by decide +kernel
theorem sr9_28 : Cond.stringRef "RecipeScheduler" 408 "nothing is saved in the slot" ∈ lw_tbl := by decide +kernel
theorem sr9_29 : Cond.stringRef "RecipeScheduler" 420 "no such byte" ∈ lw_tbl := by decide +kernel
theorem fq_30 : Cond.eq (.string "RecipeScheduler" 27) (.string "RecipeSchedulerModel" 69) ∈ FL := List.mem_of_getElem? (i := 1157) (by decide +kernel)
theorem sr9_30 : Cond.stringRef "RecipeSchedulerModel" 69 "recipe 1 2 4 9;pan pot 2;pan bowl 2;step cut 3 1 in bowl;step boil 5 2 in pot alone after cut;step fry 2 3 in pot hot;step mix 2 1 in bowl after boil fry;step rest 4 0 alone after mix;" ∈ lw_tbl := by decide +kernel
theorem fq_31 : Cond.eq (.string "RecipeScheduler$SetupReader" 45) (.string "RecipeSchedulerModel" 227) ∈ FL := List.mem_of_getElem? (i := 1168) (by decide +kernel)
theorem sr9_31 : Cond.stringRef "RecipeSchedulerModel" 227 "recipe" ∈ lw_tbl := by decide +kernel
theorem fq_32 : Cond.eq (.string "RecipeScheduler$SetupReader" 29) (.string "RecipeSchedulerModel" 229) ∈ FL := List.mem_of_getElem? (i := 1176) (by decide +kernel)
theorem sr9_32 : Cond.stringRef "RecipeSchedulerModel" 229 "pan" ∈ lw_tbl := by decide +kernel
theorem fq_33 : Cond.eq (.string "RecipeScheduler$SetupReader" 100) (.string "RecipeSchedulerModel" 234) ∈ FL := List.mem_of_getElem? (i := 1185) (by decide +kernel)
theorem sr9_33 : Cond.stringRef "RecipeSchedulerModel" 234 "step" ∈ lw_tbl := by decide +kernel
theorem fq_34 : Cond.eq (.string "RecipeScheduler$SetupReader" 127) (.string "RecipeSchedulerModel" 211) ∈ FL := List.mem_of_getElem? (i := 1192) (by decide +kernel)
theorem sr9_34 : Cond.stringRef "RecipeSchedulerModel" 211 "in" ∈ lw_tbl := by decide +kernel
theorem fq_35 : Cond.eq (.string "RecipeScheduler$SetupReader" 112) (.string "RecipeSchedulerModel" 218) ∈ FL := List.mem_of_getElem? (i := 1200) (by decide +kernel)
theorem sr9_35 : Cond.stringRef "RecipeSchedulerModel" 218 "hot" ∈ lw_tbl := by decide +kernel
theorem fq_36 : Cond.eq (.string "RecipeScheduler$SetupReader" 116) (.string "RecipeSchedulerModel" 220) ∈ FL := List.mem_of_getElem? (i := 1210) (by decide +kernel)
theorem sr9_36 : Cond.stringRef "RecipeSchedulerModel" 220 "alone" ∈ lw_tbl := by decide +kernel
theorem fq_37 : Cond.eq (.string "RecipeScheduler$SetupReader" 120) (.string "RecipeSchedulerModel" 222) ∈ FL := List.mem_of_getElem? (i := 1220) (by decide +kernel)
theorem sr9_37 : Cond.stringRef "RecipeSchedulerModel" 222 "after" ∈ lw_tbl := by decide +kernel
theorem sr9_38 : Cond.stringRef "RecipeSchedulerModel" 239 "pass" ∈ lw_tbl := by decide +kernel
theorem sr9_39 : Cond.stringRef "RecipeSchedulerModel" 241 "salt" ∈ lw_tbl := by decide +kernel
theorem sr9_40 : Cond.stringRef "RecipeSchedulerModel" 243 "water" ∈ lw_tbl := by decide +kernel
theorem sr9_41 : Cond.stringRef "RecipeSchedulerModel" 245 "stop" ∈ lw_tbl := by decide +kernel
theorem sr9_42 : Cond.stringRef "RecipeSchedulerModel" 247 "redo" ∈ lw_tbl := by decide +kernel
theorem sr9_43 : Cond.stringRef "RecipeSchedulerModel" 249 "cooks" ∈ lw_tbl := by decide +kernel
theorem sr9_44 : Cond.stringRef "RecipeSchedulerModel" 251 "time" ∈ lw_tbl := by decide +kernel
theorem sr9_45 : Cond.stringRef "RecipeSchedulerModel" 253 "serve" ∈ lw_tbl := by decide +kernel
theorem fq_46 : Cond.eq (.string "RecipeSchedulerModel" 239) (.string "RecipeScheduler$Command" 59) ∈ FL := List.mem_of_getElem? (i := 1296) (by decide +kernel)
theorem sr9_46 : Cond.stringRef "RecipeScheduler$Command" 59 "pass" ∈ lw_tbl := by decide +kernel
theorem fq_47 : Cond.eq (.string "RecipeSchedulerModel" 241) (.string "RecipeScheduler$Command" 65) ∈ FL := List.mem_of_getElem? (i := 1305) (by decide +kernel)
theorem sr9_47 : Cond.stringRef "RecipeScheduler$Command" 65 "salt" ∈ lw_tbl := by decide +kernel
theorem fq_48 : Cond.eq (.string "RecipeSchedulerModel" 243) (.string "RecipeScheduler$Command" 68) ∈ FL := List.mem_of_getElem? (i := 1315) (by decide +kernel)
theorem sr9_48 : Cond.stringRef "RecipeScheduler$Command" 68 "water" ∈ lw_tbl := by decide +kernel
theorem fq_49 : Cond.eq (.string "RecipeSchedulerModel" 245) (.string "RecipeScheduler$Command" 71) ∈ FL := List.mem_of_getElem? (i := 1324) (by decide +kernel)
theorem sr9_49 : Cond.stringRef "RecipeScheduler$Command" 71 "stop" ∈ lw_tbl := by decide +kernel
theorem fq_50 : Cond.eq (.string "RecipeSchedulerModel" 247) (.string "RecipeScheduler$Command" 74) ∈ FL := List.mem_of_getElem? (i := 1333) (by decide +kernel)
theorem sr9_50 : Cond.stringRef "RecipeScheduler$Command" 74 "redo" ∈ lw_tbl := by decide +kernel
theorem fq_51 : Cond.eq (.string "RecipeSchedulerModel" 249) (.string "RecipeScheduler$Command" 77) ∈ FL := List.mem_of_getElem? (i := 1343) (by decide +kernel)
theorem sr9_51 : Cond.stringRef "RecipeScheduler$Command" 77 "cooks" ∈ lw_tbl := by decide +kernel
theorem fq_52 : Cond.eq (.string "RecipeSchedulerModel" 251) (.string "RecipeScheduler$Command" 80) ∈ FL := List.mem_of_getElem? (i := 1352) (by decide +kernel)
theorem sr9_52 : Cond.stringRef "RecipeScheduler$Command" 80 "time" ∈ lw_tbl := by decide +kernel
theorem fq_53 : Cond.eq (.string "RecipeSchedulerModel" 253) (.string "RecipeScheduler$Command" 83) ∈ FL := List.mem_of_getElem? (i := 1362) (by decide +kernel)
theorem sr9_53 : Cond.stringRef "RecipeScheduler$Command" 83 "serve" ∈ lw_tbl := by decide +kernel
theorem st_tab {args : Array Value} {s : State} {sa : Nat → Nat} (hs : ∀ w ∈ FL, w.before args s = true) (hts : ∀ w ∈ lw_tbl, w.before args s = true) (ha : ∀ i, i < 38 → (Term.string (sOwn i).1 (sOwn i).2).eval args s none [] s = some (.ref (sa i))) : ∀ r ∈ sTab, vk_R r.1 r.2.1 r.2.2.1 (sa r.2.2.2) s :=
  (List.forall_mem_cons.mpr ⟨vk_R.of (hts _ sr9_0) (ha 0 (by decide)), (List.forall_mem_cons.mpr ⟨vk_R.of (hts _ sr9_1) (ha 1 (by decide)), (List.forall_mem_cons.mpr ⟨vk_R.of (hts _ sr9_2) (ha 2 (by decide)), (List.forall_mem_cons.mpr ⟨vk_R.of (hts _ sr9_3) (ha 3 (by decide)), (List.forall_mem_cons.mpr ⟨vk_R.of (hts _ sr9_4) (ha 4 (by decide)), (List.forall_mem_cons.mpr ⟨vk_R.of (hts _ sr9_5) (ha 5 (by decide)), (List.forall_mem_cons.mpr ⟨vk_R.of (hts _ sr9_6) (ha 6 (by decide)), (List.forall_mem_cons.mpr ⟨vk_R.of (hts _ sr9_7) (ha 7 (by decide)), (List.forall_mem_cons.mpr ⟨vk_R.of (hts _ sr9_8) (ha 16 (by decide)), (List.forall_mem_cons.mpr ⟨vk_R.of (hts _ sr9_9) (ha 17 (by decide)), (List.forall_mem_cons.mpr ⟨vk_R.of (hts _ sr9_10) (ha 18 (by decide)), (List.forall_mem_cons.mpr ⟨vk_R.of (hts _ sr9_11) (ha 19 (by decide)), (List.forall_mem_cons.mpr ⟨vk_R.of (hts _ sr9_12) (ha 20 (by decide)), (List.forall_mem_cons.mpr ⟨vk_R.of (hts _ sr9_13) (ha 21 (by decide)), (List.forall_mem_cons.mpr ⟨vk_R.of (hts _ sr9_14) (ha 22 (by decide)), (List.forall_mem_cons.mpr ⟨vk_R.of (hts _ sr9_15) (ha 23 (by decide)), (List.forall_mem_cons.mpr ⟨vk_R.of (hts _ sr9_16) (ha 24 (by decide)), (List.forall_mem_cons.mpr ⟨vk_R.of (hts _ sr9_17) (ha 25 (by decide)), (List.forall_mem_cons.mpr ⟨vk_R.of (hts _ sr9_18) (ha 26 (by decide)), (List.forall_mem_cons.mpr ⟨vk_R.of (hts _ sr9_19) (ha 27 (by decide)), (List.forall_mem_cons.mpr ⟨vk_R.of (hts _ sr9_20) (ha 28 (by decide)), (List.forall_mem_cons.mpr ⟨vk_R.of (hts _ sr9_21) (ha 29 (by decide)), (List.forall_mem_cons.mpr ⟨vk_R.of (hts _ sr9_22) (ha 30 (by decide)), (List.forall_mem_cons.mpr ⟨vk_R.of (hts _ sr9_23) (ha 31 (by decide)), (List.forall_mem_cons.mpr ⟨vk_R.of (hts _ sr9_24) (ha 32 (by decide)), (List.forall_mem_cons.mpr ⟨vk_R.of (hts _ sr9_25) (ha 33 (by decide)), (List.forall_mem_cons.mpr ⟨vk_R.of (hts _ sr9_26) (ha 34 (by decide)), (List.forall_mem_cons.mpr ⟨vk_R.of (hts _ sr9_27) (ha 35 (by decide)), (List.forall_mem_cons.mpr ⟨vk_R.of (hts _ sr9_28) (ha 36 (by decide)), (List.forall_mem_cons.mpr ⟨vk_R.of (hts _ sr9_29) (ha 37 (by decide)), (List.forall_mem_cons.mpr ⟨vk_R.of (hts _ sr9_30) (eql (hs _ fq_30) (ha 0 (by decide))), (List.forall_mem_cons.mpr ⟨vk_R.of (hts _ sr9_31) (eql (hs _ fq_31) (ha 1 (by decide))), (List.forall_mem_cons.mpr ⟨vk_R.of (hts _ sr9_32) (eql (hs _ fq_32) (ha 2 (by decide))), (List.forall_mem_cons.mpr ⟨vk_R.of (hts _ sr9_33) (eql (hs _ fq_33) (ha 3 (by decide))), (List.forall_mem_cons.mpr ⟨vk_R.of (hts _ sr9_34) (eql (hs _ fq_34) (ha 4 (by decide))), (List.forall_mem_cons.mpr ⟨vk_R.of (hts _ sr9_35) (eql (hs _ fq_35) (ha 5 (by decide))), (List.forall_mem_cons.mpr ⟨vk_R.of (hts _ sr9_36) (eql (hs _ fq_36) (ha 6 (by decide))), (List.forall_mem_cons.mpr ⟨vk_R.of (hts _ sr9_37) (eql (hs _ fq_37) (ha 7 (by decide))), (List.forall_mem_cons.mpr ⟨vk_R.of (hts _ sr9_38) (ha 8 (by decide)), (List.forall_mem_cons.mpr ⟨vk_R.of (hts _ sr9_39) (ha 9 (by decide)), (List.forall_mem_cons.mpr ⟨vk_R.of (hts _ sr9_40) (ha 10 (by decide)), (List.forall_mem_cons.mpr ⟨vk_R.of (hts _ sr9_41) (ha 11 (by decide)), (List.forall_mem_cons.mpr ⟨vk_R.of (hts _ sr9_42) (ha 12 (by decide)), (List.forall_mem_cons.mpr ⟨vk_R.of (hts _ sr9_43) (ha 13 (by decide)), (List.forall_mem_cons.mpr ⟨vk_R.of (hts _ sr9_44) (ha 14 (by decide)), (List.forall_mem_cons.mpr ⟨vk_R.of (hts _ sr9_45) (ha 15 (by decide)), (List.forall_mem_cons.mpr ⟨vk_R.of (hts _ sr9_46) (eql (hs _ fq_46) (ha 8 (by decide))), (List.forall_mem_cons.mpr ⟨vk_R.of (hts _ sr9_47) (eql (hs _ fq_47) (ha 9 (by decide))), (List.forall_mem_cons.mpr ⟨vk_R.of (hts _ sr9_48) (eql (hs _ fq_48) (ha 10 (by decide))), (List.forall_mem_cons.mpr ⟨vk_R.of (hts _ sr9_49) (eql (hs _ fq_49) (ha 11 (by decide))), (List.forall_mem_cons.mpr ⟨vk_R.of (hts _ sr9_50) (eql (hs _ fq_50) (ha 12 (by decide))), (List.forall_mem_cons.mpr ⟨vk_R.of (hts _ sr9_51) (eql (hs _ fq_51) (ha 13 (by decide))), (List.forall_mem_cons.mpr ⟨vk_R.of (hts _ sr9_52) (eql (hs _ fq_52) (ha 14 (by decide))), (List.forall_mem_cons.mpr ⟨vk_R.of (hts _ sr9_53) (eql (hs _ fq_53) (ha 15 (by decide))), (fun _ h => nomatch h)⟩)⟩)⟩)⟩)⟩)⟩)⟩)⟩)⟩)⟩)⟩)⟩)⟩)⟩)⟩)⟩)⟩)⟩)⟩)⟩)⟩)⟩)⟩)⟩)⟩)⟩)⟩)⟩)⟩)⟩)⟩)⟩)⟩)⟩)⟩)⟩)⟩)⟩)⟩)⟩)⟩)⟩)⟩)⟩)⟩)⟩)⟩)⟩)⟩)⟩)⟩)⟩)⟩)⟩)
theorem en_x0 : Cond.exactly (.static "RecipeScheduler$Command" "PASS" "LRecipeScheduler$Command;") "RecipeScheduler$Command" ∈ FL := List.mem_of_getElem? (i := 9) (by decide +kernel)
theorem en_o0 : Cond.eq (.field (.static "RecipeScheduler$Command" "PASS" "LRecipeScheduler$Command;") "java/lang/Enum" "ordinal" "I") (.int (Int32.ofNat 0)) ∈ FL := List.mem_of_getElem? (i := 10) (by decide +kernel)
theorem en_w0 : Cond.eq (.field (.static "RecipeScheduler$Command" "PASS" "LRecipeScheduler$Command;") "RecipeScheduler$Command" "word" "Ljava/lang/String;") (.string "RecipeScheduler$Command" 59) ∈ FL := List.mem_of_getElem? (i := 11) (by decide +kernel)
theorem en_n0 : Cond.eq (.field (.static "RecipeScheduler$Command" "PASS" "LRecipeScheduler$Command;") "RecipeScheduler$Command" "takesName" "Z") (.int (sCmd 0).1) ∈ FL := List.mem_of_getElem? (i := 12) (by decide +kernel)
theorem en_k0 : Cond.eq (.field (.static "RecipeScheduler$Command" "PASS" "LRecipeScheduler$Command;") "RecipeScheduler$Command" "takesNumber" "Z") (.int (sCmd 0).2) ∈ FL := List.mem_of_getElem? (i := 13) (by decide +kernel)
theorem st_en0 {args : Array Value} {s : State} {A : Nat → Prop} {sa : Nat → Nat} (hs : ∀ w ∈ FL, w.before args s = true) (hA : ∀ a : Nat, a < s.heap.size → ¬ A a) (ha : ∀ i, i < 38 → (Term.string (sOwn i).1 (sOwn i).2).eval args s none [] s = some (.ref (sa i))) : ∃ a, (Term.static "RecipeScheduler$Command" "PASS" "LRecipeScheduler$Command;").eval args s none [] s = some (.ref a) ∧ va_O "RecipeScheduler$Command" a A s s.heap ∧ va_OF "java/lang/Enum" "ordinal" "I" (.int (Int32.ofNat 0)) a A s s.heap ∧ va_OF "RecipeScheduler$Command" "word" "Ljava/lang/String;" (.ref (sa (8 + 0))) a A s s.heap ∧ va_OF "RecipeScheduler$Command" "takesName" "Z" (.int (sCmd 0).1) a A s s.heap ∧ va_OF "RecipeScheduler$Command" "takesNumber" "Z" (.int (sCmd 0).2) a A s s.heap := by
  obtain ⟨a, h⟩ := exr (hs _ en_x0)
  exact ⟨a, h, va_Oof (hs _ en_x0) h hA, vk_OFof h (eqv (hs _ en_o0)) hA, vk_OFof h (eqr (hs _ en_w0) (eql (hs _ fq_46) (ha 8 (by decide)))) hA, vk_OFof h (eqv (hs _ en_n0)) hA, vk_OFof h (eqv (hs _ en_k0)) hA⟩
theorem en_x1 : Cond.exactly (.static "RecipeScheduler$Command" "SALT" "LRecipeScheduler$Command;") "RecipeScheduler$Command" ∈ FL := List.mem_of_getElem? (i := 40) (by decide +kernel)
theorem en_o1 : Cond.eq (.field (.static "RecipeScheduler$Command" "SALT" "LRecipeScheduler$Command;") "java/lang/Enum" "ordinal" "I") (.int (Int32.ofNat 1)) ∈ FL := List.mem_of_getElem? (i := 41) (by decide +kernel)
theorem en_w1 : Cond.eq (.field (.static "RecipeScheduler$Command" "SALT" "LRecipeScheduler$Command;") "RecipeScheduler$Command" "word" "Ljava/lang/String;") (.string "RecipeScheduler$Command" 65) ∈ FL := List.mem_of_getElem? (i := 42) (by decide +kernel)
theorem en_n1 : Cond.eq (.field (.static "RecipeScheduler$Command" "SALT" "LRecipeScheduler$Command;") "RecipeScheduler$Command" "takesName" "Z") (.int (sCmd 1).1) ∈ FL := List.mem_of_getElem? (i := 43) (by decide +kernel)
theorem en_k1 : Cond.eq (.field (.static "RecipeScheduler$Command" "SALT" "LRecipeScheduler$Command;") "RecipeScheduler$Command" "takesNumber" "Z") (.int (sCmd 1).2) ∈ FL := List.mem_of_getElem? (i := 44) (by decide +kernel)
theorem st_en1 {args : Array Value} {s : State} {A : Nat → Prop} {sa : Nat → Nat} (hs : ∀ w ∈ FL, w.before args s = true) (hA : ∀ a : Nat, a < s.heap.size → ¬ A a) (ha : ∀ i, i < 38 → (Term.string (sOwn i).1 (sOwn i).2).eval args s none [] s = some (.ref (sa i))) : ∃ a, (Term.static "RecipeScheduler$Command" "SALT" "LRecipeScheduler$Command;").eval args s none [] s = some (.ref a) ∧ va_O "RecipeScheduler$Command" a A s s.heap ∧ va_OF "java/lang/Enum" "ordinal" "I" (.int (Int32.ofNat 1)) a A s s.heap ∧ va_OF "RecipeScheduler$Command" "word" "Ljava/lang/String;" (.ref (sa (8 + 1))) a A s s.heap ∧ va_OF "RecipeScheduler$Command" "takesName" "Z" (.int (sCmd 1).1) a A s s.heap ∧ va_OF "RecipeScheduler$Command" "takesNumber" "Z" (.int (sCmd 1).2) a A s s.heap := by
  obtain ⟨a, h⟩ := exr (hs _ en_x1)
  exact ⟨a, h, va_Oof (hs _ en_x1) h hA, vk_OFof h (eqv (hs _ en_o1)) hA, vk_OFof h (eqr (hs _ en_w1) (eql (hs _ fq_47) (ha 9 (by decide)))) hA, vk_OFof h (eqv (hs _ en_n1)) hA, vk_OFof h (eqv (hs _ en_k1)) hA⟩
theorem en_x2 : Cond.exactly (.static "RecipeScheduler$Command" "WATER" "LRecipeScheduler$Command;") "RecipeScheduler$Command" ∈ FL := List.mem_of_getElem? (i := 46) (by decide +kernel)
theorem en_o2 : Cond.eq (.field (.static "RecipeScheduler$Command" "WATER" "LRecipeScheduler$Command;") "java/lang/Enum" "ordinal" "I") (.int (Int32.ofNat 2)) ∈ FL := List.mem_of_getElem? (i := 47) (by decide +kernel)
theorem en_w2 : Cond.eq (.field (.static "RecipeScheduler$Command" "WATER" "LRecipeScheduler$Command;") "RecipeScheduler$Command" "word" "Ljava/lang/String;") (.string "RecipeScheduler$Command" 68) ∈ FL := List.mem_of_getElem? (i := 48) (by decide +kernel)
theorem en_n2 : Cond.eq (.field (.static "RecipeScheduler$Command" "WATER" "LRecipeScheduler$Command;") "RecipeScheduler$Command" "takesName" "Z") (.int (sCmd 2).1) ∈ FL := List.mem_of_getElem? (i := 49) (by decide +kernel)
theorem en_k2 : Cond.eq (.field (.static "RecipeScheduler$Command" "WATER" "LRecipeScheduler$Command;") "RecipeScheduler$Command" "takesNumber" "Z") (.int (sCmd 2).2) ∈ FL := List.mem_of_getElem? (i := 50) (by decide +kernel)
theorem st_en2 {args : Array Value} {s : State} {A : Nat → Prop} {sa : Nat → Nat} (hs : ∀ w ∈ FL, w.before args s = true) (hA : ∀ a : Nat, a < s.heap.size → ¬ A a) (ha : ∀ i, i < 38 → (Term.string (sOwn i).1 (sOwn i).2).eval args s none [] s = some (.ref (sa i))) : ∃ a, (Term.static "RecipeScheduler$Command" "WATER" "LRecipeScheduler$Command;").eval args s none [] s = some (.ref a) ∧ va_O "RecipeScheduler$Command" a A s s.heap ∧ va_OF "java/lang/Enum" "ordinal" "I" (.int (Int32.ofNat 2)) a A s s.heap ∧ va_OF "RecipeScheduler$Command" "word" "Ljava/lang/String;" (.ref (sa (8 + 2))) a A s s.heap ∧ va_OF "RecipeScheduler$Command" "takesName" "Z" (.int (sCmd 2).1) a A s s.heap ∧ va_OF "RecipeScheduler$Command" "takesNumber" "Z" (.int (sCmd 2).2) a A s s.heap := by
  obtain ⟨a, h⟩ := exr (hs _ en_x2)
  exact ⟨a, h, va_Oof (hs _ en_x2) h hA, vk_OFof h (eqv (hs _ en_o2)) hA, vk_OFof h (eqr (hs _ en_w2) (eql (hs _ fq_48) (ha 10 (by decide)))) hA, vk_OFof h (eqv (hs _ en_n2)) hA, vk_OFof h (eqv (hs _ en_k2)) hA⟩
theorem en_x3 : Cond.exactly (.static "RecipeScheduler$Command" "STOP" "LRecipeScheduler$Command;") "RecipeScheduler$Command" ∈ FL := List.mem_of_getElem? (i := 53) (by decide +kernel)
theorem en_o3 : Cond.eq (.field (.static "RecipeScheduler$Command" "STOP" "LRecipeScheduler$Command;") "java/lang/Enum" "ordinal" "I") (.int (Int32.ofNat 3)) ∈ FL := List.mem_of_getElem? (i := 54) (by decide +kernel)
theorem en_w3 : Cond.eq (.field (.static "RecipeScheduler$Command" "STOP" "LRecipeScheduler$Command;") "RecipeScheduler$Command" "word" "Ljava/lang/String;") (.string "RecipeScheduler$Command" 71) ∈ FL := List.mem_of_getElem? (i := 55) (by decide +kernel)
theorem en_n3 : Cond.eq (.field (.static "RecipeScheduler$Command" "STOP" "LRecipeScheduler$Command;") "RecipeScheduler$Command" "takesName" "Z") (.int (sCmd 3).1) ∈ FL := List.mem_of_getElem? (i := 56) (by decide +kernel)
theorem en_k3 : Cond.eq (.field (.static "RecipeScheduler$Command" "STOP" "LRecipeScheduler$Command;") "RecipeScheduler$Command" "takesNumber" "Z") (.int (sCmd 3).2) ∈ FL := List.mem_of_getElem? (i := 57) (by decide +kernel)
theorem st_en3 {args : Array Value} {s : State} {A : Nat → Prop} {sa : Nat → Nat} (hs : ∀ w ∈ FL, w.before args s = true) (hA : ∀ a : Nat, a < s.heap.size → ¬ A a) (ha : ∀ i, i < 38 → (Term.string (sOwn i).1 (sOwn i).2).eval args s none [] s = some (.ref (sa i))) : ∃ a, (Term.static "RecipeScheduler$Command" "STOP" "LRecipeScheduler$Command;").eval args s none [] s = some (.ref a) ∧ va_O "RecipeScheduler$Command" a A s s.heap ∧ va_OF "java/lang/Enum" "ordinal" "I" (.int (Int32.ofNat 3)) a A s s.heap ∧ va_OF "RecipeScheduler$Command" "word" "Ljava/lang/String;" (.ref (sa (8 + 3))) a A s s.heap ∧ va_OF "RecipeScheduler$Command" "takesName" "Z" (.int (sCmd 3).1) a A s s.heap ∧ va_OF "RecipeScheduler$Command" "takesNumber" "Z" (.int (sCmd 3).2) a A s s.heap := by
  obtain ⟨a, h⟩ := exr (hs _ en_x3)
  exact ⟨a, h, va_Oof (hs _ en_x3) h hA, vk_OFof h (eqv (hs _ en_o3)) hA, vk_OFof h (eqr (hs _ en_w3) (eql (hs _ fq_49) (ha 11 (by decide)))) hA, vk_OFof h (eqv (hs _ en_n3)) hA, vk_OFof h (eqv (hs _ en_k3)) hA⟩
theorem en_x4 : Cond.exactly (.static "RecipeScheduler$Command" "REDO" "LRecipeScheduler$Command;") "RecipeScheduler$Command" ∈ FL := List.mem_of_getElem? (i := 61) (by decide +kernel)
theorem en_o4 : Cond.eq (.field (.static "RecipeScheduler$Command" "REDO" "LRecipeScheduler$Command;") "java/lang/Enum" "ordinal" "I") (.int (Int32.ofNat 4)) ∈ FL := List.mem_of_getElem? (i := 62) (by decide +kernel)
theorem en_w4 : Cond.eq (.field (.static "RecipeScheduler$Command" "REDO" "LRecipeScheduler$Command;") "RecipeScheduler$Command" "word" "Ljava/lang/String;") (.string "RecipeScheduler$Command" 74) ∈ FL := List.mem_of_getElem? (i := 63) (by decide +kernel)
theorem en_n4 : Cond.eq (.field (.static "RecipeScheduler$Command" "REDO" "LRecipeScheduler$Command;") "RecipeScheduler$Command" "takesName" "Z") (.int (sCmd 4).1) ∈ FL := List.mem_of_getElem? (i := 64) (by decide +kernel)
theorem en_k4 : Cond.eq (.field (.static "RecipeScheduler$Command" "REDO" "LRecipeScheduler$Command;") "RecipeScheduler$Command" "takesNumber" "Z") (.int (sCmd 4).2) ∈ FL := List.mem_of_getElem? (i := 65) (by decide +kernel)
theorem st_en4 {args : Array Value} {s : State} {A : Nat → Prop} {sa : Nat → Nat} (hs : ∀ w ∈ FL, w.before args s = true) (hA : ∀ a : Nat, a < s.heap.size → ¬ A a) (ha : ∀ i, i < 38 → (Term.string (sOwn i).1 (sOwn i).2).eval args s none [] s = some (.ref (sa i))) : ∃ a, (Term.static "RecipeScheduler$Command" "REDO" "LRecipeScheduler$Command;").eval args s none [] s = some (.ref a) ∧ va_O "RecipeScheduler$Command" a A s s.heap ∧ va_OF "java/lang/Enum" "ordinal" "I" (.int (Int32.ofNat 4)) a A s s.heap ∧ va_OF "RecipeScheduler$Command" "word" "Ljava/lang/String;" (.ref (sa (8 + 4))) a A s s.heap ∧ va_OF "RecipeScheduler$Command" "takesName" "Z" (.int (sCmd 4).1) a A s s.heap ∧ va_OF "RecipeScheduler$Command" "takesNumber" "Z" (.int (sCmd 4).2) a A s s.heap := by
  obtain ⟨a, h⟩ := exr (hs _ en_x4)
  exact ⟨a, h, va_Oof (hs _ en_x4) h hA, vk_OFof h (eqv (hs _ en_o4)) hA, vk_OFof h (eqr (hs _ en_w4) (eql (hs _ fq_50) (ha 12 (by decide)))) hA, vk_OFof h (eqv (hs _ en_n4)) hA, vk_OFof h (eqv (hs _ en_k4)) hA⟩
theorem en_x5 : Cond.exactly (.static "RecipeScheduler$Command" "COOKS" "LRecipeScheduler$Command;") "RecipeScheduler$Command" ∈ FL := List.mem_of_getElem? (i := 70) (by decide +kernel)
theorem en_o5 : Cond.eq (.field (.static "RecipeScheduler$Command" "COOKS" "LRecipeScheduler$Command;") "java/lang/Enum" "ordinal" "I") (.int (Int32.ofNat 5)) ∈ FL := List.mem_of_getElem? (i := 71) (by decide +kernel)
theorem en_w5 : Cond.eq (.field (.static "RecipeScheduler$Command" "COOKS" "LRecipeScheduler$Command;") "RecipeScheduler$Command" "word" "Ljava/lang/String;") (.string "RecipeScheduler$Command" 77) ∈ FL := List.mem_of_getElem? (i := 72) (by decide +kernel)
theorem en_n5 : Cond.eq (.field (.static "RecipeScheduler$Command" "COOKS" "LRecipeScheduler$Command;") "RecipeScheduler$Command" "takesName" "Z") (.int (sCmd 5).1) ∈ FL := List.mem_of_getElem? (i := 73) (by decide +kernel)
theorem en_k5 : Cond.eq (.field (.static "RecipeScheduler$Command" "COOKS" "LRecipeScheduler$Command;") "RecipeScheduler$Command" "takesNumber" "Z") (.int (sCmd 5).2) ∈ FL := List.mem_of_getElem? (i := 74) (by decide +kernel)
theorem st_en5 {args : Array Value} {s : State} {A : Nat → Prop} {sa : Nat → Nat} (hs : ∀ w ∈ FL, w.before args s = true) (hA : ∀ a : Nat, a < s.heap.size → ¬ A a) (ha : ∀ i, i < 38 → (Term.string (sOwn i).1 (sOwn i).2).eval args s none [] s = some (.ref (sa i))) : ∃ a, (Term.static "RecipeScheduler$Command" "COOKS" "LRecipeScheduler$Command;").eval args s none [] s = some (.ref a) ∧ va_O "RecipeScheduler$Command" a A s s.heap ∧ va_OF "java/lang/Enum" "ordinal" "I" (.int (Int32.ofNat 5)) a A s s.heap ∧ va_OF "RecipeScheduler$Command" "word" "Ljava/lang/String;" (.ref (sa (8 + 5))) a A s s.heap ∧ va_OF "RecipeScheduler$Command" "takesName" "Z" (.int (sCmd 5).1) a A s s.heap ∧ va_OF "RecipeScheduler$Command" "takesNumber" "Z" (.int (sCmd 5).2) a A s s.heap := by
  obtain ⟨a, h⟩ := exr (hs _ en_x5)
  exact ⟨a, h, va_Oof (hs _ en_x5) h hA, vk_OFof h (eqv (hs _ en_o5)) hA, vk_OFof h (eqr (hs _ en_w5) (eql (hs _ fq_51) (ha 13 (by decide)))) hA, vk_OFof h (eqv (hs _ en_n5)) hA, vk_OFof h (eqv (hs _ en_k5)) hA⟩
theorem en_x6 : Cond.exactly (.static "RecipeScheduler$Command" "TIME" "LRecipeScheduler$Command;") "RecipeScheduler$Command" ∈ FL := List.mem_of_getElem? (i := 80) (by decide +kernel)
theorem en_o6 : Cond.eq (.field (.static "RecipeScheduler$Command" "TIME" "LRecipeScheduler$Command;") "java/lang/Enum" "ordinal" "I") (.int (Int32.ofNat 6)) ∈ FL := List.mem_of_getElem? (i := 81) (by decide +kernel)
theorem en_w6 : Cond.eq (.field (.static "RecipeScheduler$Command" "TIME" "LRecipeScheduler$Command;") "RecipeScheduler$Command" "word" "Ljava/lang/String;") (.string "RecipeScheduler$Command" 80) ∈ FL := List.mem_of_getElem? (i := 82) (by decide +kernel)
theorem en_n6 : Cond.eq (.field (.static "RecipeScheduler$Command" "TIME" "LRecipeScheduler$Command;") "RecipeScheduler$Command" "takesName" "Z") (.int (sCmd 6).1) ∈ FL := List.mem_of_getElem? (i := 83) (by decide +kernel)
theorem en_k6 : Cond.eq (.field (.static "RecipeScheduler$Command" "TIME" "LRecipeScheduler$Command;") "RecipeScheduler$Command" "takesNumber" "Z") (.int (sCmd 6).2) ∈ FL := List.mem_of_getElem? (i := 84) (by decide +kernel)
theorem st_en6 {args : Array Value} {s : State} {A : Nat → Prop} {sa : Nat → Nat} (hs : ∀ w ∈ FL, w.before args s = true) (hA : ∀ a : Nat, a < s.heap.size → ¬ A a) (ha : ∀ i, i < 38 → (Term.string (sOwn i).1 (sOwn i).2).eval args s none [] s = some (.ref (sa i))) : ∃ a, (Term.static "RecipeScheduler$Command" "TIME" "LRecipeScheduler$Command;").eval args s none [] s = some (.ref a) ∧ va_O "RecipeScheduler$Command" a A s s.heap ∧ va_OF "java/lang/Enum" "ordinal" "I" (.int (Int32.ofNat 6)) a A s s.heap ∧ va_OF "RecipeScheduler$Command" "word" "Ljava/lang/String;" (.ref (sa (8 + 6))) a A s s.heap ∧ va_OF "RecipeScheduler$Command" "takesName" "Z" (.int (sCmd 6).1) a A s s.heap ∧ va_OF "RecipeScheduler$Command" "takesNumber" "Z" (.int (sCmd 6).2) a A s s.heap := by
  obtain ⟨a, h⟩ := exr (hs _ en_x6)
  exact ⟨a, h, va_Oof (hs _ en_x6) h hA, vk_OFof h (eqv (hs _ en_o6)) hA, vk_OFof h (eqr (hs _ en_w6) (eql (hs _ fq_52) (ha 14 (by decide)))) hA, vk_OFof h (eqv (hs _ en_n6)) hA, vk_OFof h (eqv (hs _ en_k6)) hA⟩
theorem en_x7 : Cond.exactly (.static "RecipeScheduler$Command" "SERVE" "LRecipeScheduler$Command;") "RecipeScheduler$Command" ∈ FL := List.mem_of_getElem? (i := 91) (by decide +kernel)
theorem en_o7 : Cond.eq (.field (.static "RecipeScheduler$Command" "SERVE" "LRecipeScheduler$Command;") "java/lang/Enum" "ordinal" "I") (.int (Int32.ofNat 7)) ∈ FL := List.mem_of_getElem? (i := 92) (by decide +kernel)
theorem en_w7 : Cond.eq (.field (.static "RecipeScheduler$Command" "SERVE" "LRecipeScheduler$Command;") "RecipeScheduler$Command" "word" "Ljava/lang/String;") (.string "RecipeScheduler$Command" 83) ∈ FL := List.mem_of_getElem? (i := 93) (by decide +kernel)
theorem en_n7 : Cond.eq (.field (.static "RecipeScheduler$Command" "SERVE" "LRecipeScheduler$Command;") "RecipeScheduler$Command" "takesName" "Z") (.int (sCmd 7).1) ∈ FL := List.mem_of_getElem? (i := 94) (by decide +kernel)
theorem en_k7 : Cond.eq (.field (.static "RecipeScheduler$Command" "SERVE" "LRecipeScheduler$Command;") "RecipeScheduler$Command" "takesNumber" "Z") (.int (sCmd 7).2) ∈ FL := List.mem_of_getElem? (i := 95) (by decide +kernel)
theorem st_en7 {args : Array Value} {s : State} {A : Nat → Prop} {sa : Nat → Nat} (hs : ∀ w ∈ FL, w.before args s = true) (hA : ∀ a : Nat, a < s.heap.size → ¬ A a) (ha : ∀ i, i < 38 → (Term.string (sOwn i).1 (sOwn i).2).eval args s none [] s = some (.ref (sa i))) : ∃ a, (Term.static "RecipeScheduler$Command" "SERVE" "LRecipeScheduler$Command;").eval args s none [] s = some (.ref a) ∧ va_O "RecipeScheduler$Command" a A s s.heap ∧ va_OF "java/lang/Enum" "ordinal" "I" (.int (Int32.ofNat 7)) a A s s.heap ∧ va_OF "RecipeScheduler$Command" "word" "Ljava/lang/String;" (.ref (sa (8 + 7))) a A s s.heap ∧ va_OF "RecipeScheduler$Command" "takesName" "Z" (.int (sCmd 7).1) a A s s.heap ∧ va_OF "RecipeScheduler$Command" "takesNumber" "Z" (.int (sCmd 7).2) a A s s.heap := by
  obtain ⟨a, h⟩ := exr (hs _ en_x7)
  exact ⟨a, h, va_Oof (hs _ en_x7) h hA, vk_OFof h (eqv (hs _ en_o7)) hA, vk_OFof h (eqr (hs _ en_w7) (eql (hs _ fq_53) (ha 15 (by decide)))) hA, vk_OFof h (eqv (hs _ en_n7)) hA, vk_OFof h (eqv (hs _ en_k7)) hA⟩
def eNm (i : Nat) : String := (["PASS", "SALT", "WATER", "STOP", "REDO", "COOKS", "TIME", "SERVE"] : List String).getD i ""
theorem st_enum {args : Array Value} {s : State} {A : Nat → Prop} {sa : Nat → Nat} (hs : ∀ w ∈ FL, w.before args s = true) (hA : ∀ a : Nat, a < s.heap.size → ¬ A a) (ha : ∀ i, i < 38 → (Term.string (sOwn i).1 (sOwn i).2).eval args s none [] s = some (.ref (sa i))) : ∀ i, i < 8 → ∃ a, (Term.static "RecipeScheduler$Command" (eNm i) "LRecipeScheduler$Command;").eval args s none [] s = some (.ref a) ∧ va_O "RecipeScheduler$Command" a A s s.heap ∧ va_OF "java/lang/Enum" "ordinal" "I" (.int (Int32.ofNat i)) a A s s.heap ∧ va_OF "RecipeScheduler$Command" "word" "Ljava/lang/String;" (.ref (sa (8 + i))) a A s s.heap ∧ va_OF "RecipeScheduler$Command" "takesName" "Z" (.int (sCmd i).1) a A s s.heap ∧ va_OF "RecipeScheduler$Command" "takesNumber" "Z" (.int (sCmd i).2) a A s s.heap := by
  intro i hi
  match i, hi with
  | 0, _ => exact st_en0 hs hA ha
  | 1, _ => exact st_en1 hs hA ha
  | 2, _ => exact st_en2 hs hA ha
  | 3, _ => exact st_en3 hs hA ha
  | 4, _ => exact st_en4 hs hA ha
  | 5, _ => exact st_en5 hs hA ha
  | 6, _ => exact st_en6 hs hA ha
  | 7, _ => exact st_en7 hs hA ha
  | n + 8, h => exact absurd h (by omega)
theorem cm_a : Cond.arrayOf (.static "RecipeScheduler" "COMMANDS" "[LRecipeScheduler$Command;") (.object "RecipeScheduler$Command") ∈ FL := List.mem_of_getElem? (i := 18) (by decide +kernel)
theorem cm_l : Cond.eq (.length (.static "RecipeScheduler" "COMMANDS" "[LRecipeScheduler$Command;")) (.int (Int32.ofNat 8)) ∈ FL := List.mem_of_getElem? (i := 19) (by decide +kernel)
theorem cm_e : ∀ j, j < 8 → FL[21 + j]? = some (Cond.eq (.elem (.static "RecipeScheduler" "COMMANDS" "[LRecipeScheduler$Command;") (.int (Int32.ofNat j))) (.static "RecipeScheduler$Command" (eNm j) "LRecipeScheduler$Command;")) := by decide +kernel
theorem sw_a : Cond.arrayOf (.static "RecipeScheduler$1" "$SwitchMap$RecipeScheduler$Command" "[I") .int ∈ FL := List.mem_of_getElem? (i := 30) (by decide +kernel)
theorem sw_l : Cond.eq (.length (.static "RecipeScheduler$1" "$SwitchMap$RecipeScheduler$Command" "[I")) (.int (Int32.ofNat 8)) ∈ FL := List.mem_of_getElem? (i := 31) (by decide +kernel)
theorem sw_e : ∀ j, j < 8 → FL[32 + j]? = some (Cond.eq (.elem (.static "RecipeScheduler$1" "$SwitchMap$RecipeScheduler$Command" "[I") (.int (Int32.ofNat j))) (.int (sSw j))) := by decide +kernel
theorem jd_c : Cond.eq (.static "java/lang/String" "COMPACT_STRINGS" "Z") (.int 1) ∈ FL := List.mem_of_getElem? (i := 4) (by decide +kernel)
theorem jd_f : Cond.isRef (.static "jdk/internal/util/Preconditions" "SIOOBE_FORMATTER" "Ljava/util/function/BiFunction;") ∈ FL := List.mem_of_getElem? (i := 5) (by decide +kernel)
theorem jd_u : Cond.isRef (.static Bundle.tN "UNASSIGNED_STACK" Bundle.steD) ∈ FL := List.mem_of_getElem? (i := 14) (by decide +kernel)
theorem jd_s : Cond.isRef (.static Bundle.tN "SUPPRESSED_SENTINEL" Bundle.listD) ∈ FL := List.mem_of_getElem? (i := 15) (by decide +kernel)
theorem nc_0 : Cond.not (.castable "java/lang/IllegalArgumentException" "java/lang/IndexOutOfBoundsException") ∈ FL := List.mem_of_getElem? (i := 146) (by decide +kernel)
theorem nc_1 : Cond.not (.castable "java/lang/IllegalStateException" "java/lang/IllegalArgumentException") ∈ FL := List.mem_of_getElem? (i := 130) (by decide +kernel)
theorem nc_2 : Cond.not (.castable "java/lang/IllegalStateException" "java/lang/IndexOutOfBoundsException") ∈ FL := List.mem_of_getElem? (i := 145) (by decide +kernel)
theorem tb_l0 : Cond.laysStatic "java/lang/String" "COMPACT_STRINGS" "Z" ∈ lw_tbl := by decide +kernel
theorem tb_i0 : Cond.initialized "java/lang/String" ∈ lw_tbl := by decide +kernel
theorem tb_l1 : Cond.laysStatic "jdk/internal/util/Preconditions" "SIOOBE_FORMATTER" "Ljava/util/function/BiFunction;" ∈ lw_tbl := by decide +kernel
theorem tb_i1 : Cond.initialized "jdk/internal/util/Preconditions" ∈ lw_tbl := by decide +kernel
theorem tb_l2 : Cond.laysStatic Bundle.tN "UNASSIGNED_STACK" Bundle.steD ∈ lw_tbl := by decide +kernel
theorem tb_i2 : Cond.initialized Bundle.tN ∈ lw_tbl := by decide +kernel
theorem tb_l3 : Cond.laysStatic Bundle.tN "SUPPRESSED_SENTINEL" Bundle.listD ∈ lw_tbl := by decide +kernel
theorem tb_i3 : Cond.initialized Bundle.tN ∈ lw_tbl := by decide +kernel
theorem tb_l4 : Cond.laysStatic "RecipeScheduler" "COMMANDS" "[LRecipeScheduler$Command;" ∈ lw_tbl := by decide +kernel
theorem tb_i4 : Cond.initialized "RecipeScheduler" ∈ lw_tbl := by decide +kernel
theorem tb_l5 : Cond.laysStatic "RecipeScheduler$1" "$SwitchMap$RecipeScheduler$Command" "[I" ∈ lw_tbl := by decide +kernel
theorem tb_i5 : Cond.initialized "RecipeScheduler$1" ∈ lw_tbl := by decide +kernel
theorem tb_l6 : Cond.laysStatic "RecipeScheduler$Command" "PASS" "LRecipeScheduler$Command;" ∈ lw_tbl := by decide +kernel
theorem tb_i6 : Cond.initialized "RecipeScheduler$Command" ∈ lw_tbl := by decide +kernel
/-- the constants' addresses -/
def cstOf (ea sa va : Nat → Nat) (c0 w0 : Nat) : Nat → Nat → Nat → Nat := fun k g _ => if k = 20 then ea g else if k = 21 then sa g else if k = 22 then va g else if k = 24 then c0 else w0
theorem st_below {args : Array Value} {s : State} (hs : ∀ w ∈ FL, w.before args s = true) (hts : ∀ w ∈ lw_tbl, w.before args s = true) : ∃ cst, Stt s.heap.size (adr s.heap.size cst) s s.heap := by
  have hA : ∀ a : Nat, a < s.heap.size → ¬ (fun q : Nat => s.heap.size ≤ q) a := fun a h => Nat.not_le.mpr h
  obtain ⟨sa, hsa⟩ := skol (st_ex hs)
  obtain ⟨va, hva⟩ := skol (st_str (A := fun q : Nat => s.heap.size ≤ q) hs hA hsa)
  obtain ⟨ea, hea⟩ := skol (st_enum (A := fun q : Nat => s.heap.size ≤ q) hs hA hsa)
  obtain ⟨c0, hc0, hcT⟩ := va_Tof (A := fun q : Nat => s.heap.size ≤ q) (N := 8) (f := fun j => .ref (ea j)) (by decide) (hs _ cm_a) (eqv (hs _ cm_l)) (fun j hj => eqr (hs _ (List.mem_of_getElem? (cm_e j hj))) (hea j hj).1) hA
  obtain ⟨w0, hw0, hwT⟩ := va_Tof (A := fun q : Nat => s.heap.size ≤ q) (N := 8) (f := fun j => .int (sSw j)) (by decide) (hs _ sw_a) (eqv (hs _ sw_l)) (fun j hj => eqv (hs _ (List.mem_of_getElem? (sw_e j hj)))) hA
  have e20 : ∀ i o, adr s.heap.size (cstOf ea sa va c0 w0) 20 i o = ea i := fun i o => by rw [adr_hi (by omega)]; rfl
  have e21 : ∀ i o, adr s.heap.size (cstOf ea sa va c0 w0) 21 i o = sa i := fun i o => by rw [adr_hi (by omega)]; rfl
  have e22 : ∀ i o, adr s.heap.size (cstOf ea sa va c0 w0) 22 i o = va i := fun i o => by rw [adr_hi (by omega)]; rfl
  have e24 : adr s.heap.size (cstOf ea sa va c0 w0) 24 0 0 = c0 := by rw [adr_hi (by omega)]; rfl
  have e25 : adr s.heap.size (cstOf ea sa va c0 w0) 25 0 0 = w0 := by rw [adr_hi (by omega)]; rfl
  refine ⟨cstOf ea sa va c0 w0, fun i hi => ?_, fun r hr => ?_, fun i hi => ?_, ⟨?_, ?_⟩, ⟨?_, ?_⟩, ?_, ?_, ?_, ?_, ?_⟩
  · rw [e21, e22]; exact hva i hi
  · rw [e21]; exact st_tab hs hts hsa r hr
  · rw [e20, e21]; exact (hea i hi).2
  · rw [e24]; exact va_Zof (hts _ tb_l4) (hts _ tb_i4) hc0 hA
  · rw [e24]
    have : (fun j => Value.ref (adr s.heap.size (cstOf ea sa va c0 w0) 20 j 0)) = fun j => .ref (ea j) := by funext j; rw [e20]
    rw [this]; exact hcT
  · rw [e25]; exact va_Zof (hts _ tb_l5) (hts _ tb_i5) hw0 hA
  · rw [e25]; exact hwT
  · exact va_Zof (hts _ tb_l0) (hts _ tb_i0) (eqv (hs _ jd_c)) hA
  · exact va_Zqof (hts _ tb_l1) (hts _ tb_i1) (hs _ jd_f) hA
  · exact vx_Zqof (hts _ tb_l2) (hts _ tb_i2) (hs _ jd_u) hA
  · exact vx_Zqof (hts _ tb_l3) (hts _ tb_i3) (hs _ jd_s) hA
  · rw [e20]; exact va_Zof (hts _ tb_l6) (hts _ tb_i6) (hea 0 (by decide)).1 hA
theorem st_exw {args : Array Value} {s : State} (hs : ∀ w ∈ FL, w.before args s = true) : Exw s := ⟨va_Nc.of (hs _ nc_0), va_Nc.of (hs _ nc_1), va_Nc.of (hs _ nc_2)⟩
theorem tb_sub : ∀ w ∈ tables_1, w ∈ lw_tbl := fun _ h => List.mem_append_right _ h
theorem st_nst {args : Array Value} {s : State} (hts : ∀ w ∈ lw_tbl, w.before args s = true) : Nst s := fun w hw => va_tabs (isNestW_tab (List.mem_filter.mp hw).2) rfl (hts w (tb_sub w (List.mem_filter.mp hw).1))
theorem ao_8 : Cond.arrayOver (.object RX8) ∈ lw_tbl := by decide +kernel
theorem ao_1 : Cond.arrayOver (.object RX1) ∈ lw_tbl := by decide +kernel
theorem ao_b : Cond.arrayOver (.array .byte) ∈ lw_tbl := by decide +kernel
theorem ao_i : Cond.arrayOver (.array .int) ∈ lw_tbl := by decide +kernel
theorem ac_i : Cond.arrayClass .int ∈ lw_tbl := by decide +kernel
theorem ac_b : Cond.arrayClass .byte ∈ lw_tbl := by decide +kernel
theorem ac_z : Cond.arrayClass .boolean ∈ lw_tbl := by decide +kernel
theorem ac_l : Cond.arrayClass .long ∈ lw_tbl := by decide +kernel
theorem st_aov {args : Array Value} {s : State} (hts : ∀ w ∈ lw_tbl, w.before args s = true) : Aov s := ⟨va_AO.of (hts _ ao_8), va_AO.of (hts _ ao_1), AOA.of (hts _ ao_b), AOA.of (hts _ ao_i)⟩
theorem ar_q {args : Array Value} {s : State} {C : String} (h : (Cond.arrayOver (.object C)).before args s = true) : ∃ cA, ArrOfT s cA (.object C) ∧ va_RA s cA (.object C) := by
  obtain ⟨comp, c, k, h1, -, h3, h4, h5⟩ := Cond.arrayOver_spec h
  exact ⟨c, fun n z => ⟨(fun k h => by cases h), k, h3, comp, h4⟩, k, comp, h3, h4, h1, h5⟩
theorem ar_a {s : State} {ty : FieldType} (h : AOA ty s) : ∃ cA, ArrOfT s cA (.array ty) ∧ va_RA s cA (.array ty) := by
  obtain ⟨comp, cA, kA, h1, h2, h3, h4⟩ := h
  exact ⟨cA, fun n z => ⟨(fun k h => by cases h), kA, h2, comp, h3⟩, h4⟩
theorem ar_p {args : Array Value} {s : State} {ty : FieldType} (hty : ∀ c, va_RA s c ty = (s.vm.findClass ("[" ++ ty.toString) = some c)) (h : (Cond.arrayClass ty).before args s = true) : ∃ cA, ArrOfT s cA ty ∧ va_RA s cA ty := by
  obtain ⟨c, k, comp, h1, h2, h3⟩ := Cond.arrayClass_spec h
  exact ⟨c, fun n z => ⟨(fun k h => by cases h), k, h2, comp, h3⟩, by rw [hty]; exact h1⟩
theorem st_arr {args : Array Value} {s : State} (hts : ∀ w ∈ lw_tbl, w.before args s = true) : ∃ T : Nat → ClassId, ∀ (k : Nat) (q : ClassId × FieldType), (ftys T)[k]? = some q → ArrOfT s q.1 q.2 ∧ va_RA s q.1 q.2 := by
  have hO := st_aov hts
  obtain ⟨t0, h0⟩ := ar_p (fun _ => rfl) (hts _ ac_i)
  obtain ⟨t1, h1⟩ := ar_p (fun _ => rfl) (hts _ ac_b)
  obtain ⟨t2, h2⟩ := ar_p (fun _ => rfl) (hts _ ac_z)
  obtain ⟨t3, h3⟩ := ar_q (hts _ ao_8)
  obtain ⟨t4, h4⟩ := ar_a hO.2.2.1
  obtain ⟨t5, h5⟩ := ar_a hO.2.2.2
  obtain ⟨t6, h6⟩ := ar_q (hts _ ao_1)
  obtain ⟨t7, h7⟩ := ar_p (fun _ => rfl) (hts _ ac_l)
  refine ⟨fun k => [t0, t1, t2, t3, t4, t5, t6, t7].getD k t0, fun k q hq => ?_⟩
  match k, hq with
  | 0, hq => cases hq; exact h0
  | 1, hq => cases hq; exact h1
  | 2, hq => cases hq; exact h2
  | 3, hq => cases hq; exact h3
  | 4, hq => cases hq; exact h4
  | 5, hq => cases hq; exact h5
  | 6, hq => cases hq; exact h6
  | 7, hq => cases hq; exact h7
  | k + 8, hq => simp [ftys] at hq
theorem uk_2 : ∀ w ∈ u_ws RX2 TX2 3, w ∈ lw_tbl := by decide +kernel
theorem ui_2 : Cond.instantiable RX2 3 ∈ lw_tbl := by decide +kernel
theorem uk_3 : ∀ w ∈ u_ws RX3 TX3 5, w ∈ lw_tbl := by decide +kernel
theorem ui_3 : Cond.instantiable RX3 5 ∈ lw_tbl := by decide +kernel
theorem uk_4 : ∀ w ∈ u_ws RX4 TX4 3, w ∈ lw_tbl := by decide +kernel
theorem ui_4 : Cond.instantiable RX4 3 ∈ lw_tbl := by decide +kernel
theorem uk_5 : ∀ w ∈ u_ws RX5 TX5 17, w ∈ lw_tbl := by decide +kernel
theorem ui_5 : Cond.instantiable RX5 17 ∈ lw_tbl := by decide +kernel
theorem uk_6 : ∀ w ∈ u_ws RX6 TX6 5, w ∈ lw_tbl := by decide +kernel
theorem ui_6 : Cond.instantiable RX6 5 ∈ lw_tbl := by decide +kernel
theorem uk_7 : ∀ w ∈ u_ws RX7 TX7 1, w ∈ lw_tbl := by decide +kernel
theorem ui_7 : Cond.instantiable RX7 1 ∈ lw_tbl := by decide +kernel
theorem uk_8 : ∀ w ∈ u_ws RX8 TX8 15, w ∈ lw_tbl := by decide +kernel
theorem ui_8 : Cond.instantiable RX8 15 ∈ lw_tbl := by decide +kernel
theorem uk_9 : ∀ w ∈ u_ws RX9 TX9 2, w ∈ lw_tbl := by decide +kernel
theorem ui_9 : Cond.instantiable RX9 2 ∈ lw_tbl := by decide +kernel
theorem uk_10 : ∀ w ∈ u_ws RX10 TX10 6, w ∈ lw_tbl := by decide +kernel
theorem ui_10 : Cond.instantiable RX10 6 ∈ lw_tbl := by decide +kernel
theorem uk_11 : ∀ w ∈ u_ws RX11 TX11 11, w ∈ lw_tbl := by decide +kernel
theorem ui_11 : Cond.instantiable RX11 11 ∈ lw_tbl := by decide +kernel
theorem uk_12 : ∀ w ∈ u_ws RX12 TX12 19, w ∈ lw_tbl := by decide +kernel
theorem ui_12 : Cond.instantiable RX12 19 ∈ lw_tbl := by decide +kernel
theorem st_cls {args : Array Value} {s : State} (hts : ∀ w ∈ lw_tbl, w.before args s = true) : ∃ D : va_G, ∀ (k : Nat) (q : vw_C), vwCl[k]? = some q → u_Kn s q.1 q.2.1 q.2.2 (D.1 k) (D.2 k) := by
  obtain ⟨c2, i2, h2⟩ := u_known (C := RX2) (T := TX2) (N := 3) (n := 3) hts uk_2 (hts _ ui_2)
  obtain ⟨c3, i3, h3⟩ := u_known (C := RX3) (T := TX3) (N := 5) (n := 5) hts uk_3 (hts _ ui_3)
  obtain ⟨c4, i4, h4⟩ := u_known (C := RX4) (T := TX4) (N := 3) (n := 3) hts uk_4 (hts _ ui_4)
  obtain ⟨c5, i5, h5⟩ := u_known (C := RX5) (T := TX5) (N := 17) (n := 17) hts uk_5 (hts _ ui_5)
  obtain ⟨c6, i6, h6⟩ := u_known (C := RX6) (T := TX6) (N := 5) (n := 5) hts uk_6 (hts _ ui_6)
  obtain ⟨c7, i7, h7⟩ := u_known (C := RX7) (T := TX7) (N := 1) (n := 1) hts uk_7 (hts _ ui_7)
  obtain ⟨c8, i8, h8⟩ := u_known (C := RX8) (T := TX8) (N := 15) (n := 15) hts uk_8 (hts _ ui_8)
  obtain ⟨c9, i9, h9⟩ := u_known (C := RX9) (T := TX9) (N := 2) (n := 2) hts uk_9 (hts _ ui_9)
  obtain ⟨c10, i10, h10⟩ := u_known (C := RX10) (T := TX10) (N := 6) (n := 6) hts uk_10 (hts _ ui_10)
  obtain ⟨c11, i11, h11⟩ := u_known (C := RX11) (T := TX11) (N := 11) (n := 11) hts uk_11 (hts _ ui_11)
  obtain ⟨c12, i12, h12⟩ := u_known (C := RX12) (T := TX12) (N := 19) (n := 19) hts uk_12 (hts _ ui_12)
  refine ⟨(fun k => [c2, c3, c4, c5, c6, c7, c8, c9, c10, c11, c12].getD k c2, fun k => ([i2, i3, i4, i5, i6, i7, i8, i9, i10, i11, i12] : List (Nat → Nat)).getD k i2), fun k q hq => ?_⟩
  match k, hq with
  | 0, hq => cases hq; exact h2
  | 1, hq => cases hq; exact h3
  | 2, hq => cases hq; exact h4
  | 3, hq => cases hq; exact h5
  | 4, hq => cases hq; exact h6
  | 5, hq => cases hq; exact h7
  | 6, hq => cases hq; exact h8
  | 7, hq => cases hq; exact h9
  | 8, hq => cases hq; exact h10
  | 9, hq => cases hq; exact h11
  | 10, hq => cases hq; exact h12
  | k + 11, hq => simp [vwCl] at hq
theorem st_K {args : Array Value} {s : State} (hts : ∀ w ∈ lw_tbl, w.before args s = true) : ∃ (D : va_G) (T : Nat → ClassId), va_K D vwCl (ftys T) s := by
  obtain ⟨D, hD⟩ := st_cls hts
  obtain ⟨T, hT⟩ := st_arr hts
  exact ⟨D, T, hD, hT⟩
