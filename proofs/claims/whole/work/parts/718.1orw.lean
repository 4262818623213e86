/-! PHASE 3: isAllowed, carryOut, runScript over their own words -/
def wsO11_isAllowed_r1 : List Cond := [Cond.fieldLink RX11 442 "RecipeScheduler$1" "$SwitchMap$RecipeScheduler$Command" "[I", Cond.fieldLink RX11 67 "RecipeScheduler" "now" "LRecipeScheduler$Kitchen;", Cond.methodLink RX11 447 ⟨"RecipeScheduler$Command", "ordinal", "()I"⟩, Cond.sameMethod "RecipeScheduler$Command" "java/lang/Enum" "ordinal" "()I", Cond.selects RX1 ⟨"RecipeScheduler$Command", "ordinal", "()I"⟩ yJx29ce0_ordinal_8abf5, Cond.instanceMethod yJx29ce0_ordinal_8abf5, Cond.initialized RX11, Cond.code yJx29ce0_ordinal_8abf5 cJx29ce0_ordinal_8abf5 1 (some .int), Cond.fieldLink RJx29ce0 7 "java/lang/Enum" "ordinal" "I", Cond.methodLink RX11 333 yX11_isPassLength, Cond.instanceMethod yX11_isPassLength, Cond.selects RX11 yX11_isPassLength yX11_isPassLength, Cond.initialized RX11, Cond.code yX11_isPassLength cX11_isPassLength 2 (some .boolean), Cond.methodLink RX11 105 yX11_isWithin, Cond.static yX11_isWithin, Cond.code yX11_isWithin cX11_isWithin 3 (some .boolean), Cond.methodLink RX11 336 yX11_fitsClock, Cond.instanceMethod yX11_fitsClock, Cond.selects RX11 yX11_fitsClock yX11_fitsClock, Cond.code yX11_fitsClock cX11_fitsClock 2 (some .boolean), Cond.methodLink RX11 345 yX11_isSaltAmount, Cond.instanceMethod yX11_isSaltAmount, Cond.selects RX11 yX11_isSaltAmount yX11_isSaltAmount]
def wsO11_carryOut_r1 : List Cond := [Cond.fieldLink RX11 442 "RecipeScheduler$1" "$SwitchMap$RecipeScheduler$Command" "[I", Cond.fieldLink RX11 67 "RecipeScheduler" "now" "LRecipeScheduler$Kitchen;", Cond.methodLink RX11 447 ⟨"RecipeScheduler$Command", "ordinal", "()I"⟩, Cond.sameMethod "RecipeScheduler$Command" "java/lang/Enum" "ordinal" "()I", Cond.selects RX1 ⟨"RecipeScheduler$Command", "ordinal", "()I"⟩ yJx29ce0_ordinal_8abf5, Cond.instanceMethod yJx29ce0_ordinal_8abf5, Cond.initialized RX11, Cond.code yJx29ce0_ordinal_8abf5 cJx29ce0_ordinal_8abf5 1 (some .int), Cond.fieldLink RJx29ce0 7 "java/lang/Enum" "ordinal" "I", Cond.methodLink RX11 298 yX3_runMinutes, Cond.instanceMethod yX3_runMinutes, Cond.selects RX3 yX3_runMinutes yX3_runMinutes, Cond.initialized RX3, Cond.code yX3_runMinutes cX3_runMinutes 4 (some .int), Cond.methodLink RX3 40 yX3_rank, Cond.instanceMethod yX3_rank, Cond.selects RX3 yX3_rank yX3_rank, Cond.code yX3_rank cX3_rank 3 none, Cond.fieldLink RX3 28 "RecipeScheduler$Kitchen" "recipe" "LRecipeScheduler$Recipe;", Cond.fieldLink RX3 18 "RecipeScheduler$Kitchen" "path" "[I", Cond.fieldLink RX3 12 "RecipeScheduler$Kitchen" "state" "LRecipeScheduler$State;", Cond.fieldLink RX3 22 "RecipeScheduler$Kitchen" "order" "[I", Cond.methodLink RX3 159 yX3_longestOf, Cond.instanceMethod yX3_longestOf]
def wsO11_runScript_r8 : List Cond := [Cond.fieldLink RX8 53 "RecipeScheduler$State" "running" "I", Cond.fieldLink RX8 56 "RecipeScheduler$State" "done" "I", Cond.fieldLink RX8 59 "RecipeScheduler$State" "burnt" "I", Cond.fieldLink RX8 9 "RecipeScheduler$State" "duration" "[I", Cond.methodLink RX8 63 arraycopyName, Cond.native arraycopyName, Cond.static arraycopyName, Cond.initialized "java/lang/System", Cond.fieldLink RX8 15 "RecipeScheduler$State" "remaining" "[I", Cond.fieldLink RX8 18 "RecipeScheduler$State" "age" "[I", Cond.fieldLink RX8 21 "RecipeScheduler$State" "starts" "[I", Cond.fieldLink RX8 24 "RecipeScheduler$State" "completions" "[I", Cond.fieldLink RX8 27 "RecipeScheduler$State" "burns" "[I", Cond.methodLink RX11 390 yX11_isAllowed, Cond.instanceMethod yX11_isAllowed, Cond.selects RX11 yX11_isAllowed yX11_isAllowed, Cond.code yX11_isAllowed cX11_isAllowed 4 (some .boolean), Cond.fieldLink RX11 442 "RecipeScheduler$1" "$SwitchMap$RecipeScheduler$Command" "[I", Cond.methodLink RX11 447 ⟨"RecipeScheduler$Command", "ordinal", "()I"⟩, Cond.sameMethod "RecipeScheduler$Command" "java/lang/Enum" "ordinal" "()I", Cond.selects RX1 ⟨"RecipeScheduler$Command", "ordinal", "()I"⟩ yJx29ce0_ordinal_8abf5, Cond.instanceMethod yJx29ce0_ordinal_8abf5, Cond.initialized RX11, Cond.code yJx29ce0_ordinal_8abf5 cJx29ce0_ordinal_8abf5 1 (some .int)]
def wsOL_runScript_r9 : List Cond := [Cond.sameMethod "RecipeScheduler$Command" "java/lang/Enum" "ordinal" "()I", Cond.selects RX1 ⟨"RecipeScheduler$Command", "ordinal", "()I"⟩ yJx29ce0_ordinal_8abf5, Cond.instanceMethod yJx29ce0_ordinal_8abf5, Cond.initialized RX11, Cond.code yJx29ce0_ordinal_8abf5 cJx29ce0_ordinal_8abf5 1 (some .int), Cond.fieldLink RJx29ce0 7 "java/lang/Enum" "ordinal" "I", Cond.methodLink RX11 333 yX11_isPassLength, Cond.instanceMethod yX11_isPassLength, Cond.selects RX11 yX11_isPassLength yX11_isPassLength, Cond.code yX11_isPassLength cX11_isPassLength 2 (some .boolean), Cond.methodLink RX11 105 yX11_isWithin, Cond.methodLink RX11 336 yX11_fitsClock, Cond.instanceMethod yX11_fitsClock, Cond.selects RX11 yX11_fitsClock yX11_fitsClock, Cond.code yX11_fitsClock cX11_fitsClock 2 (some .boolean), Cond.methodLink RX11 345 yX11_isSaltAmount, Cond.instanceMethod yX11_isSaltAmount, Cond.selects RX11 yX11_isSaltAmount yX11_isSaltAmount, Cond.code yX11_isSaltAmount cX11_isSaltAmount 2 (some .boolean), Cond.methodLink RX11 208 yX11_contains, Cond.static yX11_contains, Cond.code yX11_contains cX11_contains 2 (some .boolean), Cond.methodLink RX11 361 yX3_isRedoable, Cond.instanceMethod yX3_isRedoable]
def wsOL_law0_r61 : List Cond := [Cond.methodLink RX6 75 yX10_expectSemicolon, Cond.methodLink RX11 390 yX11_isAllowed, Cond.instanceMethod yX11_isAllowed, Cond.selects RX11 yX11_isAllowed yX11_isAllowed, Cond.code yX11_isAllowed cX11_isAllowed 4 (some .boolean), Cond.fieldLink RX11 442 "RecipeScheduler$1" "$SwitchMap$RecipeScheduler$Command" "[I", Cond.methodLink RX11 447 ⟨"RecipeScheduler$Command", "ordinal", "()I"⟩, Cond.sameMethod "RecipeScheduler$Command" "java/lang/Enum" "ordinal" "()I", Cond.selects RX1 ⟨"RecipeScheduler$Command", "ordinal", "()I"⟩ yJx29ce0_ordinal_8abf5, Cond.instanceMethod yJx29ce0_ordinal_8abf5, Cond.initialized RX11, Cond.code yJx29ce0_ordinal_8abf5 cJx29ce0_ordinal_8abf5 1 (some .int), Cond.fieldLink RJx29ce0 7 "java/lang/Enum" "ordinal" "I", Cond.methodLink RX11 394 yX11_carryOut, Cond.instanceMethod yX11_carryOut, Cond.selects RX11 yX11_carryOut yX11_carryOut, Cond.code yX11_carryOut cX11_carryOut 4 none, Cond.methodLink RL 357 yX12_runScript, Cond.instanceMethod yX12_runScript, Cond.selects RX12 yX12_runScript yX12_runScript, Cond.code yX12_runScript cX12_runScript 3 (some .int), Cond.methodLink RX12 286 yX12_parseScript, Cond.instanceMethod yX12_parseScript, Cond.selects RX12 yX12_parseScript yX12_parseScript]
def wsO11_isAllowed : List Cond := .code yX11_isAllowed cX11_isAllowed 4 (some .boolean) :: ((wsO11_isAllowed_r1 ++ (wsX11_isAllowed_r2 ++ wsX11_isAllowed_r3)) ++ wsX110 ++ wsX30 ++ wsX80 ++ wsX50 ++ wsX40)
def wsO11_carryOut : List Cond := .code yX11_carryOut cX11_carryOut 4 none :: ((wsO11_carryOut_r1 ++ (wsX11_carryOut_r2 ++ (wsX11_carryOut_r3 ++ (wsX11_carryOut_r4 ++ wsX11_carryOut_r5)))) ++ wsX110 ++ wsX30 ++ wsX80 ++ wsX50 ++ wsX40)
def wsO11_runScript : List Cond := .code yX11_runScript cX11_runScript 5 (some .int) :: ((wsX11_runScript_r1 ++ (wsX11_runScript_r2 ++ (wsX11_runScript_r3 ++ (wsX11_runScript_r4 ++ (wsX11_runScript_r5 ++ (wsX11_runScript_r6 ++ (wsX11_runScript_r7 ++ (wsO11_runScript_r8 ++ (wsX11_runScript_r9 ++ (wsX11_runScript_r10 ++ (wsX11_runScript_r11 ++ (wsX11_runScript_r12 ++ (wsX11_runScript_r13 ++ wsX11_runScript_r14))))))))))))) ++ wsX110 ++ wsX30 ++ wsX50 ++ wsX90 ++ wsX60 ++ wsX100 ++ wsX40 ++ wsX20 ++ wsX80 ++ (vx_atS RX11 113 "java/lang/IllegalArgumentException" ["java/lang/RuntimeException", "java/lang/Exception"]).filter goodWord)
def wsOL_runScript : List Cond := .codeWith yL_runScript cL_runScript 3 (some .int) [(0, 8, 11, 19)] :: ((wsL_runScript_r1 ++ (wsL_runScript_r2 ++ (wsL_runScript_r3 ++ (wsL_runScript_r4 ++ (wsL_runScript_r5 ++ (wsL_runScript_r6 ++ (wsL_runScript_r7 ++ (wsL_runScript_r8 ++ (wsOL_runScript_r9 ++ (wsL_runScript_r10 ++ (wsL_runScript_r11 ++ (wsL_runScript_r12 ++ (wsL_runScript_r13 ++ wsL_runScript_r14))))))))))))) ++ wsX110 ++ wsX30 ++ wsX50 ++ wsX90 ++ wsX60 ++ wsX100 ++ wsX40 ++ wsX20 ++ wsX80 ++ (vx_atS RX11 113 "java/lang/IllegalArgumentException" ["java/lang/RuntimeException", "java/lang/Exception"]).filter goodWord)
set_option maxRecDepth 20000 in
theorem ggO11_isAllowed_Jx29ce0_ordinal_8abf5 : GoodIn wsO11_isAllowed wsJx29ce0_ordinal_8abf5 := goodIn_r _ [8, 9] rfl (by decide +kernel)
set_option maxRecDepth 20000 in
theorem gO11_isAllowed_ord : GoodIn wsO11_isAllowed (wsU0 RX11 447 RX1 "java/lang/Enum" ⟨"RecipeScheduler$Command", "ordinal", "()I"⟩ yJx29ce0_ordinal_8abf5 wsJx29ce0_ordinal_8abf5) := goodIn_app (goodIn_of _ (by decide +kernel)) ggO11_isAllowed_Jx29ce0_ordinal_8abf5
set_option maxRecDepth 20000 in
theorem ggO11_isAllowed_X11_isPassLength : GoodIn wsO11_isAllowed wsX11_isPassLength := goodIn_r _ [14, 15, 16, 13, 17] rfl (by decide +kernel)
set_option maxRecDepth 20000 in
theorem gO11_isAllowed_X11_isPassLength : GoodIn wsO11_isAllowed (wsV RX11 333 RX11 yX11_isPassLength wsX11_isPassLength) := goodIn_app (goodIn_of _ (by decide +kernel)) ggO11_isAllowed_X11_isPassLength
set_option maxRecDepth 20000 in
theorem ggO11_isAllowed_X11_fitsClock : GoodIn wsO11_isAllowed wsX11_fitsClock := goodIn_r _ [21, 2, 62, 63, 64, 65, 66, 67, 68, 69, 70, 71, 72, 73, 74, 75, 76, 77, 78, 79, 80, 81, 82, 83, 84, 85, 86, 87, 88, 89, 90, 91, 92] rfl (by decide +kernel)
set_option maxRecDepth 20000 in
theorem gO11_isAllowed_X11_fitsClock : GoodIn wsO11_isAllowed (wsV RX11 336 RX11 yX11_fitsClock wsX11_fitsClock) := goodIn_app (goodIn_of _ (by decide +kernel)) ggO11_isAllowed_X11_fitsClock
set_option maxRecDepth 20000 in
theorem ggO11_isAllowed_X11_isSaltAmount : GoodIn wsO11_isAllowed wsX11_isSaltAmount := goodIn_r _ [25, 15, 16, 13, 17] rfl (by decide +kernel)
set_option maxRecDepth 20000 in
theorem gO11_isAllowed_X11_isSaltAmount : GoodIn wsO11_isAllowed (wsV RX11 345 RX11 yX11_isSaltAmount wsX11_isSaltAmount) := goodIn_app (goodIn_of _ (by decide +kernel)) ggO11_isAllowed_X11_isSaltAmount
set_option maxRecDepth 20000 in
theorem ggO11_isAllowed_X11_contains : GoodIn wsO11_isAllowed wsX11_contains := goodIn_r _ [28] rfl (by decide +kernel)
set_option maxRecDepth 20000 in
theorem gO11_isAllowed_X11_contains : GoodIn wsO11_isAllowed (va_wsS RX11 208 yX11_contains wsX11_contains) := goodIn_app (goodIn_of _ (by decide +kernel)) ggO11_isAllowed_X11_contains
set_option maxRecDepth 20000 in
theorem ggO11_isAllowed_X3_isRedoable : GoodIn wsO11_isAllowed wsX3_isRedoable := goodIn_r _ [33, 34, 27, 13, 28, 35, 36, 37, 32, 38, 39, 73, 74, 75, 76, 77, 78, 79, 80, 81, 82, 83, 84, 85, 86, 87, 88, 89, 90, 91, 92, 93, 94, 95, 96, 97, 98, 99, 100, 101, 102, 103, 104, 105, 106, 107, 108, 109] rfl (by decide +kernel)
set_option maxRecDepth 20000 in
theorem gO11_isAllowed_X3_isRedoable : GoodIn wsO11_isAllowed (wsV RX11 361 RX3 yX3_isRedoable wsX3_isRedoable) := goodIn_app (goodIn_of _ (by decide +kernel)) ggO11_isAllowed_X3_isRedoable
set_option maxRecDepth 20000 in
theorem ggO11_isAllowed_X11_isCookCount : GoodIn wsO11_isAllowed wsX11_isCookCount := goodIn_r _ [43, 15, 16, 13, 17] rfl (by decide +kernel)
set_option maxRecDepth 20000 in
theorem gO11_isAllowed_X11_isCookCount : GoodIn wsO11_isAllowed (wsV RX11 435 RX11 yX11_isCookCount wsX11_isCookCount) := goodIn_app (goodIn_of _ (by decide +kernel)) ggO11_isAllowed_X11_isCookCount
set_option maxRecDepth 20000 in
theorem ggO11_isAllowed_X11_isDuration : GoodIn wsO11_isAllowed wsX11_isDuration := goodIn_r _ [47, 15, 16, 13, 17] rfl (by decide +kernel)
set_option maxRecDepth 20000 in
theorem gO11_isAllowed_X11_isDuration : GoodIn wsO11_isAllowed (wsV RX11 369 RX11 yX11_isDuration wsX11_isDuration) := goodIn_app (goodIn_of _ (by decide +kernel)) ggO11_isAllowed_X11_isDuration
set_option maxRecDepth 20000 in
theorem ggO11_isAllowed_X3_servingObstacle : GoodIn wsO11_isAllowed wsX3_servingObstacle := goodIn_r _ [51, 34, 39, 52, 53, 54, 55, 56, 57, 58, 59, 60, 32, 61, 27, 13, 28, 73, 74, 75, 76, 77, 78, 79, 80, 81, 82, 83, 84, 85, 86, 87, 88, 89, 90, 91, 92, 93, 94, 95, 96, 97, 98, 99, 100, 101, 102, 103, 104, 105, 106, 107, 108, 109, 110, 111, 112] rfl (by decide +kernel)
set_option maxRecDepth 20000 in
theorem gO11_isAllowed_X3_servingObstacle : GoodIn wsO11_isAllowed (wsV RX11 280 RX3 yX3_servingObstacle wsX3_servingObstacle) := goodIn_app (goodIn_of _ (by decide +kernel)) ggO11_isAllowed_X3_servingObstacle
theorem flO_X11_isAllowed_442 : Cond.fieldLink RX11 442 "RecipeScheduler$1" "$SwitchMap$RecipeScheduler$Command" "[I" ∈ wsO11_isAllowed := by decide +kernel
theorem lyO_X11_isAllowed_11 : ∀ w ∈ u_ws RX11 TX11 11, w ∈ wsO11_isAllowed := by decide +kernel
theorem flO_X11_isAllowed_67 : Cond.fieldLink RX11 67 "RecipeScheduler" "now" "LRecipeScheduler$Kitchen;" ∈ wsO11_isAllowed := by decide +kernel
theorem lyO_X11_isAllowed_3 : ∀ w ∈ u_ws RX3 TX3 5, w ∈ wsO11_isAllowed := by decide +kernel
theorem lyO_X11_isAllowed_8 : ∀ w ∈ u_ws RX8 TX8 15, w ∈ wsO11_isAllowed := by decide +kernel
section
variable {p : Program} {l : Launch} {e : Env} {s : State} {m : MethodId} {below : List Frame} {meth : Method} {c : Code} {N0 : Nat} {T : Nat → ClassId} {D : va_G} {gr : List (Nat × Nat)} {ad : Nat → Nat → Nat → Nat}
set_option maxRecDepth 100000 in
set_option maxHeartbeats 4000000 in
theorem wO_X11_isAllowed {Y : Mem} {w1 : Nat} {a2 : Int32} {a3 : Int32} (C : Cx p s m [.ref (ad 0 0 0), .ref (ad 20 w1 0), .int a2, .int a3].toArray meth c cX11_isAllowed 4 wsO11_isAllowed RX11 N0 T D gr ad) (hrt : meth.sig.returnType = (some .boolean)) (hG : ∀ q ∈ ([(0, 0), (2, 0), (1, 0)] ++ allG), q ∈ gr) {res : Int32} (h : X11_isAllowed Y w1 a2 a3 = some res) : FW p l e (Rm 3) s m [.ref (ad 0 0 0), .ref (ad 20 w1 0), .int a2, .int a3].toArray below meth c 4 N0 T D gr ad 0 0 (MQ below (va_Qi (fun r Y1 => r = res ∧ Y1 = Y) (WB T D gr ad) (fun q => N0 ≤ q)) [.ref (ad 0 0 0), .ref (ad 20 w1 0), .int a2, .int a3].toArray s 0 0 (fun q => N0 ≤ q)) Y 0 [(0, .ref (ad 0 0 0)), (1, .ref (ad 20 w1 0)), (2, .int a2), (3, .int a3)] [] := by
  unfold X11_isAllowed at h
  refine fw_gets C (v := .ref (ad 25 0 0)) (cx_st C).2.2.2.2.1.1 (cx_ts C _ flO_X11_isAllowed_442) (fun _ h => h) dX11_isAllowed_0 ?_
  refine fw_aload_n C dX11_isAllowed_3 rfl 1 rfl ?_
  obtain ⟨b1, h⟩ := gd_some h
  have b1 := of_decide_eq_true b1
  refine fw_ordinal C b1 gO11_isAllowed_ord ⟨Nat.le_of_ble_eq_true rfl, Nat.le_of_ble_eq_true rfl⟩ (Nat.le_of_ble_eq_true rfl) ⟨Nat.zero_le _, Nat.zero_le _⟩ dX11_isAllowed_4 ?_
  obtain ⟨b2, h⟩ := gd_some h
  refine fw_ti C (cx_st C).2.2.2.2.1.2 b2 (v := .int (sSw (ix ((Int32.ofNat w1))))) rfl dX11_isAllowed_7 ?_
  by_cases c3 : (sSw (ix ((Int32.ofNat w1)))) = 1
  · have h := ite_t c3 h
    refine fw_tableIn C dX11_isAllowed_8 (by rw [c3]; decide +kernel) (by rw [c3]; decide +kernel) (off := 44) (by rw [c3]; decide +kernel) (tgt := 52) rfl ?_
    refine fw_aload_n C dX11_isAllowed_52 rfl 0 rfl ?_
    refine fw_iload_n C dX11_isAllowed_53 rfl 3 rfl ?_
    obtain ⟨r4, q5, h⟩ := bd1_some h
    refine fw_callVi C (ci := 9) (Cn := RX11) (Tc := TX11) (N := 11) (As := [.int a3]) (c_X11_isPassLength ga0 q5) (cwV 1 (cx_ts C) gO11_isAllowed_X11_isPassLength rfl rfl rfl (by decide +kernel) ⟨Nat.le_of_ble_eq_true rfl, Nat.le_of_ble_eq_true rfl⟩) rfl (hG _ (List.mem_of_getElem? (i := 0) rfl)) (of0_0 _) (ce0 T ad _ _) rfl (st := []) rfl (Nat.le_of_ble_eq_true rfl) ⟨Nat.le_refl 0, Nat.le_refl 0⟩ dX11_isAllowed_54 (pp2 ?_)
    refine fw_if_eq C dX11_isAllowed_57 (tgt := 72) rfl (fun c6 => ?_) (fun c6 => ?_)
    · have h := ite_t c6 h
      refine fw_iconst C dX11_isAllowed_72 (v := 0) rfl ?_
      exact fw_zret C hrt (by decide) Y ⟨Option.some.inj h, rfl⟩ (fun t ht => ht) dX11_isAllowed_73
    · have h := ite_f c6 h
      refine fw_aload_n C dX11_isAllowed_60 rfl 0 rfl ?_
      refine fw_iload_n C dX11_isAllowed_61 rfl 3 rfl ?_
      obtain ⟨r7, q8, h⟩ := bd1_some h
      refine fw_callVi C (ci := 9) (Cn := RX11) (Tc := TX11) (N := 11) (As := [.int a3]) (c_X11_fitsClock (gac (hG _ (List.mem_of_getElem? (i := 0) rfl)) (gac (hG _ (List.mem_of_getElem? (i := 2) rfl)) (gac (hG _ (List.mem_of_getElem? (i := 1) rfl)) ga0))) q8) (cwV 1 (cx_ts C) gO11_isAllowed_X11_fitsClock rfl rfl rfl (by decide +kernel) ⟨Nat.le_of_ble_eq_true rfl, Nat.le_of_ble_eq_true rfl⟩) rfl (hG _ (List.mem_of_getElem? (i := 0) rfl)) (of0_0 _) (ce0 T ad _ _) rfl (st := []) rfl (Nat.le_of_ble_eq_true rfl) ⟨Nat.le_refl 0, Nat.le_refl 0⟩ dX11_isAllowed_62 (pp2 ?_)
      refine fw_if_eq C dX11_isAllowed_65 (tgt := 72) rfl (fun c9 => ?_) (fun c9 => ?_)
      · have h := ite_t c9 h
        refine fw_iconst C dX11_isAllowed_72 (v := 0) rfl ?_
        exact fw_zret C hrt (by decide) Y ⟨Option.some.inj h, rfl⟩ (fun t ht => ht) dX11_isAllowed_73
      · have h := ite_f c9 h
        refine fw_iconst C dX11_isAllowed_68 (v := 1) rfl ?_
        refine fw_goto C dX11_isAllowed_69 (tgt := 73) rfl ?_
        exact fw_zret C hrt (by decide) Y ⟨Option.some.inj h, rfl⟩ (fun t ht => ht) dX11_isAllowed_73
  · have h := ite_f c3 h
    by_cases c10 : (sSw (ix ((Int32.ofNat w1)))) = 2
    · have h := ite_t c10 h
      refine fw_tableIn C dX11_isAllowed_8 (by rw [c10]; decide +kernel) (by rw [c10]; decide +kernel) (off := 66) (by rw [c10]; decide +kernel) (tgt := 74) rfl ?_
      refine fw_aload_n C dX11_isAllowed_74 rfl 0 rfl ?_
      refine fw_iload_n C dX11_isAllowed_75 rfl 3 rfl ?_
      obtain ⟨r11, q12, h⟩ := bd1_some h
      refine fw_callVi C (ci := 9) (Cn := RX11) (Tc := TX11) (N := 11) (As := [.int a3]) (c_X11_isSaltAmount ga0 q12) (cwV 1 (cx_ts C) gO11_isAllowed_X11_isSaltAmount rfl rfl rfl (by decide +kernel) ⟨Nat.le_of_ble_eq_true rfl, Nat.le_of_ble_eq_true rfl⟩) rfl (hG _ (List.mem_of_getElem? (i := 0) rfl)) (of0_0 _) (ce0 T ad _ _) rfl (st := []) rfl (Nat.le_of_ble_eq_true rfl) ⟨Nat.le_refl 0, Nat.le_refl 0⟩ dX11_isAllowed_76 (pp2 ?_)
      refine fw_if_eq C dX11_isAllowed_79 (tgt := 99) rfl (fun c13 => ?_) (fun c13 => ?_)
      · have h := ite_t c13 h
        refine fw_iconst C dX11_isAllowed_99 (v := 0) rfl ?_
        exact fw_zret C hrt (by decide) Y ⟨Option.some.inj h, rfl⟩ (fun t ht => ht) dX11_isAllowed_100
      · have h := ite_f c13 h
        refine fw_aload_n C dX11_isAllowed_82 rfl 0 rfl ?_
        refine fw_get C (ci := 9) (Cn := RX11) (Tc := TX11) (N := 11) (j := 5) lyO_X11_isAllowed_11 rfl (hG _ (List.mem_of_getElem? (i := 0) rfl)) (of0_0 _) (ce0 T ad _ _) (by decide) (cx_ts C _ flO_X11_isAllowed_67) (fun _ h => h) (v := .ref (ad 1 0 0)) rfl dX11_isAllowed_83 ?_
        refine fw_getN C (ci := 1) (Cn := RX3) (Tc := TX3) (N := 5) (j := 1) lyO_X11_isAllowed_3 rfl (hG _ (List.mem_of_getElem? (i := 2) rfl)) (of1_0 _) (ce1 T ad _ _) (by decide) (Nst_use (cx_nst C) (w := .fieldLinkNest RX11 139 "RecipeScheduler$Kitchen" "state" "LRecipeScheduler$State;" "RecipeScheduler") 522 (by decide +kernel) rfl) (fun _ h => h) (v := .ref (ad 2 0 0)) rfl dX11_isAllowed_86 ?_
        refine fw_getN C (ci := 6) (Cn := RX8) (Tc := TX8) (N := 15) (j := 5) lyO_X11_isAllowed_8 rfl (hG _ (List.mem_of_getElem? (i := 1) rfl)) (of2_0 _) (ce2 T ad _ _) (by decide) (Nst_use (cx_nst C) (w := .fieldLinkNest RX11 350 "RecipeScheduler$State" "served" "Z" "RecipeScheduler") 454 (by decide +kernel) rfl) (fun _ h => h) (v := .int (Y 2 0 0 5)) rfl dX11_isAllowed_89 ?_
        refine fw_if_ne C dX11_isAllowed_92 (tgt := 99) rfl (fun c14 => ?_) (fun c14 => ?_)
        · have h := ite_f c14 h
          refine fw_iconst C dX11_isAllowed_99 (v := 0) rfl ?_
          exact fw_zret C hrt (by decide) Y ⟨Option.some.inj h, rfl⟩ (fun t ht => ht) dX11_isAllowed_100
        · have h := ite_t c14 h
          refine fw_iconst C dX11_isAllowed_95 (v := 1) rfl ?_
          refine fw_goto C dX11_isAllowed_96 (tgt := 100) rfl ?_
          exact fw_zret C hrt (by decide) Y ⟨Option.some.inj h, rfl⟩ (fun t ht => ht) dX11_isAllowed_100
    · have h := ite_f c10 h
      by_cases c15 : (sSw (ix ((Int32.ofNat w1)))) = 3
      · have h := ite_t c15 h
        refine fw_tableIn C dX11_isAllowed_8 (by rw [c15]; decide +kernel) (by rw [c15]; decide +kernel) (off := 66) (by rw [c15]; decide +kernel) (tgt := 74) rfl ?_
        refine fw_aload_n C dX11_isAllowed_74 rfl 0 rfl ?_
        refine fw_iload_n C dX11_isAllowed_75 rfl 3 rfl ?_
        obtain ⟨r16, q17, h⟩ := bd1_some h
        refine fw_callVi C (ci := 9) (Cn := RX11) (Tc := TX11) (N := 11) (As := [.int a3]) (c_X11_isSaltAmount ga0 q17) (cwV 1 (cx_ts C) gO11_isAllowed_X11_isSaltAmount rfl rfl rfl (by decide +kernel) ⟨Nat.le_of_ble_eq_true rfl, Nat.le_of_ble_eq_true rfl⟩) rfl (hG _ (List.mem_of_getElem? (i := 0) rfl)) (of0_0 _) (ce0 T ad _ _) rfl (st := []) rfl (Nat.le_of_ble_eq_true rfl) ⟨Nat.le_refl 0, Nat.le_refl 0⟩ dX11_isAllowed_76 (pp2 ?_)
        refine fw_if_eq C dX11_isAllowed_79 (tgt := 99) rfl (fun c18 => ?_) (fun c18 => ?_)
        · have h := ite_t c18 h
          refine fw_iconst C dX11_isAllowed_99 (v := 0) rfl ?_
          exact fw_zret C hrt (by decide) Y ⟨Option.some.inj h, rfl⟩ (fun t ht => ht) dX11_isAllowed_100
        · have h := ite_f c18 h
          refine fw_aload_n C dX11_isAllowed_82 rfl 0 rfl ?_
          refine fw_get C (ci := 9) (Cn := RX11) (Tc := TX11) (N := 11) (j := 5) lyO_X11_isAllowed_11 rfl (hG _ (List.mem_of_getElem? (i := 0) rfl)) (of0_0 _) (ce0 T ad _ _) (by decide) (cx_ts C _ flO_X11_isAllowed_67) (fun _ h => h) (v := .ref (ad 1 0 0)) rfl dX11_isAllowed_83 ?_
          refine fw_getN C (ci := 1) (Cn := RX3) (Tc := TX3) (N := 5) (j := 1) lyO_X11_isAllowed_3 rfl (hG _ (List.mem_of_getElem? (i := 2) rfl)) (of1_0 _) (ce1 T ad _ _) (by decide) (Nst_use (cx_nst C) (w := .fieldLinkNest RX11 139 "RecipeScheduler$Kitchen" "state" "LRecipeScheduler$State;" "RecipeScheduler") 522 (by decide +kernel) rfl) (fun _ h => h) (v := .ref (ad 2 0 0)) rfl dX11_isAllowed_86 ?_
          refine fw_getN C (ci := 6) (Cn := RX8) (Tc := TX8) (N := 15) (j := 5) lyO_X11_isAllowed_8 rfl (hG _ (List.mem_of_getElem? (i := 1) rfl)) (of2_0 _) (ce2 T ad _ _) (by decide) (Nst_use (cx_nst C) (w := .fieldLinkNest RX11 350 "RecipeScheduler$State" "served" "Z" "RecipeScheduler") 454 (by decide +kernel) rfl) (fun _ h => h) (v := .int (Y 2 0 0 5)) rfl dX11_isAllowed_89 ?_
          refine fw_if_ne C dX11_isAllowed_92 (tgt := 99) rfl (fun c19 => ?_) (fun c19 => ?_)
          · have h := ite_f c19 h
            refine fw_iconst C dX11_isAllowed_99 (v := 0) rfl ?_
            exact fw_zret C hrt (by decide) Y ⟨Option.some.inj h, rfl⟩ (fun t ht => ht) dX11_isAllowed_100
          · have h := ite_t c19 h
            refine fw_iconst C dX11_isAllowed_95 (v := 1) rfl ?_
            refine fw_goto C dX11_isAllowed_96 (tgt := 100) rfl ?_
            exact fw_zret C hrt (by decide) Y ⟨Option.some.inj h, rfl⟩ (fun t ht => ht) dX11_isAllowed_100
      · have h := ite_f c15 h
        by_cases c20 : (sSw (ix ((Int32.ofNat w1)))) = 4
        · have h := ite_t c20 h
          refine fw_tableIn C dX11_isAllowed_8 (by rw [c20]; decide +kernel) (by rw [c20]; decide +kernel) (off := 93) (by rw [c20]; decide +kernel) (tgt := 101) rfl ?_
          refine fw_aload_n C dX11_isAllowed_101 rfl 0 rfl ?_
          refine fw_get C (ci := 9) (Cn := RX11) (Tc := TX11) (N := 11) (j := 5) lyO_X11_isAllowed_11 rfl (hG _ (List.mem_of_getElem? (i := 0) rfl)) (of0_0 _) (ce0 T ad _ _) (by decide) (cx_ts C _ flO_X11_isAllowed_67) (fun _ h => h) (v := .ref (ad 1 0 0)) rfl dX11_isAllowed_102 ?_
          refine fw_getN C (ci := 1) (Cn := RX3) (Tc := TX3) (N := 5) (j := 1) lyO_X11_isAllowed_3 rfl (hG _ (List.mem_of_getElem? (i := 2) rfl)) (of1_0 _) (ce1 T ad _ _) (by decide) (Nst_use (cx_nst C) (w := .fieldLinkNest RX11 139 "RecipeScheduler$Kitchen" "state" "LRecipeScheduler$State;" "RecipeScheduler") 522 (by decide +kernel) rfl) (fun _ h => h) (v := .ref (ad 2 0 0)) rfl dX11_isAllowed_105 ?_
          refine fw_getN C (ci := 6) (Cn := RX8) (Tc := TX8) (N := 15) (j := 6) lyO_X11_isAllowed_8 rfl (hG _ (List.mem_of_getElem? (i := 1) rfl)) (of2_0 _) (ce2 T ad _ _) (by decide) (Nst_use (cx_nst C) (w := .fieldLinkNest RX11 324 "RecipeScheduler$State" "running" "I" "RecipeScheduler") 457 (by decide +kernel) rfl) (fun _ h => h) (v := .int (Y 2 0 0 6)) rfl dX11_isAllowed_108 ?_
          refine fw_iload_n C dX11_isAllowed_111 rfl 2 rfl ?_
          obtain ⟨r21, q22, h⟩ := bd1_some h
          refine fw_callSi C (As := [.int (Y 2 0 0 6), .int a2]) (c_X11_contains ga0 q22) (va_cwS 2 (cx_ts C) gO11_isAllowed_X11_contains rfl rfl rfl (by decide +kernel) ⟨Nat.le_of_ble_eq_true rfl, Nat.le_of_ble_eq_true rfl⟩) rfl (st := []) rfl (Nat.le_of_ble_eq_true rfl) ⟨Nat.le_refl 0, Nat.le_refl 0⟩ dX11_isAllowed_112 (pp2 ?_)
          obtain ⟨b23, h⟩ := gd_some h
          exact fw_zret C hrt (of_decide_eq_true b23) Y ⟨Option.some.inj h, rfl⟩ (fun t ht => ht) dX11_isAllowed_115
        · have h := ite_f c20 h
          by_cases c24 : (sSw (ix ((Int32.ofNat w1)))) = 5
          · have h := ite_t c24 h
            refine fw_tableIn C dX11_isAllowed_8 (by rw [c24]; decide +kernel) (by rw [c24]; decide +kernel) (off := 108) (by rw [c24]; decide +kernel) (tgt := 116) rfl ?_
            refine fw_aload_n C dX11_isAllowed_116 rfl 0 rfl ?_
            refine fw_get C (ci := 9) (Cn := RX11) (Tc := TX11) (N := 11) (j := 5) lyO_X11_isAllowed_11 rfl (hG _ (List.mem_of_getElem? (i := 0) rfl)) (of0_0 _) (ce0 T ad _ _) (by decide) (cx_ts C _ flO_X11_isAllowed_67) (fun _ h => h) (v := .ref (ad 1 0 0)) rfl dX11_isAllowed_117 ?_
            refine fw_iload_n C dX11_isAllowed_120 rfl 2 rfl ?_
            obtain ⟨r25, q26, h⟩ := bd1_some h
            refine fw_callVi C (ci := 1) (Cn := RX3) (Tc := TX3) (N := 5) (As := [.int a2]) (c_X3_isRedoable (gac (hG _ (List.mem_of_getElem? (i := 2) rfl)) (gac (hG _ (List.mem_of_getElem? (i := 1) rfl)) (fun q hq => hG q (List.mem_append_right _ hq)))) q26) (cwV 1 (cx_ts C) gO11_isAllowed_X3_isRedoable rfl rfl rfl (by decide +kernel) ⟨Nat.le_of_ble_eq_true rfl, Nat.le_of_ble_eq_true rfl⟩) rfl (hG _ (List.mem_of_getElem? (i := 2) rfl)) (of1_0 _) (ce1 T ad _ _) rfl (st := []) rfl (Nat.le_of_ble_eq_true rfl) ⟨Nat.le_refl 0, Nat.le_refl 0⟩ dX11_isAllowed_121 (pp2 ?_)
            obtain ⟨b27, h⟩ := gd_some h
            exact fw_zret C hrt (of_decide_eq_true b27) Y ⟨Option.some.inj h, rfl⟩ (fun t ht => ht) dX11_isAllowed_124
          · have h := ite_f c24 h
            by_cases c28 : (sSw (ix ((Int32.ofNat w1)))) = 6
            · have h := ite_t c28 h
              refine fw_tableIn C dX11_isAllowed_8 (by rw [c28]; decide +kernel) (by rw [c28]; decide +kernel) (off := 117) (by rw [c28]; decide +kernel) (tgt := 125) rfl ?_
              refine fw_aload_n C dX11_isAllowed_125 rfl 0 rfl ?_
              refine fw_iload_n C dX11_isAllowed_126 rfl 3 rfl ?_
              obtain ⟨r29, q30, h⟩ := bd1_some h
              refine fw_callVi C (ci := 9) (Cn := RX11) (Tc := TX11) (N := 11) (As := [.int a3]) (c_X11_isCookCount ga0 q30) (cwV 1 (cx_ts C) gO11_isAllowed_X11_isCookCount rfl rfl rfl (by decide +kernel) ⟨Nat.le_of_ble_eq_true rfl, Nat.le_of_ble_eq_true rfl⟩) rfl (hG _ (List.mem_of_getElem? (i := 0) rfl)) (of0_0 _) (ce0 T ad _ _) rfl (st := []) rfl (Nat.le_of_ble_eq_true rfl) ⟨Nat.le_refl 0, Nat.le_refl 0⟩ dX11_isAllowed_127 (pp2 ?_)
              obtain ⟨b31, h⟩ := gd_some h
              exact fw_zret C hrt (of_decide_eq_true b31) Y ⟨Option.some.inj h, rfl⟩ (fun t ht => ht) dX11_isAllowed_130
            · have h := ite_f c28 h
              by_cases c32 : (sSw (ix ((Int32.ofNat w1)))) = 7
              · have h := ite_t c32 h
                refine fw_tableIn C dX11_isAllowed_8 (by rw [c32]; decide +kernel) (by rw [c32]; decide +kernel) (off := 123) (by rw [c32]; decide +kernel) (tgt := 131) rfl ?_
                refine fw_aload_n C dX11_isAllowed_131 rfl 0 rfl ?_
                refine fw_iload_n C dX11_isAllowed_132 rfl 3 rfl ?_
                obtain ⟨r33, q34, h⟩ := bd1_some h
                refine fw_callVi C (ci := 9) (Cn := RX11) (Tc := TX11) (N := 11) (As := [.int a3]) (c_X11_isDuration ga0 q34) (cwV 1 (cx_ts C) gO11_isAllowed_X11_isDuration rfl rfl rfl (by decide +kernel) ⟨Nat.le_of_ble_eq_true rfl, Nat.le_of_ble_eq_true rfl⟩) rfl (hG _ (List.mem_of_getElem? (i := 0) rfl)) (of0_0 _) (ce0 T ad _ _) rfl (st := []) rfl (Nat.le_of_ble_eq_true rfl) ⟨Nat.le_refl 0, Nat.le_refl 0⟩ dX11_isAllowed_133 (pp2 ?_)
                obtain ⟨b35, h⟩ := gd_some h
                exact fw_zret C hrt (of_decide_eq_true b35) Y ⟨Option.some.inj h, rfl⟩ (fun t ht => ht) dX11_isAllowed_136
              · have h := ite_f c32 h
                have c3 : ¬ ((sSw (ix ((Int32.ofNat w1))))).toInt = 1 := fun q => c3 (Int32.toInt_inj.mp (by rw [q]; decide +kernel))
                have c10 : ¬ ((sSw (ix ((Int32.ofNat w1))))).toInt = 2 := fun q => c10 (Int32.toInt_inj.mp (by rw [q]; decide +kernel))
                have c15 : ¬ ((sSw (ix ((Int32.ofNat w1))))).toInt = 3 := fun q => c15 (Int32.toInt_inj.mp (by rw [q]; decide +kernel))
                have c20 : ¬ ((sSw (ix ((Int32.ofNat w1))))).toInt = 4 := fun q => c20 (Int32.toInt_inj.mp (by rw [q]; decide +kernel))
                have c24 : ¬ ((sSw (ix ((Int32.ofNat w1))))).toInt = 5 := fun q => c24 (Int32.toInt_inj.mp (by rw [q]; decide +kernel))
                have c28 : ¬ ((sSw (ix ((Int32.ofNat w1))))).toInt = 6 := fun q => c28 (Int32.toInt_inj.mp (by rw [q]; decide +kernel))
                have c32 : ¬ ((sSw (ix ((Int32.ofNat w1))))).toInt = 7 := fun q => c32 (Int32.toInt_inj.mp (by rw [q]; decide +kernel))
                refine fw_tableOut C dX11_isAllowed_8 (by omega) (tgt := 137) rfl ?_
                refine fw_aload_n C dX11_isAllowed_137 rfl 0 rfl ?_
                refine fw_get C (ci := 9) (Cn := RX11) (Tc := TX11) (N := 11) (j := 5) lyO_X11_isAllowed_11 rfl (hG _ (List.mem_of_getElem? (i := 0) rfl)) (of0_0 _) (ce0 T ad _ _) (by decide) (cx_ts C _ flO_X11_isAllowed_67) (fun _ h => h) (v := .ref (ad 1 0 0)) rfl dX11_isAllowed_138 ?_
                obtain ⟨r36, q37, h⟩ := bd1_some h
                refine fw_callVi C (ci := 1) (Cn := RX3) (Tc := TX3) (N := 5) (As := []) (c_X3_servingObstacle (gac (hG _ (List.mem_of_getElem? (i := 2) rfl)) (gac (hG _ (List.mem_of_getElem? (i := 1) rfl)) (fun q hq => hG q (List.mem_append_right _ hq)))) q37) (cwV 0 (cx_ts C) gO11_isAllowed_X3_servingObstacle rfl rfl rfl (by decide +kernel) ⟨Nat.le_of_ble_eq_true rfl, Nat.le_of_ble_eq_true rfl⟩) rfl (hG _ (List.mem_of_getElem? (i := 2) rfl)) (of1_0 _) (ce1 T ad _ _) rfl (st := []) rfl (Nat.le_of_ble_eq_true rfl) ⟨Nat.le_refl 0, Nat.le_refl 0⟩ dX11_isAllowed_141 (pp2 ?_)
                refine fw_if_ne C dX11_isAllowed_144 (tgt := 151) rfl (fun c38 => ?_) (fun c38 => ?_)
                · have h := ite_f c38 h
                  refine fw_iconst C dX11_isAllowed_151 (v := 0) rfl ?_
                  exact fw_zret C hrt (by decide) Y ⟨Option.some.inj h, rfl⟩ (fun t ht => ht) dX11_isAllowed_152
                · have h := ite_t c38 h
                  refine fw_iconst C dX11_isAllowed_147 (v := 1) rfl ?_
                  refine fw_goto C dX11_isAllowed_148 (tgt := 152) rfl ?_
                  exact fw_zret C hrt (by decide) Y ⟨Option.some.inj h, rfl⟩ (fun t ht => ht) dX11_isAllowed_152
end
set_option maxRecDepth 100000 in
set_option maxHeartbeats 4000000 in
theorem cO_X11_isAllowed {l : Launch} {N0 : Nat} {T : Nat → ClassId} {D : va_G} {gr : List (Nat × Nat)} {ad : Nat → Nat → Nat → Nat} {Y : Mem} {w1 : Nat} {a2 : Int32} {a3 : Int32} {res : Int32} (hG : ∀ q ∈ ([(0, 0), (2, 0), (1, 0)] ++ allG), q ∈ gr) (h : X11_isAllowed Y w1 a2 a3 = some res) : CI l yX11_isAllowed wsO11_isAllowed (Rm 3) N0 T D gr ad Y [.ref (ad 0 0 0), .ref (ad 20 w1 0), .int a2, .int a3] (fun r Y1 => r = res ∧ Y1 = Y) :=
  fw_body (by decide +kernel) rfl (Nat.le_of_ble_eq_true rfl) (fun p e s m below meth c C hrt => wO_X11_isAllowed C hrt hG  h)
set_option maxRecDepth 20000 in
theorem ggO11_carryOut_Jx29ce0_ordinal_8abf5 : GoodIn wsO11_carryOut wsJx29ce0_ordinal_8abf5 := goodIn_r _ [8, 9] rfl (by decide +kernel)
set_option maxRecDepth 20000 in
theorem gO11_carryOut_ord : GoodIn wsO11_carryOut (wsU0 RX11 447 RX1 "java/lang/Enum" ⟨"RecipeScheduler$Command", "ordinal", "()I"⟩ yJx29ce0_ordinal_8abf5 wsJx29ce0_ordinal_8abf5) := goodIn_app (goodIn_of _ (by decide +kernel)) ggO11_carryOut_Jx29ce0_ordinal_8abf5
set_option maxRecDepth 20000 in
theorem ggO11_carryOut_X3_runMinutes : GoodIn wsO11_carryOut wsX3_runMinutes := goodIn_r _ [14, 15, 16, 17, 13, 18, 19, 20, 21, 22, 23, 24, 25, 26, 27, 28, 29, 30, 31, 32, 33, 34, 35, 36, 37, 38, 39, 40, 41, 42, 43, 44, 45, 46, 47, 48, 49, 50, 51, 52, 53, 54, 55, 56, 57, 58, 59, 60, 61, 62, 63, 64, 65, 66, 67, 68, 69, 70, 71, 72, 73, 74, 75, 76, 77, 78, 79, 80, 81, 82, 83, 84, 85, 86, 87, 88, 89, 90, 91, 92, 93, 94, 95, 96, 97, 98, 99, 100, 121, 122, 123, 124, 125, 141, 142, 143, 144, 145, 146, 147, 148, 149, 150, 151, 152, 153, 154, 155, 156, 157, 158, 159, 160, 126, 127, 128, 129, 130, 131, 132, 133, 134, 135, 136, 137, 138, 139, 140] rfl (by decide +kernel)
set_option maxRecDepth 20000 in
theorem gO11_carryOut_X3_runMinutes : GoodIn wsO11_carryOut (wsV RX11 298 RX3 yX3_runMinutes wsX3_runMinutes) := goodIn_app (goodIn_of _ (by decide +kernel)) ggO11_carryOut_X3_runMinutes
set_option maxRecDepth 20000 in
theorem ggO11_carryOut_X8_halt : GoodIn wsO11_carryOut wsX8_halt := goodIn_r _ [104, 98, 50, 105, 126, 127, 128, 129, 130, 131, 132, 133, 134, 135, 136, 137, 138, 139, 140] rfl (by decide +kernel)
set_option maxRecDepth 20000 in
theorem gO11_carryOut_X8_halt : GoodIn wsO11_carryOut (wsV RX11 358 RX8 yX8_halt wsX8_halt) := goodIn_app (goodIn_of _ (by decide +kernel)) ggO11_carryOut_X8_halt
set_option maxRecDepth 20000 in
theorem ggO11_carryOut_X8_discard : GoodIn wsO11_carryOut wsX8_discard := goodIn_r _ [109, 66, 51, 126, 127, 128, 129, 130, 131, 132, 133, 134, 135, 136, 137, 138, 139, 140] rfl (by decide +kernel)
set_option maxRecDepth 20000 in
theorem gO11_carryOut_X8_discard : GoodIn wsO11_carryOut (wsV RX11 366 RX8 yX8_discard wsX8_discard) := goodIn_app (goodIn_of _ (by decide +kernel)) ggO11_carryOut_X8_discard
theorem flO_X11_carryOut_442 : Cond.fieldLink RX11 442 "RecipeScheduler$1" "$SwitchMap$RecipeScheduler$Command" "[I" ∈ wsO11_carryOut := by decide +kernel
theorem lyO_X11_carryOut_11 : ∀ w ∈ u_ws RX11 TX11 11, w ∈ wsO11_carryOut := by decide +kernel
theorem flO_X11_carryOut_67 : Cond.fieldLink RX11 67 "RecipeScheduler" "now" "LRecipeScheduler$Kitchen;" ∈ wsO11_carryOut := by decide +kernel
theorem lyO_X11_carryOut_3 : ∀ w ∈ u_ws RX3 TX3 5, w ∈ wsO11_carryOut := by decide +kernel
theorem lyO_X11_carryOut_8 : ∀ w ∈ u_ws RX8 TX8 15, w ∈ wsO11_carryOut := by decide +kernel
section
variable {p : Program} {l : Launch} {e : Env} {s : State} {m : MethodId} {below : List Frame} {meth : Method} {c : Code} {N0 : Nat} {T : Nat → ClassId} {D : va_G} {gr : List (Nat × Nat)} {ad : Nat → Nat → Nat → Nat}
set_option maxRecDepth 100000 in
set_option maxHeartbeats 4000000 in
theorem wO_X11_carryOut {Y : Mem} {w1 : Nat} {a2 : Int32} {a3 : Int32} (C : Cx p s m [.ref (ad 0 0 0), .ref (ad 20 w1 0), .int a2, .int a3].toArray meth c cX11_carryOut 4 wsO11_carryOut RX11 N0 T D gr ad) (hrt : meth.sig.returnType = none) (hG : ∀ q ∈ ([(0, 0), (1, 0), (2, 0)] ++ allG), q ∈ gr) {res : Mem} (h : X11_carryOut Y w1 a2 a3 = some res) : FW p l e (Rm 5) s m [.ref (ad 0 0 0), .ref (ad 20 w1 0), .int a2, .int a3].toArray below meth c 4 N0 T D gr ad 0 0 (MQ below (va_Qv (fun Y1 => Y1 = res) (WB T D gr ad) (fun q => N0 ≤ q)) [.ref (ad 0 0 0), .ref (ad 20 w1 0), .int a2, .int a3].toArray s 0 0 (fun q => N0 ≤ q)) Y 0 [(0, .ref (ad 0 0 0)), (1, .ref (ad 20 w1 0)), (2, .int a2), (3, .int a3)] [] := by
  unfold X11_carryOut at h
  refine fw_gets C (v := .ref (ad 25 0 0)) (cx_st C).2.2.2.2.1.1 (cx_ts C _ flO_X11_carryOut_442) (fun _ h => h) dX11_carryOut_0 ?_
  refine fw_aload_n C dX11_carryOut_3 rfl 1 rfl ?_
  obtain ⟨b1, h⟩ := gd_some h
  have b1 := of_decide_eq_true b1
  refine fw_ordinal C b1 gO11_carryOut_ord ⟨Nat.le_of_ble_eq_true rfl, Nat.le_of_ble_eq_true rfl⟩ (Nat.le_of_ble_eq_true rfl) ⟨Nat.zero_le _, Nat.zero_le _⟩ dX11_carryOut_4 ?_
  obtain ⟨b2, h⟩ := gd_some h
  refine fw_ti C (cx_st C).2.2.2.2.1.2 b2 (v := .int (sSw (ix ((Int32.ofNat w1))))) rfl dX11_carryOut_7 ?_
  by_cases c3 : (sSw (ix ((Int32.ofNat w1)))) = 1
  · have h := ite_t c3 h
    refine fw_tableIn C dX11_carryOut_8 (by rw [c3]; decide +kernel) (by rw [c3]; decide +kernel) (off := 44) (by rw [c3]; decide +kernel) (tgt := 52) rfl ?_
    refine fw_aload_n C dX11_carryOut_52 rfl 0 rfl ?_
    refine fw_get C (ci := 9) (Cn := RX11) (Tc := TX11) (N := 11) (j := 5) lyO_X11_carryOut_11 rfl (hG _ (List.mem_of_getElem? (i := 0) rfl)) (of0_0 _) (ce0 T ad _ _) (by decide) (cx_ts C _ flO_X11_carryOut_67) (fun _ h => h) (v := .ref (ad 1 0 0)) rfl dX11_carryOut_53 ?_
    refine fw_iload_n C dX11_carryOut_56 rfl 3 rfl ?_
    obtain ⟨r4, Y6, q5, h⟩ := bd2_some h
    refine fw_callVi C (ci := 1) (Cn := RX3) (Tc := TX3) (N := 5) (As := [.int a3]) (c_X3_runMinutes (gac (hG _ (List.mem_of_getElem? (i := 2) rfl)) (gac (hG _ (List.mem_of_getElem? (i := 1) rfl)) (fun q hq => hG q (List.mem_append_right _ hq)))) q5) (cwV 1 (cx_ts C) gO11_carryOut_X3_runMinutes rfl rfl rfl (by decide +kernel) ⟨Nat.le_of_ble_eq_true rfl, Nat.le_of_ble_eq_true rfl⟩) rfl (hG _ (List.mem_of_getElem? (i := 1) rfl)) (of1_0 _) (ce1 T ad _ _) rfl (st := []) rfl (Nat.le_of_ble_eq_true rfl) ⟨Nat.le_refl 0, Nat.le_refl 0⟩ dX11_carryOut_57 (ppw ?_)
    refine fw_pop C dX11_carryOut_60 rfl ?_
    refine fw_goto C dX11_carryOut_61 (tgt := 173) rfl ?_
    exact fw_vret C hrt Y6 (Option.some.inj h) (fun t ht => ht) dX11_carryOut_173
  · have h := ite_f c3 h
    by_cases c7 : (sSw (ix ((Int32.ofNat w1)))) = 2
    · have h := ite_t c7 h
      refine fw_tableIn C dX11_carryOut_8 (by rw [c7]; decide +kernel) (by rw [c7]; decide +kernel) (off := 56) (by rw [c7]; decide +kernel) (tgt := 64) rfl ?_
      refine fw_aload_n C dX11_carryOut_64 rfl 0 rfl ?_
      refine fw_get C (ci := 9) (Cn := RX11) (Tc := TX11) (N := 11) (j := 5) lyO_X11_carryOut_11 rfl (hG _ (List.mem_of_getElem? (i := 0) rfl)) (of0_0 _) (ce0 T ad _ _) (by decide) (cx_ts C _ flO_X11_carryOut_67) (fun _ h => h) (v := .ref (ad 1 0 0)) rfl dX11_carryOut_65 ?_
      refine fw_getN C (ci := 1) (Cn := RX3) (Tc := TX3) (N := 5) (j := 1) lyO_X11_carryOut_3 rfl (hG _ (List.mem_of_getElem? (i := 1) rfl)) (of1_0 _) (ce1 T ad _ _) (by decide) (Nst_use (cx_nst C) (w := .fieldLinkNest RX11 139 "RecipeScheduler$Kitchen" "state" "LRecipeScheduler$State;" "RecipeScheduler") 522 (by decide +kernel) rfl) (fun _ h => h) (v := .ref (ad 2 0 0)) rfl dX11_carryOut_68 ?_
      refine fw_dup C dX11_carryOut_71 rfl ?_
      refine fw_getN C (ci := 6) (Cn := RX8) (Tc := TX8) (N := 15) (j := 2) lyO_X11_carryOut_8 rfl (hG _ (List.mem_of_getElem? (i := 2) rfl)) (of2_0 _) (ce2 T ad _ _) (by decide) (Nst_use (cx_nst C) (w := .fieldLinkNest RX11 149 "RecipeScheduler$State" "salt" "I" "RecipeScheduler") 445 (by decide +kernel) rfl) (fun _ h => h) (v := .int (Y 2 0 0 2)) rfl dX11_carryOut_72 ?_
      refine fw_iload_n C dX11_carryOut_75 rfl 3 rfl ?_
      refine fw_iadd C dX11_carryOut_76 ?_
      obtain ⟨Y8, e9, h⟩ := lt_some h
      refine fw_putN C (ci := 6) (Cn := RX8) (Tc := TX8) (N := 15) (j := 2) (ty := .int) (upd (Y 2 0 0) 2 ((Y 2 0 0 2) + a3)) lyO_X11_carryOut_8 rfl tyX8_ok nmX8 (hG _ (List.mem_of_getElem? (i := 2) rfl)) (of2_0 _) (ce2 T ad _ _) (by decide) (Nst_use (cx_nst C) (w := .fieldLinkNest RX11 149 "RecipeScheduler$State" "salt" "I" "RecipeScheduler") 445 (by decide +kernel) rfl) (fun _ h => h) rfl (by decide +kernel) rfl rfl (Nat.le_of_ble_eq_true rfl) (ce2_put2 T ad _ _ _) dX11_carryOut_77 ?_
      refine fw_mem ((up_eq _ _ _ _ _ _).symm.trans e9) ?_
      refine fw_goto C dX11_carryOut_80 (tgt := 173) rfl ?_
      exact fw_vret C hrt Y8 (Option.some.inj h) (fun t ht => ht) dX11_carryOut_173
    · have h := ite_f c7 h
      by_cases c10 : (sSw (ix ((Int32.ofNat w1)))) = 3
      · have h := ite_t c10 h
        refine fw_tableIn C dX11_carryOut_8 (by rw [c10]; decide +kernel) (by rw [c10]; decide +kernel) (off := 75) (by rw [c10]; decide +kernel) (tgt := 83) rfl ?_
        refine fw_aload_n C dX11_carryOut_83 rfl 0 rfl ?_
        refine fw_get C (ci := 9) (Cn := RX11) (Tc := TX11) (N := 11) (j := 5) lyO_X11_carryOut_11 rfl (hG _ (List.mem_of_getElem? (i := 0) rfl)) (of0_0 _) (ce0 T ad _ _) (by decide) (cx_ts C _ flO_X11_carryOut_67) (fun _ h => h) (v := .ref (ad 1 0 0)) rfl dX11_carryOut_84 ?_
        refine fw_getN C (ci := 1) (Cn := RX3) (Tc := TX3) (N := 5) (j := 1) lyO_X11_carryOut_3 rfl (hG _ (List.mem_of_getElem? (i := 1) rfl)) (of1_0 _) (ce1 T ad _ _) (by decide) (Nst_use (cx_nst C) (w := .fieldLinkNest RX11 139 "RecipeScheduler$Kitchen" "state" "LRecipeScheduler$State;" "RecipeScheduler") 522 (by decide +kernel) rfl) (fun _ h => h) (v := .ref (ad 2 0 0)) rfl dX11_carryOut_87 ?_
        refine fw_dup C dX11_carryOut_90 rfl ?_
        refine fw_getN C (ci := 6) (Cn := RX8) (Tc := TX8) (N := 15) (j := 2) lyO_X11_carryOut_8 rfl (hG _ (List.mem_of_getElem? (i := 2) rfl)) (of2_0 _) (ce2 T ad _ _) (by decide) (Nst_use (cx_nst C) (w := .fieldLinkNest RX11 149 "RecipeScheduler$State" "salt" "I" "RecipeScheduler") 445 (by decide +kernel) rfl) (fun _ h => h) (v := .int (Y 2 0 0 2)) rfl dX11_carryOut_91 ?_
        refine fw_iload_n C dX11_carryOut_94 rfl 3 rfl ?_
        refine fw_isub C dX11_carryOut_95 ?_
        obtain ⟨Y11, e12, h⟩ := lt_some h
        refine fw_putN C (ci := 6) (Cn := RX8) (Tc := TX8) (N := 15) (j := 2) (ty := .int) (upd (Y 2 0 0) 2 ((Y 2 0 0 2) - a3)) lyO_X11_carryOut_8 rfl tyX8_ok nmX8 (hG _ (List.mem_of_getElem? (i := 2) rfl)) (of2_0 _) (ce2 T ad _ _) (by decide) (Nst_use (cx_nst C) (w := .fieldLinkNest RX11 149 "RecipeScheduler$State" "salt" "I" "RecipeScheduler") 445 (by decide +kernel) rfl) (fun _ h => h) rfl (by decide +kernel) rfl rfl (Nat.le_of_ble_eq_true rfl) (ce2_put2 T ad _ _ _) dX11_carryOut_96 ?_
        refine fw_mem ((up_eq _ _ _ _ _ _).symm.trans e12) ?_
        refine fw_goto C dX11_carryOut_99 (tgt := 173) rfl ?_
        exact fw_vret C hrt Y11 (Option.some.inj h) (fun t ht => ht) dX11_carryOut_173
      · have h := ite_f c10 h
        by_cases c13 : (sSw (ix ((Int32.ofNat w1)))) = 4
        · have h := ite_t c13 h
          refine fw_tableIn C dX11_carryOut_8 (by rw [c13]; decide +kernel) (by rw [c13]; decide +kernel) (off := 94) (by rw [c13]; decide +kernel) (tgt := 102) rfl ?_
          refine fw_aload_n C dX11_carryOut_102 rfl 0 rfl ?_
          refine fw_get C (ci := 9) (Cn := RX11) (Tc := TX11) (N := 11) (j := 5) lyO_X11_carryOut_11 rfl (hG _ (List.mem_of_getElem? (i := 0) rfl)) (of0_0 _) (ce0 T ad _ _) (by decide) (cx_ts C _ flO_X11_carryOut_67) (fun _ h => h) (v := .ref (ad 1 0 0)) rfl dX11_carryOut_103 ?_
          refine fw_getN C (ci := 1) (Cn := RX3) (Tc := TX3) (N := 5) (j := 1) lyO_X11_carryOut_3 rfl (hG _ (List.mem_of_getElem? (i := 1) rfl)) (of1_0 _) (ce1 T ad _ _) (by decide) (Nst_use (cx_nst C) (w := .fieldLinkNest RX11 139 "RecipeScheduler$Kitchen" "state" "LRecipeScheduler$State;" "RecipeScheduler") 522 (by decide +kernel) rfl) (fun _ h => h) (v := .ref (ad 2 0 0)) rfl dX11_carryOut_106 ?_
          refine fw_iload_n C dX11_carryOut_109 rfl 2 rfl ?_
          obtain ⟨r14, Y16, q15, h⟩ := bd2_some h
          refine fw_callVi C (ci := 6) (Cn := RX8) (Tc := TX8) (N := 15) (As := [.int a2]) (c_X8_halt (gac (hG _ (List.mem_of_getElem? (i := 2) rfl)) ga0) q15) (cwV 1 (cx_ts C) gO11_carryOut_X8_halt rfl rfl rfl (by decide +kernel) ⟨Nat.le_of_ble_eq_true rfl, Nat.le_of_ble_eq_true rfl⟩) rfl (hG _ (List.mem_of_getElem? (i := 2) rfl)) (of2_0 _) (ce2 T ad _ _) rfl (st := []) rfl (Nat.le_of_ble_eq_true rfl) ⟨Nat.le_refl 0, Nat.le_refl 0⟩ dX11_carryOut_110 (ppw ?_)
          refine fw_pop C dX11_carryOut_113 rfl ?_
          refine fw_goto C dX11_carryOut_114 (tgt := 173) rfl ?_
          exact fw_vret C hrt Y16 (Option.some.inj h) (fun t ht => ht) dX11_carryOut_173
        · have h := ite_f c13 h
          by_cases c17 : (sSw (ix ((Int32.ofNat w1)))) = 5
          · have h := ite_t c17 h
            refine fw_tableIn C dX11_carryOut_8 (by rw [c17]; decide +kernel) (by rw [c17]; decide +kernel) (off := 109) (by rw [c17]; decide +kernel) (tgt := 117) rfl ?_
            refine fw_aload_n C dX11_carryOut_117 rfl 0 rfl ?_
            refine fw_get C (ci := 9) (Cn := RX11) (Tc := TX11) (N := 11) (j := 5) lyO_X11_carryOut_11 rfl (hG _ (List.mem_of_getElem? (i := 0) rfl)) (of0_0 _) (ce0 T ad _ _) (by decide) (cx_ts C _ flO_X11_carryOut_67) (fun _ h => h) (v := .ref (ad 1 0 0)) rfl dX11_carryOut_118 ?_
            refine fw_getN C (ci := 1) (Cn := RX3) (Tc := TX3) (N := 5) (j := 1) lyO_X11_carryOut_3 rfl (hG _ (List.mem_of_getElem? (i := 1) rfl)) (of1_0 _) (ce1 T ad _ _) (by decide) (Nst_use (cx_nst C) (w := .fieldLinkNest RX11 139 "RecipeScheduler$Kitchen" "state" "LRecipeScheduler$State;" "RecipeScheduler") 522 (by decide +kernel) rfl) (fun _ h => h) (v := .ref (ad 2 0 0)) rfl dX11_carryOut_121 ?_
            refine fw_iload_n C dX11_carryOut_124 rfl 2 rfl ?_
            obtain ⟨r18, Y20, q19, h⟩ := bd2_some h
            refine fw_callVi C (ci := 6) (Cn := RX8) (Tc := TX8) (N := 15) (As := [.int a2]) (c_X8_discard (gac (hG _ (List.mem_of_getElem? (i := 2) rfl)) ga0) q19) (cwV 1 (cx_ts C) gO11_carryOut_X8_discard rfl rfl rfl (by decide +kernel) ⟨Nat.le_of_ble_eq_true rfl, Nat.le_of_ble_eq_true rfl⟩) rfl (hG _ (List.mem_of_getElem? (i := 2) rfl)) (of2_0 _) (ce2 T ad _ _) rfl (st := []) rfl (Nat.le_of_ble_eq_true rfl) ⟨Nat.le_refl 0, Nat.le_refl 0⟩ dX11_carryOut_125 (ppw ?_)
            refine fw_pop C dX11_carryOut_128 rfl ?_
            refine fw_goto C dX11_carryOut_129 (tgt := 173) rfl ?_
            exact fw_vret C hrt Y20 (Option.some.inj h) (fun t ht => ht) dX11_carryOut_173
          · have h := ite_f c17 h
            by_cases c21 : (sSw (ix ((Int32.ofNat w1)))) = 6
            · have h := ite_t c21 h
              refine fw_tableIn C dX11_carryOut_8 (by rw [c21]; decide +kernel) (by rw [c21]; decide +kernel) (off := 124) (by rw [c21]; decide +kernel) (tgt := 132) rfl ?_
              refine fw_aload_n C dX11_carryOut_132 rfl 0 rfl ?_
              refine fw_get C (ci := 9) (Cn := RX11) (Tc := TX11) (N := 11) (j := 5) lyO_X11_carryOut_11 rfl (hG _ (List.mem_of_getElem? (i := 0) rfl)) (of0_0 _) (ce0 T ad _ _) (by decide) (cx_ts C _ flO_X11_carryOut_67) (fun _ h => h) (v := .ref (ad 1 0 0)) rfl dX11_carryOut_133 ?_
              refine fw_getN C (ci := 1) (Cn := RX3) (Tc := TX3) (N := 5) (j := 1) lyO_X11_carryOut_3 rfl (hG _ (List.mem_of_getElem? (i := 1) rfl)) (of1_0 _) (ce1 T ad _ _) (by decide) (Nst_use (cx_nst C) (w := .fieldLinkNest RX11 139 "RecipeScheduler$Kitchen" "state" "LRecipeScheduler$State;" "RecipeScheduler") 522 (by decide +kernel) rfl) (fun _ h => h) (v := .ref (ad 2 0 0)) rfl dX11_carryOut_136 ?_
              refine fw_iload_n C dX11_carryOut_139 rfl 3 rfl ?_
              obtain ⟨Y22, e23, h⟩ := lt_some h
              refine fw_putN C (ci := 6) (Cn := RX8) (Tc := TX8) (N := 15) (j := 0) (ty := .int) (upd (Y 2 0 0) 0 a3) lyO_X11_carryOut_8 rfl tyX8_ok nmX8 (hG _ (List.mem_of_getElem? (i := 2) rfl)) (of2_0 _) (ce2 T ad _ _) (by decide) (Nst_use (cx_nst C) (w := .fieldLinkNest RX11 143 "RecipeScheduler$State" "cooks" "I" "RecipeScheduler") 439 (by decide +kernel) rfl) (fun _ h => h) rfl (by decide +kernel) rfl rfl (Nat.le_of_ble_eq_true rfl) (ce2_put0 T ad _ _ _) dX11_carryOut_140 ?_
              refine fw_mem ((up_eq _ _ _ _ _ _).symm.trans e23) ?_
              refine fw_goto C dX11_carryOut_143 (tgt := 173) rfl ?_
              exact fw_vret C hrt Y22 (Option.some.inj h) (fun t ht => ht) dX11_carryOut_173
            · have h := ite_f c21 h
              by_cases c24 : (sSw (ix ((Int32.ofNat w1)))) = 7
              · have h := ite_t c24 h
                refine fw_tableIn C dX11_carryOut_8 (by rw [c24]; decide +kernel) (by rw [c24]; decide +kernel) (off := 138) (by rw [c24]; decide +kernel) (tgt := 146) rfl ?_
                refine fw_aload_n C dX11_carryOut_146 rfl 0 rfl ?_
                refine fw_get C (ci := 9) (Cn := RX11) (Tc := TX11) (N := 11) (j := 5) lyO_X11_carryOut_11 rfl (hG _ (List.mem_of_getElem? (i := 0) rfl)) (of0_0 _) (ce0 T ad _ _) (by decide) (cx_ts C _ flO_X11_carryOut_67) (fun _ h => h) (v := .ref (ad 1 0 0)) rfl dX11_carryOut_147 ?_
                refine fw_getN C (ci := 1) (Cn := RX3) (Tc := TX3) (N := 5) (j := 1) lyO_X11_carryOut_3 rfl (hG _ (List.mem_of_getElem? (i := 1) rfl)) (of1_0 _) (ce1 T ad _ _) (by decide) (Nst_use (cx_nst C) (w := .fieldLinkNest RX11 139 "RecipeScheduler$Kitchen" "state" "LRecipeScheduler$State;" "RecipeScheduler") 522 (by decide +kernel) rfl) (fun _ h => h) (v := .ref (ad 2 0 0)) rfl dX11_carryOut_150 ?_
                refine fw_getN C (ci := 6) (Cn := RX8) (Tc := TX8) (N := 15) (j := 9) lyO_X11_carryOut_8 rfl (hG _ (List.mem_of_getElem? (i := 2) rfl)) (of2_0 _) (ce2 T ad _ _) (by decide) (Nst_use (cx_nst C) (w := .fieldLinkNest RX11 196 "RecipeScheduler$State" "duration" "[I" "RecipeScheduler") 465 (by decide +kernel) rfl) (fun _ h => h) (v := .ref (ad 2 0 1)) rfl dX11_carryOut_153 ?_
                refine fw_iload_n C dX11_carryOut_156 rfl 2 rfl ?_
                refine fw_iload_n C dX11_carryOut_157 rfl 3 rfl ?_
                obtain ⟨b25, h⟩ := gd_some h
                obtain ⟨Y26, e27, h⟩ := lt_some h
                refine fw_iast2 C (hG _ (List.mem_of_getElem? (i := 2) rfl)) (of2_1 _) (ca2_1 T ad _) b25 (Nat.le_of_ble_eq_true rfl) dX11_carryOut_158 ?_
                refine fw_mem e27 ?_
                refine fw_goto C dX11_carryOut_159 (tgt := 173) rfl ?_
                exact fw_vret C hrt Y26 (Option.some.inj h) (fun t ht => ht) dX11_carryOut_173
              · have h := ite_f c24 h
                have c3 : ¬ ((sSw (ix ((Int32.ofNat w1))))).toInt = 1 := fun q => c3 (Int32.toInt_inj.mp (by rw [q]; decide +kernel))
                have c7 : ¬ ((sSw (ix ((Int32.ofNat w1))))).toInt = 2 := fun q => c7 (Int32.toInt_inj.mp (by rw [q]; decide +kernel))
                have c10 : ¬ ((sSw (ix ((Int32.ofNat w1))))).toInt = 3 := fun q => c10 (Int32.toInt_inj.mp (by rw [q]; decide +kernel))
                have c13 : ¬ ((sSw (ix ((Int32.ofNat w1))))).toInt = 4 := fun q => c13 (Int32.toInt_inj.mp (by rw [q]; decide +kernel))
                have c17 : ¬ ((sSw (ix ((Int32.ofNat w1))))).toInt = 5 := fun q => c17 (Int32.toInt_inj.mp (by rw [q]; decide +kernel))
                have c21 : ¬ ((sSw (ix ((Int32.ofNat w1))))).toInt = 6 := fun q => c21 (Int32.toInt_inj.mp (by rw [q]; decide +kernel))
                have c24 : ¬ ((sSw (ix ((Int32.ofNat w1))))).toInt = 7 := fun q => c24 (Int32.toInt_inj.mp (by rw [q]; decide +kernel))
                refine fw_tableOut C dX11_carryOut_8 (by omega) (tgt := 162) rfl ?_
                refine fw_aload_n C dX11_carryOut_162 rfl 0 rfl ?_
                refine fw_get C (ci := 9) (Cn := RX11) (Tc := TX11) (N := 11) (j := 5) lyO_X11_carryOut_11 rfl (hG _ (List.mem_of_getElem? (i := 0) rfl)) (of0_0 _) (ce0 T ad _ _) (by decide) (cx_ts C _ flO_X11_carryOut_67) (fun _ h => h) (v := .ref (ad 1 0 0)) rfl dX11_carryOut_163 ?_
                refine fw_getN C (ci := 1) (Cn := RX3) (Tc := TX3) (N := 5) (j := 1) lyO_X11_carryOut_3 rfl (hG _ (List.mem_of_getElem? (i := 1) rfl)) (of1_0 _) (ce1 T ad _ _) (by decide) (Nst_use (cx_nst C) (w := .fieldLinkNest RX11 139 "RecipeScheduler$Kitchen" "state" "LRecipeScheduler$State;" "RecipeScheduler") 522 (by decide +kernel) rfl) (fun _ h => h) (v := .ref (ad 2 0 0)) rfl dX11_carryOut_166 ?_
                refine fw_iconst C dX11_carryOut_169 (v := 1) rfl ?_
                obtain ⟨Y28, e29, h⟩ := lt_some h
                refine fw_putN C (ci := 6) (Cn := RX8) (Tc := TX8) (N := 15) (j := 5) (ty := .boolean) (upd (Y 2 0 0) 5 1) lyO_X11_carryOut_8 rfl tyX8_ok nmX8 (hG _ (List.mem_of_getElem? (i := 2) rfl)) (of2_0 _) (ce2 T ad _ _) (by decide) (Nst_use (cx_nst C) (w := .fieldLinkNest RX11 350 "RecipeScheduler$State" "served" "Z" "RecipeScheduler") 454 (by decide +kernel) rfl) (fun _ h => h) rfl (by decide +kernel) rfl rfl (Nat.le_of_ble_eq_true rfl) (ce2_put5 T ad _ _ _) dX11_carryOut_170 ?_
                refine fw_mem ((up_eq _ _ _ _ _ _).symm.trans e29) ?_
                exact fw_vret C hrt Y28 (Option.some.inj h) (fun t ht => ht) dX11_carryOut_173
end
set_option maxRecDepth 100000 in
set_option maxHeartbeats 4000000 in
theorem cO_X11_carryOut {l : Launch} {N0 : Nat} {T : Nat → ClassId} {D : va_G} {gr : List (Nat × Nat)} {ad : Nat → Nat → Nat → Nat} {Y : Mem} {w1 : Nat} {a2 : Int32} {a3 : Int32} {res : Mem} (hG : ∀ q ∈ ([(0, 0), (1, 0), (2, 0)] ++ allG), q ∈ gr) (h : X11_carryOut Y w1 a2 a3 = some res) : CV l yX11_carryOut wsO11_carryOut (Rm 5) N0 T D gr ad Y [.ref (ad 0 0 0), .ref (ad 20 w1 0), .int a2, .int a3] (fun Y1 => Y1 = res) :=
  fw_body (by decide +kernel) rfl (Nat.le_of_ble_eq_true rfl) (fun p e s m below meth c C hrt => wO_X11_carryOut C hrt hG  h)
set_option maxRecDepth 20000 in
theorem ggO11_runScript_X6_read : GoodIn wsO11_runScript wsX6_read := goodIn_r _ [9, 10, 11, 12, 13, 14, 15, 16, 17, 18, 19, 20, 21, 22, 23, 24, 25, 26, 27, 28, 29, 30, 31, 32, 33, 34, 35, 36, 37, 38, 39, 40, 41, 42, 43, 8, 44, 45, 46, 47, 48, 49, 50, 51, 52, 53, 54, 55, 56, 57, 58, 59, 60, 61, 62, 63, 64, 65, 66, 67, 68, 69, 70, 71, 72, 73, 74, 75, 76, 77, 78, 79, 80, 81, 82, 83, 84, 85, 86, 87, 88, 89, 90, 91, 92, 93, 94, 95, 96, 97, 98, 99, 100, 101, 102, 103, 104, 105, 106, 107, 108, 109, 110, 111, 112, 113, 114, 115, 116, 117, 118, 119, 120, 121, 122, 123, 124, 125, 126, 127, 128, 129, 130, 131, 132, 133, 134, 135, 136, 137, 138, 355, 356, 357, 358, 359, 360, 361, 362, 363, 364, 365, 353, 354, 366, 367, 368] rfl (by decide +kernel)
set_option maxRecDepth 20000 in
theorem gO11_runScript_X6_read : GoodIn wsO11_runScript (wsV RX11 376 RX6 yX6_read wsX6_read) := goodIn_app (goodIn_of _ (by decide +kernel)) ggO11_runScript_X6_read
set_option maxRecDepth 20000 in
theorem ggO11_runScript_X11_requireNoError : GoodIn wsO11_runScript wsX11_requireNoError := goodIn_ca (goodIn_r _ [142, 143, 144, 145, 320, 321, 322, 323, 324, 325, 326, 327, 328, 329, 330, 360, 361, 362, 363, 364, 365] rfl (by decide +kernel)) (goodIn_sub (fun _ h => List.mem_cons_of_mem _ (List.mem_append_right _ h)) (by decide +kernel))
set_option maxRecDepth 20000 in
theorem gO11_runScript_X11_requireNoError : GoodIn wsO11_runScript (wsV RX11 114 RX11 yX11_requireNoError wsX11_requireNoError) := goodIn_app (goodIn_of _ (by decide +kernel)) ggO11_runScript_X11_requireNoError
set_option maxRecDepth 20000 in
theorem ggO11_runScript_X2_push : GoodIn wsO11_runScript wsX2_push := goodIn_r _ [150, 151, 152, 153, 154, 155, 156, 157, 158, 159, 160, 161, 162, 163, 164, 165, 166, 167, 168, 169, 170, 171, 172, 173, 174, 175, 176, 177, 178, 179, 180, 181, 369, 370, 371, 372, 373, 374, 375, 376, 377, 378, 379, 380, 381, 382, 383, 384, 385, 386] rfl (by decide +kernel)
set_option maxRecDepth 20000 in
theorem gO11_runScript_X2_push : GoodIn wsO11_runScript (wsV RX11 341 RX2 yX2_push wsX2_push) := goodIn_app (goodIn_of _ (by decide +kernel)) ggO11_runScript_X2_push
set_option maxRecDepth 20000 in
theorem ggO11_runScript_X11_isAllowed : GoodIn wsO11_runScript wsO11_isAllowed := goodIn_r _ [185, 186, 2, 187, 188, 189, 190, 191, 192, 193, 194, 195, 196, 31, 197, 198, 30, 32, 199, 200, 201, 202, 203, 204, 205, 206, 207, 208, 209, 210, 211, 212, 213, 214, 215, 216, 217, 218, 219, 220, 221, 222, 223, 224, 225, 226, 227, 228, 229, 230, 231, 232, 233, 234, 235, 236, 237, 238, 239, 240, 241, 242, 320, 321, 322, 323, 324, 325, 326, 327, 328, 329, 330, 331, 332, 333, 334, 335, 372, 373, 374, 375, 376, 377, 378, 379, 380, 381, 382, 383, 384, 385, 386, 336, 337, 338, 339, 340, 341, 342, 343, 344, 345, 346, 347, 348, 349, 350, 351, 352, 366, 367, 368] rfl (by decide +kernel)
set_option maxRecDepth 20000 in
theorem gO11_runScript_X11_isAllowed : GoodIn wsO11_runScript (wsV RX11 390 RX11 yX11_isAllowed wsO11_isAllowed) := goodIn_app (goodIn_of _ (by decide +kernel)) ggO11_runScript_X11_isAllowed
set_option maxRecDepth 20000 in
theorem ggO11_runScript_X11_carryOut : GoodIn wsO11_runScript wsO11_carryOut := goodIn_r _ [246, 186, 2, 187, 188, 189, 190, 191, 192, 193, 247, 248, 249, 213, 250, 251, 252, 253, 254, 220, 255, 215, 256, 257, 258, 259, 260, 208, 31, 209, 261, 262, 263, 264, 265, 266, 267, 268, 269, 270, 271, 272, 273, 274, 275, 276, 277, 278, 161, 279, 169, 170, 180, 280, 281, 282, 283, 216, 217, 218, 219, 284, 285, 286, 287, 171, 178, 181, 288, 289, 290, 291, 292, 293, 294, 295, 233, 234, 235, 236, 237, 238, 296, 297, 298, 299, 300, 301, 302, 303, 304, 305, 306, 307, 308, 309, 310, 311, 177, 172, 179, 312, 313, 314, 315, 167, 316, 317, 318, 319, 320, 321, 322, 323, 324, 325, 326, 327, 328, 329, 330, 331, 332, 333, 334, 335, 372, 373, 374, 375, 376, 377, 378, 379, 380, 381, 382, 383, 384, 385, 386, 336, 337, 338, 339, 340, 341, 342, 343, 344, 345, 346, 347, 348, 349, 350, 351, 352, 366, 367, 368] rfl (by decide +kernel)
set_option maxRecDepth 20000 in
theorem gO11_runScript_X11_carryOut : GoodIn wsO11_runScript (wsV RX11 394 RX11 yX11_carryOut wsO11_carryOut) := goodIn_app (goodIn_of _ (by decide +kernel)) ggO11_runScript_X11_carryOut
theorem lyO_X11_runScript_11 : ∀ w ∈ u_ws RX11 TX11 11, w ∈ wsO11_runScript := by decide +kernel
theorem flO_X11_runScript_59 : Cond.fieldLink RX11 59 "RecipeScheduler" "scriptReader" "LRecipeScheduler$ScriptReader;" ∈ wsO11_runScript := by decide +kernel
theorem flO_X11_runScript_67 : Cond.fieldLink RX11 67 "RecipeScheduler" "now" "LRecipeScheduler$Kitchen;" ∈ wsO11_runScript := by decide +kernel
theorem lyO_X11_runScript_3 : ∀ w ∈ u_ws RX3 TX3 5, w ∈ wsO11_runScript := by decide +kernel
theorem lyO_X11_runScript_5 : ∀ w ∈ u_ws RX5 TX5 17, w ∈ wsO11_runScript := by decide +kernel
theorem flO_X11_runScript_41 : Cond.fieldLink RX11 41 "RecipeScheduler" "input" "LRecipeScheduler$Text;" ∈ wsO11_runScript := by decide +kernel
theorem lyO_X11_runScript_9 : ∀ w ∈ u_ws RX9 TX9 2, w ∈ wsO11_runScript := by decide +kernel
theorem flO_X11_runScript_77 : Cond.fieldLink RX11 77 "RecipeScheduler" "history" "LRecipeScheduler$History;" ∈ wsO11_runScript := by decide +kernel
theorem lyO_X11_runScript_6 : ∀ w ∈ u_ws RX6 TX6 5, w ∈ wsO11_runScript := by decide +kernel
section
variable {p : Program} {l : Launch} {e : Env} {s : State} {m : MethodId} {below : List Frame} {meth : Method} {c : Code} {N0 : Nat} {T : Nat → ClassId} {D : va_G} {gr : List (Nat × Nat)} {ad : Nat → Nat → Nat → Nat}
set_option maxRecDepth 100000 in
set_option maxHeartbeats 4000000 in
theorem wO_X11_runScript_b45  (C : Cx p s m [.ref (ad 0 0 0)].toArray meth c cX11_runScript 5 wsO11_runScript RX11 N0 T D gr ad) (hrt : meth.sig.returnType = (some .int)) (hG : ∀ q ∈ ([(0, 0), (1, 0), (6, 0), (5, 0), (8, 0), (2, 0), (9, 0)] ++ allG), q ∈ gr) (hl : l.stackTraces = false) (hX : ∀ x ∈ c.exceptionTable.toList, False) {res : (Nat × Mem) ⊕ (Int32 × Mem)} : ∀ (n : Nat) (Y : Mem) (l1 : Int32), X11_runScript_b45   n Y l1 = some res → FW p l e (Rx 8 1) s m [.ref (ad 0 0 0)].toArray below meth c 5 N0 T D gr ad 1 6 (vx_MQ below (va_Qi (fun r Y1 => Sum.inr (r, Y1) = res) (WB T D gr ad) (fun q => N0 ≤ q)) (vx_X (fun u => Sum.inl u = res) (XB T D gr ad) (fun q => N0 ≤ q)) [.ref (ad 0 0 0)].toArray s 1 6 (fun q => N0 ≤ q)) Y 45 [(1, .int l1), (0, .ref (ad 0 0 0))] [] := by
  intro n
  induction n with
  | zero =>
    intro Y l1 h
    unfold X11_runScript_b45 at h
    cases h
  | succ n ih =>
    intro Y l1 h
    unfold X11_runScript_b45 at h
    refine fw_iload_n C dX11_runScript_45 rfl 0 rfl ?_
    refine fw_aload_n C dX11_runScript_46 rfl 1 rfl ?_
    refine fw_get C (ci := 9) (Cn := RX11) (Tc := TX11) (N := 11) (j := 4) lyO_X11_runScript_11 rfl (hG _ (List.mem_of_getElem? (i := 0) rfl)) (of0_0 _) (ce0 T ad _ _) (by decide) (cx_ts C _ flO_X11_runScript_59) (fun _ h => h) (v := .ref (ad 8 0 0)) rfl dX11_runScript_47 ?_
    refine fw_getN C (ci := 4) (Cn := RX6) (Tc := TX6) (N := 5) (j := 4) lyO_X11_runScript_6 rfl (hG _ (List.mem_of_getElem? (i := 4) rfl)) (of8_0 _) (ce8 T ad _ _) (by decide) (Nst_use (cx_nst C) (w := .fieldLinkNest RX11 380 "RecipeScheduler$ScriptReader" "count" "I" "RecipeScheduler") 414 (by decide +kernel) rfl) (fun _ h => h) (v := .int (Y 8 0 0 4)) rfl dX11_runScript_50 ?_
    refine fw_icmp_ge C dX11_runScript_53 (tgt := 114) rfl (fun c17 => ?_) (fun c17 => ?_)
    · have h := ite_t c17 h
      refine fw_aload_n C dX11_runScript_114 rfl 1 rfl ?_
      refine fw_get C (ci := 9) (Cn := RX11) (Tc := TX11) (N := 11) (j := 4) lyO_X11_runScript_11 rfl (hG _ (List.mem_of_getElem? (i := 0) rfl)) (of0_0 _) (ce0 T ad _ _) (by decide) (cx_ts C _ flO_X11_runScript_59) (fun _ h => h) (v := .ref (ad 8 0 0)) rfl dX11_runScript_115 ?_
      refine fw_getN C (ci := 4) (Cn := RX6) (Tc := TX6) (N := 5) (j := 4) lyO_X11_runScript_6 rfl (hG _ (List.mem_of_getElem? (i := 4) rfl)) (of8_0 _) (ce8 T ad _ _) (by decide) (Nst_use (cx_nst C) (w := .fieldLinkNest RX11 380 "RecipeScheduler$ScriptReader" "count" "I" "RecipeScheduler") 414 (by decide +kernel) rfl) (fun _ h => h) (v := .int (Y 8 0 0 4)) rfl dX11_runScript_118 ?_
      refine fw_xr (Nat.le_of_ble_eq_true rfl) (Nat.le_of_ble_eq_true rfl) ?_
      exact fw_iret C hrt Y (Option.some.inj h) (fun t ht => ht) dX11_runScript_121
    · have h := ite_f c17 h
      refine fw_aload_n C dX11_runScript_56 rfl 1 rfl ?_
      refine fw_get C (ci := 9) (Cn := RX11) (Tc := TX11) (N := 11) (j := 4) lyO_X11_runScript_11 rfl (hG _ (List.mem_of_getElem? (i := 0) rfl)) (of0_0 _) (ce0 T ad _ _) (by decide) (cx_ts C _ flO_X11_runScript_59) (fun _ h => h) (v := .ref (ad 8 0 0)) rfl dX11_runScript_57 ?_
      refine fw_getN C (ci := 4) (Cn := RX6) (Tc := TX6) (N := 5) (j := 1) lyO_X11_runScript_6 rfl (hG _ (List.mem_of_getElem? (i := 4) rfl)) (of8_0 _) (ce8 T ad _ _) (by decide) (Nst_use (cx_nst C) (w := .fieldLinkNest RX11 381 "RecipeScheduler$ScriptReader" "commands" "[LRecipeScheduler$Command;" "RecipeScheduler") 408 (by decide +kernel) rfl) (fun _ h => h) (v := .ref (ad 8 0 1)) rfl dX11_runScript_60 ?_
      refine fw_iload_n C dX11_runScript_63 rfl 0 rfl ?_
      obtain ⟨b18, h⟩ := gd_some h
      obtain ⟨b19, h⟩ := gd_some h
      refine fw_aald2 C 6 (hG _ (List.mem_of_getElem? (i := 4) rfl)) (of8_1 _) (ca8_1 T ad _ _) rfl rfl b18 (Nat.le_of_ble_eq_true rfl) (v := .ref (ad 20 ((Y 8 0 1 (ix l1)).toNatClampNeg - 1) 0)) (by rw [cmdr, if_neg (of_decide_eq_true b19)]; rfl) dX11_runScript_64 ?_
      obtain ⟨v20, e21, h⟩ := lt_some h
      refine fw_top (v' := .ref (ad 20 v20 0)) (by rw [e21]) ?_
      refine fw_astore_n C dX11_runScript_65 rfl (by decide) (L' := [(2, .ref (ad 20 v20 0)), (1, .int l1), (0, .ref (ad 0 0 0))]) rfl ?_
      refine fw_aload_n C dX11_runScript_66 rfl 2 rfl ?_
      refine fw_get C (ci := 9) (Cn := RX11) (Tc := TX11) (N := 11) (j := 4) lyO_X11_runScript_11 rfl (hG _ (List.mem_of_getElem? (i := 0) rfl)) (of0_0 _) (ce0 T ad _ _) (by decide) (cx_ts C _ flO_X11_runScript_59) (fun _ h => h) (v := .ref (ad 8 0 0)) rfl dX11_runScript_67 ?_
      refine fw_getN C (ci := 4) (Cn := RX6) (Tc := TX6) (N := 5) (j := 2) lyO_X11_runScript_6 rfl (hG _ (List.mem_of_getElem? (i := 4) rfl)) (of8_0 _) (ce8 T ad _ _) (by decide) (Nst_use (cx_nst C) (w := .fieldLinkNest RX11 385 "RecipeScheduler$ScriptReader" "steps" "[I" "RecipeScheduler") 410 (by decide +kernel) rfl) (fun _ h => h) (v := .ref (ad 8 0 2)) rfl dX11_runScript_70 ?_
      refine fw_iload_n C dX11_runScript_73 rfl 1 rfl ?_
      refine fw_iald2 C (hG _ (List.mem_of_getElem? (i := 4) rfl)) (of8_2 _) (ca8_2 T ad _ _) b18 (Nat.le_of_ble_eq_true rfl) dX11_runScript_74 ?_
      obtain ⟨v22, e23, h⟩ := lt_some h
      refine fw_top (v' := .int v22) (by rw [e23]) ?_
      refine fw_istore_n C dX11_runScript_75 rfl (by decide) (L' := [(3, .int v22), (2, .ref (ad 20 v20 0)), (1, .int l1), (0, .ref (ad 0 0 0))]) rfl ?_
      refine fw_aload_n C dX11_runScript_76 rfl 3 rfl ?_
      refine fw_get C (ci := 9) (Cn := RX11) (Tc := TX11) (N := 11) (j := 4) lyO_X11_runScript_11 rfl (hG _ (List.mem_of_getElem? (i := 0) rfl)) (of0_0 _) (ce0 T ad _ _) (by decide) (cx_ts C _ flO_X11_runScript_59) (fun _ h => h) (v := .ref (ad 8 0 0)) rfl dX11_runScript_77 ?_
      refine fw_getN C (ci := 4) (Cn := RX6) (Tc := TX6) (N := 5) (j := 3) lyO_X11_runScript_6 rfl (hG _ (List.mem_of_getElem? (i := 4) rfl)) (of8_0 _) (ce8 T ad _ _) (by decide) (Nst_use (cx_nst C) (w := .fieldLinkNest RX11 387 "RecipeScheduler$ScriptReader" "numbers" "[I" "RecipeScheduler") 412 (by decide +kernel) rfl) (fun _ h => h) (v := .ref (ad 8 0 3)) rfl dX11_runScript_80 ?_
      refine fw_iload_n C dX11_runScript_83 rfl 2 rfl ?_
      refine fw_iald2 C (hG _ (List.mem_of_getElem? (i := 4) rfl)) (of8_3 _) (ca8_3 T ad _ _) b18 (Nat.le_of_ble_eq_true rfl) dX11_runScript_84 ?_
      obtain ⟨v24, e25, h⟩ := lt_some h
      refine fw_top (v' := .int v24) (by rw [e25]) ?_
      refine fw_istore C dX11_runScript_85 (by decide) (L' := [(4, .int v24), (3, .int v22), (2, .ref (ad 20 v20 0)), (1, .int l1), (0, .ref (ad 0 0 0))]) rfl ?_
      refine fw_aload_n C dX11_runScript_87 rfl 4 rfl ?_
      refine fw_aload_n C dX11_runScript_88 rfl 2 rfl ?_
      refine fw_iload_n C dX11_runScript_89 rfl 1 rfl ?_
      refine fw_iload C dX11_runScript_90 0 rfl ?_
      obtain ⟨r26, q27, h⟩ := bd1_some h
      refine fw_callVi C (ci := 9) (Cn := RX11) (Tc := TX11) (N := 11) (As := [.ref (ad 20 v20 0), .int v22, .int v24]) (cO_X11_isAllowed (gac (hG _ (List.mem_of_getElem? (i := 0) rfl)) (gac (hG _ (List.mem_of_getElem? (i := 5) rfl)) (gac (hG _ (List.mem_of_getElem? (i := 1) rfl)) (fun q hq => hG q (List.mem_append_right _ hq))))) q27) (cwV 3 (cx_ts C) gO11_runScript_X11_isAllowed rfl rfl rfl (by decide +kernel) ⟨Nat.le_of_ble_eq_true rfl, Nat.le_of_ble_eq_true rfl⟩) rfl (hG _ (List.mem_of_getElem? (i := 0) rfl)) (of0_0 _) (ce0 T ad _ _) rfl (st := []) rfl (Nat.le_of_ble_eq_true rfl) ⟨Nat.le_of_ble_eq_true rfl, Nat.le_of_ble_eq_true rfl⟩ dX11_runScript_92 (pp2 ?_)
      refine fw_if_ne C dX11_runScript_95 (tgt := 100) rfl (fun c28 => ?_) (fun c28 => ?_)
      · have h := ite_f c28 h
        refine fw_aload_n C dX11_runScript_100 rfl 4 rfl ?_
        refine fw_aload_n C dX11_runScript_101 rfl 2 rfl ?_
        refine fw_iload_n C dX11_runScript_102 rfl 1 rfl ?_
        refine fw_iload C dX11_runScript_103 0 rfl ?_
        obtain ⟨Y31, q30, h⟩ := bd1_some h
        refine fw_callVv C (ci := 9) (Cn := RX11) (Tc := TX11) (N := 11) (As := [.ref (ad 20 v20 0), .int v22, .int v24]) (cO_X11_carryOut (gac (hG _ (List.mem_of_getElem? (i := 0) rfl)) (gac (hG _ (List.mem_of_getElem? (i := 1) rfl)) (gac (hG _ (List.mem_of_getElem? (i := 5) rfl)) (fun q hq => hG q (List.mem_append_right _ hq))))) q30) (cwV 3 (cx_ts C) gO11_runScript_X11_carryOut rfl rfl rfl (by decide +kernel) ⟨Nat.le_of_ble_eq_true rfl, Nat.le_of_ble_eq_true rfl⟩) rfl (hG _ (List.mem_of_getElem? (i := 0) rfl)) (of0_0 _) (ce0 T ad _ _) rfl (st := []) rfl (Nat.le_of_ble_eq_true rfl) ⟨Nat.le_of_ble_eq_true rfl, Nat.le_of_ble_eq_true rfl⟩ dX11_runScript_105 (ppv ?_)
        refine fw_iinc C dX11_runScript_108 (kk := 3) (v := l1 + 1) rfl rfl (by decide) (L' := [(1, .int (l1 + 1)), (4, .int v24), (3, .int v22), (2, .ref (ad 20 v20 0)), (0, .ref (ad 0 0 0))]) rfl ?_
        refine fw_goto C dX11_runScript_111 (tgt := 45) rfl ?_
        refine fw_sub [0, 4] (L' := [(1, .int (l1 + 1)), (0, .ref (ad 0 0 0))]) rfl ?_
        exact ih _ _ h
      · have h := ite_t c28 h
        refine fw_iload_n C dX11_runScript_98 rfl 3 rfl ?_
        refine fw_xr (Nat.le_of_ble_eq_true rfl) (Nat.le_of_ble_eq_true rfl) ?_
        exact fw_iret C hrt Y (Option.some.inj h) (fun t ht => ht) dX11_runScript_99
set_option maxRecDepth 100000 in
set_option maxHeartbeats 4000000 in
theorem wO_X11_runScript {Y : Mem} (C : Cx p s m [.ref (ad 0 0 0)].toArray meth c cX11_runScript 5 wsO11_runScript RX11 N0 T D gr ad) (hrt : meth.sig.returnType = (some .int)) (hG : ∀ q ∈ ([(0, 0), (1, 0), (6, 0), (5, 0), (8, 0), (2, 0), (9, 0)] ++ allG), q ∈ gr) (hl : l.stackTraces = false) (hX : ∀ x ∈ c.exceptionTable.toList, False) {res : (Nat × Mem) ⊕ (Int32 × Mem)} (h : X11_runScript Y = some res) : FW p l e (Rx 8 1) s m [.ref (ad 0 0 0)].toArray below meth c 5 N0 T D gr ad 0 0 (vx_MQ below (va_Qi (fun r Y1 => Sum.inr (r, Y1) = res) (WB T D gr ad) (fun q => N0 ≤ q)) (vx_X (fun u => Sum.inl u = res) (XB T D gr ad) (fun q => N0 ≤ q)) [.ref (ad 0 0 0)].toArray s 1 6 (fun q => N0 ≤ q)) Y 0 [(0, .ref (ad 0 0 0))] [] := by
  unfold X11_runScript at h
  refine fw_aload_n C dX11_runScript_0 rfl 0 rfl ?_
  refine fw_get C (ci := 9) (Cn := RX11) (Tc := TX11) (N := 11) (j := 4) lyO_X11_runScript_11 rfl (hG _ (List.mem_of_getElem? (i := 0) rfl)) (of0_0 _) (ce0 T ad _ _) (by decide) (cx_ts C _ flO_X11_runScript_59) (fun _ h => h) (v := .ref (ad 8 0 0)) rfl dX11_runScript_1 ?_
  refine fw_aload_n C dX11_runScript_4 rfl 0 rfl ?_
  refine fw_get C (ci := 9) (Cn := RX11) (Tc := TX11) (N := 11) (j := 5) lyO_X11_runScript_11 rfl (hG _ (List.mem_of_getElem? (i := 0) rfl)) (of0_0 _) (ce0 T ad _ _) (by decide) (cx_ts C _ flO_X11_runScript_67) (fun _ h => h) (v := .ref (ad 1 0 0)) rfl dX11_runScript_5 ?_
  refine fw_getN C (ci := 1) (Cn := RX3) (Tc := TX3) (N := 5) (j := 0) lyO_X11_runScript_3 rfl (hG _ (List.mem_of_getElem? (i := 1) rfl)) (of1_0 _) (ce1 T ad _ _) (by decide) (Nst_use (cx_nst C) (w := .fieldLinkNest RX11 117 "RecipeScheduler$Kitchen" "recipe" "LRecipeScheduler$Recipe;" "RecipeScheduler") 520 (by decide +kernel) rfl) (fun _ h => h) (v := .ref (ad 3 ((Y 1 0 0 0).toNatClampNeg) 0)) rfl dX11_runScript_8 ?_
  obtain ⟨b1, h⟩ := gd_some h
  have b1 := of_decide_eq_true b1
  refine fw_getN C (ci := 3) (Cn := RX5) (Tc := TX5) (N := 17) (j := 7) lyO_X11_runScript_5 rfl ((fun q hq => hG q (List.mem_append_right _ hq)) _ (allG_3 b1)) (of3_0 _) (ce3 T ad _ _) (by decide) (Nst_use (cx_nst C) (w := .fieldLinkNest RX11 126 "RecipeScheduler$Recipe" "steps" "LRecipeScheduler$Names;" "RecipeScheduler") 148 (by decide +kernel) rfl) (fun _ h => h) (v := .ref (ad 4 (2*((Y 1 0 0 0).toNatClampNeg)+1) 0)) rfl dX11_runScript_11 ?_
  obtain ⟨b2, h⟩ := gd_some h
  have b2 := of_decide_eq_true b2
  obtain ⟨Y5, q4, h⟩ := bd1_some h
  refine fw_callVv C (ci := 4) (Cn := RX6) (Tc := TX6) (N := 5) (As := [.ref (ad 4 (2*((Y 1 0 0 0).toNatClampNeg)+1) 0)]) (c_X6_read (gac (hG _ (List.mem_of_getElem? (i := 4) rfl)) (gac (hG _ (List.mem_of_getElem? (i := 3) rfl)) (gac (hG _ (List.mem_of_getElem? (i := 2) rfl)) (gac ((fun q hq => hG q (List.mem_append_right _ hq)) _ (allG_4b b2)) ga0)))) q4) (cwV 1 (cx_ts C) gO11_runScript_X6_read rfl rfl rfl (by decide +kernel) ⟨Nat.le_of_ble_eq_true rfl, Nat.le_of_ble_eq_true rfl⟩) rfl (hG _ (List.mem_of_getElem? (i := 4) rfl)) (of8_0 _) (ce8 T ad _ _) rfl (st := []) rfl (Nat.le_of_ble_eq_true rfl) ⟨Nat.le_of_ble_eq_true rfl, Nat.le_of_ble_eq_true rfl⟩ dX11_runScript_14 (ppv ?_)
  refine fw_aload_n C dX11_runScript_17 rfl 0 rfl ?_
  refine fw_get C (ci := 9) (Cn := RX11) (Tc := TX11) (N := 11) (j := 0) lyO_X11_runScript_11 rfl (hG _ (List.mem_of_getElem? (i := 0) rfl)) (of0_0 _) (ce0 T ad _ _) (by decide) (cx_ts C _ flO_X11_runScript_41) (fun _ h => h) (v := .ref (ad 5 0 0)) rfl dX11_runScript_18 ?_
  refine fw_iconst C dX11_runScript_21 (v := 0) rfl ?_
  obtain ⟨Y6, e7, h⟩ := lt_some h
  refine fw_putN C (ci := 7) (Cn := RX9) (Tc := TX9) (N := 2) (j := 1) (ty := .int) (upd (Y5 5 0 0) 1 0) lyO_X11_runScript_9 rfl tyX9_ok nmX9 (hG _ (List.mem_of_getElem? (i := 3) rfl)) (of5_0 _) (ce5 T ad _ _) (by decide) (Nst_use (cx_nst C) (w := .fieldLinkNest RX11 37 "RecipeScheduler$Text" "length" "I" "RecipeScheduler") 48 (by decide +kernel) rfl) (fun _ h => h) rfl (by decide +kernel) rfl rfl (Nat.le_of_ble_eq_true rfl) (ce5_put1 T ad _ _ _) dX11_runScript_22 ?_
  refine fw_mem ((up_eq _ _ _ _ _ _).symm.trans e7) ?_
  refine fw_aload_n C dX11_runScript_25 rfl 0 rfl ?_
  rcases bdxv_some h with ⟨x12, q9, e13⟩ | ⟨Y11, q9, h⟩
  · exact fw_callXVv_l C (ci := 9) (Cn := RX11) (Tc := TX11) (N := 11) (As := []) (c_X11_requireNoError hl (gac (hG _ (List.mem_of_getElem? (i := 0) rfl)) (gac (hG _ (List.mem_of_getElem? (i := 2) rfl)) ga0)) q9) (cwV 0 (cx_ts C) gO11_runScript_X11_requireNoError rfl rfl rfl (by decide +kernel) ⟨Nat.le_of_ble_eq_true rfl, Nat.le_of_ble_eq_true rfl⟩) rfl (hG _ (List.mem_of_getElem? (i := 0) rfl)) (of0_0 _) (ce0 T ad _ _) rfl (st := []) rfl (Nat.le_of_ble_eq_true rfl) ⟨Nat.le_of_ble_eq_true rfl, Nat.le_of_ble_eq_true rfl⟩ dX11_runScript_26 hX e13 (Nat.le_of_ble_eq_true rfl) (Nat.le_of_ble_eq_true rfl)
  refine fw_callXVv_r C (ci := 9) (Cn := RX11) (Tc := TX11) (N := 11) (As := []) (c_X11_requireNoError hl (gac (hG _ (List.mem_of_getElem? (i := 0) rfl)) (gac (hG _ (List.mem_of_getElem? (i := 2) rfl)) ga0)) q9) (cwV 0 (cx_ts C) gO11_runScript_X11_requireNoError rfl rfl rfl (by decide +kernel) ⟨Nat.le_of_ble_eq_true rfl, Nat.le_of_ble_eq_true rfl⟩) rfl (hG _ (List.mem_of_getElem? (i := 0) rfl)) (of0_0 _) (ce0 T ad _ _) rfl (st := []) rfl (Nat.le_of_ble_eq_true rfl) ⟨Nat.le_of_ble_eq_true rfl, Nat.le_of_ble_eq_true rfl⟩ dX11_runScript_26 ?_
  refine fw_aload_n C dX11_runScript_29 rfl 0 rfl ?_
  refine fw_get C (ci := 9) (Cn := RX11) (Tc := TX11) (N := 11) (j := 7) lyO_X11_runScript_11 rfl (hG _ (List.mem_of_getElem? (i := 0) rfl)) (of0_0 _) (ce0 T ad _ _) (by decide) (cx_ts C _ flO_X11_runScript_77) (fun _ h => h) (v := .ref (ad 9 0 0)) rfl dX11_runScript_30 ?_
  refine fw_aload_n C dX11_runScript_33 rfl 0 rfl ?_
  refine fw_get C (ci := 9) (Cn := RX11) (Tc := TX11) (N := 11) (j := 5) lyO_X11_runScript_11 rfl (hG _ (List.mem_of_getElem? (i := 0) rfl)) (of0_0 _) (ce0 T ad _ _) (by decide) (cx_ts C _ flO_X11_runScript_67) (fun _ h => h) (v := .ref (ad 1 0 0)) rfl dX11_runScript_34 ?_
  refine fw_getN C (ci := 1) (Cn := RX3) (Tc := TX3) (N := 5) (j := 1) lyO_X11_runScript_3 rfl (hG _ (List.mem_of_getElem? (i := 1) rfl)) (of1_0 _) (ce1 T ad _ _) (by decide) (Nst_use (cx_nst C) (w := .fieldLinkNest RX11 139 "RecipeScheduler$Kitchen" "state" "LRecipeScheduler$State;" "RecipeScheduler") 522 (by decide +kernel) rfl) (fun _ h => h) (v := .ref (ad 2 0 0)) rfl dX11_runScript_37 ?_
  obtain ⟨Y16, q15, h⟩ := bd1_some h
  refine fw_callVv C (ci := 0) (Cn := RX2) (Tc := TX2) (N := 3) (As := [.ref (ad 2 0 0)]) (c_X2_push (gac (hG _ (List.mem_of_getElem? (i := 6) rfl)) (gac (hG _ (List.mem_of_getElem? (i := 5) rfl)) (fun q hq => hG q (List.mem_append_right _ hq)))) q15) (cwV 1 (cx_ts C) gO11_runScript_X2_push rfl rfl rfl (by decide +kernel) ⟨Nat.le_of_ble_eq_true rfl, Nat.le_of_ble_eq_true rfl⟩) rfl (hG _ (List.mem_of_getElem? (i := 6) rfl)) (of9_0 _) (ce9 T ad _ _) rfl (st := []) rfl (Nat.le_of_ble_eq_true rfl) ⟨Nat.le_of_ble_eq_true rfl, Nat.le_of_ble_eq_true rfl⟩ dX11_runScript_40 (ppv ?_)
  refine fw_iconst C dX11_runScript_43 (v := 0) rfl ?_
  refine fw_istore_n C dX11_runScript_44 rfl (by decide) (L' := [(1, .int 0), (0, .ref (ad 0 0 0))]) rfl ?_
  exact wO_X11_runScript_b45 C hrt hG  hl hX  _ _ _ h
end
set_option maxRecDepth 100000 in
set_option maxHeartbeats 4000000 in
theorem cO_X11_runScript {l : Launch} {N0 : Nat} {T : Nat → ClassId} {D : va_G} {gr : List (Nat × Nat)} {ad : Nat → Nat → Nat → Nat} {Y : Mem} {res : (Nat × Mem) ⊕ (Int32 × Mem)} (hl : l.stackTraces = false) (hG : ∀ q ∈ ([(0, 0), (1, 0), (6, 0), (5, 0), (8, 0), (2, 0), (9, 0)] ++ allG), q ∈ gr) (h : X11_runScript Y = some res) : CXi l yX11_runScript wsO11_runScript (Rx 8 1) N0 T D gr ad Y [.ref (ad 0 0 0)] 1 res :=
  fw_xbody (by decide +kernel) rfl (Nat.le_of_ble_eq_true rfl) (fun p e s m below meth c C hrt hX => wO_X11_runScript C hrt hG hl hX h)
