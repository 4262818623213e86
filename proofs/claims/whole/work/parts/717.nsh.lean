/-! PHASE 3: THE HELPERS of findStep and bottleneck -/
def wsNL_findStep : List Cond := .codeWith yL_findStep cL_findStep 3 (some .int) [(0, 8, 11, 72)] :: ([.classLink RL 72 "java/util/NoSuchElementException", .methodLink RL 69 yX11_findStep, .instanceMethod yX11_findStep, .selects RX11 yX11_findStep yX11_findStep, .initialized RX11, .code yX11_findStep cX11_findStep 2 (some .int), .classLink RX11 250 "java/util/NoSuchElementException", .initialized "java/util/NoSuchElementException", .fieldLink RX11 67 "RecipeScheduler" "now" "LRecipeScheduler$Kitchen;", .fieldLink RX11 41 "RecipeScheduler" "input" "LRecipeScheduler$Text;", .methodLink RX11 246 yX4_indexOf, .instanceMethod yX4_indexOf, .selects RX4 yX4_indexOf yX4_indexOf, .initialized RX4, .code yX4_indexOf cX4_indexOf 5 (some .int), .fieldLink RX4 20 "RecipeScheduler$Names" "count" "I", .fieldLink RX4 16 "RecipeScheduler$Names" "lengths" "[I", .methodLink RX4 24 yX4_matches, .instanceMethod yX4_matches, .selects RX4 yX4_matches yX4_matches, .code yX4_matches cX4_matches 5 (some .boolean), .fieldLink RX4 11 "RecipeScheduler$Names" "letters" "[[B"] ++ wsX110 ++ wsX30 ++ wsX50 ++ wsX90 ++ wsX40 ++ (ns_at RX11 254).filter goodWord)
set_option maxRecDepth 20000 in
theorem ggNL_findStep : GoodIn wsNL_findStep wsN11_findStep := goodIn_ca (goodIn_r _ [6, 7, 8, 9, 10, 11, 12, 13, 14, 15, 16, 17, 18, 19, 20, 21, 22, 23, 24, 25, 26, 27, 28, 29, 30, 31, 32, 33, 34, 35, 36, 37, 38, 39, 40, 41, 42, 43, 44, 45, 46, 47, 48, 49, 50, 51, 52, 53, 54, 55, 56, 57, 58, 59, 60] rfl (by decide +kernel)) (goodIn_sub (fun _ h => List.mem_cons_of_mem _ (List.mem_append_right _ h)) (by decide +kernel))
set_option maxRecDepth 20000 in
theorem gNL_findStep : GoodIn wsNL_findStep (wsV RL 69 RX11 yX11_findStep wsN11_findStep) := goodIn_app (goodIn_of _ (by decide +kernel)) ggNL_findStep
theorem lk_L_findStep_72 : Cond.classLink RL 72 "java/util/NoSuchElementException" ∈ wsNL_findStep := by decide +kernel
section
variable {p : Program} {l : Launch} {e : Env} {s : State} {m : MethodId} {below : List Frame} {meth : Method} {c : Code} {N0 : Nat} {T : Nat → ClassId} {D : va_G} {gr : List (Nat × Nat)} {ad : Nat → Nat → Nat → Nat}
set_option maxHeartbeats 4000000 in
theorem w_L_findStep {Y : Mem} (C : Cx p s m [.ref (ad 0 0 0), .ref (ad 11 0 0)].toArray meth c cL_findStep 3 wsNL_findStep RL N0 T D gr ad) (hE : Exw s) (hrt : meth.sig.returnType = (some .int)) (htab : c.exceptionTable.toList = tableOf [(0, 8, 11, 72)]) (hl : l.stackTraces = false) (hG : ∀ q ∈ lawG, q ∈ gr) {res : (Nat × Mem) ⊕ (Int32 × Mem)} (h : X11_findStep Y = some res) (hn : ∀ n Y1, res = .inl (n, Y1) → c4 n ≠ 0) : FW p l e (Rx 7 1) s m [.ref (ad 0 0 0), .ref (ad 11 0 0)].toArray below meth c 3 N0 T D gr ad 0 0 (MQ below (va_Qi (fun r1 Y1 => r1 = hR c4 res ∧ Y1 = hM res) (WB T D gr ad) (fun q => N0 ≤ q)) [.ref (ad 0 0 0), .ref (ad 11 0 0)].toArray s 1 6 (fun q => N0 ≤ q)) Y 0 [(0, .ref (ad 0 0 0)), (1, .ref (ad 11 0 0))] [] := by
  refine fw_aload_n C dL_findStep_0 rfl 1 rfl ?_
  refine fw_iconst C dL_findStep_1 (v := 0) rfl ?_
  refine fw_aload_n C dL_findStep_2 rfl 0 rfl ?_
  rcases res with ⟨n, Y1⟩ | ⟨v, Y1⟩
  · rcases c4_inv (hn n Y1 rfl) with rfl
    · refine fw_callXVi_c C (ci := 9) (Cn := RX11) (Tc := TX11) (N := 11) (As := []) (cN_X11_findStep hl (fun q hq => hG q ((by decide : ∀ q ∈ ([(0, 0), (1, 0), (5, 0)] ++ allG), q ∈ lawG) q hq)) h) (cwV 0 (cx_ts C) gNL_findStep rfl rfl rfl (by decide +kernel) ⟨(Nat.le_of_ble_eq_true rfl), (Nat.le_of_ble_eq_true rfl)⟩) rfl (hG _ lawG_0) (of0_0 _) (ce0 T ad _ _) rfl (st := [.int 0, .ref (ad 11 0 0)]) rfl (Nat.le_of_ble_eq_true rfl) ⟨(Nat.le_of_ble_eq_true rfl), (Nat.le_of_ble_eq_true rfl)⟩ dL_findStep_3 [] ⟨0, 8, 11, 72⟩ [] htab (fun z hz => nomatch hz) rfl (by decide) (cx_ts C _ lk_L_findStep_72) (Nst_use' (cx_nst C) cst_4) (fun q => ?_)
      refine fw_astore_n C dL_findStep_11 rfl (by decide) rfl ?_
      refine fw_iconst C dL_findStep_12 (v := 1) rfl ?_
      exact fw_iret C hrt Y1 ⟨rfl, rfl⟩ (fun t ht => ht) dL_findStep_13
  · refine fw_callXVi_r C (ci := 9) (Cn := RX11) (Tc := TX11) (N := 11) (As := []) (cN_X11_findStep hl (fun q hq => hG q ((by decide : ∀ q ∈ ([(0, 0), (1, 0), (5, 0)] ++ allG), q ∈ lawG) q hq)) h) (cwV 0 (cx_ts C) gNL_findStep rfl rfl rfl (by decide +kernel) ⟨(Nat.le_of_ble_eq_true rfl), (Nat.le_of_ble_eq_true rfl)⟩) rfl (hG _ lawG_0) (of0_0 _) (ce0 T ad _ _) rfl (st := [.int 0, .ref (ad 11 0 0)]) rfl (Nat.le_of_ble_eq_true rfl) ⟨(Nat.le_of_ble_eq_true rfl), (Nat.le_of_ble_eq_true rfl)⟩ dL_findStep_3 ?_
    refine fw_i2l C dL_findStep_6 rfl ?_
    refine fw_last C (x := v) rfl (hG _ lawG_11) dL_findStep_7 ?_
    refine fw_goto C dL_findStep_8 (tgt := 14) rfl ?_
    refine fw_iconst C dL_findStep_14 (v := 0) rfl ?_
    exact fw_iret C hrt (up Y1 11 0 0 0 v) ⟨rfl, rfl⟩ (fun t ht => ht) dL_findStep_15
end
theorem c_L_findStep {l : Launch} {N0 : Nat} {T : Nat → ClassId} {D : va_G} {gr : List (Nat × Nat)} {ad : Nat → Nat → Nat → Nat} {Y : Mem} {res : (Nat × Mem) ⊕ (Int32 × Mem)} (hl : l.stackTraces = false) (hG : ∀ q ∈ lawG, q ∈ gr) (h : X11_findStep Y = some res) (hn : ∀ n Y1, res = .inl (n, Y1) → c4 n ≠ 0) : CH l yL_findStep wsNL_findStep (Rx 7 1) N0 T D gr ad Y [.ref (ad 0 0 0), .ref (ad 11 0 0)] 1 (hR c4 res) (hM res) :=
  fw_hbody (by decide +kernel) rfl (Nat.le_of_ble_eq_true rfl) (fun p e s m below meth c C hE hrt htab => w_L_findStep C hE hrt htab hl hG h hn)
def wsNL_bottleneck : List Cond := .codeWith yL_bottleneck cL_bottleneck 3 (some .int) [(0, 8, 11, 72)] :: ((wsL_bottleneck_r1 ++ (wsL_bottleneck_r2 ++ (wsL_bottleneck_r3 ++ (wsL_bottleneck_r4 ++ (wsL_bottleneck_r5 ++ wsL_bottleneck_r6))))) ++ wsX110 ++ wsX30 ++ wsX50 ++ wsX40 ++ wsX80 ++ (ns_at RX11 254).filter goodWord)
set_option maxRecDepth 20000 in
theorem ggNL_bottleneck : GoodIn wsNL_bottleneck wsN11_bottleneck := goodIn_ca (goodIn_r _ [6, 7, 8, 9, 10, 11, 5, 12, 13, 14, 15, 16, 17, 18, 19, 20, 21, 22, 23, 24, 25, 26, 27, 28, 29, 30, 31, 32, 33, 34, 35, 36, 37, 38, 39, 40, 41, 42, 43, 44, 45, 46, 47, 48, 49, 50, 51, 52, 53, 54, 55, 56, 57, 58, 59, 60, 61, 62, 63, 64, 65, 66, 67, 68, 69, 70, 71, 72, 73, 74, 75, 76, 77, 78, 79, 80, 81, 82, 83, 84, 85, 86, 87, 88, 89, 90, 91, 92, 93, 94, 95, 96, 97, 98, 99, 100, 101, 102, 103, 104, 105, 106, 107, 108, 109, 110, 111, 112, 113, 114, 115, 116, 117, 118, 119, 120, 121, 122, 123, 124, 125, 126, 127, 128, 129, 130, 131, 132, 133, 134, 135, 136, 137, 138, 139, 140, 141, 142, 143, 144, 145, 146, 147, 148, 149, 150, 151, 152, 153, 154, 155, 156, 157, 158, 159, 160, 161, 162, 163, 164, 165, 166, 167, 168, 169, 170, 171, 172, 173, 174] rfl (by decide +kernel)) (goodIn_sub (fun _ h => List.mem_cons_of_mem _ (List.mem_append_right _ h)) (by decide +kernel))
set_option maxRecDepth 20000 in
theorem gNL_bottleneck : GoodIn wsNL_bottleneck (wsV RL 110 RX11 yX11_bottleneck wsN11_bottleneck) := goodIn_app (goodIn_of _ (by decide +kernel)) ggNL_bottleneck
theorem lk_L_bottleneck_72 : Cond.classLink RL 72 "java/util/NoSuchElementException" ∈ wsNL_bottleneck := by decide +kernel
section
variable {p : Program} {l : Launch} {e : Env} {s : State} {m : MethodId} {below : List Frame} {meth : Method} {c : Code} {N0 : Nat} {T : Nat → ClassId} {D : va_G} {gr : List (Nat × Nat)} {ad : Nat → Nat → Nat → Nat}
set_option maxHeartbeats 4000000 in
theorem w_L_bottleneck {Y : Mem} (C : Cx p s m [.ref (ad 0 0 0), .ref (ad 11 0 0)].toArray meth c cL_bottleneck 3 wsNL_bottleneck RL N0 T D gr ad) (hE : Exw s) (hrt : meth.sig.returnType = (some .int)) (htab : c.exceptionTable.toList = tableOf [(0, 8, 11, 72)]) (hl : l.stackTraces = false) (hG : ∀ q ∈ lawG, q ∈ gr) {res : (Nat × Mem) ⊕ (Int32 × Mem)} (h : X11_bottleneck Y = some res) (hn : ∀ n Y1, res = .inl (n, Y1) → c4 n ≠ 0) : FW p l e (Rx 7 1) s m [.ref (ad 0 0 0), .ref (ad 11 0 0)].toArray below meth c 3 N0 T D gr ad 0 0 (MQ below (va_Qi (fun r1 Y1 => r1 = hR c4 res ∧ Y1 = hM res) (WB T D gr ad) (fun q => N0 ≤ q)) [.ref (ad 0 0 0), .ref (ad 11 0 0)].toArray s 1 6 (fun q => N0 ≤ q)) Y 0 [(0, .ref (ad 0 0 0)), (1, .ref (ad 11 0 0))] [] := by
  refine fw_aload_n C dL_bottleneck_0 rfl 1 rfl ?_
  refine fw_iconst C dL_bottleneck_1 (v := 0) rfl ?_
  refine fw_aload_n C dL_bottleneck_2 rfl 0 rfl ?_
  rcases res with ⟨n, Y1⟩ | ⟨v, Y1⟩
  · rcases c4_inv (hn n Y1 rfl) with rfl
    · refine fw_callXVi_c C (ci := 9) (Cn := RX11) (Tc := TX11) (N := 11) (As := []) (cN_X11_bottleneck hl (fun q hq => hG q ((by decide : ∀ q ∈ ([(0, 0), (1, 0), (2, 0), (1, 1), (2, 1)] ++ allG), q ∈ lawG) q hq)) h) (cwV 0 (cx_ts C) gNL_bottleneck rfl rfl rfl (by decide +kernel) ⟨(Nat.le_of_ble_eq_true rfl), (Nat.le_of_ble_eq_true rfl)⟩) rfl (hG _ lawG_0) (of0_0 _) (ce0 T ad _ _) rfl (st := [.int 0, .ref (ad 11 0 0)]) rfl (Nat.le_of_ble_eq_true rfl) ⟨(Nat.le_of_ble_eq_true rfl), (Nat.le_of_ble_eq_true rfl)⟩ dL_bottleneck_3 [] ⟨0, 8, 11, 72⟩ [] htab (fun z hz => nomatch hz) rfl (by decide) (cx_ts C _ lk_L_bottleneck_72) (Nst_use' (cx_nst C) cst_4) (fun q => ?_)
      refine fw_astore_n C dL_bottleneck_11 rfl (by decide) rfl ?_
      refine fw_iconst C dL_bottleneck_12 (v := 1) rfl ?_
      exact fw_iret C hrt Y1 ⟨rfl, rfl⟩ (fun t ht => ht) dL_bottleneck_13
  · refine fw_callXVi_r C (ci := 9) (Cn := RX11) (Tc := TX11) (N := 11) (As := []) (cN_X11_bottleneck hl (fun q hq => hG q ((by decide : ∀ q ∈ ([(0, 0), (1, 0), (2, 0), (1, 1), (2, 1)] ++ allG), q ∈ lawG) q hq)) h) (cwV 0 (cx_ts C) gNL_bottleneck rfl rfl rfl (by decide +kernel) ⟨(Nat.le_of_ble_eq_true rfl), (Nat.le_of_ble_eq_true rfl)⟩) rfl (hG _ lawG_0) (of0_0 _) (ce0 T ad _ _) rfl (st := [.int 0, .ref (ad 11 0 0)]) rfl (Nat.le_of_ble_eq_true rfl) ⟨(Nat.le_of_ble_eq_true rfl), (Nat.le_of_ble_eq_true rfl)⟩ dL_bottleneck_3 ?_
    refine fw_i2l C dL_bottleneck_6 rfl ?_
    refine fw_last C (x := v) rfl (hG _ lawG_11) dL_bottleneck_7 ?_
    refine fw_goto C dL_bottleneck_8 (tgt := 14) rfl ?_
    refine fw_iconst C dL_bottleneck_14 (v := 0) rfl ?_
    exact fw_iret C hrt (up Y1 11 0 0 0 v) ⟨rfl, rfl⟩ (fun t ht => ht) dL_bottleneck_15
end
theorem c_L_bottleneck {l : Launch} {N0 : Nat} {T : Nat → ClassId} {D : va_G} {gr : List (Nat × Nat)} {ad : Nat → Nat → Nat → Nat} {Y : Mem} {res : (Nat × Mem) ⊕ (Int32 × Mem)} (hl : l.stackTraces = false) (hG : ∀ q ∈ lawG, q ∈ gr) (h : X11_bottleneck Y = some res) (hn : ∀ n Y1, res = .inl (n, Y1) → c4 n ≠ 0) : CH l yL_bottleneck wsNL_bottleneck (Rx 7 1) N0 T D gr ad Y [.ref (ad 0 0 0), .ref (ad 11 0 0)] 1 (hR c4 res) (hM res) :=
  fw_hbody (by decide +kernel) rfl (Nat.le_of_ble_eq_true rfl) (fun p e s m below meth c C hE hrt htab => w_L_bottleneck C hE hrt htab hl hG h hn)
