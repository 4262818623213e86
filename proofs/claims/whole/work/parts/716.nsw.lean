/-! PHASE 3: findStep, bottleneck over their own words -/
def wsN11_findStep : List Cond := .code yX11_findStep cX11_findStep 2 (some .int) :: ([.classLink RX11 250 "java/util/NoSuchElementException", .initialized "java/util/NoSuchElementException", .fieldLink RX11 67 "RecipeScheduler" "now" "LRecipeScheduler$Kitchen;", .fieldLink RX11 41 "RecipeScheduler" "input" "LRecipeScheduler$Text;", .methodLink RX11 246 yX4_indexOf, .instanceMethod yX4_indexOf, .selects RX4 yX4_indexOf yX4_indexOf, .initialized RX4, .code yX4_indexOf cX4_indexOf 5 (some .int), .fieldLink RX4 20 "RecipeScheduler$Names" "count" "I", .fieldLink RX4 16 "RecipeScheduler$Names" "lengths" "[I", .methodLink RX4 24 yX4_matches, .instanceMethod yX4_matches, .selects RX4 yX4_matches yX4_matches, .code yX4_matches cX4_matches 5 (some .boolean), .fieldLink RX4 11 "RecipeScheduler$Names" "letters" "[[B"] ++ wsX110 ++ wsX30 ++ wsX50 ++ wsX90 ++ wsX40 ++ (ns_at RX11 254).filter goodWord)
set_option maxRecDepth 20000 in
theorem ggN11_findStep_X4_indexOf : GoodIn wsN11_findStep wsX4_indexOf := goodIn_r _ [9, 10, 11, 12, 13, 14, 8, 15, 16, 52, 53, 54, 50, 51] rfl (by decide +kernel)
set_option maxRecDepth 20000 in
theorem gN11_findStep_X4_indexOf : GoodIn wsN11_findStep (wsV RX11 246 RX4 yX4_indexOf wsX4_indexOf) := goodIn_app (goodIn_of _ (by decide +kernel)) ggN11_findStep_X4_indexOf
theorem lyN_X11_findStep_11 : ∀ w ∈ u_ws RX11 TX11 11, w ∈ wsN11_findStep := by decide +kernel
theorem flN_X11_findStep_67 : Cond.fieldLink RX11 67 "RecipeScheduler" "now" "LRecipeScheduler$Kitchen;" ∈ wsN11_findStep := by decide +kernel
theorem lyN_X11_findStep_3 : ∀ w ∈ u_ws RX3 TX3 5, w ∈ wsN11_findStep := by decide +kernel
theorem lyN_X11_findStep_5 : ∀ w ∈ u_ws RX5 TX5 17, w ∈ wsN11_findStep := by decide +kernel
theorem flN_X11_findStep_41 : Cond.fieldLink RX11 41 "RecipeScheduler" "input" "LRecipeScheduler$Text;" ∈ wsN11_findStep := by decide +kernel
theorem lyN_X11_findStep_9 : ∀ w ∈ u_ws RX9 TX9 2, w ∈ wsN11_findStep := by decide +kernel
theorem thN_X11_findStep_31 : Cond.classLink RX11 250 "java/util/NoSuchElementException" ∈ wsN11_findStep ∧ Cond.initialized "java/util/NoSuchElementException" ∈ wsN11_findStep ∧ ∀ w ∈ (ns_at RX11 254).filter goodWord, w ∈ wsN11_findStep := by decide +kernel
section
variable {p : Program} {l : Launch} {e : Env} {s : State} {m : MethodId} {below : List Frame} {meth : Method} {c : Code} {N0 : Nat} {T : Nat → ClassId} {D : va_G} {gr : List (Nat × Nat)} {ad : Nat → Nat → Nat → Nat}
set_option maxRecDepth 100000 in
set_option maxHeartbeats 4000000 in
theorem wN_X11_findStep {Y : Mem} (C : Cx p s m [.ref (ad 0 0 0)].toArray meth c cX11_findStep 2 wsN11_findStep RX11 N0 T D gr ad) (hrt : meth.sig.returnType = (some .int)) (hG : ∀ q ∈ ([(0, 0), (1, 0), (5, 0)] ++ allG), q ∈ gr) (hl : l.stackTraces = false) (hX : ∀ x ∈ c.exceptionTable.toList, False) {res : (Nat × Mem) ⊕ (Int32 × Mem)} (h : X11_findStep Y = some res) : FW p l e (Rx 6 1) s m [.ref (ad 0 0 0)].toArray below meth c 2 N0 T D gr ad 0 0 (vx_MQ below (va_Qi (fun r Y1 => Sum.inr (r, Y1) = res) (WB T D gr ad) (fun q => N0 ≤ q)) (vx_X (fun u => Sum.inl u = res) (XB T D gr ad) (fun q => N0 ≤ q)) [.ref (ad 0 0 0)].toArray s 1 6 (fun q => N0 ≤ q)) Y 0 [(0, .ref (ad 0 0 0))] [] := by
  unfold X11_findStep at h
  refine fw_aload_n C dX11_findStep_0 rfl 0 rfl ?_
  refine fw_get C (ci := 9) (Cn := RX11) (Tc := TX11) (N := 11) (j := 5) lyN_X11_findStep_11 rfl (hG _ (List.mem_of_getElem? (i := 0) rfl)) (of0_0 _) (ce0 T ad _ _) (by decide) (cx_ts C _ flN_X11_findStep_67) (fun _ h => h) (v := .ref (ad 1 0 0)) rfl dX11_findStep_1 ?_
  refine fw_getN C (ci := 1) (Cn := RX3) (Tc := TX3) (N := 5) (j := 0) lyN_X11_findStep_3 rfl (hG _ (List.mem_of_getElem? (i := 1) rfl)) (of1_0 _) (ce1 T ad _ _) (by decide) (Nst_use (cx_nst C) (w := .fieldLinkNest RX11 117 "RecipeScheduler$Kitchen" "recipe" "LRecipeScheduler$Recipe;" "RecipeScheduler") 520 (by decide +kernel) rfl) (fun _ h => h) (v := .ref (ad 3 ((Y 1 0 0 0).toNatClampNeg) 0)) rfl dX11_findStep_4 ?_
  obtain ⟨b1, h⟩ := gd_some h
  have b1 := of_decide_eq_true b1
  refine fw_getN C (ci := 3) (Cn := RX5) (Tc := TX5) (N := 17) (j := 7) lyN_X11_findStep_5 rfl ((fun q hq => hG q (List.mem_append_right _ hq)) _ (allG_3 b1)) (of3_0 _) (ce3 T ad _ _) (by decide) (Nst_use (cx_nst C) (w := .fieldLinkNest RX11 126 "RecipeScheduler$Recipe" "steps" "LRecipeScheduler$Names;" "RecipeScheduler") 148 (by decide +kernel) rfl) (fun _ h => h) (v := .ref (ad 4 (2*((Y 1 0 0 0).toNatClampNeg)+1) 0)) rfl dX11_findStep_7 ?_
  refine fw_aload_n C dX11_findStep_10 rfl 0 rfl ?_
  refine fw_get C (ci := 9) (Cn := RX11) (Tc := TX11) (N := 11) (j := 0) lyN_X11_findStep_11 rfl (hG _ (List.mem_of_getElem? (i := 0) rfl)) (of0_0 _) (ce0 T ad _ _) (by decide) (cx_ts C _ flN_X11_findStep_41) (fun _ h => h) (v := .ref (ad 5 0 0)) rfl dX11_findStep_11 ?_
  refine fw_iconst C dX11_findStep_14 (v := 0) rfl ?_
  refine fw_aload_n C dX11_findStep_15 rfl 0 rfl ?_
  refine fw_get C (ci := 9) (Cn := RX11) (Tc := TX11) (N := 11) (j := 0) lyN_X11_findStep_11 rfl (hG _ (List.mem_of_getElem? (i := 0) rfl)) (of0_0 _) (ce0 T ad _ _) (by decide) (cx_ts C _ flN_X11_findStep_41) (fun _ h => h) (v := .ref (ad 5 0 0)) rfl dX11_findStep_16 ?_
  refine fw_getN C (ci := 7) (Cn := RX9) (Tc := TX9) (N := 2) (j := 1) lyN_X11_findStep_9 rfl (hG _ (List.mem_of_getElem? (i := 2) rfl)) (of5_0 _) (ce5 T ad _ _) (by decide) (Nst_use (cx_nst C) (w := .fieldLinkNest RX11 37 "RecipeScheduler$Text" "length" "I" "RecipeScheduler") 48 (by decide +kernel) rfl) (fun _ h => h) (v := .int (Y 5 0 0 1)) rfl dX11_findStep_19 ?_
  obtain ⟨b2, h⟩ := gd_some h
  have b2 := of_decide_eq_true b2
  obtain ⟨r3, q4, h⟩ := bd1_some h
  refine fw_callVi C (ci := 2) (Cn := RX4) (Tc := TX4) (N := 3) (As := [.ref (ad 5 0 0), .int 0, .int (Y 5 0 0 1)]) (c_X4_indexOf (gac ((fun q hq => hG q (List.mem_append_right _ hq)) _ (allG_4b b2)) (gac (hG _ (List.mem_of_getElem? (i := 2) rfl)) ga0)) q4) (cwV 3 (cx_ts C) gN11_findStep_X4_indexOf rfl rfl rfl (by decide +kernel) ⟨Nat.le_of_ble_eq_true rfl, Nat.le_of_ble_eq_true rfl⟩) rfl ((fun q hq => hG q (List.mem_append_right _ hq)) _ (allG_4b b2)) (of4_0 _) (ce4 T ad _ _) rfl (st := []) rfl (Nat.le_of_ble_eq_true rfl) ⟨Nat.le_of_ble_eq_true rfl, Nat.le_of_ble_eq_true rfl⟩ dX11_findStep_22 (pp2 ?_)
  refine fw_istore_n C dX11_findStep_25 rfl (by decide) (L' := [(1, .int r3), (0, .ref (ad 0 0 0))]) rfl ?_
  refine fw_iload_n C dX11_findStep_26 rfl 0 rfl ?_
  refine fw_iconst C dX11_findStep_27 (v := (-1)) rfl ?_
  refine fw_icmp_ne C dX11_findStep_28 (tgt := 41) rfl (fun c5 => ?_) (fun c5 => ?_)
  · have h := ite_f c5 h
    refine fw_iload_n C dX11_findStep_41 rfl 0 rfl ?_
    refine fw_xr (Nat.le_of_ble_eq_true rfl) (Nat.le_of_ble_eq_true rfl) ?_
    exact fw_iret C hrt Y (Option.some.inj h) (fun t ht => ht) dX11_findStep_42
  · have h := ite_t c5 h
    exact fw_throwSN C hl hX (cx_ts C _ thN_X11_findStep_31.1) (cx_ts C _ thN_X11_findStep_31.2.1) (sr_15 (cx_st C)) (vx_hat (fun w hw => cx_ts C _ (thN_X11_findStep_31.2.2 w hw)) ns_nb (vx_c (Nst_use (cx_nst C) (w := .castable "java/util/NoSuchElementException" "java/util/NoSuchElementException") 1073 (by decide +kernel) rfl) (vx_c (Nst_use (cx_nst C) 826 (by decide +kernel) rfl) (vx_c (Nst_use (cx_nst C) 828 (by decide +kernel) rfl) (vx_c (Nst_use (cx_nst C) 830 (by decide +kernel) rfl) vx_n))))) ns_ot dX11_findStep_31 dX11_findStep_34 dX11_findStep_35 dX11_findStep_37 dX11_findStep_40 (Nat.le_of_ble_eq_true rfl) (Nat.le_of_ble_eq_true rfl) (Nat.le_of_ble_eq_true rfl) (Nat.le_of_ble_eq_true rfl) (Nat.le_of_ble_eq_true rfl) (Nat.le_of_ble_eq_true rfl) (Option.some.inj h)
end
set_option maxRecDepth 100000 in
set_option maxHeartbeats 4000000 in
theorem cN_X11_findStep {l : Launch} {N0 : Nat} {T : Nat → ClassId} {D : va_G} {gr : List (Nat × Nat)} {ad : Nat → Nat → Nat → Nat} {Y : Mem} {res : (Nat × Mem) ⊕ (Int32 × Mem)} (hl : l.stackTraces = false) (hG : ∀ q ∈ ([(0, 0), (1, 0), (5, 0)] ++ allG), q ∈ gr) (h : X11_findStep Y = some res) : CXi l yX11_findStep wsN11_findStep (Rx 6 1) N0 T D gr ad Y [.ref (ad 0 0 0)] 1 res :=
  fw_xbody (by decide +kernel) rfl (Nat.le_of_ble_eq_true rfl) (fun p e s m below meth c C hrt hX => wN_X11_findStep C hrt hG hl hX h)
def wsN11_bottleneck : List Cond := .code yX11_bottleneck cX11_bottleneck 5 (some .int) :: ((wsX11_bottleneck_r1 ++ (wsX11_bottleneck_r2 ++ (wsX11_bottleneck_r3 ++ (wsX11_bottleneck_r4 ++ wsX11_bottleneck_r5)))) ++ wsX110 ++ wsX30 ++ wsX50 ++ wsX40 ++ wsX80 ++ (ns_at RX11 254).filter goodWord)
set_option maxRecDepth 20000 in
theorem ggN11_bottleneck_X11_contains : GoodIn wsN11_bottleneck wsX11_contains := goodIn_r _ [7] rfl (by decide +kernel)
set_option maxRecDepth 20000 in
theorem gN11_bottleneck_X11_contains : GoodIn wsN11_bottleneck (va_wsS RX11 208 yX11_contains wsX11_contains) := goodIn_app (goodIn_of _ (by decide +kernel)) ggN11_bottleneck_X11_contains
set_option maxRecDepth 20000 in
theorem ggN11_bottleneck_X11_finishWithShorter : GoodIn wsN11_bottleneck wsX11_finishWithShorter := goodIn_r _ [11, 12, 3, 13, 14, 15, 16, 17, 18, 19, 20, 21, 22, 23, 24, 25, 26, 27, 28, 29, 30, 31, 32, 33, 34, 35, 36, 37, 38, 39, 40, 41, 42, 43, 44, 45, 46, 47, 48, 49, 50, 51, 52, 53, 54, 55, 56, 57, 5, 6, 7, 58, 59, 60, 61, 62, 63, 64, 65, 66, 67, 68, 69, 70, 71, 72, 73, 74, 75, 76, 77, 78, 79, 80, 81, 82, 83, 84, 85, 86, 87, 88, 89, 90, 91, 92, 93, 94, 95, 96, 97, 98, 99, 100, 101, 102, 103, 104, 105, 106, 107, 108, 109, 110, 111, 112, 113, 114, 115, 116, 117, 118, 119, 120, 121, 122, 123, 124, 125, 126, 127, 128, 129, 130, 131, 132, 133, 134, 155, 156, 157, 158, 159, 160, 161, 162, 163, 164, 165, 166, 167, 168, 169, 135, 136, 137, 138, 139, 140, 141, 142, 143, 144, 145, 146, 147, 148, 149, 150, 151, 152, 153, 154] rfl (by decide +kernel)
set_option maxRecDepth 20000 in
theorem gN11_bottleneck_X11_finishWithShorter : GoodIn wsN11_bottleneck (wsV RX11 310 RX11 yX11_finishWithShorter wsX11_finishWithShorter) := goodIn_app (goodIn_of _ (by decide +kernel)) ggN11_bottleneck_X11_finishWithShorter
theorem lyN_X11_bottleneck_11 : ∀ w ∈ u_ws RX11 TX11 11, w ∈ wsN11_bottleneck := by decide +kernel
theorem flN_X11_bottleneck_67 : Cond.fieldLink RX11 67 "RecipeScheduler" "now" "LRecipeScheduler$Kitchen;" ∈ wsN11_bottleneck := by decide +kernel
theorem lyN_X11_bottleneck_3 : ∀ w ∈ u_ws RX3 TX3 5, w ∈ wsN11_bottleneck := by decide +kernel
theorem lyN_X11_bottleneck_5 : ∀ w ∈ u_ws RX5 TX5 17, w ∈ wsN11_bottleneck := by decide +kernel
theorem lyN_X11_bottleneck_4 : ∀ w ∈ u_ws RX4 TX4 3, w ∈ wsN11_bottleneck := by decide +kernel
theorem thN_X11_bottleneck_74 : Cond.classLink RX11 250 "java/util/NoSuchElementException" ∈ wsN11_bottleneck ∧ Cond.initialized "java/util/NoSuchElementException" ∈ wsN11_bottleneck ∧ ∀ w ∈ (ns_at RX11 254).filter goodWord, w ∈ wsN11_bottleneck := by decide +kernel
theorem lyN_X11_bottleneck_8 : ∀ w ∈ u_ws RX8 TX8 15, w ∈ wsN11_bottleneck := by decide +kernel
section
variable {p : Program} {l : Launch} {e : Env} {s : State} {m : MethodId} {below : List Frame} {meth : Method} {c : Code} {N0 : Nat} {T : Nat → ClassId} {D : va_G} {gr : List (Nat × Nat)} {ad : Nat → Nat → Nat → Nat}
set_option maxRecDepth 100000 in
set_option maxHeartbeats 4000000 in
theorem wN_X11_bottleneck_b63  (C : Cx p s m [.ref (ad 0 0 0)].toArray meth c cX11_bottleneck 5 wsN11_bottleneck RX11 N0 T D gr ad) (hrt : meth.sig.returnType = (some .int)) (hG : ∀ q ∈ ([(0, 0), (1, 0), (2, 0), (1, 1), (2, 1)] ++ allG), q ∈ gr) (hl : l.stackTraces = false) (hX : ∀ x ∈ c.exceptionTable.toList, False) {res : (Nat × Mem) ⊕ (Int32 × Mem)} {k6 : Mem → Int32 → Int32 → Int32 → Option ((Nat × Mem) ⊕ (Int32 × Mem))} (hk6 : ∀ (Y : Mem) (l3 : Int32) (l2 : Int32) (l1 : Int32), k6 Y l3 l2 l1 = some res → FW p l e (Rx 6 1) s m [.ref (ad 0 0 0)].toArray below meth c 5 N0 T D gr ad 0 0 (vx_MQ below (va_Qi (fun r Y1 => Sum.inr (r, Y1) = res) (WB T D gr ad) (fun q => N0 ≤ q)) (vx_X (fun u => Sum.inl u = res) (XB T D gr ad) (fun q => N0 ≤ q)) [.ref (ad 0 0 0)].toArray s 1 6 (fun q => N0 ≤ q)) Y 6 [(3, .int l3), (2, .int l2), (1, .int l1), (0, .ref (ad 0 0 0))] []) (Y : Mem) (l3 : Int32) (l2 : Int32) (l1 : Int32) (h : X11_bottleneck_b63  k6 Y l3 l2 l1 = some res) : FW p l e (Rx 6 1) s m [.ref (ad 0 0 0)].toArray below meth c 5 N0 T D gr ad 0 0 (vx_MQ below (va_Qi (fun r Y1 => Sum.inr (r, Y1) = res) (WB T D gr ad) (fun q => N0 ≤ q)) (vx_X (fun u => Sum.inl u = res) (XB T D gr ad) (fun q => N0 ≤ q)) [.ref (ad 0 0 0)].toArray s 1 6 (fun q => N0 ≤ q)) Y 63 [(3, .int l3), (2, .int l2), (1, .int l1), (0, .ref (ad 0 0 0))] [] := by
  unfold X11_bottleneck_b63 at h
  refine fw_iinc C dX11_bottleneck_63 (kk := 0) (v := l3 + 1) rfl rfl (by decide) (L' := [(3, .int (l3 + 1)), (2, .int l2), (1, .int l1), (0, .ref (ad 0 0 0))]) rfl ?_
  refine fw_goto C dX11_bottleneck_66 (tgt := 6) rfl ?_
  exact hk6 _ _ _ _ h
set_option maxRecDepth 100000 in
set_option maxHeartbeats 4000000 in
theorem wN_X11_bottleneck_b58  (C : Cx p s m [.ref (ad 0 0 0)].toArray meth c cX11_bottleneck 5 wsN11_bottleneck RX11 N0 T D gr ad) (hrt : meth.sig.returnType = (some .int)) (hG : ∀ q ∈ ([(0, 0), (1, 0), (2, 0), (1, 1), (2, 1)] ++ allG), q ∈ gr) (hl : l.stackTraces = false) (hX : ∀ x ∈ c.exceptionTable.toList, False) {res : (Nat × Mem) ⊕ (Int32 × Mem)} {k6 : Mem → Int32 → Int32 → Int32 → Option ((Nat × Mem) ⊕ (Int32 × Mem))} (hk6 : ∀ (Y : Mem) (l3 : Int32) (l2 : Int32) (l1 : Int32), k6 Y l3 l2 l1 = some res → FW p l e (Rx 6 1) s m [.ref (ad 0 0 0)].toArray below meth c 5 N0 T D gr ad 0 0 (vx_MQ below (va_Qi (fun r Y1 => Sum.inr (r, Y1) = res) (WB T D gr ad) (fun q => N0 ≤ q)) (vx_X (fun u => Sum.inl u = res) (XB T D gr ad) (fun q => N0 ≤ q)) [.ref (ad 0 0 0)].toArray s 1 6 (fun q => N0 ≤ q)) Y 6 [(3, .int l3), (2, .int l2), (1, .int l1), (0, .ref (ad 0 0 0))] []) (Y : Mem) (l4 : Int32) (l3 : Int32) (h : X11_bottleneck_b58  k6 Y l4 l3 = some res) : FW p l e (Rx 6 1) s m [.ref (ad 0 0 0)].toArray below meth c 5 N0 T D gr ad 0 0 (vx_MQ below (va_Qi (fun r Y1 => Sum.inr (r, Y1) = res) (WB T D gr ad) (fun q => N0 ≤ q)) (vx_X (fun u => Sum.inl u = res) (XB T D gr ad) (fun q => N0 ≤ q)) [.ref (ad 0 0 0)].toArray s 1 6 (fun q => N0 ≤ q)) Y 58 [(4, .int l4), (3, .int l3), (0, .ref (ad 0 0 0))] [] := by
  unfold X11_bottleneck_b58 at h
  refine fw_iload_n C dX11_bottleneck_58 rfl 1 rfl ?_
  refine fw_istore_n C dX11_bottleneck_59 rfl (by decide) (L' := [(1, .int l3), (4, .int l4), (3, .int l3), (0, .ref (ad 0 0 0))]) rfl ?_
  refine fw_iload C dX11_bottleneck_60 1 rfl ?_
  refine fw_istore_n C dX11_bottleneck_62 rfl (by decide) (L' := [(2, .int l4), (1, .int l3), (4, .int l4), (3, .int l3), (0, .ref (ad 0 0 0))]) rfl ?_
  refine fw_sub [3, 0, 1, 4] (L' := [(3, .int l3), (2, .int l4), (1, .int l3), (0, .ref (ad 0 0 0))]) rfl ?_
  exact wN_X11_bottleneck_b63 C hrt hG  hl hX hk6 _ _ _ _ h
set_option maxRecDepth 100000 in
set_option maxHeartbeats 4000000 in
theorem wN_X11_bottleneck_b6  (C : Cx p s m [.ref (ad 0 0 0)].toArray meth c cX11_bottleneck 5 wsN11_bottleneck RX11 N0 T D gr ad) (hrt : meth.sig.returnType = (some .int)) (hG : ∀ q ∈ ([(0, 0), (1, 0), (2, 0), (1, 1), (2, 1)] ++ allG), q ∈ gr) (hl : l.stackTraces = false) (hX : ∀ x ∈ c.exceptionTable.toList, False) {res : (Nat × Mem) ⊕ (Int32 × Mem)} : ∀ (n : Nat) (Y : Mem) (l3 : Int32) (l2 : Int32) (l1 : Int32), X11_bottleneck_b6   n Y l3 l2 l1 = some res → FW p l e (Rx 6 1) s m [.ref (ad 0 0 0)].toArray below meth c 5 N0 T D gr ad 0 0 (vx_MQ below (va_Qi (fun r Y1 => Sum.inr (r, Y1) = res) (WB T D gr ad) (fun q => N0 ≤ q)) (vx_X (fun u => Sum.inl u = res) (XB T D gr ad) (fun q => N0 ≤ q)) [.ref (ad 0 0 0)].toArray s 1 6 (fun q => N0 ≤ q)) Y 6 [(3, .int l3), (2, .int l2), (1, .int l1), (0, .ref (ad 0 0 0))] [] := by
  intro n
  induction n with
  | zero =>
    intro Y l3 l2 l1 h
    unfold X11_bottleneck_b6 at h
    cases h
  | succ n ih =>
    intro Y l3 l2 l1 h
    unfold X11_bottleneck_b6 at h
    refine fw_iload_n C dX11_bottleneck_6 rfl 0 rfl ?_
    refine fw_aload_n C dX11_bottleneck_7 rfl 3 rfl ?_
    refine fw_get C (ci := 9) (Cn := RX11) (Tc := TX11) (N := 11) (j := 5) lyN_X11_bottleneck_11 rfl (hG _ (List.mem_of_getElem? (i := 0) rfl)) (of0_0 _) (ce0 T ad _ _) (by decide) (cx_ts C _ flN_X11_bottleneck_67) (fun _ h => h) (v := .ref (ad 1 0 0)) rfl dX11_bottleneck_8 ?_
    refine fw_getN C (ci := 1) (Cn := RX3) (Tc := TX3) (N := 5) (j := 0) lyN_X11_bottleneck_3 rfl (hG _ (List.mem_of_getElem? (i := 1) rfl)) (of1_0 _) (ce1 T ad _ _) (by decide) (Nst_use (cx_nst C) (w := .fieldLinkNest RX11 117 "RecipeScheduler$Kitchen" "recipe" "LRecipeScheduler$Recipe;" "RecipeScheduler") 520 (by decide +kernel) rfl) (fun _ h => h) (v := .ref (ad 3 ((Y 1 0 0 0).toNatClampNeg) 0)) rfl dX11_bottleneck_11 ?_
    obtain ⟨b1, h⟩ := gd_some h
    have b1 := of_decide_eq_true b1
    refine fw_getN C (ci := 3) (Cn := RX5) (Tc := TX5) (N := 17) (j := 7) lyN_X11_bottleneck_5 rfl ((fun q hq => hG q (List.mem_append_right _ hq)) _ (allG_3 b1)) (of3_0 _) (ce3 T ad _ _) (by decide) (Nst_use (cx_nst C) (w := .fieldLinkNest RX11 126 "RecipeScheduler$Recipe" "steps" "LRecipeScheduler$Names;" "RecipeScheduler") 148 (by decide +kernel) rfl) (fun _ h => h) (v := .ref (ad 4 (2*((Y 1 0 0 0).toNatClampNeg)+1) 0)) rfl dX11_bottleneck_14 ?_
    obtain ⟨b2, h⟩ := gd_some h
    have b2 := of_decide_eq_true b2
    refine fw_getN C (ci := 2) (Cn := RX4) (Tc := TX4) (N := 3) (j := 2) lyN_X11_bottleneck_4 rfl ((fun q hq => hG q (List.mem_append_right _ hq)) _ (allG_4b b2)) (of4_0 _) (ce4 T ad _ _) (by decide) (Nst_use (cx_nst C) (w := .fieldLinkNest RX11 130 "RecipeScheduler$Names" "count" "I" "RecipeScheduler") 115 (by decide +kernel) rfl) (fun _ h => h) (v := .int (Y 4 (2*((Y 1 0 0 0).toNatClampNeg)+1) 0 2)) rfl dX11_bottleneck_17 ?_
    refine fw_icmp_ge C dX11_bottleneck_20 (tgt := 69) rfl (fun c3 => ?_) (fun c3 => ?_)
    · have h := ite_t c3 h
      refine fw_iload_n C dX11_bottleneck_69 rfl 2 rfl ?_
      refine fw_iconst C dX11_bottleneck_70 (v := (-1)) rfl ?_
      refine fw_icmp_ne C dX11_bottleneck_71 (tgt := 85) rfl (fun c4 => ?_) (fun c4 => ?_)
      · have h := ite_f c4 h
        refine fw_iload_n C dX11_bottleneck_85 rfl 2 rfl ?_
        refine fw_xr (Nat.le_of_ble_eq_true rfl) (Nat.le_of_ble_eq_true rfl) ?_
        exact fw_iret C hrt Y (Option.some.inj h) (fun t ht => ht) dX11_bottleneck_86
      · have h := ite_t c4 h
        exact fw_throwSWN C hl hX (cx_ts C _ thN_X11_bottleneck_74.1) (cx_ts C _ thN_X11_bottleneck_74.2.1) (sr_18 (cx_st C)) (vx_hat (fun w hw => cx_ts C _ (thN_X11_bottleneck_74.2.2 w hw)) ns_nb (vx_c (Nst_use (cx_nst C) (w := .castable "java/util/NoSuchElementException" "java/util/NoSuchElementException") 1073 (by decide +kernel) rfl) (vx_c (Nst_use (cx_nst C) 826 (by decide +kernel) rfl) (vx_c (Nst_use (cx_nst C) 828 (by decide +kernel) rfl) (vx_c (Nst_use (cx_nst C) 830 (by decide +kernel) rfl) vx_n))))) ns_ot dX11_bottleneck_74 dX11_bottleneck_77 dX11_bottleneck_78 dX11_bottleneck_81 dX11_bottleneck_84 (Nat.le_of_ble_eq_true rfl) (Nat.le_of_ble_eq_true rfl) (Nat.le_of_ble_eq_true rfl) (Nat.le_of_ble_eq_true rfl) (Nat.le_of_ble_eq_true rfl) (Nat.le_of_ble_eq_true rfl) (Option.some.inj h)
    · have h := ite_f c3 h
      refine fw_aload_n C dX11_bottleneck_23 rfl 3 rfl ?_
      refine fw_get C (ci := 9) (Cn := RX11) (Tc := TX11) (N := 11) (j := 5) lyN_X11_bottleneck_11 rfl (hG _ (List.mem_of_getElem? (i := 0) rfl)) (of0_0 _) (ce0 T ad _ _) (by decide) (cx_ts C _ flN_X11_bottleneck_67) (fun _ h => h) (v := .ref (ad 1 0 0)) rfl dX11_bottleneck_24 ?_
      refine fw_getN C (ci := 1) (Cn := RX3) (Tc := TX3) (N := 5) (j := 1) lyN_X11_bottleneck_3 rfl (hG _ (List.mem_of_getElem? (i := 1) rfl)) (of1_0 _) (ce1 T ad _ _) (by decide) (Nst_use (cx_nst C) (w := .fieldLinkNest RX11 139 "RecipeScheduler$Kitchen" "state" "LRecipeScheduler$State;" "RecipeScheduler") 522 (by decide +kernel) rfl) (fun _ h => h) (v := .ref (ad 2 0 0)) rfl dX11_bottleneck_27 ?_
      refine fw_getN C (ci := 6) (Cn := RX8) (Tc := TX8) (N := 15) (j := 7) lyN_X11_bottleneck_8 rfl (hG _ (List.mem_of_getElem? (i := 2) rfl)) (of2_0 _) (ce2 T ad _ _) (by decide) (Nst_use (cx_nst C) (w := .fieldLinkNest RX11 261 "RecipeScheduler$State" "done" "I" "RecipeScheduler") 460 (by decide +kernel) rfl) (fun _ h => h) (v := .int (Y 2 0 0 7)) rfl dX11_bottleneck_30 ?_
      refine fw_iload_n C dX11_bottleneck_33 rfl 0 rfl ?_
      obtain ⟨r5, q6, h⟩ := bd1_some h
      refine fw_callSi C (As := [.int (Y 2 0 0 7), .int l3]) (c_X11_contains ga0 q6) (va_cwS 2 (cx_ts C) gN11_bottleneck_X11_contains rfl rfl rfl (by decide +kernel) ⟨Nat.le_of_ble_eq_true rfl, Nat.le_of_ble_eq_true rfl⟩) rfl (st := []) rfl (Nat.le_of_ble_eq_true rfl) ⟨Nat.le_of_ble_eq_true rfl, Nat.le_of_ble_eq_true rfl⟩ dX11_bottleneck_34 (pp2 ?_)
      refine fw_if_ne C dX11_bottleneck_37 (tgt := 63) rfl (fun c7 => ?_) (fun c7 => ?_)
      · have h := ite_f c7 h
        exact wN_X11_bottleneck_b63 C hrt hG  hl hX ih _ _ _ _ h
      · have h := ite_t c7 h
        refine fw_aload_n C dX11_bottleneck_40 rfl 3 rfl ?_
        refine fw_iload_n C dX11_bottleneck_41 rfl 0 rfl ?_
        obtain ⟨r8, Y10, q9, h⟩ := bd2_some h
        refine fw_callVi C (ci := 9) (Cn := RX11) (Tc := TX11) (N := 11) (As := [.int l3]) (c_X11_finishWithShorter (gac (hG _ (List.mem_of_getElem? (i := 0) rfl)) (gac (hG _ (List.mem_of_getElem? (i := 2) rfl)) (gac (hG _ (List.mem_of_getElem? (i := 4) rfl)) (gac (hG _ (List.mem_of_getElem? (i := 3) rfl)) (gac (hG _ (List.mem_of_getElem? (i := 1) rfl)) (fun q hq => hG q (List.mem_append_right _ hq))))))) q9) (cwV 1 (cx_ts C) gN11_bottleneck_X11_finishWithShorter rfl rfl rfl (by decide +kernel) ⟨Nat.le_of_ble_eq_true rfl, Nat.le_of_ble_eq_true rfl⟩) rfl (hG _ (List.mem_of_getElem? (i := 0) rfl)) (of0_0 _) (ce0 T ad _ _) rfl (st := []) rfl (Nat.le_of_ble_eq_true rfl) ⟨Nat.le_of_ble_eq_true rfl, Nat.le_of_ble_eq_true rfl⟩ dX11_bottleneck_42 (ppw ?_)
        refine fw_istore C dX11_bottleneck_45 (by decide) (L' := [(4, .int r8), (3, .int l3), (2, .int l2), (1, .int l1), (0, .ref (ad 0 0 0))]) rfl ?_
        refine fw_iload_n C dX11_bottleneck_47 rfl 3 rfl ?_
        refine fw_iconst C dX11_bottleneck_48 (v := (-1)) rfl ?_
        refine fw_icmp_eq C dX11_bottleneck_49 (tgt := 58) rfl (fun c11 => ?_) (fun c11 => ?_)
        · have h := ite_t c11 h
          refine fw_sub [0, 1, 4] (L' := [(4, .int r8), (3, .int l3), (0, .ref (ad 0 0 0))]) rfl ?_
          exact wN_X11_bottleneck_b58 C hrt hG  hl hX ih _ _ _ h
        · have h := ite_f c11 h
          refine fw_iload C dX11_bottleneck_52 0 rfl ?_
          refine fw_iload_n C dX11_bottleneck_54 rfl 2 rfl ?_
          refine fw_icmp_ge C dX11_bottleneck_55 (tgt := 63) rfl (fun c12 => ?_) (fun c12 => ?_)
          · have h := ite_t c12 h
            refine fw_sub [1, 2, 3, 4] (L' := [(3, .int l3), (2, .int l2), (1, .int l1), (0, .ref (ad 0 0 0))]) rfl ?_
            exact wN_X11_bottleneck_b63 C hrt hG  hl hX ih _ _ _ _ h
          · have h := ite_f c12 h
            refine fw_sub [0, 1, 4] (L' := [(4, .int r8), (3, .int l3), (0, .ref (ad 0 0 0))]) rfl ?_
            exact wN_X11_bottleneck_b58 C hrt hG  hl hX ih _ _ _ h
set_option maxRecDepth 100000 in
set_option maxHeartbeats 4000000 in
theorem wN_X11_bottleneck {Y : Mem} (C : Cx p s m [.ref (ad 0 0 0)].toArray meth c cX11_bottleneck 5 wsN11_bottleneck RX11 N0 T D gr ad) (hrt : meth.sig.returnType = (some .int)) (hG : ∀ q ∈ ([(0, 0), (1, 0), (2, 0), (1, 1), (2, 1)] ++ allG), q ∈ gr) (hl : l.stackTraces = false) (hX : ∀ x ∈ c.exceptionTable.toList, False) {res : (Nat × Mem) ⊕ (Int32 × Mem)} (h : X11_bottleneck Y = some res) : FW p l e (Rx 6 1) s m [.ref (ad 0 0 0)].toArray below meth c 5 N0 T D gr ad 0 0 (vx_MQ below (va_Qi (fun r Y1 => Sum.inr (r, Y1) = res) (WB T D gr ad) (fun q => N0 ≤ q)) (vx_X (fun u => Sum.inl u = res) (XB T D gr ad) (fun q => N0 ≤ q)) [.ref (ad 0 0 0)].toArray s 1 6 (fun q => N0 ≤ q)) Y 0 [(0, .ref (ad 0 0 0))] [] := by
  unfold X11_bottleneck at h
  refine fw_iconst C dX11_bottleneck_0 (v := (-1)) rfl ?_
  refine fw_istore_n C dX11_bottleneck_1 rfl (by decide) (L' := [(1, .int ((-1))), (0, .ref (ad 0 0 0))]) rfl ?_
  refine fw_iconst C dX11_bottleneck_2 (v := 0) rfl ?_
  refine fw_istore_n C dX11_bottleneck_3 rfl (by decide) (L' := [(2, .int 0), (1, .int ((-1))), (0, .ref (ad 0 0 0))]) rfl ?_
  refine fw_iconst C dX11_bottleneck_4 (v := 0) rfl ?_
  refine fw_istore_n C dX11_bottleneck_5 rfl (by decide) (L' := [(3, .int 0), (2, .int 0), (1, .int ((-1))), (0, .ref (ad 0 0 0))]) rfl ?_
  exact wN_X11_bottleneck_b6 C hrt hG  hl hX  _ _ _ _ _ h
end
set_option maxRecDepth 100000 in
set_option maxHeartbeats 4000000 in
theorem cN_X11_bottleneck {l : Launch} {N0 : Nat} {T : Nat → ClassId} {D : va_G} {gr : List (Nat × Nat)} {ad : Nat → Nat → Nat → Nat} {Y : Mem} {res : (Nat × Mem) ⊕ (Int32 × Mem)} (hl : l.stackTraces = false) (hG : ∀ q ∈ ([(0, 0), (1, 0), (2, 0), (1, 1), (2, 1)] ++ allG), q ∈ gr) (h : X11_bottleneck Y = some res) : CXi l yX11_bottleneck wsN11_bottleneck (Rx 6 1) N0 T D gr ad Y [.ref (ad 0 0 0)] 1 res :=
  fw_xbody (by decide +kernel) rfl (Nat.le_of_ble_eq_true rfl) (fun p e s m below meth c C hrt hX => wN_X11_bottleneck C hrt hG hl hX h)
