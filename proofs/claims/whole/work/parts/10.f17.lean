theorem ly_X11_nameLetter_11 : ∀ w ∈ u_ws RX11 TX11 11, w ∈ wsX11_nameLetter := by decide +kernel
theorem fl_X11_nameLetter_67 : Cond.fieldLink RX11 67 "RecipeScheduler" "now" "LRecipeScheduler$Kitchen;" ∈ wsX11_nameLetter := by decide +kernel
theorem ly_X11_nameLetter_3 : ∀ w ∈ u_ws RX3 TX3 5, w ∈ wsX11_nameLetter := by decide +kernel
theorem ly_X11_nameLetter_5 : ∀ w ∈ u_ws RX5 TX5 17, w ∈ wsX11_nameLetter := by decide +kernel
theorem ly_X11_nameLetter_4 : ∀ w ∈ u_ws RX4 TX4 3, w ∈ wsX11_nameLetter := by decide +kernel
theorem th_X11_nameLetter_30 : Cond.classLink RX11 237 "java/lang/IndexOutOfBoundsException" ∈ wsX11_nameLetter ∧ Cond.initialized "java/lang/IndexOutOfBoundsException" ∈ wsX11_nameLetter ∧ ∀ w ∈ vx_atS RX11 241 "java/lang/IndexOutOfBoundsException" ["java/lang/RuntimeException", "java/lang/Exception"], w ∈ wsX11_nameLetter := by decide +kernel
noncomputable def X11_nameLetter (Y : Mem) (a1 : Int32) (a2 : Int32) : Option ((Nat × Mem) ⊕ (Int32 × Mem)) :=
  bdxv (X11_requireStep Y a1) <| fun Y4 => gd (decide ((Y4 1 0 0 0).toNatClampNeg < 2)) <| gd (decide (((Y4 1 0 0 0).toNatClampNeg) < 2)) <| gd (inb a1 (ncap ((2*((Y4 1 0 0 0).toNatClampNeg)+1)))) <| bd1 (X11_isWithin Y4 a2 0 ((Y4 4 ((2*((Y4 1 0 0 0).toNatClampNeg)+1)) 2 (ix a1)) - 1)) <| fun r10 => if r10 = 0 then (some (.inl (3, Y4))) else (gd (inb a2 6) <| some (.inr (Y4 4 ((2*((Y4 1 0 0 0).toNatClampNeg)+1)) (10+ix a1) (ix a2), Y4)))
section
variable {p : Program} {l : Launch} {e : Env} {s : State} {m : MethodId} {below : List Frame} {meth : Method} {c : Code} {N0 : Nat} {T : Nat → ClassId} {D : va_G} {gr : List (Nat × Nat)} {ad : Nat → Nat → Nat → Nat}
set_option maxRecDepth 100000 in
set_option maxHeartbeats 4000000 in
theorem w_X11_nameLetter {Y : Mem} {a1 : Int32} {a2 : Int32} (C : Cx p s m [.ref (ad 0 0 0), .int a1, .int a2].toArray meth c cX11_nameLetter 3 wsX11_nameLetter RX11 N0 T D gr ad) (hrt : meth.sig.returnType = (some .int)) (hG : ∀ q ∈ ([(1, 0), (0, 0)] ++ allG), q ∈ gr) (hl : l.stackTraces = false) (hX : ∀ x ∈ c.exceptionTable.toList, False) {res : (Nat × Mem) ⊕ (Int32 × Mem)} (h : X11_nameLetter Y a1 a2 = some res) : FW p l e (Rx 7 2) s m [.ref (ad 0 0 0), .int a1, .int a2].toArray below meth c 3 N0 T D gr ad 0 0 (vx_MQ below (va_Qi (fun r Y1 => Sum.inr (r, Y1) = res) (WB T D gr ad) (fun q => N0 ≤ q)) (vx_X (fun u => Sum.inl u = res) (XB T D gr ad) (fun q => N0 ≤ q)) [.ref (ad 0 0 0), .int a1, .int a2].toArray s 2 12 (fun q => N0 ≤ q)) Y 0 [(0, .ref (ad 0 0 0)), (1, .int a1), (2, .int a2)] [] := by
  unfold X11_nameLetter at h
  refine fw_aload_n C dX11_nameLetter_0 rfl 0 rfl ?_
  refine fw_iload_n C dX11_nameLetter_1 rfl 1 rfl ?_
  rcases bdxv_some h with ⟨x5, q2, e6⟩ | ⟨Y4, q2, h⟩
  · exact fw_callXVv_l C (ci := 9) (Cn := RX11) (Tc := TX11) (N := 11) (As := [.int a1]) (c_X11_requireStep hl (gac (hG _ (List.mem_of_getElem? (i := 1) rfl)) (gac (hG _ (List.mem_of_getElem? (i := 0) rfl)) (fun q hq => hG q (List.mem_append_right _ hq)))) q2) (cwV 1 (cx_ts C) gX11_nameLetter_X11_requireStep rfl rfl rfl (by decide +kernel) ⟨Nat.le_of_ble_eq_true rfl, Nat.le_of_ble_eq_true rfl⟩) rfl (hG _ (List.mem_of_getElem? (i := 1) rfl)) (of0_0 _) (ce0 T ad _ _) rfl (st := []) rfl (Nat.le_of_ble_eq_true rfl) ⟨Nat.le_of_ble_eq_true rfl, Nat.le_of_ble_eq_true rfl⟩ dX11_nameLetter_2 hX e6 (Nat.le_of_ble_eq_true rfl) (Nat.le_of_ble_eq_true rfl)
  refine fw_callXVv_r C (ci := 9) (Cn := RX11) (Tc := TX11) (N := 11) (As := [.int a1]) (c_X11_requireStep hl (gac (hG _ (List.mem_of_getElem? (i := 1) rfl)) (gac (hG _ (List.mem_of_getElem? (i := 0) rfl)) (fun q hq => hG q (List.mem_append_right _ hq)))) q2) (cwV 1 (cx_ts C) gX11_nameLetter_X11_requireStep rfl rfl rfl (by decide +kernel) ⟨Nat.le_of_ble_eq_true rfl, Nat.le_of_ble_eq_true rfl⟩) rfl (hG _ (List.mem_of_getElem? (i := 1) rfl)) (of0_0 _) (ce0 T ad _ _) rfl (st := []) rfl (Nat.le_of_ble_eq_true rfl) ⟨Nat.le_of_ble_eq_true rfl, Nat.le_of_ble_eq_true rfl⟩ dX11_nameLetter_2 ?_
  refine fw_iload_n C dX11_nameLetter_5 rfl 2 rfl ?_
  refine fw_iconst C dX11_nameLetter_6 (v := 0) rfl ?_
  refine fw_aload_n C dX11_nameLetter_7 rfl 0 rfl ?_
  refine fw_get C (ci := 9) (Cn := RX11) (Tc := TX11) (N := 11) (j := 5) ly_X11_nameLetter_11 rfl (hG _ (List.mem_of_getElem? (i := 1) rfl)) (of0_0 _) (ce0 T ad _ _) (by decide) (cx_ts C _ fl_X11_nameLetter_67) (fun _ h => h) (v := .ref (ad 1 0 0)) rfl dX11_nameLetter_8 ?_
  refine fw_getN C (ci := 1) (Cn := RX3) (Tc := TX3) (N := 5) (j := 0) ly_X11_nameLetter_3 rfl (hG _ (List.mem_of_getElem? (i := 0) rfl)) (of1_0 _) (ce1 T ad _ _) (by decide) (Nst_use (cx_nst C) (w := .fieldLinkNest RX11 117 "RecipeScheduler$Kitchen" "recipe" "LRecipeScheduler$Recipe;" "RecipeScheduler") 516 (by decide +kernel) rfl) (fun _ h => h) (v := .ref (ad 3 ((Y4 1 0 0 0).toNatClampNeg) 0)) rfl dX11_nameLetter_11 ?_
  obtain ⟨b7, h⟩ := gd_some h
  have b7 := of_decide_eq_true b7
  refine fw_getN C (ci := 3) (Cn := RX5) (Tc := TX5) (N := 17) (j := 7) ly_X11_nameLetter_5 rfl ((fun q hq => hG q (List.mem_append_right _ hq)) _ (allG_3 b7)) (of3_0 _) (ce3 T ad _ _) (by decide) (Nst_use (cx_nst C) (w := .fieldLinkNest RX11 126 "RecipeScheduler$Recipe" "steps" "LRecipeScheduler$Names;" "RecipeScheduler") 146 (by decide +kernel) rfl) (fun _ h => h) (v := .ref (ad 4 (2*((Y4 1 0 0 0).toNatClampNeg)+1) 0)) rfl dX11_nameLetter_14 ?_
  obtain ⟨b8, h⟩ := gd_some h
  have b8 := of_decide_eq_true b8
  refine fw_getN C (ci := 2) (Cn := RX4) (Tc := TX4) (N := 3) (j := 1) ly_X11_nameLetter_4 rfl ((fun q hq => hG q (List.mem_append_right _ hq)) _ (allG_4b b8)) (of4_0 _) (ce4 T ad _ _) (by decide) (Nst_use (cx_nst C) (w := .fieldLinkNest RX11 234 "RecipeScheduler$Names" "lengths" "[I" "RecipeScheduler") 109 (by decide +kernel) rfl) (fun _ h => h) (v := .ref (ad 4 ((2*((Y4 1 0 0 0).toNatClampNeg)+1)) 2)) rfl dX11_nameLetter_17 ?_
  refine fw_iload_n C dX11_nameLetter_20 rfl 1 rfl ?_
  obtain ⟨b9, h⟩ := gd_some h
  refine fw_iald2 C ((fun q hq => hG q (List.mem_append_right _ hq)) _ (allG_4b b8)) (of4_2 _) (ca4_2 T ad _ _) b9 (ncap_lt _) dX11_nameLetter_21 ?_
  refine fw_iconst C dX11_nameLetter_22 (v := 1) rfl ?_
  refine fw_isub C dX11_nameLetter_23 ?_
  obtain ⟨r10, q11, h⟩ := bd1_some h
  refine fw_callSi C (As := [.int a2, .int 0, .int ((Y4 4 ((2*((Y4 1 0 0 0).toNatClampNeg)+1)) 2 (ix a1)) - 1)]) (c_X11_isWithin ga0 q11) (va_cwS 3 (cx_ts C) gX11_nameLetter_X11_isWithin rfl rfl rfl (by decide +kernel) ⟨Nat.le_of_ble_eq_true rfl, Nat.le_of_ble_eq_true rfl⟩) rfl (st := []) rfl (Nat.le_of_ble_eq_true rfl) ⟨Nat.le_refl 0, Nat.le_refl 0⟩ dX11_nameLetter_24 ?_
  rintro _ _ ⟨rfl, rfl⟩
  refine fw_if_ne C dX11_nameLetter_27 (tgt := 40) rfl (fun c12 => ?_) (fun c12 => ?_)
  · have h := ite_f c12 h
    refine fw_aload_n C dX11_nameLetter_40 rfl 0 rfl ?_
    refine fw_get C (ci := 9) (Cn := RX11) (Tc := TX11) (N := 11) (j := 5) ly_X11_nameLetter_11 rfl (hG _ (List.mem_of_getElem? (i := 1) rfl)) (of0_0 _) (ce0 T ad _ _) (by decide) (cx_ts C _ fl_X11_nameLetter_67) (fun _ h => h) (v := .ref (ad 1 0 0)) rfl dX11_nameLetter_41 ?_
    refine fw_getN C (ci := 1) (Cn := RX3) (Tc := TX3) (N := 5) (j := 0) ly_X11_nameLetter_3 rfl (hG _ (List.mem_of_getElem? (i := 0) rfl)) (of1_0 _) (ce1 T ad _ _) (by decide) (Nst_use (cx_nst C) (w := .fieldLinkNest RX11 117 "RecipeScheduler$Kitchen" "recipe" "LRecipeScheduler$Recipe;" "RecipeScheduler") 516 (by decide +kernel) rfl) (fun _ h => h) (v := .ref (ad 3 ((Y4 1 0 0 0).toNatClampNeg) 0)) rfl dX11_nameLetter_44 ?_
    refine fw_getN C (ci := 3) (Cn := RX5) (Tc := TX5) (N := 17) (j := 7) ly_X11_nameLetter_5 rfl ((fun q hq => hG q (List.mem_append_right _ hq)) _ (allG_3 b7)) (of3_0 _) (ce3 T ad _ _) (by decide) (Nst_use (cx_nst C) (w := .fieldLinkNest RX11 126 "RecipeScheduler$Recipe" "steps" "LRecipeScheduler$Names;" "RecipeScheduler") 146 (by decide +kernel) rfl) (fun _ h => h) (v := .ref (ad 4 (2*((Y4 1 0 0 0).toNatClampNeg)+1) 0)) rfl dX11_nameLetter_47 ?_
    refine fw_getN C (ci := 2) (Cn := RX4) (Tc := TX4) (N := 3) (j := 0) ly_X11_nameLetter_4 rfl ((fun q hq => hG q (List.mem_append_right _ hq)) _ (allG_4b b8)) (of4_0 _) (ce4 T ad _ _) (by decide) (Nst_use (cx_nst C) (w := .fieldLinkNest RX11 242 "RecipeScheduler$Names" "letters" "[[B" "RecipeScheduler") 107 (by decide +kernel) rfl) (fun _ h => h) (v := .ref (ad 4 ((2*((Y4 1 0 0 0).toNatClampNeg)+1)) 1)) rfl dX11_nameLetter_50 ?_
    refine fw_iload_n C dX11_nameLetter_53 rfl 1 rfl ?_
    refine fw_aald2 C 4 ((fun q hq => hG q (List.mem_append_right _ hq)) _ (allG_4b b8)) (of4_1 _) (ca4_1 T ad _ _) rfl rfl b9 (ncap_lt _) (v := .ref (ad 4 ((2*((Y4 1 0 0 0).toNatClampNeg)+1)) (10+ix a1))) rfl dX11_nameLetter_54 ?_
    refine fw_iload_n C dX11_nameLetter_55 rfl 2 rfl ?_
    obtain ⟨b13, h⟩ := gd_some h
    refine fw_bald2 C ((fun q hq => hG q (List.mem_append_right _ hq)) _ (allG_4b b8)) (of4_r _ (inb_lt b9)) (ca4_r T ad _ _ _) b13 (Nat.le_of_ble_eq_true rfl) dX11_nameLetter_56 ?_
    refine fw_xr (Nat.le_of_ble_eq_true rfl) (Nat.le_of_ble_eq_true rfl) ?_
    exact fw_iret C hrt Y4 (Option.some.inj h) (fun t ht => ht) dX11_nameLetter_57
  · have h := ite_t c12 h
    exact fw_throwS C hl hX (cls := "java/lang/IndexOutOfBoundsException") (names := ["java/lang/RuntimeException", "java/lang/Exception"]) 3 rfl (by decide +kernel) (by decide +kernel) (cx_ts C _ th_X11_nameLetter_30.1) (cx_ts C _ th_X11_nameLetter_30.2.1) ((cx_st C).2.1 _ (List.mem_of_getElem? (i := 14) rfl)) (fun w hw => cx_ts C _ (th_X11_nameLetter_30.2.2 w hw)) tg_3_241_237 dX11_nameLetter_30 dX11_nameLetter_33 dX11_nameLetter_34 dX11_nameLetter_36 dX11_nameLetter_39 (Nat.le_of_ble_eq_true rfl) (Nat.le_of_ble_eq_true rfl) (Nat.le_of_ble_eq_true rfl) (Nat.le_of_ble_eq_true rfl) (Nat.le_of_ble_eq_true rfl) (Nat.le_of_ble_eq_true rfl) (Option.some.inj h)
end
set_option maxRecDepth 100000 in
set_option maxHeartbeats 4000000 in
theorem c_X11_nameLetter {l : Launch} {N0 : Nat} {T : Nat → ClassId} {D : va_G} {gr : List (Nat × Nat)} {ad : Nat → Nat → Nat → Nat} {Y : Mem} {a1 : Int32} {a2 : Int32} {res : (Nat × Mem) ⊕ (Int32 × Mem)} (hl : l.stackTraces = false) (hG : ∀ q ∈ ([(1, 0), (0, 0)] ++ allG), q ∈ gr) (h : X11_nameLetter Y a1 a2 = some res) : CXi l yX11_nameLetter wsX11_nameLetter (Rx 7 2) N0 T D gr ad Y [.ref (ad 0 0 0), .int a1, .int a2] 2 res :=
  fw_xbody (by decide +kernel) rfl (Nat.le_of_ble_eq_true rfl) (fun p e s m below meth c C hrt hX => w_X11_nameLetter C hrt hG hl hX h)
theorem ly_X11_outputByte_11 : ∀ w ∈ u_ws RX11 TX11 11, w ∈ wsX11_outputByte := by decide +kernel
theorem fl_X11_outputByte_45 : Cond.fieldLink RX11 45 "RecipeScheduler" "output" "LRecipeScheduler$Text;" ∈ wsX11_outputByte := by decide +kernel
theorem ly_X11_outputByte_9 : ∀ w ∈ u_ws RX9 TX9 2, w ∈ wsX11_outputByte := by decide +kernel
theorem th_X11_outputByte_17 : Cond.classLink RX11 237 "java/lang/IndexOutOfBoundsException" ∈ wsX11_outputByte ∧ Cond.initialized "java/lang/IndexOutOfBoundsException" ∈ wsX11_outputByte ∧ ∀ w ∈ vx_atS RX11 241 "java/lang/IndexOutOfBoundsException" ["java/lang/RuntimeException", "java/lang/Exception"], w ∈ wsX11_outputByte := by decide +kernel
noncomputable def X11_outputByte (Y : Mem) (a1 : Int32) : Option ((Nat × Mem) ⊕ (Int32 × Mem)) :=
  bd1 (X11_isWithin Y a1 0 ((Y 5 1 0 1) - 1)) <| fun r1 => if r1 = 0 then (some (.inl (3, Y))) else (gd (inb a1 (tcap (1))) <| some (.inr (Y 5 1 1 (ix a1), Y)))
section
variable {p : Program} {l : Launch} {e : Env} {s : State} {m : MethodId} {below : List Frame} {meth : Method} {c : Code} {N0 : Nat} {T : Nat → ClassId} {D : va_G} {gr : List (Nat × Nat)} {ad : Nat → Nat → Nat → Nat}
set_option maxRecDepth 100000 in
set_option maxHeartbeats 4000000 in
theorem w_X11_outputByte {Y : Mem} {a1 : Int32} (C : Cx p s m [.ref (ad 0 0 0), .int a1].toArray meth c cX11_outputByte 2 wsX11_outputByte RX11 N0 T D gr ad) (hrt : meth.sig.returnType = (some .int)) (hG : ∀ q ∈ [(0, 0), (5, 1)], q ∈ gr) (hl : l.stackTraces = false) (hX : ∀ x ∈ c.exceptionTable.toList, False) {res : (Nat × Mem) ⊕ (Int32 × Mem)} (h : X11_outputByte Y a1 = some res) : FW p l e (Rx 6 1) s m [.ref (ad 0 0 0), .int a1].toArray below meth c 2 N0 T D gr ad 0 0 (vx_MQ below (va_Qi (fun r Y1 => Sum.inr (r, Y1) = res) (WB T D gr ad) (fun q => N0 ≤ q)) (vx_X (fun u => Sum.inl u = res) (XB T D gr ad) (fun q => N0 ≤ q)) [.ref (ad 0 0 0), .int a1].toArray s 1 6 (fun q => N0 ≤ q)) Y 0 [(0, .ref (ad 0 0 0)), (1, .int a1)] [] := by
  unfold X11_outputByte at h
  refine fw_iload_n C dX11_outputByte_0 rfl 1 rfl ?_
  refine fw_iconst C dX11_outputByte_1 (v := 0) rfl ?_
  refine fw_aload_n C dX11_outputByte_2 rfl 0 rfl ?_
  refine fw_get C (ci := 9) (Cn := RX11) (Tc := TX11) (N := 11) (j := 1) ly_X11_outputByte_11 rfl (hG _ (List.mem_of_getElem? (i := 0) rfl)) (of0_0 _) (ce0 T ad _ _) (by decide) (cx_ts C _ fl_X11_outputByte_45) (fun _ h => h) (v := .ref (ad 5 1 0)) rfl dX11_outputByte_3 ?_
  refine fw_getN C (ci := 7) (Cn := RX9) (Tc := TX9) (N := 2) (j := 1) ly_X11_outputByte_9 rfl (hG _ (List.mem_of_getElem? (i := 1) rfl)) (of5_0 _) (ce5 T ad _ _) (by decide) (Nst_use (cx_nst C) (w := .fieldLinkNest RX11 37 "RecipeScheduler$Text" "length" "I" "RecipeScheduler") 46 (by decide +kernel) rfl) (fun _ h => h) (v := .int (Y 5 1 0 1)) rfl dX11_outputByte_6 ?_
  refine fw_iconst C dX11_outputByte_9 (v := 1) rfl ?_
  refine fw_isub C dX11_outputByte_10 ?_
  obtain ⟨r1, q2, h⟩ := bd1_some h
  refine fw_callSi C (As := [.int a1, .int 0, .int ((Y 5 1 0 1) - 1)]) (c_X11_isWithin ga0 q2) (va_cwS 3 (cx_ts C) gX11_outputByte_X11_isWithin rfl rfl rfl (by decide +kernel) ⟨Nat.le_of_ble_eq_true rfl, Nat.le_of_ble_eq_true rfl⟩) rfl (st := []) rfl (Nat.le_of_ble_eq_true rfl) ⟨Nat.le_refl 0, Nat.le_refl 0⟩ dX11_outputByte_11 ?_
  rintro _ _ ⟨rfl, rfl⟩
  refine fw_if_ne C dX11_outputByte_14 (tgt := 28) rfl (fun c3 => ?_) (fun c3 => ?_)
  · have h := ite_f c3 h
    refine fw_aload_n C dX11_outputByte_28 rfl 0 rfl ?_
    refine fw_get C (ci := 9) (Cn := RX11) (Tc := TX11) (N := 11) (j := 1) ly_X11_outputByte_11 rfl (hG _ (List.mem_of_getElem? (i := 0) rfl)) (of0_0 _) (ce0 T ad _ _) (by decide) (cx_ts C _ fl_X11_outputByte_45) (fun _ h => h) (v := .ref (ad 5 1 0)) rfl dX11_outputByte_29 ?_
    refine fw_getN C (ci := 7) (Cn := RX9) (Tc := TX9) (N := 2) (j := 0) ly_X11_outputByte_9 rfl (hG _ (List.mem_of_getElem? (i := 1) rfl)) (of5_0 _) (ce5 T ad _ _) (by decide) (Nst_use (cx_nst C) (w := .fieldLinkNest RX11 419 "RecipeScheduler$Text" "bytes" "[B" "RecipeScheduler") 45 (by decide +kernel) rfl) (fun _ h => h) (v := .ref (ad 5 1 1)) rfl dX11_outputByte_32 ?_
    refine fw_iload_n C dX11_outputByte_35 rfl 1 rfl ?_
    obtain ⟨b4, h⟩ := gd_some h
    refine fw_bald2 C (hG _ (List.mem_of_getElem? (i := 1) rfl)) (of5_1 _) (ca5_1 T ad _ _) b4 (tcap_lt _) dX11_outputByte_36 ?_
    refine fw_xr (Nat.le_of_ble_eq_true rfl) (Nat.le_of_ble_eq_true rfl) ?_
    exact fw_iret C hrt Y (Option.some.inj h) (fun t ht => ht) dX11_outputByte_37
  · have h := ite_t c3 h
    exact fw_throwSW C hl hX (cls := "java/lang/IndexOutOfBoundsException") (names := ["java/lang/RuntimeException", "java/lang/Exception"]) 3 rfl (by decide +kernel) (by decide +kernel) (cx_ts C _ th_X11_outputByte_17.1) (cx_ts C _ th_X11_outputByte_17.2.1) ((cx_st C).2.1 _ (List.mem_of_getElem? (i := 29) rfl)) (fun w hw => cx_ts C _ (th_X11_outputByte_17.2.2 w hw)) tg_3_241_237 dX11_outputByte_17 dX11_outputByte_20 dX11_outputByte_21 dX11_outputByte_24 dX11_outputByte_27 (Nat.le_of_ble_eq_true rfl) (Nat.le_of_ble_eq_true rfl) (Nat.le_of_ble_eq_true rfl) (Nat.le_of_ble_eq_true rfl) (Nat.le_of_ble_eq_true rfl) (Nat.le_of_ble_eq_true rfl) (Option.some.inj h)
end
set_option maxRecDepth 100000 in
set_option maxHeartbeats 4000000 in
theorem c_X11_outputByte {l : Launch} {N0 : Nat} {T : Nat → ClassId} {D : va_G} {gr : List (Nat × Nat)} {ad : Nat → Nat → Nat → Nat} {Y : Mem} {a1 : Int32} {res : (Nat × Mem) ⊕ (Int32 × Mem)} (hl : l.stackTraces = false) (hG : ∀ q ∈ [(0, 0), (5, 1)], q ∈ gr) (h : X11_outputByte Y a1 = some res) : CXi l yX11_outputByte wsX11_outputByte (Rx 6 1) N0 T D gr ad Y [.ref (ad 0 0 0), .int a1] 1 res :=
  fw_xbody (by decide +kernel) rfl (Nat.le_of_ble_eq_true rfl) (fun p e s m below meth c C hrt hX => w_X11_outputByte C hrt hG hl hX h)
theorem ly_X11_requirePan_11 : ∀ w ∈ u_ws RX11 TX11 11, w ∈ wsX11_requirePan := by decide +kernel
theorem fl_X11_requirePan_67 : Cond.fieldLink RX11 67 "RecipeScheduler" "now" "LRecipeScheduler$Kitchen;" ∈ wsX11_requirePan := by decide +kernel
theorem ly_X11_requirePan_3 : ∀ w ∈ u_ws RX3 TX3 5, w ∈ wsX11_requirePan := by decide +kernel
theorem ly_X11_requirePan_5 : ∀ w ∈ u_ws RX5 TX5 17, w ∈ wsX11_requirePan := by decide +kernel
theorem ly_X11_requirePan_4 : ∀ w ∈ u_ws RX4 TX4 3, w ∈ wsX11_requirePan := by decide +kernel
theorem th_X11_requirePan_23 : Cond.classLink RX11 237 "java/lang/IndexOutOfBoundsException" ∈ wsX11_requirePan ∧ Cond.initialized "java/lang/IndexOutOfBoundsException" ∈ wsX11_requirePan ∧ ∀ w ∈ vx_atS RX11 241 "java/lang/IndexOutOfBoundsException" ["java/lang/RuntimeException", "java/lang/Exception"], w ∈ wsX11_requirePan := by decide +kernel
noncomputable def X11_requirePan (Y : Mem) (a1 : Int32) : Option ((Nat × Mem) ⊕ Mem) :=
  gd (decide ((Y 1 0 0 0).toNatClampNeg < 2)) <| gd (decide (((Y 1 0 0 0).toNatClampNeg) < 2)) <| bd1 (X11_isWithin Y a1 0 ((Y 4 (2*((Y 1 0 0 0).toNatClampNeg)) 0 2) - 1)) <| fun r3 => if r3 = 0 then (some (.inl (3, Y))) else (some (.inr Y))
section
variable {p : Program} {l : Launch} {e : Env} {s : State} {m : MethodId} {below : List Frame} {meth : Method} {c : Code} {N0 : Nat} {T : Nat → ClassId} {D : va_G} {gr : List (Nat × Nat)} {ad : Nat → Nat → Nat → Nat}
set_option maxRecDepth 100000 in
set_option maxHeartbeats 4000000 in
theorem w_X11_requirePan {Y : Mem} {a1 : Int32} (C : Cx p s m [.ref (ad 0 0 0), .int a1].toArray meth c cX11_requirePan 2 wsX11_requirePan RX11 N0 T D gr ad) (hrt : meth.sig.returnType = none) (hG : ∀ q ∈ ([(0, 0), (1, 0)] ++ allG), q ∈ gr) (hl : l.stackTraces = false) (hX : ∀ x ∈ c.exceptionTable.toList, False) {res : (Nat × Mem) ⊕ Mem} (h : X11_requirePan Y a1 = some res) : FW p l e (Rx 6 1) s m [.ref (ad 0 0 0), .int a1].toArray below meth c 2 N0 T D gr ad 0 0 (vx_MQ below (va_Qv (fun Y1 => Sum.inr Y1 = res) (WB T D gr ad) (fun q => N0 ≤ q)) (vx_X (fun u => Sum.inl u = res) (XB T D gr ad) (fun q => N0 ≤ q)) [.ref (ad 0 0 0), .int a1].toArray s 1 6 (fun q => N0 ≤ q)) Y 0 [(0, .ref (ad 0 0 0)), (1, .int a1)] [] := by
  unfold X11_requirePan at h
  refine fw_iload_n C dX11_requirePan_0 rfl 1 rfl ?_
  refine fw_iconst C dX11_requirePan_1 (v := 0) rfl ?_
  refine fw_aload_n C dX11_requirePan_2 rfl 0 rfl ?_
  refine fw_get C (ci := 9) (Cn := RX11) (Tc := TX11) (N := 11) (j := 5) ly_X11_requirePan_11 rfl (hG _ (List.mem_of_getElem? (i := 0) rfl)) (of0_0 _) (ce0 T ad _ _) (by decide) (cx_ts C _ fl_X11_requirePan_67) (fun _ h => h) (v := .ref (ad 1 0 0)) rfl dX11_requirePan_3 ?_
  refine fw_getN C (ci := 1) (Cn := RX3) (Tc := TX3) (N := 5) (j := 0) ly_X11_requirePan_3 rfl (hG _ (List.mem_of_getElem? (i := 1) rfl)) (of1_0 _) (ce1 T ad _ _) (by decide) (Nst_use (cx_nst C) (w := .fieldLinkNest RX11 117 "RecipeScheduler$Kitchen" "recipe" "LRecipeScheduler$Recipe;" "RecipeScheduler") 516 (by decide +kernel) rfl) (fun _ h => h) (v := .ref (ad 3 ((Y 1 0 0 0).toNatClampNeg) 0)) rfl dX11_requirePan_6 ?_
  obtain ⟨b1, h⟩ := gd_some h
  have b1 := of_decide_eq_true b1
  refine fw_getN C (ci := 3) (Cn := RX5) (Tc := TX5) (N := 17) (j := 4) ly_X11_requirePan_5 rfl ((fun q hq => hG q (List.mem_append_right _ hq)) _ (allG_3 b1)) (of3_0 _) (ce3 T ad _ _) (by decide) (Nst_use (cx_nst C) (w := .fieldLinkNest RX11 425 "RecipeScheduler$Recipe" "pans" "LRecipeScheduler$Names;" "RecipeScheduler") 137 (by decide +kernel) rfl) (fun _ h => h) (v := .ref (ad 4 (2*((Y 1 0 0 0).toNatClampNeg)) 0)) rfl dX11_requirePan_9 ?_
  obtain ⟨b2, h⟩ := gd_some h
  have b2 := of_decide_eq_true b2
  refine fw_getN C (ci := 2) (Cn := RX4) (Tc := TX4) (N := 3) (j := 2) ly_X11_requirePan_4 rfl ((fun q hq => hG q (List.mem_append_right _ hq)) _ (allG_4a b2)) (of4_0 _) (ce4 T ad _ _) (by decide) (Nst_use (cx_nst C) (w := .fieldLinkNest RX11 130 "RecipeScheduler$Names" "count" "I" "RecipeScheduler") 113 (by decide +kernel) rfl) (fun _ h => h) (v := .int (Y 4 (2*((Y 1 0 0 0).toNatClampNeg)) 0 2)) rfl dX11_requirePan_12 ?_
  refine fw_iconst C dX11_requirePan_15 (v := 1) rfl ?_
  refine fw_isub C dX11_requirePan_16 ?_
  obtain ⟨r3, q4, h⟩ := bd1_some h
  refine fw_callSi C (As := [.int a1, .int 0, .int ((Y 4 (2*((Y 1 0 0 0).toNatClampNeg)) 0 2) - 1)]) (c_X11_isWithin ga0 q4) (va_cwS 3 (cx_ts C) gX11_requirePan_X11_isWithin rfl rfl rfl (by decide +kernel) ⟨Nat.le_of_ble_eq_true rfl, Nat.le_of_ble_eq_true rfl⟩) rfl (st := []) rfl (Nat.le_of_ble_eq_true rfl) ⟨Nat.le_refl 0, Nat.le_refl 0⟩ dX11_requirePan_17 ?_
  rintro _ _ ⟨rfl, rfl⟩
  refine fw_if_ne C dX11_requirePan_20 (tgt := 34) rfl (fun c5 => ?_) (fun c5 => ?_)
  · have h := ite_f c5 h
    refine fw_xr (Nat.le_of_ble_eq_true rfl) (Nat.le_of_ble_eq_true rfl) ?_
    exact fw_vret C hrt Y (Option.some.inj h) (fun t ht => ht) dX11_requirePan_34
  · have h := ite_t c5 h
    exact fw_throwSW C hl hX (cls := "java/lang/IndexOutOfBoundsException") (names := ["java/lang/RuntimeException", "java/lang/Exception"]) 3 rfl (by decide +kernel) (by decide +kernel) (cx_ts C _ th_X11_requirePan_23.1) (cx_ts C _ th_X11_requirePan_23.2.1) ((cx_st C).2.1 _ (List.mem_of_getElem? (i := 12) rfl)) (fun w hw => cx_ts C _ (th_X11_requirePan_23.2.2 w hw)) tg_3_241_237 dX11_requirePan_23 dX11_requirePan_26 dX11_requirePan_27 dX11_requirePan_30 dX11_requirePan_33 (Nat.le_of_ble_eq_true rfl) (Nat.le_of_ble_eq_true rfl) (Nat.le_of_ble_eq_true rfl) (Nat.le_of_ble_eq_true rfl) (Nat.le_of_ble_eq_true rfl) (Nat.le_of_ble_eq_true rfl) (Option.some.inj h)
end
set_option maxRecDepth 100000 in
set_option maxHeartbeats 4000000 in
theorem c_X11_requirePan {l : Launch} {N0 : Nat} {T : Nat → ClassId} {D : va_G} {gr : List (Nat × Nat)} {ad : Nat → Nat → Nat → Nat} {Y : Mem} {a1 : Int32} {res : (Nat × Mem) ⊕ Mem} (hl : l.stackTraces = false) (hG : ∀ q ∈ ([(0, 0), (1, 0)] ++ allG), q ∈ gr) (h : X11_requirePan Y a1 = some res) : CXv l yX11_requirePan wsX11_requirePan (Rx 6 1) N0 T D gr ad Y [.ref (ad 0 0 0), .int a1] 1 res :=
  fw_xbody (by decide +kernel) rfl (Nat.le_of_ble_eq_true rfl) (fun p e s m below meth c C hrt hX => w_X11_requirePan C hrt hG hl hX h)
theorem ly_X11_panCapacity_11 : ∀ w ∈ u_ws RX11 TX11 11, w ∈ wsX11_panCapacity := by decide +kernel
theorem fl_X11_panCapacity_67 : Cond.fieldLink RX11 67 "RecipeScheduler" "now" "LRecipeScheduler$Kitchen;" ∈ wsX11_panCapacity := by decide +kernel
theorem ly_X11_panCapacity_3 : ∀ w ∈ u_ws RX3 TX3 5, w ∈ wsX11_panCapacity := by decide +kernel
theorem ly_X11_panCapacity_5 : ∀ w ∈ u_ws RX5 TX5 17, w ∈ wsX11_panCapacity := by decide +kernel
noncomputable def X11_panCapacity (Y : Mem) (a1 : Int32) : Option ((Nat × Mem) ⊕ (Int32 × Mem)) :=
  bdxv (X11_requirePan Y a1) <| fun Y4 => gd (decide ((Y4 1 0 0 0).toNatClampNeg < 2)) <| gd (inb a1 4) <| some (.inr (Y4 3 (((Y4 1 0 0 0).toNatClampNeg)) 1 (ix a1), Y4))
section
variable {p : Program} {l : Launch} {e : Env} {s : State} {m : MethodId} {below : List Frame} {meth : Method} {c : Code} {N0 : Nat} {T : Nat → ClassId} {D : va_G} {gr : List (Nat × Nat)} {ad : Nat → Nat → Nat → Nat}
set_option maxRecDepth 100000 in
set_option maxHeartbeats 4000000 in
theorem w_X11_panCapacity {Y : Mem} {a1 : Int32} (C : Cx p s m [.ref (ad 0 0 0), .int a1].toArray meth c cX11_panCapacity 2 wsX11_panCapacity RX11 N0 T D gr ad) (hrt : meth.sig.returnType = (some .int)) (hG : ∀ q ∈ ([(1, 0), (0, 0)] ++ allG), q ∈ gr) (hl : l.stackTraces = false) (hX : ∀ x ∈ c.exceptionTable.toList, False) {res : (Nat × Mem) ⊕ (Int32 × Mem)} (h : X11_panCapacity Y a1 = some res) : FW p l e (Rx 7 1) s m [.ref (ad 0 0 0), .int a1].toArray below meth c 2 N0 T D gr ad 0 0 (vx_MQ below (va_Qi (fun r Y1 => Sum.inr (r, Y1) = res) (WB T D gr ad) (fun q => N0 ≤ q)) (vx_X (fun u => Sum.inl u = res) (XB T D gr ad) (fun q => N0 ≤ q)) [.ref (ad 0 0 0), .int a1].toArray s 1 6 (fun q => N0 ≤ q)) Y 0 [(0, .ref (ad 0 0 0)), (1, .int a1)] [] := by
  unfold X11_panCapacity at h
  refine fw_aload_n C dX11_panCapacity_0 rfl 0 rfl ?_
  refine fw_iload_n C dX11_panCapacity_1 rfl 1 rfl ?_
  rcases bdxv_some h with ⟨x5, q2, e6⟩ | ⟨Y4, q2, h⟩
  · exact fw_callXVv_l C (ci := 9) (Cn := RX11) (Tc := TX11) (N := 11) (As := [.int a1]) (c_X11_requirePan hl (gac (hG _ (List.mem_of_getElem? (i := 1) rfl)) (gac (hG _ (List.mem_of_getElem? (i := 0) rfl)) (fun q hq => hG q (List.mem_append_right _ hq)))) q2) (cwV 1 (cx_ts C) gX11_panCapacity_X11_requirePan rfl rfl rfl (by decide +kernel) ⟨Nat.le_of_ble_eq_true rfl, Nat.le_of_ble_eq_true rfl⟩) rfl (hG _ (List.mem_of_getElem? (i := 1) rfl)) (of0_0 _) (ce0 T ad _ _) rfl (st := []) rfl (Nat.le_of_ble_eq_true rfl) ⟨Nat.le_of_ble_eq_true rfl, Nat.le_of_ble_eq_true rfl⟩ dX11_panCapacity_2 hX e6 (Nat.le_of_ble_eq_true rfl) (Nat.le_of_ble_eq_true rfl)
  refine fw_callXVv_r C (ci := 9) (Cn := RX11) (Tc := TX11) (N := 11) (As := [.int a1]) (c_X11_requirePan hl (gac (hG _ (List.mem_of_getElem? (i := 1) rfl)) (gac (hG _ (List.mem_of_getElem? (i := 0) rfl)) (fun q hq => hG q (List.mem_append_right _ hq)))) q2) (cwV 1 (cx_ts C) gX11_panCapacity_X11_requirePan rfl rfl rfl (by decide +kernel) ⟨Nat.le_of_ble_eq_true rfl, Nat.le_of_ble_eq_true rfl⟩) rfl (hG _ (List.mem_of_getElem? (i := 1) rfl)) (of0_0 _) (ce0 T ad _ _) rfl (st := []) rfl (Nat.le_of_ble_eq_true rfl) ⟨Nat.le_of_ble_eq_true rfl, Nat.le_of_ble_eq_true rfl⟩ dX11_panCapacity_2 ?_
  refine fw_aload_n C dX11_panCapacity_5 rfl 0 rfl ?_
  refine fw_get C (ci := 9) (Cn := RX11) (Tc := TX11) (N := 11) (j := 5) ly_X11_panCapacity_11 rfl (hG _ (List.mem_of_getElem? (i := 1) rfl)) (of0_0 _) (ce0 T ad _ _) (by decide) (cx_ts C _ fl_X11_panCapacity_67) (fun _ h => h) (v := .ref (ad 1 0 0)) rfl dX11_panCapacity_6 ?_
  refine fw_getN C (ci := 1) (Cn := RX3) (Tc := TX3) (N := 5) (j := 0) ly_X11_panCapacity_3 rfl (hG _ (List.mem_of_getElem? (i := 0) rfl)) (of1_0 _) (ce1 T ad _ _) (by decide) (Nst_use (cx_nst C) (w := .fieldLinkNest RX11 117 "RecipeScheduler$Kitchen" "recipe" "LRecipeScheduler$Recipe;" "RecipeScheduler") 516 (by decide +kernel) rfl) (fun _ h => h) (v := .ref (ad 3 ((Y4 1 0 0 0).toNatClampNeg) 0)) rfl dX11_panCapacity_9 ?_
  obtain ⟨b7, h⟩ := gd_some h
  have b7 := of_decide_eq_true b7
  refine fw_getN C (ci := 3) (Cn := RX5) (Tc := TX5) (N := 17) (j := 5) ly_X11_panCapacity_5 rfl ((fun q hq => hG q (List.mem_append_right _ hq)) _ (allG_3 b7)) (of3_0 _) (ce3 T ad _ _) (by decide) (Nst_use (cx_nst C) (w := .fieldLinkNest RX11 182 "RecipeScheduler$Recipe" "capacity" "[I" "RecipeScheduler") 141 (by decide +kernel) rfl) (fun _ h => h) (v := .ref (ad 3 (((Y4 1 0 0 0).toNatClampNeg)) 1)) rfl dX11_panCapacity_12 ?_
  refine fw_iload_n C dX11_panCapacity_15 rfl 1 rfl ?_
  obtain ⟨b8, h⟩ := gd_some h
  refine fw_iald2 C ((fun q hq => hG q (List.mem_append_right _ hq)) _ (allG_3 b7)) (of3_1 _) (ca3_1 T ad _ _) b8 (Nat.le_of_ble_eq_true rfl) dX11_panCapacity_16 ?_
  refine fw_xr (Nat.le_of_ble_eq_true rfl) (Nat.le_of_ble_eq_true rfl) ?_
  exact fw_iret C hrt Y4 (Option.some.inj h) (fun t ht => ht) dX11_panCapacity_17
end
set_option maxRecDepth 100000 in
set_option maxHeartbeats 4000000 in
theorem c_X11_panCapacity {l : Launch} {N0 : Nat} {T : Nat → ClassId} {D : va_G} {gr : List (Nat × Nat)} {ad : Nat → Nat → Nat → Nat} {Y : Mem} {a1 : Int32} {res : (Nat × Mem) ⊕ (Int32 × Mem)} (hl : l.stackTraces = false) (hG : ∀ q ∈ ([(1, 0), (0, 0)] ++ allG), q ∈ gr) (h : X11_panCapacity Y a1 = some res) : CXi l yX11_panCapacity wsX11_panCapacity (Rx 7 1) N0 T D gr ad Y [.ref (ad 0 0 0), .int a1] 1 res :=
  fw_xbody (by decide +kernel) rfl (Nat.le_of_ble_eq_true rfl) (fun p e s m below meth c C hrt hX => w_X11_panCapacity C hrt hG hl hX h)
theorem ly_X11_panType_11 : ∀ w ∈ u_ws RX11 TX11 11, w ∈ wsX11_panType := by decide +kernel
theorem fl_X11_panType_67 : Cond.fieldLink RX11 67 "RecipeScheduler" "now" "LRecipeScheduler$Kitchen;" ∈ wsX11_panType := by decide +kernel
theorem ly_X11_panType_3 : ∀ w ∈ u_ws RX3 TX3 5, w ∈ wsX11_panType := by decide +kernel
theorem ly_X11_panType_5 : ∀ w ∈ u_ws RX5 TX5 17, w ∈ wsX11_panType := by decide +kernel
noncomputable def X11_panType (Y : Mem) (a1 : Int32) : Option ((Nat × Mem) ⊕ (Int32 × Mem)) :=
  bdxv (X11_requireStep Y a1) <| fun Y4 => gd (decide ((Y4 1 0 0 0).toNatClampNeg < 2)) <| gd (inb a1 14) <| some (.inr (Y4 3 (((Y4 1 0 0 0).toNatClampNeg)) 5 (ix a1), Y4))
section
variable {p : Program} {l : Launch} {e : Env} {s : State} {m : MethodId} {below : List Frame} {meth : Method} {c : Code} {N0 : Nat} {T : Nat → ClassId} {D : va_G} {gr : List (Nat × Nat)} {ad : Nat → Nat → Nat → Nat}
set_option maxRecDepth 100000 in
set_option maxHeartbeats 4000000 in
theorem w_X11_panType {Y : Mem} {a1 : Int32} (C : Cx p s m [.ref (ad 0 0 0), .int a1].toArray meth c cX11_panType 2 wsX11_panType RX11 N0 T D gr ad) (hrt : meth.sig.returnType = (some .int)) (hG : ∀ q ∈ ([(1, 0), (0, 0)] ++ allG), q ∈ gr) (hl : l.stackTraces = false) (hX : ∀ x ∈ c.exceptionTable.toList, False) {res : (Nat × Mem) ⊕ (Int32 × Mem)} (h : X11_panType Y a1 = some res) : FW p l e (Rx 7 1) s m [.ref (ad 0 0 0), .int a1].toArray below meth c 2 N0 T D gr ad 0 0 (vx_MQ below (va_Qi (fun r Y1 => Sum.inr (r, Y1) = res) (WB T D gr ad) (fun q => N0 ≤ q)) (vx_X (fun u => Sum.inl u = res) (XB T D gr ad) (fun q => N0 ≤ q)) [.ref (ad 0 0 0), .int a1].toArray s 1 6 (fun q => N0 ≤ q)) Y 0 [(0, .ref (ad 0 0 0)), (1, .int a1)] [] := by
  unfold X11_panType at h
  refine fw_aload_n C dX11_panType_0 rfl 0 rfl ?_
  refine fw_iload_n C dX11_panType_1 rfl 1 rfl ?_
  rcases bdxv_some h with ⟨x5, q2, e6⟩ | ⟨Y4, q2, h⟩
  · exact fw_callXVv_l C (ci := 9) (Cn := RX11) (Tc := TX11) (N := 11) (As := [.int a1]) (c_X11_requireStep hl (gac (hG _ (List.mem_of_getElem? (i := 1) rfl)) (gac (hG _ (List.mem_of_getElem? (i := 0) rfl)) (fun q hq => hG q (List.mem_append_right _ hq)))) q2) (cwV 1 (cx_ts C) gX11_panType_X11_requireStep rfl rfl rfl (by decide +kernel) ⟨Nat.le_of_ble_eq_true rfl, Nat.le_of_ble_eq_true rfl⟩) rfl (hG _ (List.mem_of_getElem? (i := 1) rfl)) (of0_0 _) (ce0 T ad _ _) rfl (st := []) rfl (Nat.le_of_ble_eq_true rfl) ⟨Nat.le_of_ble_eq_true rfl, Nat.le_of_ble_eq_true rfl⟩ dX11_panType_2 hX e6 (Nat.le_of_ble_eq_true rfl) (Nat.le_of_ble_eq_true rfl)
  refine fw_callXVv_r C (ci := 9) (Cn := RX11) (Tc := TX11) (N := 11) (As := [.int a1]) (c_X11_requireStep hl (gac (hG _ (List.mem_of_getElem? (i := 1) rfl)) (gac (hG _ (List.mem_of_getElem? (i := 0) rfl)) (fun q hq => hG q (List.mem_append_right _ hq)))) q2) (cwV 1 (cx_ts C) gX11_panType_X11_requireStep rfl rfl rfl (by decide +kernel) ⟨Nat.le_of_ble_eq_true rfl, Nat.le_of_ble_eq_true rfl⟩) rfl (hG _ (List.mem_of_getElem? (i := 1) rfl)) (of0_0 _) (ce0 T ad _ _) rfl (st := []) rfl (Nat.le_of_ble_eq_true rfl) ⟨Nat.le_of_ble_eq_true rfl, Nat.le_of_ble_eq_true rfl⟩ dX11_panType_2 ?_
  refine fw_aload_n C dX11_panType_5 rfl 0 rfl ?_
  refine fw_get C (ci := 9) (Cn := RX11) (Tc := TX11) (N := 11) (j := 5) ly_X11_panType_11 rfl (hG _ (List.mem_of_getElem? (i := 1) rfl)) (of0_0 _) (ce0 T ad _ _) (by decide) (cx_ts C _ fl_X11_panType_67) (fun _ h => h) (v := .ref (ad 1 0 0)) rfl dX11_panType_6 ?_
  refine fw_getN C (ci := 1) (Cn := RX3) (Tc := TX3) (N := 5) (j := 0) ly_X11_panType_3 rfl (hG _ (List.mem_of_getElem? (i := 0) rfl)) (of1_0 _) (ce1 T ad _ _) (by decide) (Nst_use (cx_nst C) (w := .fieldLinkNest RX11 117 "RecipeScheduler$Kitchen" "recipe" "LRecipeScheduler$Recipe;" "RecipeScheduler") 516 (by decide +kernel) rfl) (fun _ h => h) (v := .ref (ad 3 ((Y4 1 0 0 0).toNatClampNeg) 0)) rfl dX11_panType_9 ?_
  obtain ⟨b7, h⟩ := gd_some h
  have b7 := of_decide_eq_true b7
  refine fw_getN C (ci := 3) (Cn := RX5) (Tc := TX5) (N := 17) (j := 10) ly_X11_panType_5 rfl ((fun q hq => hG q (List.mem_append_right _ hq)) _ (allG_3 b7)) (of3_0 _) (ce3 T ad _ _) (by decide) (Nst_use (cx_nst C) (w := .fieldLinkNest RX11 202 "RecipeScheduler$Recipe" "pan" "[I" "RecipeScheduler") 159 (by decide +kernel) rfl) (fun _ h => h) (v := .ref (ad 3 (((Y4 1 0 0 0).toNatClampNeg)) 5)) rfl dX11_panType_12 ?_
  refine fw_iload_n C dX11_panType_15 rfl 1 rfl ?_
  obtain ⟨b8, h⟩ := gd_some h
  refine fw_iald2 C ((fun q hq => hG q (List.mem_append_right _ hq)) _ (allG_3 b7)) (of3_5 _) (ca3_5 T ad _ _) b8 (Nat.le_of_ble_eq_true rfl) dX11_panType_16 ?_
  refine fw_xr (Nat.le_of_ble_eq_true rfl) (Nat.le_of_ble_eq_true rfl) ?_
  exact fw_iret C hrt Y4 (Option.some.inj h) (fun t ht => ht) dX11_panType_17
end
set_option maxRecDepth 100000 in
set_option maxHeartbeats 4000000 in
theorem c_X11_panType {l : Launch} {N0 : Nat} {T : Nat → ClassId} {D : va_G} {gr : List (Nat × Nat)} {ad : Nat → Nat → Nat → Nat} {Y : Mem} {a1 : Int32} {res : (Nat × Mem) ⊕ (Int32 × Mem)} (hl : l.stackTraces = false) (hG : ∀ q ∈ ([(1, 0), (0, 0)] ++ allG), q ∈ gr) (h : X11_panType Y a1 = some res) : CXi l yX11_panType wsX11_panType (Rx 7 1) N0 T D gr ad Y [.ref (ad 0 0 0), .int a1] 1 res :=
  fw_xbody (by decide +kernel) rfl (Nat.le_of_ble_eq_true rfl) (fun p e s m below meth c C hrt hX => w_X11_panType C hrt hG hl hX h)
theorem ly_X11_pansInUse_11 : ∀ w ∈ u_ws RX11 TX11 11, w ∈ wsX11_pansInUse := by decide +kernel
theorem fl_X11_pansInUse_67 : Cond.fieldLink RX11 67 "RecipeScheduler" "now" "LRecipeScheduler$Kitchen;" ∈ wsX11_pansInUse := by decide +kernel
noncomputable def X11_pansInUse (Y : Mem) (a1 : Int32) : Option ((Nat × Mem) ⊕ (Int32 × Mem)) :=
  bdxv (X11_requirePan Y a1) <| fun Y4 => bd1 (X3_occupants Y4 0 a1) <| fun r7 => bd1 (J6_bitCount_0f7a4 Y4 r7) <| fun r9 => some (.inr (r9, Y4))
section
variable {p : Program} {l : Launch} {e : Env} {s : State} {m : MethodId} {below : List Frame} {meth : Method} {c : Code} {N0 : Nat} {T : Nat → ClassId} {D : va_G} {gr : List (Nat × Nat)} {ad : Nat → Nat → Nat → Nat}
set_option maxRecDepth 100000 in
set_option maxHeartbeats 4000000 in
theorem w_X11_pansInUse {Y : Mem} {a1 : Int32} (C : Cx p s m [.ref (ad 0 0 0), .int a1].toArray meth c cX11_pansInUse 2 wsX11_pansInUse RX11 N0 T D gr ad) (hrt : meth.sig.returnType = (some .int)) (hG : ∀ q ∈ ([(1, 0), (0, 0), (2, 0)] ++ allG), q ∈ gr) (hl : l.stackTraces = false) (hX : ∀ x ∈ c.exceptionTable.toList, False) {res : (Nat × Mem) ⊕ (Int32 × Mem)} (h : X11_pansInUse Y a1 = some res) : FW p l e (Rx 7 1) s m [.ref (ad 0 0 0), .int a1].toArray below meth c 2 N0 T D gr ad 0 0 (vx_MQ below (va_Qi (fun r Y1 => Sum.inr (r, Y1) = res) (WB T D gr ad) (fun q => N0 ≤ q)) (vx_X (fun u => Sum.inl u = res) (XB T D gr ad) (fun q => N0 ≤ q)) [.ref (ad 0 0 0), .int a1].toArray s 1 6 (fun q => N0 ≤ q)) Y 0 [(0, .ref (ad 0 0 0)), (1, .int a1)] [] := by
  unfold X11_pansInUse at h
  refine fw_aload_n C dX11_pansInUse_0 rfl 0 rfl ?_
  refine fw_iload_n C dX11_pansInUse_1 rfl 1 rfl ?_
  rcases bdxv_some h with ⟨x5, q2, e6⟩ | ⟨Y4, q2, h⟩
  · exact fw_callXVv_l C (ci := 9) (Cn := RX11) (Tc := TX11) (N := 11) (As := [.int a1]) (c_X11_requirePan hl (gac (hG _ (List.mem_of_getElem? (i := 1) rfl)) (gac (hG _ (List.mem_of_getElem? (i := 0) rfl)) (fun q hq => hG q (List.mem_append_right _ hq)))) q2) (cwV 1 (cx_ts C) gX11_pansInUse_X11_requirePan rfl rfl rfl (by decide +kernel) ⟨Nat.le_of_ble_eq_true rfl, Nat.le_of_ble_eq_true rfl⟩) rfl (hG _ (List.mem_of_getElem? (i := 1) rfl)) (of0_0 _) (ce0 T ad _ _) rfl (st := []) rfl (Nat.le_of_ble_eq_true rfl) ⟨Nat.le_of_ble_eq_true rfl, Nat.le_of_ble_eq_true rfl⟩ dX11_pansInUse_2 hX e6 (Nat.le_of_ble_eq_true rfl) (Nat.le_of_ble_eq_true rfl)
  refine fw_callXVv_r C (ci := 9) (Cn := RX11) (Tc := TX11) (N := 11) (As := [.int a1]) (c_X11_requirePan hl (gac (hG _ (List.mem_of_getElem? (i := 1) rfl)) (gac (hG _ (List.mem_of_getElem? (i := 0) rfl)) (fun q hq => hG q (List.mem_append_right _ hq)))) q2) (cwV 1 (cx_ts C) gX11_pansInUse_X11_requirePan rfl rfl rfl (by decide +kernel) ⟨Nat.le_of_ble_eq_true rfl, Nat.le_of_ble_eq_true rfl⟩) rfl (hG _ (List.mem_of_getElem? (i := 1) rfl)) (of0_0 _) (ce0 T ad _ _) rfl (st := []) rfl (Nat.le_of_ble_eq_true rfl) ⟨Nat.le_of_ble_eq_true rfl, Nat.le_of_ble_eq_true rfl⟩ dX11_pansInUse_2 ?_
  refine fw_aload_n C dX11_pansInUse_5 rfl 0 rfl ?_
  refine fw_get C (ci := 9) (Cn := RX11) (Tc := TX11) (N := 11) (j := 5) ly_X11_pansInUse_11 rfl (hG _ (List.mem_of_getElem? (i := 1) rfl)) (of0_0 _) (ce0 T ad _ _) (by decide) (cx_ts C _ fl_X11_pansInUse_67) (fun _ h => h) (v := .ref (ad 1 0 0)) rfl dX11_pansInUse_6 ?_
  refine fw_iload_n C dX11_pansInUse_9 rfl 1 rfl ?_
  obtain ⟨r7, q8, h⟩ := bd1_some h
  refine fw_callVi C (ci := 1) (Cn := RX3) (Tc := TX3) (N := 5) (As := [.int a1]) (c_X3_occupants (gac (hG _ (List.mem_of_getElem? (i := 0) rfl)) (gac (hG _ (List.mem_of_getElem? (i := 2) rfl)) (fun q hq => hG q (List.mem_append_right _ hq)))) q8) (cwV 1 (cx_ts C) gX11_pansInUse_X3_occupants rfl rfl rfl (by decide +kernel) ⟨Nat.le_of_ble_eq_true rfl, Nat.le_of_ble_eq_true rfl⟩) rfl (hG _ (List.mem_of_getElem? (i := 0) rfl)) (of1_0 _) (ce1 T ad _ _) rfl (st := []) rfl (Nat.le_of_ble_eq_true rfl) ⟨Nat.le_refl 0, Nat.le_refl 0⟩ dX11_pansInUse_10 ?_
  rintro _ _ ⟨rfl, rfl⟩
  obtain ⟨r9, q10, h⟩ := bd1_some h
  refine fw_callSi C (As := [.int r7]) (c_J6_bitCount_0f7a4 ga0 q10) (va_cwS 1 (cx_ts C) gX11_pansInUse_J6_bitCount_0f7a4 rfl rfl rfl (by decide +kernel) ⟨Nat.le_of_ble_eq_true rfl, Nat.le_of_ble_eq_true rfl⟩) rfl (st := []) rfl (Nat.le_of_ble_eq_true rfl) ⟨Nat.le_refl 0, Nat.le_refl 0⟩ dX11_pansInUse_13 ?_
  rintro _ _ ⟨rfl, rfl⟩
  refine fw_xr (Nat.le_of_ble_eq_true rfl) (Nat.le_of_ble_eq_true rfl) ?_
  exact fw_iret C hrt Y4 (Option.some.inj h) (fun t ht => ht) dX11_pansInUse_16
end
set_option maxRecDepth 100000 in
set_option maxHeartbeats 4000000 in
theorem c_X11_pansInUse {l : Launch} {N0 : Nat} {T : Nat → ClassId} {D : va_G} {gr : List (Nat × Nat)} {ad : Nat → Nat → Nat → Nat} {Y : Mem} {a1 : Int32} {res : (Nat × Mem) ⊕ (Int32 × Mem)} (hl : l.stackTraces = false) (hG : ∀ q ∈ ([(1, 0), (0, 0), (2, 0)] ++ allG), q ∈ gr) (h : X11_pansInUse Y a1 = some res) : CXi l yX11_pansInUse wsX11_pansInUse (Rx 7 1) N0 T D gr ad Y [.ref (ad 0 0 0), .int a1] 1 res :=
  fw_xbody (by decide +kernel) rfl (Nat.le_of_ble_eq_true rfl) (fun p e s m below meth c C hrt hX => w_X11_pansInUse C hrt hG hl hX h)
theorem ly_X11_pass_11 : ∀ w ∈ u_ws RX11 TX11 11, w ∈ wsX11_pass := by decide +kernel
theorem fl_X11_pass_77 : Cond.fieldLink RX11 77 "RecipeScheduler" "history" "LRecipeScheduler$History;" ∈ wsX11_pass := by decide +kernel
theorem fl_X11_pass_67 : Cond.fieldLink RX11 67 "RecipeScheduler" "now" "LRecipeScheduler$Kitchen;" ∈ wsX11_pass := by decide +kernel
theorem ly_X11_pass_3 : ∀ w ∈ u_ws RX3 TX3 5, w ∈ wsX11_pass := by decide +kernel
theorem th_X11_pass_27 : Cond.classLink RX11 96 "java/lang/IllegalStateException" ∈ wsX11_pass ∧ Cond.initialized "java/lang/IllegalStateException" ∈ wsX11_pass ∧ ∀ w ∈ vx_atS RX11 100 "java/lang/IllegalStateException" ["java/lang/RuntimeException", "java/lang/Exception"], w ∈ wsX11_pass := by decide +kernel
theorem th_X11_pass_8 : Cond.classLink RX11 109 "java/lang/IllegalArgumentException" ∈ wsX11_pass ∧ Cond.initialized "java/lang/IllegalArgumentException" ∈ wsX11_pass ∧ ∀ w ∈ vx_atS RX11 113 "java/lang/IllegalArgumentException" ["java/lang/RuntimeException", "java/lang/Exception"], w ∈ wsX11_pass := by decide +kernel
noncomputable def X11_pass (Y : Mem) (a1 : Int32) : Option ((Nat × Mem) ⊕ (Int32 × Mem)) :=
  bd1 (X11_isPassLength Y a1) <| fun r1 => if r1 = 0 then (some (.inl (2, Y))) else (bd1 (X11_fitsClock Y a1) <| fun r4 => if r4 = 0 then (some (.inl (1, Y))) else (bd1 (X2_push Y 0) <| fun Y9 => bd2 (X3_runMinutes Y9 0 a1) <| fun r10 Y12 => some (.inr (r10, Y12))))
section
variable {p : Program} {l : Launch} {e : Env} {s : State} {m : MethodId} {below : List Frame} {meth : Method} {c : Code} {N0 : Nat} {T : Nat → ClassId} {D : va_G} {gr : List (Nat × Nat)} {ad : Nat → Nat → Nat → Nat}
set_option maxRecDepth 100000 in
set_option maxHeartbeats 4000000 in
theorem w_X11_pass {Y : Mem} {a1 : Int32} (C : Cx p s m [.ref (ad 0 0 0), .int a1].toArray meth c cX11_pass 2 wsX11_pass RX11 N0 T D gr ad) (hrt : meth.sig.returnType = (some .int)) (hG : ∀ q ∈ ([(0, 0), (2, 0), (1, 0), (9, 0)] ++ allG), q ∈ gr) (hl : l.stackTraces = false) (hX : ∀ x ∈ c.exceptionTable.toList, False) {res : (Nat × Mem) ⊕ (Int32 × Mem)} (h : X11_pass Y a1 = some res) : FW p l e (Rx 6 1) s m [.ref (ad 0 0 0), .int a1].toArray below meth c 2 N0 T D gr ad 0 0 (vx_MQ below (va_Qi (fun r Y1 => Sum.inr (r, Y1) = res) (WB T D gr ad) (fun q => N0 ≤ q)) (vx_X (fun u => Sum.inl u = res) (XB T D gr ad) (fun q => N0 ≤ q)) [.ref (ad 0 0 0), .int a1].toArray s 1 6 (fun q => N0 ≤ q)) Y 0 [(0, .ref (ad 0 0 0)), (1, .int a1)] [] := by
  unfold X11_pass at h
  refine fw_aload_n C dX11_pass_0 rfl 0 rfl ?_
  refine fw_iload_n C dX11_pass_1 rfl 1 rfl ?_
  obtain ⟨r1, q2, h⟩ := bd1_some h
  refine fw_callVi C (ci := 9) (Cn := RX11) (Tc := TX11) (N := 11) (As := [.int a1]) (c_X11_isPassLength ga0 q2) (cwV 1 (cx_ts C) gX11_pass_X11_isPassLength rfl rfl rfl (by decide +kernel) ⟨Nat.le_of_ble_eq_true rfl, Nat.le_of_ble_eq_true rfl⟩) rfl (hG _ (List.mem_of_getElem? (i := 0) rfl)) (of0_0 _) (ce0 T ad _ _) rfl (st := []) rfl (Nat.le_of_ble_eq_true rfl) ⟨Nat.le_refl 0, Nat.le_refl 0⟩ dX11_pass_2 ?_
  rintro _ _ ⟨rfl, rfl⟩
  refine fw_if_ne C dX11_pass_5 (tgt := 19) rfl (fun c3 => ?_) (fun c3 => ?_)
  · have h := ite_f c3 h
    refine fw_aload_n C dX11_pass_19 rfl 0 rfl ?_
    refine fw_iload_n C dX11_pass_20 rfl 1 rfl ?_
    obtain ⟨r4, q5, h⟩ := bd1_some h
    refine fw_callVi C (ci := 9) (Cn := RX11) (Tc := TX11) (N := 11) (As := [.int a1]) (c_X11_fitsClock (gac (hG _ (List.mem_of_getElem? (i := 0) rfl)) (gac (hG _ (List.mem_of_getElem? (i := 2) rfl)) (gac (hG _ (List.mem_of_getElem? (i := 1) rfl)) ga0))) q5) (cwV 1 (cx_ts C) gX11_pass_X11_fitsClock rfl rfl rfl (by decide +kernel) ⟨Nat.le_of_ble_eq_true rfl, Nat.le_of_ble_eq_true rfl⟩) rfl (hG _ (List.mem_of_getElem? (i := 0) rfl)) (of0_0 _) (ce0 T ad _ _) rfl (st := []) rfl (Nat.le_of_ble_eq_true rfl) ⟨Nat.le_refl 0, Nat.le_refl 0⟩ dX11_pass_21 ?_
    rintro _ _ ⟨rfl, rfl⟩
    refine fw_if_ne C dX11_pass_24 (tgt := 38) rfl (fun c6 => ?_) (fun c6 => ?_)
    · have h := ite_f c6 h
      refine fw_aload_n C dX11_pass_38 rfl 0 rfl ?_
      refine fw_get C (ci := 9) (Cn := RX11) (Tc := TX11) (N := 11) (j := 7) ly_X11_pass_11 rfl (hG _ (List.mem_of_getElem? (i := 0) rfl)) (of0_0 _) (ce0 T ad _ _) (by decide) (cx_ts C _ fl_X11_pass_77) (fun _ h => h) (v := .ref (ad 9 0 0)) rfl dX11_pass_39 ?_
      refine fw_aload_n C dX11_pass_42 rfl 0 rfl ?_
      refine fw_get C (ci := 9) (Cn := RX11) (Tc := TX11) (N := 11) (j := 5) ly_X11_pass_11 rfl (hG _ (List.mem_of_getElem? (i := 0) rfl)) (of0_0 _) (ce0 T ad _ _) (by decide) (cx_ts C _ fl_X11_pass_67) (fun _ h => h) (v := .ref (ad 1 0 0)) rfl dX11_pass_43 ?_
      refine fw_getN C (ci := 1) (Cn := RX3) (Tc := TX3) (N := 5) (j := 1) ly_X11_pass_3 rfl (hG _ (List.mem_of_getElem? (i := 2) rfl)) (of1_0 _) (ce1 T ad _ _) (by decide) (Nst_use (cx_nst C) (w := .fieldLinkNest RX11 139 "RecipeScheduler$Kitchen" "state" "LRecipeScheduler$State;" "RecipeScheduler") 518 (by decide +kernel) rfl) (fun _ h => h) (v := .ref (ad 2 0 0)) rfl dX11_pass_46 ?_
      obtain ⟨Y9, q8, h⟩ := bd1_some h
      refine fw_callVv C (ci := 0) (Cn := RX2) (Tc := TX2) (N := 3) (As := [.ref (ad 2 0 0)]) (c_X2_push (gac (hG _ (List.mem_of_getElem? (i := 3) rfl)) (gac (hG _ (List.mem_of_getElem? (i := 1) rfl)) (fun q hq => hG q (List.mem_append_right _ hq)))) q8) (cwV 1 (cx_ts C) gX11_pass_X2_push rfl rfl rfl (by decide +kernel) ⟨Nat.le_of_ble_eq_true rfl, Nat.le_of_ble_eq_true rfl⟩) rfl (hG _ (List.mem_of_getElem? (i := 3) rfl)) (of9_0 _) (ce9 T ad _ _) rfl (st := []) rfl (Nat.le_of_ble_eq_true rfl) ⟨Nat.le_refl 0, Nat.le_refl 0⟩ dX11_pass_49 ?_
      rintro _ rfl
      refine fw_aload_n C dX11_pass_52 rfl 0 rfl ?_
      refine fw_get C (ci := 9) (Cn := RX11) (Tc := TX11) (N := 11) (j := 5) ly_X11_pass_11 rfl (hG _ (List.mem_of_getElem? (i := 0) rfl)) (of0_0 _) (ce0 T ad _ _) (by decide) (cx_ts C _ fl_X11_pass_67) (fun _ h => h) (v := .ref (ad 1 0 0)) rfl dX11_pass_53 ?_
      refine fw_iload_n C dX11_pass_56 rfl 1 rfl ?_
      obtain ⟨r10, Y12, q11, h⟩ := bd2_some h
      refine fw_callVi C (ci := 1) (Cn := RX3) (Tc := TX3) (N := 5) (As := [.int a1]) (c_X3_runMinutes (gac (hG _ (List.mem_of_getElem? (i := 1) rfl)) (gac (hG _ (List.mem_of_getElem? (i := 2) rfl)) (fun q hq => hG q (List.mem_append_right _ hq)))) q11) (cwV 1 (cx_ts C) gX11_pass_X3_runMinutes rfl rfl rfl (by decide +kernel) ⟨Nat.le_of_ble_eq_true rfl, Nat.le_of_ble_eq_true rfl⟩) rfl (hG _ (List.mem_of_getElem? (i := 2) rfl)) (of1_0 _) (ce1 T ad _ _) rfl (st := []) rfl (Nat.le_of_ble_eq_true rfl) ⟨Nat.le_refl 0, Nat.le_refl 0⟩ dX11_pass_57 ?_
      intro r_ Y_ e_
      obtain ⟨rfl, rfl⟩ := Prod.mk.inj e_
      refine fw_xr (Nat.le_of_ble_eq_true rfl) (Nat.le_of_ble_eq_true rfl) ?_
      exact fw_iret C hrt Y12 (Option.some.inj h) (fun t ht => ht) dX11_pass_60
    · have h := ite_t c6 h
      exact fw_throwSW C hl hX (cls := "java/lang/IllegalStateException") (names := ["java/lang/RuntimeException", "java/lang/Exception"]) 1 rfl (by decide +kernel) (by decide +kernel) (cx_ts C _ th_X11_pass_27.1) (cx_ts C _ th_X11_pass_27.2.1) ((cx_st C).2.1 _ (List.mem_of_getElem? (i := 19) rfl)) (fun w hw => cx_ts C _ (th_X11_pass_27.2.2 w hw)) tg_1_100_96 dX11_pass_27 dX11_pass_30 dX11_pass_31 dX11_pass_34 dX11_pass_37 (Nat.le_of_ble_eq_true rfl) (Nat.le_of_ble_eq_true rfl) (Nat.le_of_ble_eq_true rfl) (Nat.le_of_ble_eq_true rfl) (Nat.le_of_ble_eq_true rfl) (Nat.le_of_ble_eq_true rfl) (Option.some.inj h)
  · have h := ite_t c3 h
    exact fw_throwSW C hl hX (cls := "java/lang/IllegalArgumentException") (names := ["java/lang/RuntimeException", "java/lang/Exception"]) 2 rfl (by decide +kernel) (by decide +kernel) (cx_ts C _ th_X11_pass_8.1) (cx_ts C _ th_X11_pass_8.2.1) ((cx_st C).2.1 _ (List.mem_of_getElem? (i := 16) rfl)) (fun w hw => cx_ts C _ (th_X11_pass_8.2.2 w hw)) tg_2_113_109 dX11_pass_8 dX11_pass_11 dX11_pass_12 dX11_pass_15 dX11_pass_18 (Nat.le_of_ble_eq_true rfl) (Nat.le_of_ble_eq_true rfl) (Nat.le_of_ble_eq_true rfl) (Nat.le_of_ble_eq_true rfl) (Nat.le_of_ble_eq_true rfl) (Nat.le_of_ble_eq_true rfl) (Option.some.inj h)
end
set_option maxRecDepth 100000 in
set_option maxHeartbeats 4000000 in
theorem c_X11_pass {l : Launch} {N0 : Nat} {T : Nat → ClassId} {D : va_G} {gr : List (Nat × Nat)} {ad : Nat → Nat → Nat → Nat} {Y : Mem} {a1 : Int32} {res : (Nat × Mem) ⊕ (Int32 × Mem)} (hl : l.stackTraces = false) (hG : ∀ q ∈ ([(0, 0), (2, 0), (1, 0), (9, 0)] ++ allG), q ∈ gr) (h : X11_pass Y a1 = some res) : CXi l yX11_pass wsX11_pass (Rx 6 1) N0 T D gr ad Y [.ref (ad 0 0 0), .int a1] 1 res :=
  fw_xbody (by decide +kernel) rfl (Nat.le_of_ble_eq_true rfl) (fun p e s m below meth c C hrt hX => w_X11_pass C hrt hG hl hX h)
theorem ly_X11_pathLength_11 : ∀ w ∈ u_ws RX11 TX11 11, w ∈ wsX11_pathLength := by decide +kernel
theorem fl_X11_pathLength_67 : Cond.fieldLink RX11 67 "RecipeScheduler" "now" "LRecipeScheduler$Kitchen;" ∈ wsX11_pathLength := by decide +kernel
theorem ly_X11_pathLength_3 : ∀ w ∈ u_ws RX3 TX3 5, w ∈ wsX11_pathLength := by decide +kernel
noncomputable def X11_pathLength (Y : Mem) (a1 : Int32) : Option ((Nat × Mem) ⊕ (Int32 × Mem)) :=
  bdxv (X11_requireStep Y a1) <| fun Y4 => bd1 (X3_rank Y4 0) <| fun Y9 => gd (inb a1 14) <| some (.inr (Y9 1 0 1 (ix a1), Y9))
section
variable {p : Program} {l : Launch} {e : Env} {s : State} {m : MethodId} {below : List Frame} {meth : Method} {c : Code} {N0 : Nat} {T : Nat → ClassId} {D : va_G} {gr : List (Nat × Nat)} {ad : Nat → Nat → Nat → Nat}
set_option maxRecDepth 100000 in
set_option maxHeartbeats 4000000 in
theorem w_X11_pathLength {Y : Mem} {a1 : Int32} (C : Cx p s m [.ref (ad 0 0 0), .int a1].toArray meth c cX11_pathLength 2 wsX11_pathLength RX11 N0 T D gr ad) (hrt : meth.sig.returnType = (some .int)) (hG : ∀ q ∈ ([(1, 0), (0, 0), (2, 0)] ++ allG), q ∈ gr) (hl : l.stackTraces = false) (hX : ∀ x ∈ c.exceptionTable.toList, False) {res : (Nat × Mem) ⊕ (Int32 × Mem)} (h : X11_pathLength Y a1 = some res) : FW p l e (Rx 7 1) s m [.ref (ad 0 0 0), .int a1].toArray below meth c 2 N0 T D gr ad 0 0 (vx_MQ below (va_Qi (fun r Y1 => Sum.inr (r, Y1) = res) (WB T D gr ad) (fun q => N0 ≤ q)) (vx_X (fun u => Sum.inl u = res) (XB T D gr ad) (fun q => N0 ≤ q)) [.ref (ad 0 0 0), .int a1].toArray s 1 6 (fun q => N0 ≤ q)) Y 0 [(0, .ref (ad 0 0 0)), (1, .int a1)] [] := by
  unfold X11_pathLength at h
  refine fw_aload_n C dX11_pathLength_0 rfl 0 rfl ?_
  refine fw_iload_n C dX11_pathLength_1 rfl 1 rfl ?_
  rcases bdxv_some h with ⟨x5, q2, e6⟩ | ⟨Y4, q2, h⟩
  · exact fw_callXVv_l C (ci := 9) (Cn := RX11) (Tc := TX11) (N := 11) (As := [.int a1]) (c_X11_requireStep hl (gac (hG _ (List.mem_of_getElem? (i := 1) rfl)) (gac (hG _ (List.mem_of_getElem? (i := 0) rfl)) (fun q hq => hG q (List.mem_append_right _ hq)))) q2) (cwV 1 (cx_ts C) gX11_pathLength_X11_requireStep rfl rfl rfl (by decide +kernel) ⟨Nat.le_of_ble_eq_true rfl, Nat.le_of_ble_eq_true rfl⟩) rfl (hG _ (List.mem_of_getElem? (i := 1) rfl)) (of0_0 _) (ce0 T ad _ _) rfl (st := []) rfl (Nat.le_of_ble_eq_true rfl) ⟨Nat.le_of_ble_eq_true rfl, Nat.le_of_ble_eq_true rfl⟩ dX11_pathLength_2 hX e6 (Nat.le_of_ble_eq_true rfl) (Nat.le_of_ble_eq_true rfl)
  refine fw_callXVv_r C (ci := 9) (Cn := RX11) (Tc := TX11) (N := 11) (As := [.int a1]) (c_X11_requireStep hl (gac (hG _ (List.mem_of_getElem? (i := 1) rfl)) (gac (hG _ (List.mem_of_getElem? (i := 0) rfl)) (fun q hq => hG q (List.mem_append_right _ hq)))) q2) (cwV 1 (cx_ts C) gX11_pathLength_X11_requireStep rfl rfl rfl (by decide +kernel) ⟨Nat.le_of_ble_eq_true rfl, Nat.le_of_ble_eq_true rfl⟩) rfl (hG _ (List.mem_of_getElem? (i := 1) rfl)) (of0_0 _) (ce0 T ad _ _) rfl (st := []) rfl (Nat.le_of_ble_eq_true rfl) ⟨Nat.le_of_ble_eq_true rfl, Nat.le_of_ble_eq_true rfl⟩ dX11_pathLength_2 ?_
  refine fw_aload_n C dX11_pathLength_5 rfl 0 rfl ?_
  refine fw_get C (ci := 9) (Cn := RX11) (Tc := TX11) (N := 11) (j := 5) ly_X11_pathLength_11 rfl (hG _ (List.mem_of_getElem? (i := 1) rfl)) (of0_0 _) (ce0 T ad _ _) (by decide) (cx_ts C _ fl_X11_pathLength_67) (fun _ h => h) (v := .ref (ad 1 0 0)) rfl dX11_pathLength_6 ?_
  obtain ⟨Y9, q8, h⟩ := bd1_some h
  refine fw_callVv C (ci := 1) (Cn := RX3) (Tc := TX3) (N := 5) (As := []) (c_X3_rank (gac (hG _ (List.mem_of_getElem? (i := 0) rfl)) (gac (hG _ (List.mem_of_getElem? (i := 2) rfl)) (fun q hq => hG q (List.mem_append_right _ hq)))) q8) (cwV 0 (cx_ts C) gX11_pathLength_X3_rank rfl rfl rfl (by decide +kernel) ⟨Nat.le_of_ble_eq_true rfl, Nat.le_of_ble_eq_true rfl⟩) rfl (hG _ (List.mem_of_getElem? (i := 0) rfl)) (of1_0 _) (ce1 T ad _ _) rfl (st := []) rfl (Nat.le_of_ble_eq_true rfl) ⟨Nat.le_refl 0, Nat.le_refl 0⟩ dX11_pathLength_9 ?_
  rintro _ rfl
  refine fw_aload_n C dX11_pathLength_12 rfl 0 rfl ?_
  refine fw_get C (ci := 9) (Cn := RX11) (Tc := TX11) (N := 11) (j := 5) ly_X11_pathLength_11 rfl (hG _ (List.mem_of_getElem? (i := 1) rfl)) (of0_0 _) (ce0 T ad _ _) (by decide) (cx_ts C _ fl_X11_pathLength_67) (fun _ h => h) (v := .ref (ad 1 0 0)) rfl dX11_pathLength_13 ?_
  refine fw_getN C (ci := 1) (Cn := RX3) (Tc := TX3) (N := 5) (j := 2) ly_X11_pathLength_3 rfl (hG _ (List.mem_of_getElem? (i := 0) rfl)) (of1_0 _) (ce1 T ad _ _) (by decide) (Nst_use (cx_nst C) (w := .fieldLinkNest RX11 231 "RecipeScheduler$Kitchen" "path" "[I" "RecipeScheduler") 520 (by decide +kernel) rfl) (fun _ h => h) (v := .ref (ad 1 0 1)) rfl dX11_pathLength_16 ?_
  refine fw_iload_n C dX11_pathLength_19 rfl 1 rfl ?_
  obtain ⟨b10, h⟩ := gd_some h
  refine fw_iald2 C (hG _ (List.mem_of_getElem? (i := 0) rfl)) (of1_1 _) (ca1_1 T ad _ _) b10 (Nat.le_of_ble_eq_true rfl) dX11_pathLength_20 ?_
  refine fw_xr (Nat.le_of_ble_eq_true rfl) (Nat.le_of_ble_eq_true rfl) ?_
  exact fw_iret C hrt Y9 (Option.some.inj h) (fun t ht => ht) dX11_pathLength_21
end
set_option maxRecDepth 100000 in
set_option maxHeartbeats 4000000 in
theorem c_X11_pathLength {l : Launch} {N0 : Nat} {T : Nat → ClassId} {D : va_G} {gr : List (Nat × Nat)} {ad : Nat → Nat → Nat → Nat} {Y : Mem} {a1 : Int32} {res : (Nat × Mem) ⊕ (Int32 × Mem)} (hl : l.stackTraces = false) (hG : ∀ q ∈ ([(1, 0), (0, 0), (2, 0)] ++ allG), q ∈ gr) (h : X11_pathLength Y a1 = some res) : CXi l yX11_pathLength wsX11_pathLength (Rx 7 1) N0 T D gr ad Y [.ref (ad 0 0 0), .int a1] 1 res :=
  fw_xbody (by decide +kernel) rfl (Nat.le_of_ble_eq_true rfl) (fun p e s m below meth c C hrt hX => w_X11_pathLength C hrt hG hl hX h)
theorem ly_X11_predecessor_11 : ∀ w ∈ u_ws RX11 TX11 11, w ∈ wsX11_predecessor := by decide +kernel
theorem fl_X11_predecessor_67 : Cond.fieldLink RX11 67 "RecipeScheduler" "now" "LRecipeScheduler$Kitchen;" ∈ wsX11_predecessor := by decide +kernel
theorem ly_X11_predecessor_3 : ∀ w ∈ u_ws RX3 TX3 5, w ∈ wsX11_predecessor := by decide +kernel
theorem ly_X11_predecessor_5 : ∀ w ∈ u_ws RX5 TX5 17, w ∈ wsX11_predecessor := by decide +kernel
noncomputable def X11_predecessor (Y : Mem) (a1 : Int32) (a2 : Int32) : Option ((Nat × Mem) ⊕ (Int32 × Mem)) :=
  bdxv (X11_requireStep Y a1) <| fun Y4 => gd (decide ((Y4 1 0 0 0).toNatClampNeg < 2)) <| gd (inb a1 14) <| bd1 (X11_isWithin Y4 a2 0 ((Y4 3 (((Y4 1 0 0 0).toNatClampNeg)) 7 (ix a1)) - 1)) <| fun r9 => if r9 = 0 then (some (.inr ((-1), Y4))) else (gd (inb a2 4) <| some (.inr (Y4 3 (((Y4 1 0 0 0).toNatClampNeg)) (20+ix a1) (ix a2), Y4)))
section
variable {p : Program} {l : Launch} {e : Env} {s : State} {m : MethodId} {below : List Frame} {meth : Method} {c : Code} {N0 : Nat} {T : Nat → ClassId} {D : va_G} {gr : List (Nat × Nat)} {ad : Nat → Nat → Nat → Nat}
set_option maxRecDepth 100000 in
set_option maxHeartbeats 4000000 in
theorem w_X11_predecessor {Y : Mem} {a1 : Int32} {a2 : Int32} (C : Cx p s m [.ref (ad 0 0 0), .int a1, .int a2].toArray meth c cX11_predecessor 3 wsX11_predecessor RX11 N0 T D gr ad) (hrt : meth.sig.returnType = (some .int)) (hG : ∀ q ∈ ([(1, 0), (0, 0)] ++ allG), q ∈ gr) (hl : l.stackTraces = false) (hX : ∀ x ∈ c.exceptionTable.toList, False) {res : (Nat × Mem) ⊕ (Int32 × Mem)} (h : X11_predecessor Y a1 a2 = some res) : FW p l e (Rx 7 1) s m [.ref (ad 0 0 0), .int a1, .int a2].toArray below meth c 3 N0 T D gr ad 0 0 (vx_MQ below (va_Qi (fun r Y1 => Sum.inr (r, Y1) = res) (WB T D gr ad) (fun q => N0 ≤ q)) (vx_X (fun u => Sum.inl u = res) (XB T D gr ad) (fun q => N0 ≤ q)) [.ref (ad 0 0 0), .int a1, .int a2].toArray s 1 6 (fun q => N0 ≤ q)) Y 0 [(0, .ref (ad 0 0 0)), (1, .int a1), (2, .int a2)] [] := by
  unfold X11_predecessor at h
  refine fw_aload_n C dX11_predecessor_0 rfl 0 rfl ?_
  refine fw_iload_n C dX11_predecessor_1 rfl 1 rfl ?_
  rcases bdxv_some h with ⟨x5, q2, e6⟩ | ⟨Y4, q2, h⟩
  · exact fw_callXVv_l C (ci := 9) (Cn := RX11) (Tc := TX11) (N := 11) (As := [.int a1]) (c_X11_requireStep hl (gac (hG _ (List.mem_of_getElem? (i := 1) rfl)) (gac (hG _ (List.mem_of_getElem? (i := 0) rfl)) (fun q hq => hG q (List.mem_append_right _ hq)))) q2) (cwV 1 (cx_ts C) gX11_predecessor_X11_requireStep rfl rfl rfl (by decide +kernel) ⟨Nat.le_of_ble_eq_true rfl, Nat.le_of_ble_eq_true rfl⟩) rfl (hG _ (List.mem_of_getElem? (i := 1) rfl)) (of0_0 _) (ce0 T ad _ _) rfl (st := []) rfl (Nat.le_of_ble_eq_true rfl) ⟨Nat.le_of_ble_eq_true rfl, Nat.le_of_ble_eq_true rfl⟩ dX11_predecessor_2 hX e6 (Nat.le_of_ble_eq_true rfl) (Nat.le_of_ble_eq_true rfl)
  refine fw_callXVv_r C (ci := 9) (Cn := RX11) (Tc := TX11) (N := 11) (As := [.int a1]) (c_X11_requireStep hl (gac (hG _ (List.mem_of_getElem? (i := 1) rfl)) (gac (hG _ (List.mem_of_getElem? (i := 0) rfl)) (fun q hq => hG q (List.mem_append_right _ hq)))) q2) (cwV 1 (cx_ts C) gX11_predecessor_X11_requireStep rfl rfl rfl (by decide +kernel) ⟨Nat.le_of_ble_eq_true rfl, Nat.le_of_ble_eq_true rfl⟩) rfl (hG _ (List.mem_of_getElem? (i := 1) rfl)) (of0_0 _) (ce0 T ad _ _) rfl (st := []) rfl (Nat.le_of_ble_eq_true rfl) ⟨Nat.le_of_ble_eq_true rfl, Nat.le_of_ble_eq_true rfl⟩ dX11_predecessor_2 ?_
  refine fw_iload_n C dX11_predecessor_5 rfl 2 rfl ?_
  refine fw_iconst C dX11_predecessor_6 (v := 0) rfl ?_
  refine fw_aload_n C dX11_predecessor_7 rfl 0 rfl ?_
  refine fw_get C (ci := 9) (Cn := RX11) (Tc := TX11) (N := 11) (j := 5) ly_X11_predecessor_11 rfl (hG _ (List.mem_of_getElem? (i := 1) rfl)) (of0_0 _) (ce0 T ad _ _) (by decide) (cx_ts C _ fl_X11_predecessor_67) (fun _ h => h) (v := .ref (ad 1 0 0)) rfl dX11_predecessor_8 ?_
  refine fw_getN C (ci := 1) (Cn := RX3) (Tc := TX3) (N := 5) (j := 0) ly_X11_predecessor_3 rfl (hG _ (List.mem_of_getElem? (i := 0) rfl)) (of1_0 _) (ce1 T ad _ _) (by decide) (Nst_use (cx_nst C) (w := .fieldLinkNest RX11 117 "RecipeScheduler$Kitchen" "recipe" "LRecipeScheduler$Recipe;" "RecipeScheduler") 516 (by decide +kernel) rfl) (fun _ h => h) (v := .ref (ad 3 ((Y4 1 0 0 0).toNatClampNeg) 0)) rfl dX11_predecessor_11 ?_
  obtain ⟨b7, h⟩ := gd_some h
  have b7 := of_decide_eq_true b7
  refine fw_getN C (ci := 3) (Cn := RX5) (Tc := TX5) (N := 17) (j := 12) ly_X11_predecessor_5 rfl ((fun q hq => hG q (List.mem_append_right _ hq)) _ (allG_3 b7)) (of3_0 _) (ce3 T ad _ _) (by decide) (Nst_use (cx_nst C) (w := .fieldLinkNest RX11 215 "RecipeScheduler$Recipe" "predecessorCount" "[I" "RecipeScheduler") 166 (by decide +kernel) rfl) (fun _ h => h) (v := .ref (ad 3 (((Y4 1 0 0 0).toNatClampNeg)) 7)) rfl dX11_predecessor_14 ?_
  refine fw_iload_n C dX11_predecessor_17 rfl 1 rfl ?_
  obtain ⟨b8, h⟩ := gd_some h
  refine fw_iald2 C ((fun q hq => hG q (List.mem_append_right _ hq)) _ (allG_3 b7)) (of3_7 _) (ca3_7 T ad _ _) b8 (Nat.le_of_ble_eq_true rfl) dX11_predecessor_18 ?_
  refine fw_iconst C dX11_predecessor_19 (v := 1) rfl ?_
  refine fw_isub C dX11_predecessor_20 ?_
  obtain ⟨r9, q10, h⟩ := bd1_some h
  refine fw_callSi C (As := [.int a2, .int 0, .int ((Y4 3 (((Y4 1 0 0 0).toNatClampNeg)) 7 (ix a1)) - 1)]) (c_X11_isWithin ga0 q10) (va_cwS 3 (cx_ts C) gX11_predecessor_X11_isWithin rfl rfl rfl (by decide +kernel) ⟨Nat.le_of_ble_eq_true rfl, Nat.le_of_ble_eq_true rfl⟩) rfl (st := []) rfl (Nat.le_of_ble_eq_true rfl) ⟨Nat.le_refl 0, Nat.le_refl 0⟩ dX11_predecessor_21 ?_
  rintro _ _ ⟨rfl, rfl⟩
  refine fw_if_ne C dX11_predecessor_24 (tgt := 29) rfl (fun c11 => ?_) (fun c11 => ?_)
  · have h := ite_f c11 h
    refine fw_aload_n C dX11_predecessor_29 rfl 0 rfl ?_
    refine fw_get C (ci := 9) (Cn := RX11) (Tc := TX11) (N := 11) (j := 5) ly_X11_predecessor_11 rfl (hG _ (List.mem_of_getElem? (i := 1) rfl)) (of0_0 _) (ce0 T ad _ _) (by decide) (cx_ts C _ fl_X11_predecessor_67) (fun _ h => h) (v := .ref (ad 1 0 0)) rfl dX11_predecessor_30 ?_
    refine fw_getN C (ci := 1) (Cn := RX3) (Tc := TX3) (N := 5) (j := 0) ly_X11_predecessor_3 rfl (hG _ (List.mem_of_getElem? (i := 0) rfl)) (of1_0 _) (ce1 T ad _ _) (by decide) (Nst_use (cx_nst C) (w := .fieldLinkNest RX11 117 "RecipeScheduler$Kitchen" "recipe" "LRecipeScheduler$Recipe;" "RecipeScheduler") 516 (by decide +kernel) rfl) (fun _ h => h) (v := .ref (ad 3 ((Y4 1 0 0 0).toNatClampNeg) 0)) rfl dX11_predecessor_33 ?_
    refine fw_getN C (ci := 3) (Cn := RX5) (Tc := TX5) (N := 17) (j := 11) ly_X11_predecessor_5 rfl ((fun q hq => hG q (List.mem_append_right _ hq)) _ (allG_3 b7)) (of3_0 _) (ce3 T ad _ _) (by decide) (Nst_use (cx_nst C) (w := .fieldLinkNest RX11 218 "RecipeScheduler$Recipe" "predecessors" "[[I" "RecipeScheduler") 162 (by decide +kernel) rfl) (fun _ h => h) (v := .ref (ad 3 (((Y4 1 0 0 0).toNatClampNeg)) 6)) rfl dX11_predecessor_36 ?_
    refine fw_iload_n C dX11_predecessor_39 rfl 1 rfl ?_
    refine fw_aald2 C 5 ((fun q hq => hG q (List.mem_append_right _ hq)) _ (allG_3 b7)) (of3_6 _) (ca3_6 T ad _ _) rfl rfl b8 (Nat.le_of_ble_eq_true rfl) (v := .ref (ad 3 (((Y4 1 0 0 0).toNatClampNeg)) (20+ix a1))) rfl dX11_predecessor_40 ?_
    refine fw_iload_n C dX11_predecessor_41 rfl 2 rfl ?_
    obtain ⟨b12, h⟩ := gd_some h
    refine fw_iald2 C ((fun q hq => hG q (List.mem_append_right _ hq)) _ (allG_3 b7)) (of3_r _ (inb_lt b8)) (ca3_r T ad _ _ _) b12 (Nat.le_of_ble_eq_true rfl) dX11_predecessor_42 ?_
    refine fw_xr (Nat.le_of_ble_eq_true rfl) (Nat.le_of_ble_eq_true rfl) ?_
    exact fw_iret C hrt Y4 (Option.some.inj h) (fun t ht => ht) dX11_predecessor_43
  · have h := ite_t c11 h
    refine fw_iconst C dX11_predecessor_27 (v := (-1)) rfl ?_
    refine fw_xr (Nat.le_of_ble_eq_true rfl) (Nat.le_of_ble_eq_true rfl) ?_
    exact fw_iret C hrt Y4 (Option.some.inj h) (fun t ht => ht) dX11_predecessor_28
end
set_option maxRecDepth 100000 in
set_option maxHeartbeats 4000000 in
theorem c_X11_predecessor {l : Launch} {N0 : Nat} {T : Nat → ClassId} {D : va_G} {gr : List (Nat × Nat)} {ad : Nat → Nat → Nat → Nat} {Y : Mem} {a1 : Int32} {a2 : Int32} {res : (Nat × Mem) ⊕ (Int32 × Mem)} (hl : l.stackTraces = false) (hG : ∀ q ∈ ([(1, 0), (0, 0)] ++ allG), q ∈ gr) (h : X11_predecessor Y a1 a2 = some res) : CXi l yX11_predecessor wsX11_predecessor (Rx 7 1) N0 T D gr ad Y [.ref (ad 0 0 0), .int a1, .int a2] 1 res :=
  fw_xbody (by decide +kernel) rfl (Nat.le_of_ble_eq_true rfl) (fun p e s m below meth c C hrt hX => w_X11_predecessor C hrt hG hl hX h)
theorem ly_X3_readyAt_3 : ∀ w ∈ u_ws RX3 TX3 5, w ∈ wsX3_readyAt := by decide +kernel
theorem fl_X3_readyAt_28 : Cond.fieldLink RX3 28 "RecipeScheduler$Kitchen" "recipe" "LRecipeScheduler$Recipe;" ∈ wsX3_readyAt := by decide +kernel
theorem ly_X3_readyAt_5 : ∀ w ∈ u_ws RX5 TX5 17, w ∈ wsX3_readyAt := by decide +kernel
theorem ly_X3_readyAt_4 : ∀ w ∈ u_ws RX4 TX4 3, w ∈ wsX3_readyAt := by decide +kernel
theorem fl_X3_readyAt_22 : Cond.fieldLink RX3 22 "RecipeScheduler$Kitchen" "order" "[I" ∈ wsX3_readyAt := by decide +kernel
theorem in_X3_readyAt_11 : Cond.initialized RX11 ∈ wsX3_readyAt := by decide +kernel
theorem sw_X3_readyAt_X11_contains : Cond.static yX11_contains ∈ wsX3_readyAt := by decide +kernel
noncomputable def X3_readyAt_b59 (g0 : Nat) (a1 : Int32) (k14 : Mem → Int32 → Int32 → Int32 → Option (Int32 × Mem)) (Y : Mem) (l4 : Int32) (l3 : Int32) (l2 : Int32) : Option (Int32 × Mem) :=
  k14 Y (l4 + 1) l3 l2
noncomputable def X3_readyAt_b14 (g0 : Nat) (a1 : Int32) : Nat → Mem → Int32 → Int32 → Int32 → Option (Int32 × Mem)
  | 0, _, _, _, _ => none
  | n+1, Y, l4, l3, l2 =>
  gd (decide ((Y 1 g0 0 0).toNatClampNeg < 2)) <| gd (decide (((Y 1 g0 0 0).toNatClampNeg) < 2)) <| if (Y 4 (2*((Y 1 g0 0 0).toNatClampNeg)+1) 0 2) ≤ l4 then (some ((-1), Y)) else (gd (inb l4 14) <| bd1 (X11_contains Y l2 (Y 1 g0 2 (ix l4))) <| fun r10 => if r10 = 0 then (X3_readyAt_b59 g0 a1 (X3_readyAt_b14 g0 a1 n) Y l4 l3 l2) else (if l3 = a1 then (some (Y 1 g0 2 (ix l4), Y)) else (X3_readyAt_b59 g0 a1 (X3_readyAt_b14 g0 a1 n) Y l4 (l3 + 1) l2)))
noncomputable def X3_readyAt (Y : Mem) (g0 : Nat) (a1 : Int32) : Option (Int32 × Mem) :=
  bd1 (X3_rank Y g0) <| fun Y3 => bd1 (X3_readySteps Y3 g0) <| fun r4 => X3_readyAt_b14 g0 a1 FU Y3 0 0 r4
section
variable {p : Program} {l : Launch} {e : Env} {s : State} {m : MethodId} {below : List Frame} {meth : Method} {c : Code} {N0 : Nat} {T : Nat → ClassId} {D : va_G} {gr : List (Nat × Nat)} {ad : Nat → Nat → Nat → Nat}
set_option maxRecDepth 100000 in
set_option maxHeartbeats 4000000 in
theorem w_X3_readyAt_b59 {g0 : Nat} {a1 : Int32} (C : Cx p s m [.ref (ad 1 g0 0), .int a1].toArray meth c cX3_readyAt 5 wsX3_readyAt RX3 N0 T D gr ad) (hrt : meth.sig.returnType = (some .int)) (hG : ∀ q ∈ ([(2, g0), (1, g0)] ++ allG), q ∈ gr) {res : Int32 × Mem} {k14 : Mem → Int32 → Int32 → Int32 → Option (Int32 × Mem)} (hk14 : ∀ (Y : Mem) (l4 : Int32) (l3 : Int32) (l2 : Int32), k14 Y l4 l3 l2 = some res → FW p l e (Rm 3) s m [.ref (ad 1 g0 0), .int a1].toArray below meth c 5 N0 T D gr ad 0 0 (MQ below (va_Qi (fun r Y1 => (r, Y1) = res) (WB T D gr ad) (fun q => N0 ≤ q)) [.ref (ad 1 g0 0), .int a1].toArray s 0 0 (fun q => N0 ≤ q)) Y 14 [(4, .int l4), (3, .int l3), (2, .int l2), (0, .ref (ad 1 g0 0)), (1, .int a1)] []) (Y : Mem) (l4 : Int32) (l3 : Int32) (l2 : Int32) (h : X3_readyAt_b59 g0 a1 k14 Y l4 l3 l2 = some res) : FW p l e (Rm 3) s m [.ref (ad 1 g0 0), .int a1].toArray below meth c 5 N0 T D gr ad 0 0 (MQ below (va_Qi (fun r Y1 => (r, Y1) = res) (WB T D gr ad) (fun q => N0 ≤ q)) [.ref (ad 1 g0 0), .int a1].toArray s 0 0 (fun q => N0 ≤ q)) Y 59 [(4, .int l4), (3, .int l3), (2, .int l2), (0, .ref (ad 1 g0 0)), (1, .int a1)] [] := by
  unfold X3_readyAt_b59 at h
  refine fw_iinc C dX3_readyAt_59 (kk := 0) (v := l4 + 1) rfl rfl (by decide) (L' := [(4, .int (l4 + 1)), (3, .int l3), (2, .int l2), (0, .ref (ad 1 g0 0)), (1, .int a1)]) rfl ?_
  refine fw_goto C dX3_readyAt_62 (tgt := 14) rfl ?_
  exact hk14 _ _ _ _ h
set_option maxRecDepth 100000 in
set_option maxHeartbeats 4000000 in
theorem w_X3_readyAt_b14 {g0 : Nat} {a1 : Int32} (C : Cx p s m [.ref (ad 1 g0 0), .int a1].toArray meth c cX3_readyAt 5 wsX3_readyAt RX3 N0 T D gr ad) (hrt : meth.sig.returnType = (some .int)) (hG : ∀ q ∈ ([(2, g0), (1, g0)] ++ allG), q ∈ gr) {res : Int32 × Mem} : ∀ (n : Nat) (Y : Mem) (l4 : Int32) (l3 : Int32) (l2 : Int32), X3_readyAt_b14 g0 a1  n Y l4 l3 l2 = some res → FW p l e (Rm 3) s m [.ref (ad 1 g0 0), .int a1].toArray below meth c 5 N0 T D gr ad 0 0 (MQ below (va_Qi (fun r Y1 => (r, Y1) = res) (WB T D gr ad) (fun q => N0 ≤ q)) [.ref (ad 1 g0 0), .int a1].toArray s 0 0 (fun q => N0 ≤ q)) Y 14 [(4, .int l4), (3, .int l3), (2, .int l2), (0, .ref (ad 1 g0 0)), (1, .int a1)] [] := by
  intro n
  induction n with
  | zero =>
    intro Y l4 l3 l2 h
    unfold X3_readyAt_b14 at h
    cases h
  | succ n ih =>
    intro Y l4 l3 l2 h
    unfold X3_readyAt_b14 at h
    refine fw_iload C dX3_readyAt_14 0 rfl ?_
    refine fw_aload_n C dX3_readyAt_16 rfl 3 rfl ?_
    refine fw_get C (ci := 1) (Cn := RX3) (Tc := TX3) (N := 5) (j := 0) ly_X3_readyAt_3 rfl (hG _ (List.mem_of_getElem? (i := 1) rfl)) (of1_0 _) (ce1 T ad _ _) (by decide) (cx_ts C _ fl_X3_readyAt_28) (fun _ h => h) (v := .ref (ad 3 ((Y 1 g0 0 0).toNatClampNeg) 0)) rfl dX3_readyAt_17 ?_
    obtain ⟨b6, h⟩ := gd_some h
    have b6 := of_decide_eq_true b6
    refine fw_getN C (ci := 3) (Cn := RX5) (Tc := TX5) (N := 17) (j := 7) ly_X3_readyAt_5 rfl ((fun q hq => hG q (List.mem_append_right _ hq)) _ (allG_3 b6)) (of3_0 _) (ce3 T ad _ _) (by decide) (Nst_use (cx_nst C) (w := .fieldLinkNest RX3 91 "RecipeScheduler$Recipe" "steps" "LRecipeScheduler$Names;" "RecipeScheduler") 148 (by decide +kernel) rfl) (fun _ h => h) (v := .ref (ad 4 (2*((Y 1 g0 0 0).toNatClampNeg)+1) 0)) rfl dX3_readyAt_20 ?_
    obtain ⟨b7, h⟩ := gd_some h
    have b7 := of_decide_eq_true b7
    refine fw_getN C (ci := 2) (Cn := RX4) (Tc := TX4) (N := 3) (j := 2) ly_X3_readyAt_4 rfl ((fun q hq => hG q (List.mem_append_right _ hq)) _ (allG_4b b7)) (of4_0 _) (ce4 T ad _ _) (by decide) (Nst_use (cx_nst C) (w := .fieldLinkNest RX3 95 "RecipeScheduler$Names" "count" "I" "RecipeScheduler") 114 (by decide +kernel) rfl) (fun _ h => h) (v := .int (Y 4 (2*((Y 1 g0 0 0).toNatClampNeg)+1) 0 2)) rfl dX3_readyAt_23 ?_
    refine fw_icmp_ge C dX3_readyAt_26 (tgt := 65) rfl (fun c8 => ?_) (fun c8 => ?_)
    · have h := ite_t c8 h
      refine fw_iconst C dX3_readyAt_65 (v := (-1)) rfl ?_
      exact fw_iret C hrt Y (Option.some.inj h) (fun t ht => ht) dX3_readyAt_66
    · have h := ite_f c8 h
      refine fw_iload_n C dX3_readyAt_29 rfl 2 rfl ?_
      refine fw_aload_n C dX3_readyAt_30 rfl 3 rfl ?_
      refine fw_get C (ci := 1) (Cn := RX3) (Tc := TX3) (N := 5) (j := 3) ly_X3_readyAt_3 rfl (hG _ (List.mem_of_getElem? (i := 1) rfl)) (of1_0 _) (ce1 T ad _ _) (by decide) (cx_ts C _ fl_X3_readyAt_22) (fun _ h => h) (v := .ref (ad 1 g0 2)) rfl dX3_readyAt_31 ?_
      refine fw_iload C dX3_readyAt_34 0 rfl ?_
      obtain ⟨b9, h⟩ := gd_some h
      refine fw_iald2 C (hG _ (List.mem_of_getElem? (i := 1) rfl)) (of1_2 _) (ca1_2 T ad _ _) b9 (Nat.le_of_ble_eq_true rfl) dX3_readyAt_36 ?_
      obtain ⟨r10, q11, h⟩ := bd1_some h
      refine fw_callSNi C (As := [.int l2, .int (Y 1 g0 2 (ix l4))]) (c_X11_contains ga0 q11) ⟨(va_cnB 2 (cx_ts C) gX3_readyAt_X11_contains_n100 rfl rfl rfl (cx_nw C (w := .methodLinkNest RX3 100 yX11_contains "RecipeScheduler") 623 (by decide +kernel) rfl) (cx_ts C _ in_X3_readyAt_11) (by decide +kernel) ⟨Nat.le_of_ble_eq_true rfl, Nat.le_of_ble_eq_true rfl⟩), cx_ts C _ sw_X3_readyAt_X11_contains, trivial⟩ rfl (st := []) rfl (Nat.le_of_ble_eq_true rfl) ⟨Nat.le_refl 0, Nat.le_refl 0⟩ dX3_readyAt_37 ?_
      rintro _ _ ⟨rfl, rfl⟩
      refine fw_if_eq C dX3_readyAt_40 (tgt := 59) rfl (fun c12 => ?_) (fun c12 => ?_)
      · have h := ite_t c12 h
        exact w_X3_readyAt_b59 C hrt hG  ih _ _ _ _ h
      · have h := ite_f c12 h
        refine fw_iload_n C dX3_readyAt_43 rfl 1 rfl ?_
        refine fw_iload_n C dX3_readyAt_44 rfl 4 rfl ?_
        refine fw_icmp_ne C dX3_readyAt_45 (tgt := 56) rfl (fun c13 => ?_) (fun c13 => ?_)
        · have h := ite_f c13 h
          refine fw_iinc C dX3_readyAt_56 (kk := 1) (v := l3 + 1) rfl rfl (by decide) (L' := [(3, .int (l3 + 1)), (4, .int l4), (2, .int l2), (0, .ref (ad 1 g0 0)), (1, .int a1)]) rfl ?_
          refine fw_sub [1, 0, 2, 3, 4] (L' := [(4, .int l4), (3, .int (l3 + 1)), (2, .int l2), (0, .ref (ad 1 g0 0)), (1, .int a1)]) rfl ?_
          exact w_X3_readyAt_b59 C hrt hG  ih _ _ _ _ h
        · have h := ite_t c13 h
          refine fw_aload_n C dX3_readyAt_48 rfl 3 rfl ?_
          refine fw_get C (ci := 1) (Cn := RX3) (Tc := TX3) (N := 5) (j := 3) ly_X3_readyAt_3 rfl (hG _ (List.mem_of_getElem? (i := 1) rfl)) (of1_0 _) (ce1 T ad _ _) (by decide) (cx_ts C _ fl_X3_readyAt_22) (fun _ h => h) (v := .ref (ad 1 g0 2)) rfl dX3_readyAt_49 ?_
          refine fw_iload C dX3_readyAt_52 0 rfl ?_
          refine fw_iald2 C (hG _ (List.mem_of_getElem? (i := 1) rfl)) (of1_2 _) (ca1_2 T ad _ _) b9 (Nat.le_of_ble_eq_true rfl) dX3_readyAt_54 ?_
          exact fw_iret C hrt Y (Option.some.inj h) (fun t ht => ht) dX3_readyAt_55
set_option maxRecDepth 100000 in
set_option maxHeartbeats 4000000 in
theorem w_X3_readyAt {Y : Mem} {g0 : Nat} {a1 : Int32} (C : Cx p s m [.ref (ad 1 g0 0), .int a1].toArray meth c cX3_readyAt 5 wsX3_readyAt RX3 N0 T D gr ad) (hrt : meth.sig.returnType = (some .int)) (hG : ∀ q ∈ ([(2, g0), (1, g0)] ++ allG), q ∈ gr) {res : Int32 × Mem} (h : X3_readyAt Y g0 a1 = some res) : FW p l e (Rm 3) s m [.ref (ad 1 g0 0), .int a1].toArray below meth c 5 N0 T D gr ad 0 0 (MQ below (va_Qi (fun r Y1 => (r, Y1) = res) (WB T D gr ad) (fun q => N0 ≤ q)) [.ref (ad 1 g0 0), .int a1].toArray s 0 0 (fun q => N0 ≤ q)) Y 0 [(0, .ref (ad 1 g0 0)), (1, .int a1)] [] := by
  unfold X3_readyAt at h
  refine fw_aload_n C dX3_readyAt_0 rfl 0 rfl ?_
  obtain ⟨Y3, q2, h⟩ := bd1_some h
  refine fw_callVv C (ci := 1) (Cn := RX3) (Tc := TX3) (N := 5) (As := []) (c_X3_rank (gac (hG _ (List.mem_of_getElem? (i := 1) rfl)) (gac (hG _ (List.mem_of_getElem? (i := 0) rfl)) (fun q hq => hG q (List.mem_append_right _ hq)))) q2) (cwV 0 (cx_ts C) gX3_readyAt_X3_rank rfl rfl rfl (by decide +kernel) ⟨Nat.le_of_ble_eq_true rfl, Nat.le_of_ble_eq_true rfl⟩) rfl (hG _ (List.mem_of_getElem? (i := 1) rfl)) (of1_0 _) (ce1 T ad _ _) rfl (st := []) rfl (Nat.le_of_ble_eq_true rfl) ⟨Nat.le_refl 0, Nat.le_refl 0⟩ dX3_readyAt_1 ?_
  rintro _ rfl
  refine fw_aload_n C dX3_readyAt_4 rfl 0 rfl ?_
  obtain ⟨r4, q5, h⟩ := bd1_some h
  refine fw_callVi C (ci := 1) (Cn := RX3) (Tc := TX3) (N := 5) (As := []) (c_X3_readySteps (gac (hG _ (List.mem_of_getElem? (i := 1) rfl)) (gac (hG _ (List.mem_of_getElem? (i := 0) rfl)) (fun q hq => hG q (List.mem_append_right _ hq)))) q5) (cwV 0 (cx_ts C) gX3_readyAt_X3_readySteps rfl rfl rfl (by decide +kernel) ⟨Nat.le_of_ble_eq_true rfl, Nat.le_of_ble_eq_true rfl⟩) rfl (hG _ (List.mem_of_getElem? (i := 1) rfl)) (of1_0 _) (ce1 T ad _ _) rfl (st := []) rfl (Nat.le_of_ble_eq_true rfl) ⟨Nat.le_refl 0, Nat.le_refl 0⟩ dX3_readyAt_5 ?_
  rintro _ _ ⟨rfl, rfl⟩
  refine fw_istore_n C dX3_readyAt_8 rfl (by decide) (L' := [(2, .int r4), (0, .ref (ad 1 g0 0)), (1, .int a1)]) rfl ?_
  refine fw_iconst C dX3_readyAt_9 (v := 0) rfl ?_
  refine fw_istore_n C dX3_readyAt_10 rfl (by decide) (L' := [(3, .int 0), (2, .int r4), (0, .ref (ad 1 g0 0)), (1, .int a1)]) rfl ?_
  refine fw_iconst C dX3_readyAt_11 (v := 0) rfl ?_
  refine fw_istore C dX3_readyAt_12 (by decide) (L' := [(4, .int 0), (3, .int 0), (2, .int r4), (0, .ref (ad 1 g0 0)), (1, .int a1)]) rfl ?_
  exact w_X3_readyAt_b14 C hrt hG   _ _ _ _ _ h
end
set_option maxRecDepth 100000 in
set_option maxHeartbeats 4000000 in
theorem c_X3_readyAt {l : Launch} {N0 : Nat} {T : Nat → ClassId} {D : va_G} {gr : List (Nat × Nat)} {ad : Nat → Nat → Nat → Nat} {Y : Mem} {g0 : Nat} {a1 : Int32} {res : Int32 × Mem} (hG : ∀ q ∈ ([(2, g0), (1, g0)] ++ allG), q ∈ gr) (h : X3_readyAt Y g0 a1 = some res) : CI l yX3_readyAt wsX3_readyAt (Rm 3) N0 T D gr ad Y [.ref (ad 1 g0 0), .int a1] (fun r Y1 => (r, Y1) = res) :=
  fw_body (by decide +kernel) rfl (Nat.le_of_ble_eq_true rfl) (fun p e s m below meth c C hrt => w_X3_readyAt C hrt hG  h)
theorem ly_X11_readyStep_11 : ∀ w ∈ u_ws RX11 TX11 11, w ∈ wsX11_readyStep := by decide +kernel
theorem fl_X11_readyStep_67 : Cond.fieldLink RX11 67 "RecipeScheduler" "now" "LRecipeScheduler$Kitchen;" ∈ wsX11_readyStep := by decide +kernel
noncomputable def X11_readyStep (Y : Mem) (a1 : Int32) : Option (Int32 × Mem) :=
  bd2 (X3_readyAt Y 0 a1) <| fun r1 Y3 => some (r1, Y3)
section
variable {p : Program} {l : Launch} {e : Env} {s : State} {m : MethodId} {below : List Frame} {meth : Method} {c : Code} {N0 : Nat} {T : Nat → ClassId} {D : va_G} {gr : List (Nat × Nat)} {ad : Nat → Nat → Nat → Nat}
set_option maxRecDepth 100000 in
set_option maxHeartbeats 4000000 in
theorem w_X11_readyStep {Y : Mem} {a1 : Int32} (C : Cx p s m [.ref (ad 0 0 0), .int a1].toArray meth c cX11_readyStep 2 wsX11_readyStep RX11 N0 T D gr ad) (hrt : meth.sig.returnType = (some .int)) (hG : ∀ q ∈ ([(0, 0), (1, 0), (2, 0)] ++ allG), q ∈ gr) {res : Int32 × Mem} (h : X11_readyStep Y a1 = some res) : FW p l e (Rm 4) s m [.ref (ad 0 0 0), .int a1].toArray below meth c 2 N0 T D gr ad 0 0 (MQ below (va_Qi (fun r Y1 => (r, Y1) = res) (WB T D gr ad) (fun q => N0 ≤ q)) [.ref (ad 0 0 0), .int a1].toArray s 0 0 (fun q => N0 ≤ q)) Y 0 [(0, .ref (ad 0 0 0)), (1, .int a1)] [] := by
  unfold X11_readyStep at h
  refine fw_aload_n C dX11_readyStep_0 rfl 0 rfl ?_
  refine fw_get C (ci := 9) (Cn := RX11) (Tc := TX11) (N := 11) (j := 5) ly_X11_readyStep_11 rfl (hG _ (List.mem_of_getElem? (i := 0) rfl)) (of0_0 _) (ce0 T ad _ _) (by decide) (cx_ts C _ fl_X11_readyStep_67) (fun _ h => h) (v := .ref (ad 1 0 0)) rfl dX11_readyStep_1 ?_
  refine fw_iload_n C dX11_readyStep_4 rfl 1 rfl ?_
  obtain ⟨r1, Y3, q2, h⟩ := bd2_some h
  refine fw_callVi C (ci := 1) (Cn := RX3) (Tc := TX3) (N := 5) (As := [.int a1]) (c_X3_readyAt (gac (hG _ (List.mem_of_getElem? (i := 2) rfl)) (gac (hG _ (List.mem_of_getElem? (i := 1) rfl)) (fun q hq => hG q (List.mem_append_right _ hq)))) q2) (cwV 1 (cx_ts C) gX11_readyStep_X3_readyAt rfl rfl rfl (by decide +kernel) ⟨Nat.le_of_ble_eq_true rfl, Nat.le_of_ble_eq_true rfl⟩) rfl (hG _ (List.mem_of_getElem? (i := 1) rfl)) (of1_0 _) (ce1 T ad _ _) rfl (st := []) rfl (Nat.le_of_ble_eq_true rfl) ⟨Nat.le_refl 0, Nat.le_refl 0⟩ dX11_readyStep_5 ?_
  intro r_ Y_ e_
  obtain ⟨rfl, rfl⟩ := Prod.mk.inj e_
  exact fw_iret C hrt Y3 (Option.some.inj h) (fun t ht => ht) dX11_readyStep_8
end
set_option maxRecDepth 100000 in
set_option maxHeartbeats 4000000 in
theorem c_X11_readyStep {l : Launch} {N0 : Nat} {T : Nat → ClassId} {D : va_G} {gr : List (Nat × Nat)} {ad : Nat → Nat → Nat → Nat} {Y : Mem} {a1 : Int32} {res : Int32 × Mem} (hG : ∀ q ∈ ([(0, 0), (1, 0), (2, 0)] ++ allG), q ∈ gr) (h : X11_readyStep Y a1 = some res) : CI l yX11_readyStep wsX11_readyStep (Rm 4) N0 T D gr ad Y [.ref (ad 0 0 0), .int a1] (fun r Y1 => (r, Y1) = res) :=
  fw_body (by decide +kernel) rfl (Nat.le_of_ble_eq_true rfl) (fun p e s m below meth c C hrt => w_X11_readyStep C hrt hG  h)
theorem ly_X11_redo_11 : ∀ w ∈ u_ws RX11 TX11 11, w ∈ wsX11_redo := by decide +kernel
theorem fl_X11_redo_67 : Cond.fieldLink RX11 67 "RecipeScheduler" "now" "LRecipeScheduler$Kitchen;" ∈ wsX11_redo := by decide +kernel
theorem fl_X11_redo_77 : Cond.fieldLink RX11 77 "RecipeScheduler" "history" "LRecipeScheduler$History;" ∈ wsX11_redo := by decide +kernel
theorem ly_X11_redo_3 : ∀ w ∈ u_ws RX3 TX3 5, w ∈ wsX11_redo := by decide +kernel
theorem th_X11_redo_16 : Cond.classLink RX11 96 "java/lang/IllegalStateException" ∈ wsX11_redo ∧ Cond.initialized "java/lang/IllegalStateException" ∈ wsX11_redo ∧ ∀ w ∈ vx_atS RX11 100 "java/lang/IllegalStateException" ["java/lang/RuntimeException", "java/lang/Exception"], w ∈ wsX11_redo := by decide +kernel
noncomputable def X11_redo (Y : Mem) (a1 : Int32) : Option ((Nat × Mem) ⊕ (Int32 × Mem)) :=
  bdxv (X11_requireStep Y a1) <| fun Y4 => bd1 (X3_isRedoable Y4 0 a1) <| fun r7 => if r7 = 0 then (some (.inl (1, Y4))) else (bd1 (X2_push Y4 0) <| fun Y12 => bd2 (X8_discard Y12 0 a1) <| fun r13 Y15 => some (.inr (r13, Y15)))
section
variable {p : Program} {l : Launch} {e : Env} {s : State} {m : MethodId} {below : List Frame} {meth : Method} {c : Code} {N0 : Nat} {T : Nat → ClassId} {D : va_G} {gr : List (Nat × Nat)} {ad : Nat → Nat → Nat → Nat}
set_option maxRecDepth 100000 in
set_option maxHeartbeats 4000000 in
theorem w_X11_redo {Y : Mem} {a1 : Int32} (C : Cx p s m [.ref (ad 0 0 0), .int a1].toArray meth c cX11_redo 2 wsX11_redo RX11 N0 T D gr ad) (hrt : meth.sig.returnType = (some .int)) (hG : ∀ q ∈ ([(1, 0), (0, 0), (2, 0), (9, 0)] ++ allG), q ∈ gr) (hl : l.stackTraces = false) (hX : ∀ x ∈ c.exceptionTable.toList, False) {res : (Nat × Mem) ⊕ (Int32 × Mem)} (h : X11_redo Y a1 = some res) : FW p l e (Rx 7 2) s m [.ref (ad 0 0 0), .int a1].toArray below meth c 2 N0 T D gr ad 0 0 (vx_MQ below (va_Qi (fun r Y1 => Sum.inr (r, Y1) = res) (WB T D gr ad) (fun q => N0 ≤ q)) (vx_X (fun u => Sum.inl u = res) (XB T D gr ad) (fun q => N0 ≤ q)) [.ref (ad 0 0 0), .int a1].toArray s 2 12 (fun q => N0 ≤ q)) Y 0 [(0, .ref (ad 0 0 0)), (1, .int a1)] [] := by
  unfold X11_redo at h
  refine fw_aload_n C dX11_redo_0 rfl 0 rfl ?_
  refine fw_iload_n C dX11_redo_1 rfl 1 rfl ?_
  rcases bdxv_some h with ⟨x5, q2, e6⟩ | ⟨Y4, q2, h⟩
  · exact fw_callXVv_l C (ci := 9) (Cn := RX11) (Tc := TX11) (N := 11) (As := [.int a1]) (c_X11_requireStep hl (gac (hG _ (List.mem_of_getElem? (i := 1) rfl)) (gac (hG _ (List.mem_of_getElem? (i := 0) rfl)) (fun q hq => hG q (List.mem_append_right _ hq)))) q2) (cwV 1 (cx_ts C) gX11_redo_X11_requireStep rfl rfl rfl (by decide +kernel) ⟨Nat.le_of_ble_eq_true rfl, Nat.le_of_ble_eq_true rfl⟩) rfl (hG _ (List.mem_of_getElem? (i := 1) rfl)) (of0_0 _) (ce0 T ad _ _) rfl (st := []) rfl (Nat.le_of_ble_eq_true rfl) ⟨Nat.le_of_ble_eq_true rfl, Nat.le_of_ble_eq_true rfl⟩ dX11_redo_2 hX e6 (Nat.le_of_ble_eq_true rfl) (Nat.le_of_ble_eq_true rfl)
  refine fw_callXVv_r C (ci := 9) (Cn := RX11) (Tc := TX11) (N := 11) (As := [.int a1]) (c_X11_requireStep hl (gac (hG _ (List.mem_of_getElem? (i := 1) rfl)) (gac (hG _ (List.mem_of_getElem? (i := 0) rfl)) (fun q hq => hG q (List.mem_append_right _ hq)))) q2) (cwV 1 (cx_ts C) gX11_redo_X11_requireStep rfl rfl rfl (by decide +kernel) ⟨Nat.le_of_ble_eq_true rfl, Nat.le_of_ble_eq_true rfl⟩) rfl (hG _ (List.mem_of_getElem? (i := 1) rfl)) (of0_0 _) (ce0 T ad _ _) rfl (st := []) rfl (Nat.le_of_ble_eq_true rfl) ⟨Nat.le_of_ble_eq_true rfl, Nat.le_of_ble_eq_true rfl⟩ dX11_redo_2 ?_
  refine fw_aload_n C dX11_redo_5 rfl 0 rfl ?_
  refine fw_get C (ci := 9) (Cn := RX11) (Tc := TX11) (N := 11) (j := 5) ly_X11_redo_11 rfl (hG _ (List.mem_of_getElem? (i := 1) rfl)) (of0_0 _) (ce0 T ad _ _) (by decide) (cx_ts C _ fl_X11_redo_67) (fun _ h => h) (v := .ref (ad 1 0 0)) rfl dX11_redo_6 ?_
  refine fw_iload_n C dX11_redo_9 rfl 1 rfl ?_
  obtain ⟨r7, q8, h⟩ := bd1_some h
  refine fw_callVi C (ci := 1) (Cn := RX3) (Tc := TX3) (N := 5) (As := [.int a1]) (c_X3_isRedoable (gac (hG _ (List.mem_of_getElem? (i := 0) rfl)) (gac (hG _ (List.mem_of_getElem? (i := 2) rfl)) (fun q hq => hG q (List.mem_append_right _ hq)))) q8) (cwV 1 (cx_ts C) gX11_redo_X3_isRedoable rfl rfl rfl (by decide +kernel) ⟨Nat.le_of_ble_eq_true rfl, Nat.le_of_ble_eq_true rfl⟩) rfl (hG _ (List.mem_of_getElem? (i := 0) rfl)) (of1_0 _) (ce1 T ad _ _) rfl (st := []) rfl (Nat.le_of_ble_eq_true rfl) ⟨Nat.le_refl 0, Nat.le_refl 0⟩ dX11_redo_10 ?_
  rintro _ _ ⟨rfl, rfl⟩
  refine fw_if_ne C dX11_redo_13 (tgt := 27) rfl (fun c9 => ?_) (fun c9 => ?_)
  · have h := ite_f c9 h
    refine fw_aload_n C dX11_redo_27 rfl 0 rfl ?_
    refine fw_get C (ci := 9) (Cn := RX11) (Tc := TX11) (N := 11) (j := 7) ly_X11_redo_11 rfl (hG _ (List.mem_of_getElem? (i := 1) rfl)) (of0_0 _) (ce0 T ad _ _) (by decide) (cx_ts C _ fl_X11_redo_77) (fun _ h => h) (v := .ref (ad 9 0 0)) rfl dX11_redo_28 ?_
    refine fw_aload_n C dX11_redo_31 rfl 0 rfl ?_
    refine fw_get C (ci := 9) (Cn := RX11) (Tc := TX11) (N := 11) (j := 5) ly_X11_redo_11 rfl (hG _ (List.mem_of_getElem? (i := 1) rfl)) (of0_0 _) (ce0 T ad _ _) (by decide) (cx_ts C _ fl_X11_redo_67) (fun _ h => h) (v := .ref (ad 1 0 0)) rfl dX11_redo_32 ?_
    refine fw_getN C (ci := 1) (Cn := RX3) (Tc := TX3) (N := 5) (j := 1) ly_X11_redo_3 rfl (hG _ (List.mem_of_getElem? (i := 0) rfl)) (of1_0 _) (ce1 T ad _ _) (by decide) (Nst_use (cx_nst C) (w := .fieldLinkNest RX11 139 "RecipeScheduler$Kitchen" "state" "LRecipeScheduler$State;" "RecipeScheduler") 518 (by decide +kernel) rfl) (fun _ h => h) (v := .ref (ad 2 0 0)) rfl dX11_redo_35 ?_
    obtain ⟨Y12, q11, h⟩ := bd1_some h
    refine fw_callVv C (ci := 0) (Cn := RX2) (Tc := TX2) (N := 3) (As := [.ref (ad 2 0 0)]) (c_X2_push (gac (hG _ (List.mem_of_getElem? (i := 3) rfl)) (gac (hG _ (List.mem_of_getElem? (i := 2) rfl)) (fun q hq => hG q (List.mem_append_right _ hq)))) q11) (cwV 1 (cx_ts C) gX11_redo_X2_push rfl rfl rfl (by decide +kernel) ⟨Nat.le_of_ble_eq_true rfl, Nat.le_of_ble_eq_true rfl⟩) rfl (hG _ (List.mem_of_getElem? (i := 3) rfl)) (of9_0 _) (ce9 T ad _ _) rfl (st := []) rfl (Nat.le_of_ble_eq_true rfl) ⟨Nat.le_refl 0, Nat.le_refl 0⟩ dX11_redo_38 ?_
    rintro _ rfl
    refine fw_aload_n C dX11_redo_41 rfl 0 rfl ?_
    refine fw_get C (ci := 9) (Cn := RX11) (Tc := TX11) (N := 11) (j := 5) ly_X11_redo_11 rfl (hG _ (List.mem_of_getElem? (i := 1) rfl)) (of0_0 _) (ce0 T ad _ _) (by decide) (cx_ts C _ fl_X11_redo_67) (fun _ h => h) (v := .ref (ad 1 0 0)) rfl dX11_redo_42 ?_
    refine fw_getN C (ci := 1) (Cn := RX3) (Tc := TX3) (N := 5) (j := 1) ly_X11_redo_3 rfl (hG _ (List.mem_of_getElem? (i := 0) rfl)) (of1_0 _) (ce1 T ad _ _) (by decide) (Nst_use (cx_nst C) (w := .fieldLinkNest RX11 139 "RecipeScheduler$Kitchen" "state" "LRecipeScheduler$State;" "RecipeScheduler") 518 (by decide +kernel) rfl) (fun _ h => h) (v := .ref (ad 2 0 0)) rfl dX11_redo_45 ?_
    refine fw_iload_n C dX11_redo_48 rfl 1 rfl ?_
    obtain ⟨r13, Y15, q14, h⟩ := bd2_some h
    refine fw_callVi C (ci := 6) (Cn := RX8) (Tc := TX8) (N := 15) (As := [.int a1]) (c_X8_discard (gac (hG _ (List.mem_of_getElem? (i := 2) rfl)) ga0) q14) (cwV 1 (cx_ts C) gX11_redo_X8_discard rfl rfl rfl (by decide +kernel) ⟨Nat.le_of_ble_eq_true rfl, Nat.le_of_ble_eq_true rfl⟩) rfl (hG _ (List.mem_of_getElem? (i := 2) rfl)) (of2_0 _) (ce2 T ad _ _) rfl (st := []) rfl (Nat.le_of_ble_eq_true rfl) ⟨Nat.le_refl 0, Nat.le_refl 0⟩ dX11_redo_49 ?_
    intro r_ Y_ e_
    obtain ⟨rfl, rfl⟩ := Prod.mk.inj e_
    refine fw_xr (Nat.le_of_ble_eq_true rfl) (Nat.le_of_ble_eq_true rfl) ?_
    exact fw_iret C hrt Y15 (Option.some.inj h) (fun t ht => ht) dX11_redo_52
  · have h := ite_t c9 h
    exact fw_throwSW C hl hX (cls := "java/lang/IllegalStateException") (names := ["java/lang/RuntimeException", "java/lang/Exception"]) 1 rfl (by decide +kernel) (by decide +kernel) (cx_ts C _ th_X11_redo_16.1) (cx_ts C _ th_X11_redo_16.2.1) ((cx_st C).2.1 _ (List.mem_of_getElem? (i := 23) rfl)) (fun w hw => cx_ts C _ (th_X11_redo_16.2.2 w hw)) tg_1_100_96 dX11_redo_16 dX11_redo_19 dX11_redo_20 dX11_redo_23 dX11_redo_26 (Nat.le_of_ble_eq_true rfl) (Nat.le_of_ble_eq_true rfl) (Nat.le_of_ble_eq_true rfl) (Nat.le_of_ble_eq_true rfl) (Nat.le_of_ble_eq_true rfl) (Nat.le_of_ble_eq_true rfl) (Option.some.inj h)
end
set_option maxRecDepth 100000 in
set_option maxHeartbeats 4000000 in
theorem c_X11_redo {l : Launch} {N0 : Nat} {T : Nat → ClassId} {D : va_G} {gr : List (Nat × Nat)} {ad : Nat → Nat → Nat → Nat} {Y : Mem} {a1 : Int32} {res : (Nat × Mem) ⊕ (Int32 × Mem)} (hl : l.stackTraces = false) (hG : ∀ q ∈ ([(1, 0), (0, 0), (2, 0), (9, 0)] ++ allG), q ∈ gr) (h : X11_redo Y a1 = some res) : CXi l yX11_redo wsX11_redo (Rx 7 2) N0 T D gr ad Y [.ref (ad 0 0 0), .int a1] 2 res :=
  fw_xbody (by decide +kernel) rfl (Nat.le_of_ble_eq_true rfl) (fun p e s m below meth c C hrt hX => w_X11_redo C hrt hG hl hX h)
theorem ly_X11_remaining_11 : ∀ w ∈ u_ws RX11 TX11 11, w ∈ wsX11_remaining := by decide +kernel
theorem fl_X11_remaining_67 : Cond.fieldLink RX11 67 "RecipeScheduler" "now" "LRecipeScheduler$Kitchen;" ∈ wsX11_remaining := by decide +kernel
theorem ly_X11_remaining_3 : ∀ w ∈ u_ws RX3 TX3 5, w ∈ wsX11_remaining := by decide +kernel
theorem ly_X11_remaining_8 : ∀ w ∈ u_ws RX8 TX8 15, w ∈ wsX11_remaining := by decide +kernel
noncomputable def X11_remaining (Y : Mem) (a1 : Int32) : Option ((Nat × Mem) ⊕ (Int32 × Mem)) :=
  bdxv (X11_requireStep Y a1) <| fun Y4 => gd (inb a1 14) <| some (.inr (Y4 2 0 2 (ix a1), Y4))
section
variable {p : Program} {l : Launch} {e : Env} {s : State} {m : MethodId} {below : List Frame} {meth : Method} {c : Code} {N0 : Nat} {T : Nat → ClassId} {D : va_G} {gr : List (Nat × Nat)} {ad : Nat → Nat → Nat → Nat}
set_option maxRecDepth 100000 in
set_option maxHeartbeats 4000000 in
theorem w_X11_remaining {Y : Mem} {a1 : Int32} (C : Cx p s m [.ref (ad 0 0 0), .int a1].toArray meth c cX11_remaining 2 wsX11_remaining RX11 N0 T D gr ad) (hrt : meth.sig.returnType = (some .int)) (hG : ∀ q ∈ ([(1, 0), (0, 0), (2, 0)] ++ allG), q ∈ gr) (hl : l.stackTraces = false) (hX : ∀ x ∈ c.exceptionTable.toList, False) {res : (Nat × Mem) ⊕ (Int32 × Mem)} (h : X11_remaining Y a1 = some res) : FW p l e (Rx 7 1) s m [.ref (ad 0 0 0), .int a1].toArray below meth c 2 N0 T D gr ad 0 0 (vx_MQ below (va_Qi (fun r Y1 => Sum.inr (r, Y1) = res) (WB T D gr ad) (fun q => N0 ≤ q)) (vx_X (fun u => Sum.inl u = res) (XB T D gr ad) (fun q => N0 ≤ q)) [.ref (ad 0 0 0), .int a1].toArray s 1 6 (fun q => N0 ≤ q)) Y 0 [(0, .ref (ad 0 0 0)), (1, .int a1)] [] := by
  unfold X11_remaining at h
  refine fw_aload_n C dX11_remaining_0 rfl 0 rfl ?_
  refine fw_iload_n C dX11_remaining_1 rfl 1 rfl ?_
  rcases bdxv_some h with ⟨x5, q2, e6⟩ | ⟨Y4, q2, h⟩
  · exact fw_callXVv_l C (ci := 9) (Cn := RX11) (Tc := TX11) (N := 11) (As := [.int a1]) (c_X11_requireStep hl (gac (hG _ (List.mem_of_getElem? (i := 1) rfl)) (gac (hG _ (List.mem_of_getElem? (i := 0) rfl)) (fun q hq => hG q (List.mem_append_right _ hq)))) q2) (cwV 1 (cx_ts C) gX11_remaining_X11_requireStep rfl rfl rfl (by decide +kernel) ⟨Nat.le_of_ble_eq_true rfl, Nat.le_of_ble_eq_true rfl⟩) rfl (hG _ (List.mem_of_getElem? (i := 1) rfl)) (of0_0 _) (ce0 T ad _ _) rfl (st := []) rfl (Nat.le_of_ble_eq_true rfl) ⟨Nat.le_of_ble_eq_true rfl, Nat.le_of_ble_eq_true rfl⟩ dX11_remaining_2 hX e6 (Nat.le_of_ble_eq_true rfl) (Nat.le_of_ble_eq_true rfl)
  refine fw_callXVv_r C (ci := 9) (Cn := RX11) (Tc := TX11) (N := 11) (As := [.int a1]) (c_X11_requireStep hl (gac (hG _ (List.mem_of_getElem? (i := 1) rfl)) (gac (hG _ (List.mem_of_getElem? (i := 0) rfl)) (fun q hq => hG q (List.mem_append_right _ hq)))) q2) (cwV 1 (cx_ts C) gX11_remaining_X11_requireStep rfl rfl rfl (by decide +kernel) ⟨Nat.le_of_ble_eq_true rfl, Nat.le_of_ble_eq_true rfl⟩) rfl (hG _ (List.mem_of_getElem? (i := 1) rfl)) (of0_0 _) (ce0 T ad _ _) rfl (st := []) rfl (Nat.le_of_ble_eq_true rfl) ⟨Nat.le_of_ble_eq_true rfl, Nat.le_of_ble_eq_true rfl⟩ dX11_remaining_2 ?_
  refine fw_aload_n C dX11_remaining_5 rfl 0 rfl ?_
  refine fw_get C (ci := 9) (Cn := RX11) (Tc := TX11) (N := 11) (j := 5) ly_X11_remaining_11 rfl (hG _ (List.mem_of_getElem? (i := 1) rfl)) (of0_0 _) (ce0 T ad _ _) (by decide) (cx_ts C _ fl_X11_remaining_67) (fun _ h => h) (v := .ref (ad 1 0 0)) rfl dX11_remaining_6 ?_
  refine fw_getN C (ci := 1) (Cn := RX3) (Tc := TX3) (N := 5) (j := 1) ly_X11_remaining_3 rfl (hG _ (List.mem_of_getElem? (i := 0) rfl)) (of1_0 _) (ce1 T ad _ _) (by decide) (Nst_use (cx_nst C) (w := .fieldLinkNest RX11 139 "RecipeScheduler$Kitchen" "state" "LRecipeScheduler$State;" "RecipeScheduler") 518 (by decide +kernel) rfl) (fun _ h => h) (v := .ref (ad 2 0 0)) rfl dX11_remaining_9 ?_
  refine fw_getN C (ci := 6) (Cn := RX8) (Tc := TX8) (N := 15) (j := 10) ly_X11_remaining_8 rfl (hG _ (List.mem_of_getElem? (i := 2) rfl)) (of2_0 _) (ce2 T ad _ _) (by decide) (Nst_use (cx_nst C) (w := .fieldLinkNest RX11 255 "RecipeScheduler$State" "remaining" "[I" "RecipeScheduler") 464 (by decide +kernel) rfl) (fun _ h => h) (v := .ref (ad 2 0 2)) rfl dX11_remaining_12 ?_
  refine fw_iload_n C dX11_remaining_15 rfl 1 rfl ?_
  obtain ⟨b7, h⟩ := gd_some h
  refine fw_iald2 C (hG _ (List.mem_of_getElem? (i := 2) rfl)) (of2_2 _) (ca2_2 T ad _ _) b7 (Nat.le_of_ble_eq_true rfl) dX11_remaining_16 ?_
  refine fw_xr (Nat.le_of_ble_eq_true rfl) (Nat.le_of_ble_eq_true rfl) ?_
  exact fw_iret C hrt Y4 (Option.some.inj h) (fun t ht => ht) dX11_remaining_17
end
set_option maxRecDepth 100000 in
set_option maxHeartbeats 4000000 in
theorem c_X11_remaining {l : Launch} {N0 : Nat} {T : Nat → ClassId} {D : va_G} {gr : List (Nat × Nat)} {ad : Nat → Nat → Nat → Nat} {Y : Mem} {a1 : Int32} {res : (Nat × Mem) ⊕ (Int32 × Mem)} (hl : l.stackTraces = false) (hG : ∀ q ∈ ([(1, 0), (0, 0), (2, 0)] ++ allG), q ∈ gr) (h : X11_remaining Y a1 = some res) : CXi l yX11_remaining wsX11_remaining (Rx 7 1) N0 T D gr ad Y [.ref (ad 0 0 0), .int a1] 1 res :=
  fw_xbody (by decide +kernel) rfl (Nat.le_of_ble_eq_true rfl) (fun p e s m below meth c C hrt hX => w_X11_remaining C hrt hG hl hX h)
theorem th_X11_requireSlot_9 : Cond.classLink RX11 237 "java/lang/IndexOutOfBoundsException" ∈ wsX11_requireSlot ∧ Cond.initialized "java/lang/IndexOutOfBoundsException" ∈ wsX11_requireSlot ∧ ∀ w ∈ vx_atS RX11 241 "java/lang/IndexOutOfBoundsException" ["java/lang/RuntimeException", "java/lang/Exception"], w ∈ wsX11_requireSlot := by decide +kernel
noncomputable def X11_requireSlot (Y : Mem) (a1 : Int32) : Option ((Nat × Mem) ⊕ Mem) :=
  bd1 (X11_isWithin Y a1 0 1) <| fun r1 => if r1 = 0 then (some (.inl (3, Y))) else (some (.inr Y))
section
variable {p : Program} {l : Launch} {e : Env} {s : State} {m : MethodId} {below : List Frame} {meth : Method} {c : Code} {N0 : Nat} {T : Nat → ClassId} {D : va_G} {gr : List (Nat × Nat)} {ad : Nat → Nat → Nat → Nat}
set_option maxRecDepth 100000 in
set_option maxHeartbeats 4000000 in
theorem w_X11_requireSlot {Y : Mem} {a1 : Int32} (C : Cx p s m [.ref (ad 0 0 0), .int a1].toArray meth c cX11_requireSlot 2 wsX11_requireSlot RX11 N0 T D gr ad) (hrt : meth.sig.returnType = none) (hG : ∀ q ∈ [], q ∈ gr) (hl : l.stackTraces = false) (hX : ∀ x ∈ c.exceptionTable.toList, False) {res : (Nat × Mem) ⊕ Mem} (h : X11_requireSlot Y a1 = some res) : FW p l e (Rx 6 1) s m [.ref (ad 0 0 0), .int a1].toArray below meth c 2 N0 T D gr ad 0 0 (vx_MQ below (va_Qv (fun Y1 => Sum.inr Y1 = res) (WB T D gr ad) (fun q => N0 ≤ q)) (vx_X (fun u => Sum.inl u = res) (XB T D gr ad) (fun q => N0 ≤ q)) [.ref (ad 0 0 0), .int a1].toArray s 1 6 (fun q => N0 ≤ q)) Y 0 [(0, .ref (ad 0 0 0)), (1, .int a1)] [] := by
  unfold X11_requireSlot at h
  refine fw_iload_n C dX11_requireSlot_0 rfl 1 rfl ?_
  refine fw_iconst C dX11_requireSlot_1 (v := 0) rfl ?_
  refine fw_iconst C dX11_requireSlot_2 (v := 1) rfl ?_
  obtain ⟨r1, q2, h⟩ := bd1_some h
  refine fw_callSi C (As := [.int a1, .int 0, .int 1]) (c_X11_isWithin ga0 q2) (va_cwS 3 (cx_ts C) gX11_requireSlot_X11_isWithin rfl rfl rfl (by decide +kernel) ⟨Nat.le_of_ble_eq_true rfl, Nat.le_of_ble_eq_true rfl⟩) rfl (st := []) rfl (Nat.le_of_ble_eq_true rfl) ⟨Nat.le_refl 0, Nat.le_refl 0⟩ dX11_requireSlot_3 ?_
  rintro _ _ ⟨rfl, rfl⟩
  refine fw_if_ne C dX11_requireSlot_6 (tgt := 20) rfl (fun c3 => ?_) (fun c3 => ?_)
  · have h := ite_f c3 h
    refine fw_xr (Nat.le_of_ble_eq_true rfl) (Nat.le_of_ble_eq_true rfl) ?_
    exact fw_vret C hrt Y (Option.some.inj h) (fun t ht => ht) dX11_requireSlot_20
  · have h := ite_t c3 h
    exact fw_throwSW C hl hX (cls := "java/lang/IndexOutOfBoundsException") (names := ["java/lang/RuntimeException", "java/lang/Exception"]) 3 rfl (by decide +kernel) (by decide +kernel) (cx_ts C _ th_X11_requireSlot_9.1) (cx_ts C _ th_X11_requireSlot_9.2.1) ((cx_st C).2.1 _ (List.mem_of_getElem? (i := 27) rfl)) (fun w hw => cx_ts C _ (th_X11_requireSlot_9.2.2 w hw)) tg_3_241_237 dX11_requireSlot_9 dX11_requireSlot_12 dX11_requireSlot_13 dX11_requireSlot_16 dX11_requireSlot_19 (Nat.le_of_ble_eq_true rfl) (Nat.le_of_ble_eq_true rfl) (Nat.le_of_ble_eq_true rfl) (Nat.le_of_ble_eq_true rfl) (Nat.le_of_ble_eq_true rfl) (Nat.le_of_ble_eq_true rfl) (Option.some.inj h)
end
set_option maxRecDepth 100000 in
set_option maxHeartbeats 4000000 in
theorem c_X11_requireSlot {l : Launch} {N0 : Nat} {T : Nat → ClassId} {D : va_G} {gr : List (Nat × Nat)} {ad : Nat → Nat → Nat → Nat} {Y : Mem} {a1 : Int32} {res : (Nat × Mem) ⊕ Mem} (hl : l.stackTraces = false) (hG : ∀ q ∈ [], q ∈ gr) (h : X11_requireSlot Y a1 = some res) : CXv l yX11_requireSlot wsX11_requireSlot (Rx 6 1) N0 T D gr ad Y [.ref (ad 0 0 0), .int a1] 1 res :=
  fw_xbody (by decide +kernel) rfl (Nat.le_of_ble_eq_true rfl) (fun p e s m below meth c C hrt hX => w_X11_requireSlot C hrt hG hl hX h)
theorem ly_X11_restore_11 : ∀ w ∈ u_ws RX11 TX11 11, w ∈ wsX11_restore := by decide +kernel
theorem fl_X11_restore_88 : Cond.fieldLink RX11 88 "RecipeScheduler" "isSaved" "[Z" ∈ wsX11_restore := by decide +kernel
theorem fl_X11_restore_67 : Cond.fieldLink RX11 67 "RecipeScheduler" "now" "LRecipeScheduler$Kitchen;" ∈ wsX11_restore := by decide +kernel
theorem ly_X11_restore_3 : ∀ w ∈ u_ws RX3 TX3 5, w ∈ wsX11_restore := by decide +kernel
theorem fl_X11_restore_83 : Cond.fieldLink RX11 83 "RecipeScheduler" "saved" "[LRecipeScheduler$State;" ∈ wsX11_restore := by decide +kernel
theorem fl_X11_restore_77 : Cond.fieldLink RX11 77 "RecipeScheduler" "history" "LRecipeScheduler$History;" ∈ wsX11_restore := by decide +kernel
theorem ly_X11_restore_2 : ∀ w ∈ u_ws RX2 TX2 3, w ∈ wsX11_restore := by decide +kernel
theorem ly_X11_restore_8 : ∀ w ∈ u_ws RX8 TX8 15, w ∈ wsX11_restore := by decide +kernel
theorem th_X11_restore_14 : Cond.classLink RX11 96 "java/lang/IllegalStateException" ∈ wsX11_restore ∧ Cond.initialized "java/lang/IllegalStateException" ∈ wsX11_restore ∧ ∀ w ∈ vx_atS RX11 100 "java/lang/IllegalStateException" ["java/lang/RuntimeException", "java/lang/Exception"], w ∈ wsX11_restore := by decide +kernel
noncomputable def X11_restore (Y : Mem) (a1 : Int32) : Option ((Nat × Mem) ⊕ (Int32 × Mem)) :=
  bdxv (X11_requireSlot Y a1) <| fun Y4 => gd (inb a1 2) <| if (Y4 0 0 2 (ix a1)) = 0 then (some (.inl (1, Y4))) else (bd1 (X8_copyFrom Y4 0 (8+ix (a1))) <| fun Y11 => lt_ (up Y11 9 0 0 2 0) <| fun Y12 => some (.inr (Y12 2 0 0 1, Y12)))
section
variable {p : Program} {l : Launch} {e : Env} {s : State} {m : MethodId} {below : List Frame} {meth : Method} {c : Code} {N0 : Nat} {T : Nat → ClassId} {D : va_G} {gr : List (Nat × Nat)} {ad : Nat → Nat → Nat → Nat}
set_option maxRecDepth 100000 in
set_option maxHeartbeats 4000000 in
theorem w_X11_restore {Y : Mem} {a1 : Int32} (C : Cx p s m [.ref (ad 0 0 0), .int a1].toArray meth c cX11_restore 2 wsX11_restore RX11 N0 T D gr ad) (hrt : meth.sig.returnType = (some .int)) (hG : ∀ q ∈ ([(0, 0), (1, 0), (2, 0), (9, 0)] ++ allG), q ∈ gr) (hl : l.stackTraces = false) (hX : ∀ x ∈ c.exceptionTable.toList, False) {res : (Nat × Mem) ⊕ (Int32 × Mem)} (h : X11_restore Y a1 = some res) : FW p l e (Rx 7 2) s m [.ref (ad 0 0 0), .int a1].toArray below meth c 2 N0 T D gr ad 0 0 (vx_MQ below (va_Qi (fun r Y1 => Sum.inr (r, Y1) = res) (WB T D gr ad) (fun q => N0 ≤ q)) (vx_X (fun u => Sum.inl u = res) (XB T D gr ad) (fun q => N0 ≤ q)) [.ref (ad 0 0 0), .int a1].toArray s 2 12 (fun q => N0 ≤ q)) Y 0 [(0, .ref (ad 0 0 0)), (1, .int a1)] [] := by
  unfold X11_restore at h
  refine fw_aload_n C dX11_restore_0 rfl 0 rfl ?_
  refine fw_iload_n C dX11_restore_1 rfl 1 rfl ?_
  rcases bdxv_some h with ⟨x5, q2, e6⟩ | ⟨Y4, q2, h⟩
  · exact fw_callXVv_l C (ci := 9) (Cn := RX11) (Tc := TX11) (N := 11) (As := [.int a1]) (c_X11_requireSlot hl ga0 q2) (cwV 1 (cx_ts C) gX11_restore_X11_requireSlot rfl rfl rfl (by decide +kernel) ⟨Nat.le_of_ble_eq_true rfl, Nat.le_of_ble_eq_true rfl⟩) rfl (hG _ (List.mem_of_getElem? (i := 0) rfl)) (of0_0 _) (ce0 T ad _ _) rfl (st := []) rfl (Nat.le_of_ble_eq_true rfl) ⟨Nat.le_of_ble_eq_true rfl, Nat.le_of_ble_eq_true rfl⟩ dX11_restore_2 hX e6 (Nat.le_of_ble_eq_true rfl) (Nat.le_of_ble_eq_true rfl)
  refine fw_callXVv_r C (ci := 9) (Cn := RX11) (Tc := TX11) (N := 11) (As := [.int a1]) (c_X11_requireSlot hl ga0 q2) (cwV 1 (cx_ts C) gX11_restore_X11_requireSlot rfl rfl rfl (by decide +kernel) ⟨Nat.le_of_ble_eq_true rfl, Nat.le_of_ble_eq_true rfl⟩) rfl (hG _ (List.mem_of_getElem? (i := 0) rfl)) (of0_0 _) (ce0 T ad _ _) rfl (st := []) rfl (Nat.le_of_ble_eq_true rfl) ⟨Nat.le_of_ble_eq_true rfl, Nat.le_of_ble_eq_true rfl⟩ dX11_restore_2 ?_
  refine fw_aload_n C dX11_restore_5 rfl 0 rfl ?_
  refine fw_get C (ci := 9) (Cn := RX11) (Tc := TX11) (N := 11) (j := 9) ly_X11_restore_11 rfl (hG _ (List.mem_of_getElem? (i := 0) rfl)) (of0_0 _) (ce0 T ad _ _) (by decide) (cx_ts C _ fl_X11_restore_88) (fun _ h => h) (v := .ref (ad 0 0 2)) rfl dX11_restore_6 ?_
  refine fw_iload_n C dX11_restore_9 rfl 1 rfl ?_
  obtain ⟨b7, h⟩ := gd_some h
  refine fw_zald2 C (hG _ (List.mem_of_getElem? (i := 0) rfl)) (of0_2 _) (ca0_2 T ad _ _) b7 (Nat.le_of_ble_eq_true rfl) dX11_restore_10 ?_
  refine fw_if_ne C dX11_restore_11 (tgt := 25) rfl (fun c8 => ?_) (fun c8 => ?_)
  · have h := ite_f c8 h
    refine fw_aload_n C dX11_restore_25 rfl 0 rfl ?_
    refine fw_get C (ci := 9) (Cn := RX11) (Tc := TX11) (N := 11) (j := 5) ly_X11_restore_11 rfl (hG _ (List.mem_of_getElem? (i := 0) rfl)) (of0_0 _) (ce0 T ad _ _) (by decide) (cx_ts C _ fl_X11_restore_67) (fun _ h => h) (v := .ref (ad 1 0 0)) rfl dX11_restore_26 ?_
    refine fw_getN C (ci := 1) (Cn := RX3) (Tc := TX3) (N := 5) (j := 1) ly_X11_restore_3 rfl (hG _ (List.mem_of_getElem? (i := 1) rfl)) (of1_0 _) (ce1 T ad _ _) (by decide) (Nst_use (cx_nst C) (w := .fieldLinkNest RX11 139 "RecipeScheduler$Kitchen" "state" "LRecipeScheduler$State;" "RecipeScheduler") 518 (by decide +kernel) rfl) (fun _ h => h) (v := .ref (ad 2 0 0)) rfl dX11_restore_29 ?_
    refine fw_aload_n C dX11_restore_32 rfl 0 rfl ?_
    refine fw_get C (ci := 9) (Cn := RX11) (Tc := TX11) (N := 11) (j := 8) ly_X11_restore_11 rfl (hG _ (List.mem_of_getElem? (i := 0) rfl)) (of0_0 _) (ce0 T ad _ _) (by decide) (cx_ts C _ fl_X11_restore_83) (fun _ h => h) (v := .ref (ad 0 0 1)) rfl dX11_restore_33 ?_
    refine fw_iload_n C dX11_restore_36 rfl 1 rfl ?_
    refine fw_aald2 C 3 (hG _ (List.mem_of_getElem? (i := 0) rfl)) (of0_1 _) (ca0_1 T ad _ _) rfl rfl b7 (Nat.le_of_ble_eq_true rfl) (v := .ref (ad 2 (8+ix (a1)) 0)) rfl dX11_restore_37 ?_
    obtain ⟨Y11, q10, h⟩ := bd1_some h
    refine fw_callVv C (ci := 6) (Cn := RX8) (Tc := TX8) (N := 15) (As := [.ref (ad 2 (8+ix (a1)) 0)]) (c_X8_copyFrom (gac ((fun q hq => hG q (List.mem_append_right _ hq)) _ (allG_2 (by have q := inb_lt b7; omega))) (gac (hG _ (List.mem_of_getElem? (i := 2) rfl)) ga0)) q10) (cwV 1 (cx_ts C) gX11_restore_X8_copyFrom rfl rfl rfl (by decide +kernel) ⟨Nat.le_of_ble_eq_true rfl, Nat.le_of_ble_eq_true rfl⟩) rfl (hG _ (List.mem_of_getElem? (i := 2) rfl)) (of2_0 _) (ce2 T ad _ _) rfl (st := []) rfl (Nat.le_of_ble_eq_true rfl) ⟨Nat.le_refl 0, Nat.le_refl 0⟩ dX11_restore_38 ?_
    rintro _ rfl
    refine fw_aload_n C dX11_restore_41 rfl 0 rfl ?_
    refine fw_get C (ci := 9) (Cn := RX11) (Tc := TX11) (N := 11) (j := 7) ly_X11_restore_11 rfl (hG _ (List.mem_of_getElem? (i := 0) rfl)) (of0_0 _) (ce0 T ad _ _) (by decide) (cx_ts C _ fl_X11_restore_77) (fun _ h => h) (v := .ref (ad 9 0 0)) rfl dX11_restore_42 ?_
    refine fw_iconst C dX11_restore_45 (v := 0) rfl ?_
    obtain ⟨Y12, e13, h⟩ := lt_some h
    refine fw_putN C (ci := 0) (Cn := RX2) (Tc := TX2) (N := 3) (j := 2) (ty := .int) (upd (Y11 9 0 0) 2 0) ly_X11_restore_2 rfl tyX2_ok nmX2 (hG _ (List.mem_of_getElem? (i := 3) rfl)) (of9_0 _) (ce9 T ad _ _) (by decide) (Nst_use (cx_nst C) (w := .fieldLinkNest RX11 123 "RecipeScheduler$History" "count" "I" "RecipeScheduler") 546 (by decide +kernel) rfl) (fun _ h => h) rfl (by decide +kernel) rfl rfl (by decide) (ce9_put2 T ad _ _ _) dX11_restore_46 ?_
    refine fw_mem ((up_eq _ _ _ _ _ _).symm.trans e13) ?_
    refine fw_aload_n C dX11_restore_49 rfl 0 rfl ?_
    refine fw_get C (ci := 9) (Cn := RX11) (Tc := TX11) (N := 11) (j := 5) ly_X11_restore_11 rfl (hG _ (List.mem_of_getElem? (i := 0) rfl)) (of0_0 _) (ce0 T ad _ _) (by decide) (cx_ts C _ fl_X11_restore_67) (fun _ h => h) (v := .ref (ad 1 0 0)) rfl dX11_restore_50 ?_
    refine fw_getN C (ci := 1) (Cn := RX3) (Tc := TX3) (N := 5) (j := 1) ly_X11_restore_3 rfl (hG _ (List.mem_of_getElem? (i := 1) rfl)) (of1_0 _) (ce1 T ad _ _) (by decide) (Nst_use (cx_nst C) (w := .fieldLinkNest RX11 139 "RecipeScheduler$Kitchen" "state" "LRecipeScheduler$State;" "RecipeScheduler") 518 (by decide +kernel) rfl) (fun _ h => h) (v := .ref (ad 2 0 0)) rfl dX11_restore_53 ?_
    refine fw_getN C (ci := 6) (Cn := RX8) (Tc := TX8) (N := 15) (j := 1) ly_X11_restore_8 rfl (hG _ (List.mem_of_getElem? (i := 2) rfl)) (of2_0 _) (ce2 T ad _ _) (by decide) (Nst_use (cx_nst C) (w := .fieldLinkNest RX11 146 "RecipeScheduler$State" "minute" "I" "RecipeScheduler") 439 (by decide +kernel) rfl) (fun _ h => h) (v := .int (Y12 2 0 0 1)) rfl dX11_restore_56 ?_
    refine fw_xr (Nat.le_of_ble_eq_true rfl) (Nat.le_of_ble_eq_true rfl) ?_
    exact fw_iret C hrt Y12 (Option.some.inj h) (fun t ht => ht) dX11_restore_59
  · have h := ite_t c8 h
    exact fw_throwSW C hl hX (cls := "java/lang/IllegalStateException") (names := ["java/lang/RuntimeException", "java/lang/Exception"]) 1 rfl (by decide +kernel) (by decide +kernel) (cx_ts C _ th_X11_restore_14.1) (cx_ts C _ th_X11_restore_14.2.1) ((cx_st C).2.1 _ (List.mem_of_getElem? (i := 28) rfl)) (fun w hw => cx_ts C _ (th_X11_restore_14.2.2 w hw)) tg_1_100_96 dX11_restore_14 dX11_restore_17 dX11_restore_18 dX11_restore_21 dX11_restore_24 (Nat.le_of_ble_eq_true rfl) (Nat.le_of_ble_eq_true rfl) (Nat.le_of_ble_eq_true rfl) (Nat.le_of_ble_eq_true rfl) (Nat.le_of_ble_eq_true rfl) (Nat.le_of_ble_eq_true rfl) (Option.some.inj h)
end
set_option maxRecDepth 100000 in
set_option maxHeartbeats 4000000 in
theorem c_X11_restore {l : Launch} {N0 : Nat} {T : Nat → ClassId} {D : va_G} {gr : List (Nat × Nat)} {ad : Nat → Nat → Nat → Nat} {Y : Mem} {a1 : Int32} {res : (Nat × Mem) ⊕ (Int32 × Mem)} (hl : l.stackTraces = false) (hG : ∀ q ∈ ([(0, 0), (1, 0), (2, 0), (9, 0)] ++ allG), q ∈ gr) (h : X11_restore Y a1 = some res) : CXi l yX11_restore wsX11_restore (Rx 7 2) N0 T D gr ad Y [.ref (ad 0 0 0), .int a1] 2 res :=
  fw_xbody (by decide +kernel) rfl (Nat.le_of_ble_eq_true rfl) (fun p e s m below meth c C hrt hX => w_X11_restore C hrt hG hl hX h)
noncomputable def X3_deepestMissing_b45 (Y : Mem) (g0 : Nat) (a1 : Int32) (k7 : Int32 → Int32 → Int32 → Option (Int32)) (l3 : Int32) (l4 : Int32) (l2 : Int32) : Option (Int32) :=
  k7 (l4 + 1) l3 l2
noncomputable def X3_deepestMissing_b37 (Y : Mem) (g0 : Nat) (a1 : Int32) (k7 : Int32 → Int32 → Int32 → Option (Int32)) (l4 : Int32) (l2 : Int32) (s0 : Int32) : Option (Int32) :=
  if s0 = ((-1)) then (X3_deepestMissing_b45 Y g0 a1 k7 s0 l4 l2) else (X3_deepestMissing_b45 Y g0 a1 k7 s0 l4 s0)
noncomputable def X3_deepestMissing_b7 (Y : Mem) (g0 : Nat) (a1 : Int32) : Nat → Int32 → Int32 → Int32 → Option (Int32)
  | 0, _, _, _ => none
  | n+1, l4, l3, l2 =>
  if 14 ≤ l4 then (some l2) else (if l3 = ((-1)) then (some l2) else (bd1 (X3_obstacle Y g0 l3) <| fun r3 => if r3 = 2 then (bd1 (X3_missingBefore Y g0 l3) <| fun r7 => X3_deepestMissing_b37 Y g0 a1 (X3_deepestMissing_b7 Y g0 a1 n) l4 l2 r7) else (X3_deepestMissing_b37 Y g0 a1 (X3_deepestMissing_b7 Y g0 a1 n) l4 l2 ((-1)))))
noncomputable def X3_deepestMissing (Y : Mem) (g0 : Nat) (a1 : Int32) : Option (Int32) :=
  X3_deepestMissing_b7 Y g0 a1 FU 0 a1 ((-1))
section
variable {p : Program} {l : Launch} {e : Env} {s : State} {m : MethodId} {below : List Frame} {meth : Method} {c : Code} {N0 : Nat} {T : Nat → ClassId} {D : va_G} {gr : List (Nat × Nat)} {ad : Nat → Nat → Nat → Nat}
set_option maxRecDepth 100000 in
set_option maxHeartbeats 4000000 in
theorem w_X3_deepestMissing_b45 {Y : Mem} {g0 : Nat} {a1 : Int32} (C : Cx p s m [.ref (ad 1 g0 0), .int a1].toArray meth c cX3_deepestMissing 5 wsX3_deepestMissing RX3 N0 T D gr ad) (hrt : meth.sig.returnType = (some .int)) (hG : ∀ q ∈ ([(2, g0), (1, g0)] ++ allG), q ∈ gr) {res : Int32} {k7 : Int32 → Int32 → Int32 → Option (Int32)} (hk7 : ∀ (l4 : Int32) (l3 : Int32) (l2 : Int32), k7 l4 l3 l2 = some res → FW p l e (Rm 3) s m [.ref (ad 1 g0 0), .int a1].toArray below meth c 5 N0 T D gr ad 0 0 (MQ below (va_Qi (fun r Y1 => r = res ∧ Y1 = Y) (WB T D gr ad) (fun q => N0 ≤ q)) [.ref (ad 1 g0 0), .int a1].toArray s 0 0 (fun q => N0 ≤ q)) Y 7 [(4, .int l4), (3, .int l3), (2, .int l2), (0, .ref (ad 1 g0 0))] []) (l3 : Int32) (l4 : Int32) (l2 : Int32) (h : X3_deepestMissing_b45 Y g0 a1 k7 l3 l4 l2 = some res) : FW p l e (Rm 3) s m [.ref (ad 1 g0 0), .int a1].toArray below meth c 5 N0 T D gr ad 0 0 (MQ below (va_Qi (fun r Y1 => r = res ∧ Y1 = Y) (WB T D gr ad) (fun q => N0 ≤ q)) [.ref (ad 1 g0 0), .int a1].toArray s 0 0 (fun q => N0 ≤ q)) Y 45 [(3, .int l3), (4, .int l4), (2, .int l2), (0, .ref (ad 1 g0 0))] [] := by
  unfold X3_deepestMissing_b45 at h
  refine fw_iinc C dX3_deepestMissing_45 (kk := 1) (v := l4 + 1) rfl rfl (by decide) (L' := [(4, .int (l4 + 1)), (3, .int l3), (2, .int l2), (0, .ref (ad 1 g0 0))]) rfl ?_
  refine fw_goto C dX3_deepestMissing_48 (tgt := 7) rfl ?_
  exact hk7 _ _ _ h
set_option maxRecDepth 100000 in
set_option maxHeartbeats 4000000 in
theorem w_X3_deepestMissing_b37 {Y : Mem} {g0 : Nat} {a1 : Int32} (C : Cx p s m [.ref (ad 1 g0 0), .int a1].toArray meth c cX3_deepestMissing 5 wsX3_deepestMissing RX3 N0 T D gr ad) (hrt : meth.sig.returnType = (some .int)) (hG : ∀ q ∈ ([(2, g0), (1, g0)] ++ allG), q ∈ gr) {res : Int32} {k7 : Int32 → Int32 → Int32 → Option (Int32)} (hk7 : ∀ (l4 : Int32) (l3 : Int32) (l2 : Int32), k7 l4 l3 l2 = some res → FW p l e (Rm 3) s m [.ref (ad 1 g0 0), .int a1].toArray below meth c 5 N0 T D gr ad 0 0 (MQ below (va_Qi (fun r Y1 => r = res ∧ Y1 = Y) (WB T D gr ad) (fun q => N0 ≤ q)) [.ref (ad 1 g0 0), .int a1].toArray s 0 0 (fun q => N0 ≤ q)) Y 7 [(4, .int l4), (3, .int l3), (2, .int l2), (0, .ref (ad 1 g0 0))] []) (l4 : Int32) (l2 : Int32) (s0 : Int32) (h : X3_deepestMissing_b37 Y g0 a1 k7 l4 l2 s0 = some res) : FW p l e (Rm 3) s m [.ref (ad 1 g0 0), .int a1].toArray below meth c 5 N0 T D gr ad 0 0 (MQ below (va_Qi (fun r Y1 => r = res ∧ Y1 = Y) (WB T D gr ad) (fun q => N0 ≤ q)) [.ref (ad 1 g0 0), .int a1].toArray s 0 0 (fun q => N0 ≤ q)) Y 37 [(4, .int l4), (2, .int l2), (0, .ref (ad 1 g0 0))] [.int s0] := by
  unfold X3_deepestMissing_b37 at h
  refine fw_istore_n C dX3_deepestMissing_37 rfl (by decide) (L' := [(3, .int s0), (4, .int l4), (2, .int l2), (0, .ref (ad 1 g0 0))]) rfl ?_
  refine fw_iload_n C dX3_deepestMissing_38 rfl 0 rfl ?_
  refine fw_iconst C dX3_deepestMissing_39 (v := (-1)) rfl ?_
  refine fw_icmp_eq C dX3_deepestMissing_40 (tgt := 45) rfl (fun c6 => ?_) (fun c6 => ?_)
  · have h := ite_t c6 h
    exact w_X3_deepestMissing_b45 C hrt hG  hk7 _ _ _ h
  · have h := ite_f c6 h
    refine fw_iload_n C dX3_deepestMissing_43 rfl 0 rfl ?_
    refine fw_istore_n C dX3_deepestMissing_44 rfl (by decide) (L' := [(2, .int s0), (3, .int s0), (4, .int l4), (0, .ref (ad 1 g0 0))]) rfl ?_
    refine fw_sub [1, 2, 0, 3] (L' := [(3, .int s0), (4, .int l4), (2, .int s0), (0, .ref (ad 1 g0 0))]) rfl ?_
    exact w_X3_deepestMissing_b45 C hrt hG  hk7 _ _ _ h
set_option maxRecDepth 100000 in
set_option maxHeartbeats 4000000 in
theorem w_X3_deepestMissing_b7 {Y : Mem} {g0 : Nat} {a1 : Int32} (C : Cx p s m [.ref (ad 1 g0 0), .int a1].toArray meth c cX3_deepestMissing 5 wsX3_deepestMissing RX3 N0 T D gr ad) (hrt : meth.sig.returnType = (some .int)) (hG : ∀ q ∈ ([(2, g0), (1, g0)] ++ allG), q ∈ gr) {res : Int32} : ∀ (n : Nat) (l4 : Int32) (l3 : Int32) (l2 : Int32), X3_deepestMissing_b7 Y g0 a1  n l4 l3 l2 = some res → FW p l e (Rm 3) s m [.ref (ad 1 g0 0), .int a1].toArray below meth c 5 N0 T D gr ad 0 0 (MQ below (va_Qi (fun r Y1 => r = res ∧ Y1 = Y) (WB T D gr ad) (fun q => N0 ≤ q)) [.ref (ad 1 g0 0), .int a1].toArray s 0 0 (fun q => N0 ≤ q)) Y 7 [(4, .int l4), (3, .int l3), (2, .int l2), (0, .ref (ad 1 g0 0))] [] := by
  intro n
  induction n with
  | zero =>
    intro l4 l3 l2 h
    unfold X3_deepestMissing_b7 at h
    cases h
  | succ n ih =>
    intro l4 l3 l2 h
    unfold X3_deepestMissing_b7 at h
    refine fw_iload C dX3_deepestMissing_7 0 rfl ?_
    refine fw_bipush C dX3_deepestMissing_9 (v := 14) rfl ?_
    refine fw_icmp_ge C dX3_deepestMissing_11 (tgt := 51) rfl (fun c1 => ?_) (fun c1 => ?_)
    · have h := ite_t c1 h
      refine fw_iload_n C dX3_deepestMissing_51 rfl 2 rfl ?_
      exact fw_iret C hrt Y ⟨Option.some.inj h, rfl⟩ (fun t ht => ht) dX3_deepestMissing_52
    · have h := ite_f c1 h
      refine fw_iload_n C dX3_deepestMissing_14 rfl 1 rfl ?_
      refine fw_iconst C dX3_deepestMissing_15 (v := (-1)) rfl ?_
      refine fw_icmp_eq C dX3_deepestMissing_16 (tgt := 51) rfl (fun c2 => ?_) (fun c2 => ?_)
      · have h := ite_t c2 h
        refine fw_iload_n C dX3_deepestMissing_51 rfl 2 rfl ?_
        exact fw_iret C hrt Y ⟨Option.some.inj h, rfl⟩ (fun t ht => ht) dX3_deepestMissing_52
      · have h := ite_f c2 h
        refine fw_aload_n C dX3_deepestMissing_19 rfl 3 rfl ?_
        refine fw_iload_n C dX3_deepestMissing_20 rfl 1 rfl ?_
        obtain ⟨r3, q4, h⟩ := bd1_some h
        refine fw_callVi C (ci := 1) (Cn := RX3) (Tc := TX3) (N := 5) (As := [.int l3]) (c_X3_obstacle (gac (hG _ (List.mem_of_getElem? (i := 1) rfl)) (gac (hG _ (List.mem_of_getElem? (i := 0) rfl)) (fun q hq => hG q (List.mem_append_right _ hq)))) q4) (cwV 1 (cx_ts C) gX3_deepestMissing_X3_obstacle rfl rfl rfl (by decide +kernel) ⟨Nat.le_of_ble_eq_true rfl, Nat.le_of_ble_eq_true rfl⟩) rfl (hG _ (List.mem_of_getElem? (i := 1) rfl)) (of1_0 _) (ce1 T ad _ _) rfl (st := []) rfl (Nat.le_of_ble_eq_true rfl) ⟨Nat.le_refl 0, Nat.le_refl 0⟩ dX3_deepestMissing_21 ?_
        rintro _ _ ⟨rfl, rfl⟩
        refine fw_iconst C dX3_deepestMissing_24 (v := 2) rfl ?_
        refine fw_icmp_ne C dX3_deepestMissing_25 (tgt := 36) rfl (fun c5 => ?_) (fun c5 => ?_)
        · have h := ite_f c5 h
          refine fw_iconst C dX3_deepestMissing_36 (v := (-1)) rfl ?_
          refine fw_sub [0, 2, 3] (L' := [(4, .int l4), (2, .int l2), (0, .ref (ad 1 g0 0))]) rfl ?_
          exact w_X3_deepestMissing_b37 C hrt hG  ih _ _ _ h
        · have h := ite_t c5 h
          refine fw_aload_n C dX3_deepestMissing_28 rfl 3 rfl ?_
          refine fw_iload_n C dX3_deepestMissing_29 rfl 1 rfl ?_
          obtain ⟨r7, q8, h⟩ := bd1_some h
          refine fw_callVi C (ci := 1) (Cn := RX3) (Tc := TX3) (N := 5) (As := [.int l3]) (c_X3_missingBefore (gac (hG _ (List.mem_of_getElem? (i := 1) rfl)) (gac (hG _ (List.mem_of_getElem? (i := 0) rfl)) (fun q hq => hG q (List.mem_append_right _ hq)))) q8) (cwV 1 (cx_ts C) gX3_deepestMissing_X3_missingBefore rfl rfl rfl (by decide +kernel) ⟨Nat.le_of_ble_eq_true rfl, Nat.le_of_ble_eq_true rfl⟩) rfl (hG _ (List.mem_of_getElem? (i := 1) rfl)) (of1_0 _) (ce1 T ad _ _) rfl (st := []) rfl (Nat.le_of_ble_eq_true rfl) ⟨Nat.le_refl 0, Nat.le_refl 0⟩ dX3_deepestMissing_30 ?_
          rintro _ _ ⟨rfl, rfl⟩
          refine fw_goto C dX3_deepestMissing_33 (tgt := 37) rfl ?_
          refine fw_sub [0, 2, 3] (L' := [(4, .int l4), (2, .int l2), (0, .ref (ad 1 g0 0))]) rfl ?_
          exact w_X3_deepestMissing_b37 C hrt hG  ih _ _ _ h
set_option maxRecDepth 100000 in
set_option maxHeartbeats 4000000 in
theorem w_X3_deepestMissing {Y : Mem} {g0 : Nat} {a1 : Int32} (C : Cx p s m [.ref (ad 1 g0 0), .int a1].toArray meth c cX3_deepestMissing 5 wsX3_deepestMissing RX3 N0 T D gr ad) (hrt : meth.sig.returnType = (some .int)) (hG : ∀ q ∈ ([(2, g0), (1, g0)] ++ allG), q ∈ gr) {res : Int32} (h : X3_deepestMissing Y g0 a1 = some res) : FW p l e (Rm 3) s m [.ref (ad 1 g0 0), .int a1].toArray below meth c 5 N0 T D gr ad 0 0 (MQ below (va_Qi (fun r Y1 => r = res ∧ Y1 = Y) (WB T D gr ad) (fun q => N0 ≤ q)) [.ref (ad 1 g0 0), .int a1].toArray s 0 0 (fun q => N0 ≤ q)) Y 0 [(0, .ref (ad 1 g0 0)), (1, .int a1)] [] := by
  unfold X3_deepestMissing at h
  refine fw_iconst C dX3_deepestMissing_0 (v := (-1)) rfl ?_
  refine fw_istore_n C dX3_deepestMissing_1 rfl (by decide) (L' := [(2, .int ((-1))), (0, .ref (ad 1 g0 0)), (1, .int a1)]) rfl ?_
  refine fw_iload_n C dX3_deepestMissing_2 rfl 2 rfl ?_
  refine fw_istore_n C dX3_deepestMissing_3 rfl (by decide) (L' := [(3, .int a1), (2, .int ((-1))), (0, .ref (ad 1 g0 0)), (1, .int a1)]) rfl ?_
  refine fw_iconst C dX3_deepestMissing_4 (v := 0) rfl ?_
  refine fw_istore C dX3_deepestMissing_5 (by decide) (L' := [(4, .int 0), (3, .int a1), (2, .int ((-1))), (0, .ref (ad 1 g0 0)), (1, .int a1)]) rfl ?_
  refine fw_sub [0, 1, 2, 3] (L' := [(4, .int 0), (3, .int a1), (2, .int ((-1))), (0, .ref (ad 1 g0 0))]) rfl ?_
  exact w_X3_deepestMissing_b7 C hrt hG   _ _ _ _ h
end
set_option maxRecDepth 100000 in
set_option maxHeartbeats 4000000 in
theorem c_X3_deepestMissing {l : Launch} {N0 : Nat} {T : Nat → ClassId} {D : va_G} {gr : List (Nat × Nat)} {ad : Nat → Nat → Nat → Nat} {Y : Mem} {g0 : Nat} {a1 : Int32} {res : Int32} (hG : ∀ q ∈ ([(2, g0), (1, g0)] ++ allG), q ∈ gr) (h : X3_deepestMissing Y g0 a1 = some res) : CI l yX3_deepestMissing wsX3_deepestMissing (Rm 3) N0 T D gr ad Y [.ref (ad 1 g0 0), .int a1] (fun r Y1 => r = res ∧ Y1 = Y) :=
  fw_body (by decide +kernel) rfl (Nat.le_of_ble_eq_true rfl) (fun p e s m below meth c C hrt => w_X3_deepestMissing C hrt hG  h)
theorem ly_X11_rootBlocker_11 : ∀ w ∈ u_ws RX11 TX11 11, w ∈ wsX11_rootBlocker := by decide +kernel
theorem fl_X11_rootBlocker_67 : Cond.fieldLink RX11 67 "RecipeScheduler" "now" "LRecipeScheduler$Kitchen;" ∈ wsX11_rootBlocker := by decide +kernel
noncomputable def X11_rootBlocker (Y : Mem) (a1 : Int32) : Option ((Nat × Mem) ⊕ (Int32 × Mem)) :=
  bdxv (X11_requireStep Y a1) <| fun Y4 => bd1 (X3_deepestMissing Y4 0 a1) <| fun r7 => some (.inr (r7, Y4))
section
variable {p : Program} {l : Launch} {e : Env} {s : State} {m : MethodId} {below : List Frame} {meth : Method} {c : Code} {N0 : Nat} {T : Nat → ClassId} {D : va_G} {gr : List (Nat × Nat)} {ad : Nat → Nat → Nat → Nat}
set_option maxRecDepth 100000 in
set_option maxHeartbeats 4000000 in
theorem w_X11_rootBlocker {Y : Mem} {a1 : Int32} (C : Cx p s m [.ref (ad 0 0 0), .int a1].toArray meth c cX11_rootBlocker 2 wsX11_rootBlocker RX11 N0 T D gr ad) (hrt : meth.sig.returnType = (some .int)) (hG : ∀ q ∈ ([(1, 0), (0, 0), (2, 0)] ++ allG), q ∈ gr) (hl : l.stackTraces = false) (hX : ∀ x ∈ c.exceptionTable.toList, False) {res : (Nat × Mem) ⊕ (Int32 × Mem)} (h : X11_rootBlocker Y a1 = some res) : FW p l e (Rx 7 1) s m [.ref (ad 0 0 0), .int a1].toArray below meth c 2 N0 T D gr ad 0 0 (vx_MQ below (va_Qi (fun r Y1 => Sum.inr (r, Y1) = res) (WB T D gr ad) (fun q => N0 ≤ q)) (vx_X (fun u => Sum.inl u = res) (XB T D gr ad) (fun q => N0 ≤ q)) [.ref (ad 0 0 0), .int a1].toArray s 1 6 (fun q => N0 ≤ q)) Y 0 [(0, .ref (ad 0 0 0)), (1, .int a1)] [] := by
  unfold X11_rootBlocker at h
  refine fw_aload_n C dX11_rootBlocker_0 rfl 0 rfl ?_
  refine fw_iload_n C dX11_rootBlocker_1 rfl 1 rfl ?_
  rcases bdxv_some h with ⟨x5, q2, e6⟩ | ⟨Y4, q2, h⟩
  · exact fw_callXVv_l C (ci := 9) (Cn := RX11) (Tc := TX11) (N := 11) (As := [.int a1]) (c_X11_requireStep hl (gac (hG _ (List.mem_of_getElem? (i := 1) rfl)) (gac (hG _ (List.mem_of_getElem? (i := 0) rfl)) (fun q hq => hG q (List.mem_append_right _ hq)))) q2) (cwV 1 (cx_ts C) gX11_rootBlocker_X11_requireStep rfl rfl rfl (by decide +kernel) ⟨Nat.le_of_ble_eq_true rfl, Nat.le_of_ble_eq_true rfl⟩) rfl (hG _ (List.mem_of_getElem? (i := 1) rfl)) (of0_0 _) (ce0 T ad _ _) rfl (st := []) rfl (Nat.le_of_ble_eq_true rfl) ⟨Nat.le_of_ble_eq_true rfl, Nat.le_of_ble_eq_true rfl⟩ dX11_rootBlocker_2 hX e6 (Nat.le_of_ble_eq_true rfl) (Nat.le_of_ble_eq_true rfl)
  refine fw_callXVv_r C (ci := 9) (Cn := RX11) (Tc := TX11) (N := 11) (As := [.int a1]) (c_X11_requireStep hl (gac (hG _ (List.mem_of_getElem? (i := 1) rfl)) (gac (hG _ (List.mem_of_getElem? (i := 0) rfl)) (fun q hq => hG q (List.mem_append_right _ hq)))) q2) (cwV 1 (cx_ts C) gX11_rootBlocker_X11_requireStep rfl rfl rfl (by decide +kernel) ⟨Nat.le_of_ble_eq_true rfl, Nat.le_of_ble_eq_true rfl⟩) rfl (hG _ (List.mem_of_getElem? (i := 1) rfl)) (of0_0 _) (ce0 T ad _ _) rfl (st := []) rfl (Nat.le_of_ble_eq_true rfl) ⟨Nat.le_of_ble_eq_true rfl, Nat.le_of_ble_eq_true rfl⟩ dX11_rootBlocker_2 ?_
  refine fw_aload_n C dX11_rootBlocker_5 rfl 0 rfl ?_
  refine fw_get C (ci := 9) (Cn := RX11) (Tc := TX11) (N := 11) (j := 5) ly_X11_rootBlocker_11 rfl (hG _ (List.mem_of_getElem? (i := 1) rfl)) (of0_0 _) (ce0 T ad _ _) (by decide) (cx_ts C _ fl_X11_rootBlocker_67) (fun _ h => h) (v := .ref (ad 1 0 0)) rfl dX11_rootBlocker_6 ?_
  refine fw_iload_n C dX11_rootBlocker_9 rfl 1 rfl ?_
  obtain ⟨r7, q8, h⟩ := bd1_some h
  refine fw_callVi C (ci := 1) (Cn := RX3) (Tc := TX3) (N := 5) (As := [.int a1]) (c_X3_deepestMissing (gac (hG _ (List.mem_of_getElem? (i := 2) rfl)) (gac (hG _ (List.mem_of_getElem? (i := 0) rfl)) (fun q hq => hG q (List.mem_append_right _ hq)))) q8) (cwV 1 (cx_ts C) gX11_rootBlocker_X3_deepestMissing rfl rfl rfl (by decide +kernel) ⟨Nat.le_of_ble_eq_true rfl, Nat.le_of_ble_eq_true rfl⟩) rfl (hG _ (List.mem_of_getElem? (i := 0) rfl)) (of1_0 _) (ce1 T ad _ _) rfl (st := []) rfl (Nat.le_of_ble_eq_true rfl) ⟨Nat.le_refl 0, Nat.le_refl 0⟩ dX11_rootBlocker_10 ?_
  rintro _ _ ⟨rfl, rfl⟩
  refine fw_xr (Nat.le_of_ble_eq_true rfl) (Nat.le_of_ble_eq_true rfl) ?_
  exact fw_iret C hrt Y4 (Option.some.inj h) (fun t ht => ht) dX11_rootBlocker_13
end
set_option maxRecDepth 100000 in
set_option maxHeartbeats 4000000 in
theorem c_X11_rootBlocker {l : Launch} {N0 : Nat} {T : Nat → ClassId} {D : va_G} {gr : List (Nat × Nat)} {ad : Nat → Nat → Nat → Nat} {Y : Mem} {a1 : Int32} {res : (Nat × Mem) ⊕ (Int32 × Mem)} (hl : l.stackTraces = false) (hG : ∀ q ∈ ([(1, 0), (0, 0), (2, 0)] ++ allG), q ∈ gr) (h : X11_rootBlocker Y a1 = some res) : CXi l yX11_rootBlocker wsX11_rootBlocker (Rx 7 1) N0 T D gr ad Y [.ref (ad 0 0 0), .int a1] 1 res :=
  fw_xbody (by decide +kernel) rfl (Nat.le_of_ble_eq_true rfl) (fun p e s m below meth c C hrt hX => w_X11_rootBlocker C hrt hG hl hX h)
