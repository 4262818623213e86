theorem fl_X11_isAllowed_439 : Cond.fieldLink RX11 439 "RecipeScheduler$1" "$SwitchMap$RecipeScheduler$Command" "[I" ∈ wsX11_isAllowed := by decide +kernel
theorem ly_X11_isAllowed_11 : ∀ w ∈ u_ws RX11 TX11 11, w ∈ wsX11_isAllowed := by decide +kernel
theorem fl_X11_isAllowed_67 : Cond.fieldLink RX11 67 "RecipeScheduler" "now" "LRecipeScheduler$Kitchen;" ∈ wsX11_isAllowed := by decide +kernel
theorem ly_X11_isAllowed_3 : ∀ w ∈ u_ws RX3 TX3 5, w ∈ wsX11_isAllowed := by decide +kernel
theorem ly_X11_isAllowed_8 : ∀ w ∈ u_ws RX8 TX8 15, w ∈ wsX11_isAllowed := by decide +kernel
noncomputable def X11_isAllowed (Y : Mem) (w1 : Nat) (a2 : Int32) (a3 : Int32) : Option (Int32) :=
  gd (decide (w1 < 8)) <| gd (inb ((Int32.ofNat w1)) 8) <| if (sSw (ix ((Int32.ofNat w1)))) = 1 then (bd1 (X11_isPassLength Y a3) <| fun r4 => if r4 = 0 then (some 0) else (bd1 (X11_fitsClock Y a3) <| fun r7 => if r7 = 0 then (some 0) else (some 1))) else (if (sSw (ix ((Int32.ofNat w1)))) = 2 then (bd1 (X11_isSaltAmount Y a3) <| fun r11 => if r11 = 0 then (some 0) else (if (Y 2 0 0 5) = 0 then (some 1) else (some 0))) else (if (sSw (ix ((Int32.ofNat w1)))) = 3 then (bd1 (X11_isSaltAmount Y a3) <| fun r16 => if r16 = 0 then (some 0) else (if (Y 2 0 0 5) = 0 then (some 1) else (some 0))) else (if (sSw (ix ((Int32.ofNat w1)))) = 4 then (bd1 (X11_contains Y (Y 2 0 0 6) a2) <| fun r21 => gd (decide (r21 = 0 ∨ r21 = 1)) <| some r21) else (if (sSw (ix ((Int32.ofNat w1)))) = 5 then (bd1 (X3_isRedoable Y 0 a2) <| fun r25 => gd (decide (r25 = 0 ∨ r25 = 1)) <| some r25) else (if (sSw (ix ((Int32.ofNat w1)))) = 6 then (bd1 (X11_isCookCount Y a3) <| fun r29 => gd (decide (r29 = 0 ∨ r29 = 1)) <| some r29) else (if (sSw (ix ((Int32.ofNat w1)))) = 7 then (bd1 (X11_isDuration Y a3) <| fun r33 => gd (decide (r33 = 0 ∨ r33 = 1)) <| some r33) else (bd1 (X3_servingObstacle Y 0) <| fun r36 => if r36 = 0 then (some 1) else (some 0))))))))
section
variable {p : Program} {l : Launch} {e : Env} {s : State} {m : MethodId} {below : List Frame} {meth : Method} {c : Code} {N0 : Nat} {T : Nat → ClassId} {D : va_G} {gr : List (Nat × Nat)} {ad : Nat → Nat → Nat → Nat}
set_option maxRecDepth 100000 in
set_option maxHeartbeats 4000000 in
theorem w_X11_isAllowed {Y : Mem} {w1 : Nat} {a2 : Int32} {a3 : Int32} (C : Cx p s m [.ref (ad 0 0 0), .ref (ad 20 w1 0), .int a2, .int a3].toArray meth c cX11_isAllowed 4 wsX11_isAllowed RX11 N0 T D gr ad) (hrt : meth.sig.returnType = (some .boolean)) (hG : ∀ q ∈ ([(0, 0), (2, 0), (1, 0)] ++ allG), q ∈ gr) {res : Int32} (h : X11_isAllowed Y w1 a2 a3 = some res) : FW p l e (Rm 3) s m [.ref (ad 0 0 0), .ref (ad 20 w1 0), .int a2, .int a3].toArray below meth c 4 N0 T D gr ad 0 0 (MQ below (va_Qi (fun r Y1 => r = res ∧ Y1 = Y) (WB T D gr ad) (fun q => N0 ≤ q)) [.ref (ad 0 0 0), .ref (ad 20 w1 0), .int a2, .int a3].toArray s 0 0 (fun q => N0 ≤ q)) Y 0 [(0, .ref (ad 0 0 0)), (1, .ref (ad 20 w1 0)), (2, .int a2), (3, .int a3)] [] := by
  unfold X11_isAllowed at h
  refine fw_gets C (v := .ref (ad 25 0 0)) (cx_st C).2.2.2.2.1.1 (cx_ts C _ fl_X11_isAllowed_439) (fun _ h => h) dX11_isAllowed_0 ?_
  refine fw_aload_n C dX11_isAllowed_3 rfl 1 rfl ?_
  obtain ⟨b1, h⟩ := gd_some h
  have b1 := of_decide_eq_true b1
  refine fw_callUi C (Cn := RX1) (As := []) (c_ordinal ga0 b1) (va_cwU 0 (cx_ts C) gX11_isAllowed_Jx29ce0_ordinal_8abf5_u444X1 rfl rfl rfl rfl (by decide +kernel) ⟨Nat.le_of_ble_eq_true rfl, Nat.le_of_ble_eq_true rfl⟩) ((cx_st C).2.2.1 _ b1).1 rfl (st := [.ref (ad 25 0 0)]) rfl (Nat.le_of_ble_eq_true rfl) ⟨Nat.le_refl 0, Nat.le_refl 0⟩ dX11_isAllowed_4 ?_
  rintro _ _ ⟨rfl, rfl⟩
  obtain ⟨b2, h⟩ := gd_some h
  refine fw_ti C (cx_st C).2.2.2.2.1.2 b2 (v := .int (sSw (ix ((Int32.ofNat w1))))) rfl dX11_isAllowed_7 ?_
  by_cases c3 : (sSw (ix ((Int32.ofNat w1)))) = 1
  · have h := ite_t c3 h
    refine fw_tableIn C dX11_isAllowed_8 (by rw [c3]; decide) (by rw [c3]; decide) (off := 44) (by rw [c3]; rfl) (tgt := 52) rfl ?_
    refine fw_aload_n C dX11_isAllowed_52 rfl 0 rfl ?_
    refine fw_iload_n C dX11_isAllowed_53 rfl 3 rfl ?_
    obtain ⟨r4, q5, h⟩ := bd1_some h
    refine fw_callVi C (ci := 9) (Cn := RX11) (Tc := TX11) (N := 11) (As := [.int a3]) (c_X11_isPassLength ga0 q5) (cwV 1 (cx_ts C) gX11_isAllowed_X11_isPassLength rfl rfl rfl (by decide +kernel) ⟨Nat.le_of_ble_eq_true rfl, Nat.le_of_ble_eq_true rfl⟩) rfl (hG _ (List.mem_of_getElem? (i := 0) rfl)) (of0_0 _) (ce0 T ad _ _) rfl (st := []) rfl (Nat.le_of_ble_eq_true rfl) ⟨Nat.le_refl 0, Nat.le_refl 0⟩ dX11_isAllowed_54 ?_
    rintro _ _ ⟨rfl, rfl⟩
    refine fw_if_eq C dX11_isAllowed_57 (tgt := 72) rfl (fun c6 => ?_) (fun c6 => ?_)
    · have h := ite_t c6 h
      refine fw_iconst C dX11_isAllowed_72 (v := 0) rfl ?_
      exact fw_zret C hrt (by decide) Y ⟨Option.some.inj h, rfl⟩ (fun t ht => ht) dX11_isAllowed_73
    · have h := ite_f c6 h
      refine fw_aload_n C dX11_isAllowed_60 rfl 0 rfl ?_
      refine fw_iload_n C dX11_isAllowed_61 rfl 3 rfl ?_
      obtain ⟨r7, q8, h⟩ := bd1_some h
      refine fw_callVi C (ci := 9) (Cn := RX11) (Tc := TX11) (N := 11) (As := [.int a3]) (c_X11_fitsClock (gac (hG _ (List.mem_of_getElem? (i := 0) rfl)) (gac (hG _ (List.mem_of_getElem? (i := 2) rfl)) (gac (hG _ (List.mem_of_getElem? (i := 1) rfl)) ga0))) q8) (cwV 1 (cx_ts C) gX11_isAllowed_X11_fitsClock rfl rfl rfl (by decide +kernel) ⟨Nat.le_of_ble_eq_true rfl, Nat.le_of_ble_eq_true rfl⟩) rfl (hG _ (List.mem_of_getElem? (i := 0) rfl)) (of0_0 _) (ce0 T ad _ _) rfl (st := []) rfl (Nat.le_of_ble_eq_true rfl) ⟨Nat.le_refl 0, Nat.le_refl 0⟩ dX11_isAllowed_62 ?_
      rintro _ _ ⟨rfl, rfl⟩
      refine fw_if_eq C dX11_isAllowed_65 (tgt := 72) rfl (fun c9 => ?_) (fun c9 => ?_)
      · have h := ite_t c9 h
        refine fw_iconst C dX11_isAllowed_72 (v := 0) rfl ?_
        exact fw_zret C hrt (by decide) Y ⟨Option.some.inj h, rfl⟩ (fun t ht => ht) dX11_isAllowed_73
      · have h := ite_f c9 h
        refine fw_iconst C dX11_isAllowed_68 (v := 1) rfl ?_
        refine fw_goto C dX11_isAllowed_69 (tgt := 73) rfl ?_
        exact fw_zret C hrt (by decide) Y ⟨Option.some.inj h, rfl⟩ (fun t ht => ht) dX11_isAllowed_73
  · have h := ite_f c3 h
    by_cases c10 : (sSw (ix ((Int32.ofNat w1)))) = 2
    · have h := ite_t c10 h
      refine fw_tableIn C dX11_isAllowed_8 (by rw [c10]; decide) (by rw [c10]; decide) (off := 66) (by rw [c10]; rfl) (tgt := 74) rfl ?_
      refine fw_aload_n C dX11_isAllowed_74 rfl 0 rfl ?_
      refine fw_iload_n C dX11_isAllowed_75 rfl 3 rfl ?_
      obtain ⟨r11, q12, h⟩ := bd1_some h
      refine fw_callVi C (ci := 9) (Cn := RX11) (Tc := TX11) (N := 11) (As := [.int a3]) (c_X11_isSaltAmount ga0 q12) (cwV 1 (cx_ts C) gX11_isAllowed_X11_isSaltAmount rfl rfl rfl (by decide +kernel) ⟨Nat.le_of_ble_eq_true rfl, Nat.le_of_ble_eq_true rfl⟩) rfl (hG _ (List.mem_of_getElem? (i := 0) rfl)) (of0_0 _) (ce0 T ad _ _) rfl (st := []) rfl (Nat.le_of_ble_eq_true rfl) ⟨Nat.le_refl 0, Nat.le_refl 0⟩ dX11_isAllowed_76 ?_
      rintro _ _ ⟨rfl, rfl⟩
      refine fw_if_eq C dX11_isAllowed_79 (tgt := 99) rfl (fun c13 => ?_) (fun c13 => ?_)
      · have h := ite_t c13 h
        refine fw_iconst C dX11_isAllowed_99 (v := 0) rfl ?_
        exact fw_zret C hrt (by decide) Y ⟨Option.some.inj h, rfl⟩ (fun t ht => ht) dX11_isAllowed_100
      · have h := ite_f c13 h
        refine fw_aload_n C dX11_isAllowed_82 rfl 0 rfl ?_
        refine fw_get C (ci := 9) (Cn := RX11) (Tc := TX11) (N := 11) (j := 5) ly_X11_isAllowed_11 rfl (hG _ (List.mem_of_getElem? (i := 0) rfl)) (of0_0 _) (ce0 T ad _ _) (by decide) (cx_ts C _ fl_X11_isAllowed_67) (fun _ h => h) (v := .ref (ad 1 0 0)) rfl dX11_isAllowed_83 ?_
        refine fw_getN C (ci := 1) (Cn := RX3) (Tc := TX3) (N := 5) (j := 1) ly_X11_isAllowed_3 rfl (hG _ (List.mem_of_getElem? (i := 2) rfl)) (of1_0 _) (ce1 T ad _ _) (by decide) (Nst_use (cx_nst C) (w := .fieldLinkNest RX11 139 "RecipeScheduler$Kitchen" "state" "LRecipeScheduler$State;" "RecipeScheduler") 518 (by decide +kernel) rfl) (fun _ h => h) (v := .ref (ad 2 0 0)) rfl dX11_isAllowed_86 ?_
        refine fw_getN C (ci := 6) (Cn := RX8) (Tc := TX8) (N := 15) (j := 5) ly_X11_isAllowed_8 rfl (hG _ (List.mem_of_getElem? (i := 1) rfl)) (of2_0 _) (ce2 T ad _ _) (by decide) (Nst_use (cx_nst C) (w := .fieldLinkNest RX11 347 "RecipeScheduler$State" "served" "Z" "RecipeScheduler") 450 (by decide +kernel) rfl) (fun _ h => h) (v := .int (Y 2 0 0 5)) rfl dX11_isAllowed_89 ?_
        refine fw_if_ne C dX11_isAllowed_92 (tgt := 99) rfl (fun c14 => ?_) (fun c14 => ?_)
        · have h := ite_f c14 h
          refine fw_iconst C dX11_isAllowed_99 (v := 0) rfl ?_
          exact fw_zret C hrt (by decide) Y ⟨Option.some.inj h, rfl⟩ (fun t ht => ht) dX11_isAllowed_100
        · have h := ite_t c14 h
          refine fw_iconst C dX11_isAllowed_95 (v := 1) rfl ?_
          refine fw_goto C dX11_isAllowed_96 (tgt := 100) rfl ?_
          exact fw_zret C hrt (by decide) Y ⟨Option.some.inj h, rfl⟩ (fun t ht => ht) dX11_isAllowed_100
    · have h := ite_f c10 h
      by_cases c15 : (sSw (ix ((Int32.ofNat w1)))) = 3
      · have h := ite_t c15 h
        refine fw_tableIn C dX11_isAllowed_8 (by rw [c15]; decide) (by rw [c15]; decide) (off := 66) (by rw [c15]; rfl) (tgt := 74) rfl ?_
        refine fw_aload_n C dX11_isAllowed_74 rfl 0 rfl ?_
        refine fw_iload_n C dX11_isAllowed_75 rfl 3 rfl ?_
        obtain ⟨r16, q17, h⟩ := bd1_some h
        refine fw_callVi C (ci := 9) (Cn := RX11) (Tc := TX11) (N := 11) (As := [.int a3]) (c_X11_isSaltAmount ga0 q17) (cwV 1 (cx_ts C) gX11_isAllowed_X11_isSaltAmount rfl rfl rfl (by decide +kernel) ⟨Nat.le_of_ble_eq_true rfl, Nat.le_of_ble_eq_true rfl⟩) rfl (hG _ (List.mem_of_getElem? (i := 0) rfl)) (of0_0 _) (ce0 T ad _ _) rfl (st := []) rfl (Nat.le_of_ble_eq_true rfl) ⟨Nat.le_refl 0, Nat.le_refl 0⟩ dX11_isAllowed_76 ?_
        rintro _ _ ⟨rfl, rfl⟩
        refine fw_if_eq C dX11_isAllowed_79 (tgt := 99) rfl (fun c18 => ?_) (fun c18 => ?_)
        · have h := ite_t c18 h
          refine fw_iconst C dX11_isAllowed_99 (v := 0) rfl ?_
          exact fw_zret C hrt (by decide) Y ⟨Option.some.inj h, rfl⟩ (fun t ht => ht) dX11_isAllowed_100
        · have h := ite_f c18 h
          refine fw_aload_n C dX11_isAllowed_82 rfl 0 rfl ?_
          refine fw_get C (ci := 9) (Cn := RX11) (Tc := TX11) (N := 11) (j := 5) ly_X11_isAllowed_11 rfl (hG _ (List.mem_of_getElem? (i := 0) rfl)) (of0_0 _) (ce0 T ad _ _) (by decide) (cx_ts C _ fl_X11_isAllowed_67) (fun _ h => h) (v := .ref (ad 1 0 0)) rfl dX11_isAllowed_83 ?_
          refine fw_getN C (ci := 1) (Cn := RX3) (Tc := TX3) (N := 5) (j := 1) ly_X11_isAllowed_3 rfl (hG _ (List.mem_of_getElem? (i := 2) rfl)) (of1_0 _) (ce1 T ad _ _) (by decide) (Nst_use (cx_nst C) (w := .fieldLinkNest RX11 139 "RecipeScheduler$Kitchen" "state" "LRecipeScheduler$State;" "RecipeScheduler") 518 (by decide +kernel) rfl) (fun _ h => h) (v := .ref (ad 2 0 0)) rfl dX11_isAllowed_86 ?_
          refine fw_getN C (ci := 6) (Cn := RX8) (Tc := TX8) (N := 15) (j := 5) ly_X11_isAllowed_8 rfl (hG _ (List.mem_of_getElem? (i := 1) rfl)) (of2_0 _) (ce2 T ad _ _) (by decide) (Nst_use (cx_nst C) (w := .fieldLinkNest RX11 347 "RecipeScheduler$State" "served" "Z" "RecipeScheduler") 450 (by decide +kernel) rfl) (fun _ h => h) (v := .int (Y 2 0 0 5)) rfl dX11_isAllowed_89 ?_
          refine fw_if_ne C dX11_isAllowed_92 (tgt := 99) rfl (fun c19 => ?_) (fun c19 => ?_)
          · have h := ite_f c19 h
            refine fw_iconst C dX11_isAllowed_99 (v := 0) rfl ?_
            exact fw_zret C hrt (by decide) Y ⟨Option.some.inj h, rfl⟩ (fun t ht => ht) dX11_isAllowed_100
          · have h := ite_t c19 h
            refine fw_iconst C dX11_isAllowed_95 (v := 1) rfl ?_
            refine fw_goto C dX11_isAllowed_96 (tgt := 100) rfl ?_
            exact fw_zret C hrt (by decide) Y ⟨Option.some.inj h, rfl⟩ (fun t ht => ht) dX11_isAllowed_100
      · have h := ite_f c15 h
        by_cases c20 : (sSw (ix ((Int32.ofNat w1)))) = 4
        · have h := ite_t c20 h
          refine fw_tableIn C dX11_isAllowed_8 (by rw [c20]; decide) (by rw [c20]; decide) (off := 93) (by rw [c20]; rfl) (tgt := 101) rfl ?_
          refine fw_aload_n C dX11_isAllowed_101 rfl 0 rfl ?_
          refine fw_get C (ci := 9) (Cn := RX11) (Tc := TX11) (N := 11) (j := 5) ly_X11_isAllowed_11 rfl (hG _ (List.mem_of_getElem? (i := 0) rfl)) (of0_0 _) (ce0 T ad _ _) (by decide) (cx_ts C _ fl_X11_isAllowed_67) (fun _ h => h) (v := .ref (ad 1 0 0)) rfl dX11_isAllowed_102 ?_
          refine fw_getN C (ci := 1) (Cn := RX3) (Tc := TX3) (N := 5) (j := 1) ly_X11_isAllowed_3 rfl (hG _ (List.mem_of_getElem? (i := 2) rfl)) (of1_0 _) (ce1 T ad _ _) (by decide) (Nst_use (cx_nst C) (w := .fieldLinkNest RX11 139 "RecipeScheduler$Kitchen" "state" "LRecipeScheduler$State;" "RecipeScheduler") 518 (by decide +kernel) rfl) (fun _ h => h) (v := .ref (ad 2 0 0)) rfl dX11_isAllowed_105 ?_
          refine fw_getN C (ci := 6) (Cn := RX8) (Tc := TX8) (N := 15) (j := 6) ly_X11_isAllowed_8 rfl (hG _ (List.mem_of_getElem? (i := 1) rfl)) (of2_0 _) (ce2 T ad _ _) (by decide) (Nst_use (cx_nst C) (w := .fieldLinkNest RX11 321 "RecipeScheduler$State" "running" "I" "RecipeScheduler") 453 (by decide +kernel) rfl) (fun _ h => h) (v := .int (Y 2 0 0 6)) rfl dX11_isAllowed_108 ?_
          refine fw_iload_n C dX11_isAllowed_111 rfl 2 rfl ?_
          obtain ⟨r21, q22, h⟩ := bd1_some h
          refine fw_callSi C (As := [.int (Y 2 0 0 6), .int a2]) (c_X11_contains ga0 q22) (va_cwS 2 (cx_ts C) gX11_isAllowed_X11_contains rfl rfl rfl (by decide +kernel) ⟨Nat.le_of_ble_eq_true rfl, Nat.le_of_ble_eq_true rfl⟩) rfl (st := []) rfl (Nat.le_of_ble_eq_true rfl) ⟨Nat.le_refl 0, Nat.le_refl 0⟩ dX11_isAllowed_112 ?_
          rintro _ _ ⟨rfl, rfl⟩
          obtain ⟨b23, h⟩ := gd_some h
          exact fw_zret C hrt (of_decide_eq_true b23) Y ⟨Option.some.inj h, rfl⟩ (fun t ht => ht) dX11_isAllowed_115
        · have h := ite_f c20 h
          by_cases c24 : (sSw (ix ((Int32.ofNat w1)))) = 5
          · have h := ite_t c24 h
            refine fw_tableIn C dX11_isAllowed_8 (by rw [c24]; decide) (by rw [c24]; decide) (off := 108) (by rw [c24]; rfl) (tgt := 116) rfl ?_
            refine fw_aload_n C dX11_isAllowed_116 rfl 0 rfl ?_
            refine fw_get C (ci := 9) (Cn := RX11) (Tc := TX11) (N := 11) (j := 5) ly_X11_isAllowed_11 rfl (hG _ (List.mem_of_getElem? (i := 0) rfl)) (of0_0 _) (ce0 T ad _ _) (by decide) (cx_ts C _ fl_X11_isAllowed_67) (fun _ h => h) (v := .ref (ad 1 0 0)) rfl dX11_isAllowed_117 ?_
            refine fw_iload_n C dX11_isAllowed_120 rfl 2 rfl ?_
            obtain ⟨r25, q26, h⟩ := bd1_some h
            refine fw_callVi C (ci := 1) (Cn := RX3) (Tc := TX3) (N := 5) (As := [.int a2]) (c_X3_isRedoable (gac (hG _ (List.mem_of_getElem? (i := 2) rfl)) (gac (hG _ (List.mem_of_getElem? (i := 1) rfl)) (fun q hq => hG q (List.mem_append_right _ hq)))) q26) (cwV 1 (cx_ts C) gX11_isAllowed_X3_isRedoable rfl rfl rfl (by decide +kernel) ⟨Nat.le_of_ble_eq_true rfl, Nat.le_of_ble_eq_true rfl⟩) rfl (hG _ (List.mem_of_getElem? (i := 2) rfl)) (of1_0 _) (ce1 T ad _ _) rfl (st := []) rfl (Nat.le_of_ble_eq_true rfl) ⟨Nat.le_refl 0, Nat.le_refl 0⟩ dX11_isAllowed_121 ?_
            rintro _ _ ⟨rfl, rfl⟩
            obtain ⟨b27, h⟩ := gd_some h
            exact fw_zret C hrt (of_decide_eq_true b27) Y ⟨Option.some.inj h, rfl⟩ (fun t ht => ht) dX11_isAllowed_124
          · have h := ite_f c24 h
            by_cases c28 : (sSw (ix ((Int32.ofNat w1)))) = 6
            · have h := ite_t c28 h
              refine fw_tableIn C dX11_isAllowed_8 (by rw [c28]; decide) (by rw [c28]; decide) (off := 117) (by rw [c28]; rfl) (tgt := 125) rfl ?_
              refine fw_aload_n C dX11_isAllowed_125 rfl 0 rfl ?_
              refine fw_iload_n C dX11_isAllowed_126 rfl 3 rfl ?_
              obtain ⟨r29, q30, h⟩ := bd1_some h
              refine fw_callVi C (ci := 9) (Cn := RX11) (Tc := TX11) (N := 11) (As := [.int a3]) (c_X11_isCookCount ga0 q30) (cwV 1 (cx_ts C) gX11_isAllowed_X11_isCookCount rfl rfl rfl (by decide +kernel) ⟨Nat.le_of_ble_eq_true rfl, Nat.le_of_ble_eq_true rfl⟩) rfl (hG _ (List.mem_of_getElem? (i := 0) rfl)) (of0_0 _) (ce0 T ad _ _) rfl (st := []) rfl (Nat.le_of_ble_eq_true rfl) ⟨Nat.le_refl 0, Nat.le_refl 0⟩ dX11_isAllowed_127 ?_
              rintro _ _ ⟨rfl, rfl⟩
              obtain ⟨b31, h⟩ := gd_some h
              exact fw_zret C hrt (of_decide_eq_true b31) Y ⟨Option.some.inj h, rfl⟩ (fun t ht => ht) dX11_isAllowed_130
            · have h := ite_f c28 h
              by_cases c32 : (sSw (ix ((Int32.ofNat w1)))) = 7
              · have h := ite_t c32 h
                refine fw_tableIn C dX11_isAllowed_8 (by rw [c32]; decide) (by rw [c32]; decide) (off := 123) (by rw [c32]; rfl) (tgt := 131) rfl ?_
                refine fw_aload_n C dX11_isAllowed_131 rfl 0 rfl ?_
                refine fw_iload_n C dX11_isAllowed_132 rfl 3 rfl ?_
                obtain ⟨r33, q34, h⟩ := bd1_some h
                refine fw_callVi C (ci := 9) (Cn := RX11) (Tc := TX11) (N := 11) (As := [.int a3]) (c_X11_isDuration ga0 q34) (cwV 1 (cx_ts C) gX11_isAllowed_X11_isDuration rfl rfl rfl (by decide +kernel) ⟨Nat.le_of_ble_eq_true rfl, Nat.le_of_ble_eq_true rfl⟩) rfl (hG _ (List.mem_of_getElem? (i := 0) rfl)) (of0_0 _) (ce0 T ad _ _) rfl (st := []) rfl (Nat.le_of_ble_eq_true rfl) ⟨Nat.le_refl 0, Nat.le_refl 0⟩ dX11_isAllowed_133 ?_
                rintro _ _ ⟨rfl, rfl⟩
                obtain ⟨b35, h⟩ := gd_some h
                exact fw_zret C hrt (of_decide_eq_true b35) Y ⟨Option.some.inj h, rfl⟩ (fun t ht => ht) dX11_isAllowed_136
              · have h := ite_f c32 h
                have c3 : ¬ ((sSw (ix ((Int32.ofNat w1))))).toInt = 1 := fun q => c3 (Int32.toInt_inj.mp (by rw [q]; rfl))
                have c10 : ¬ ((sSw (ix ((Int32.ofNat w1))))).toInt = 2 := fun q => c10 (Int32.toInt_inj.mp (by rw [q]; rfl))
                have c15 : ¬ ((sSw (ix ((Int32.ofNat w1))))).toInt = 3 := fun q => c15 (Int32.toInt_inj.mp (by rw [q]; rfl))
                have c20 : ¬ ((sSw (ix ((Int32.ofNat w1))))).toInt = 4 := fun q => c20 (Int32.toInt_inj.mp (by rw [q]; rfl))
                have c24 : ¬ ((sSw (ix ((Int32.ofNat w1))))).toInt = 5 := fun q => c24 (Int32.toInt_inj.mp (by rw [q]; rfl))
                have c28 : ¬ ((sSw (ix ((Int32.ofNat w1))))).toInt = 6 := fun q => c28 (Int32.toInt_inj.mp (by rw [q]; rfl))
                have c32 : ¬ ((sSw (ix ((Int32.ofNat w1))))).toInt = 7 := fun q => c32 (Int32.toInt_inj.mp (by rw [q]; rfl))
                refine fw_tableOut C dX11_isAllowed_8 (by omega) (tgt := 137) rfl ?_
                refine fw_aload_n C dX11_isAllowed_137 rfl 0 rfl ?_
                refine fw_get C (ci := 9) (Cn := RX11) (Tc := TX11) (N := 11) (j := 5) ly_X11_isAllowed_11 rfl (hG _ (List.mem_of_getElem? (i := 0) rfl)) (of0_0 _) (ce0 T ad _ _) (by decide) (cx_ts C _ fl_X11_isAllowed_67) (fun _ h => h) (v := .ref (ad 1 0 0)) rfl dX11_isAllowed_138 ?_
                obtain ⟨r36, q37, h⟩ := bd1_some h
                refine fw_callVi C (ci := 1) (Cn := RX3) (Tc := TX3) (N := 5) (As := []) (c_X3_servingObstacle (gac (hG _ (List.mem_of_getElem? (i := 2) rfl)) (gac (hG _ (List.mem_of_getElem? (i := 1) rfl)) (fun q hq => hG q (List.mem_append_right _ hq)))) q37) (cwV 0 (cx_ts C) gX11_isAllowed_X3_servingObstacle rfl rfl rfl (by decide +kernel) ⟨Nat.le_of_ble_eq_true rfl, Nat.le_of_ble_eq_true rfl⟩) rfl (hG _ (List.mem_of_getElem? (i := 2) rfl)) (of1_0 _) (ce1 T ad _ _) rfl (st := []) rfl (Nat.le_of_ble_eq_true rfl) ⟨Nat.le_refl 0, Nat.le_refl 0⟩ dX11_isAllowed_141 ?_
                rintro _ _ ⟨rfl, rfl⟩
                refine fw_if_ne C dX11_isAllowed_144 (tgt := 151) rfl (fun c38 => ?_) (fun c38 => ?_)
                · have h := ite_f c38 h
                  refine fw_iconst C dX11_isAllowed_151 (v := 0) rfl ?_
                  exact fw_zret C hrt (by decide) Y ⟨Option.some.inj h, rfl⟩ (fun t ht => ht) dX11_isAllowed_152
                · have h := ite_t c38 h
                  refine fw_iconst C dX11_isAllowed_147 (v := 1) rfl ?_
                  refine fw_goto C dX11_isAllowed_148 (tgt := 152) rfl ?_
                  exact fw_zret C hrt (by decide) Y ⟨Option.some.inj h, rfl⟩ (fun t ht => ht) dX11_isAllowed_152
end
set_option maxRecDepth 100000 in
set_option maxHeartbeats 4000000 in
theorem c_X11_isAllowed {l : Launch} {N0 : Nat} {T : Nat → ClassId} {D : va_G} {gr : List (Nat × Nat)} {ad : Nat → Nat → Nat → Nat} {Y : Mem} {w1 : Nat} {a2 : Int32} {a3 : Int32} {res : Int32} (hG : ∀ q ∈ ([(0, 0), (2, 0), (1, 0)] ++ allG), q ∈ gr) (h : X11_isAllowed Y w1 a2 a3 = some res) : CI l yX11_isAllowed wsX11_isAllowed (Rm 3) N0 T D gr ad Y [.ref (ad 0 0 0), .ref (ad 20 w1 0), .int a2, .int a3] (fun r Y1 => r = res ∧ Y1 = Y) :=
  fw_body (by decide +kernel) rfl (Nat.le_of_ble_eq_true rfl) (fun p e s m below meth c C hrt => w_X11_isAllowed C hrt hG  h)
theorem ly_X11_isHot_11 : ∀ w ∈ u_ws RX11 TX11 11, w ∈ wsX11_isHot := by decide +kernel
theorem fl_X11_isHot_67 : Cond.fieldLink RX11 67 "RecipeScheduler" "now" "LRecipeScheduler$Kitchen;" ∈ wsX11_isHot := by decide +kernel
theorem ly_X11_isHot_3 : ∀ w ∈ u_ws RX3 TX3 5, w ∈ wsX11_isHot := by decide +kernel
theorem ly_X11_isHot_5 : ∀ w ∈ u_ws RX5 TX5 17, w ∈ wsX11_isHot := by decide +kernel
noncomputable def X11_isHot (Y : Mem) (a1 : Int32) : Option ((Nat × Mem) ⊕ (Int32 × Mem)) :=
  bdxv (X11_requireStep Y a1) <| fun Y4 => gd (decide ((Y4 1 0 0 0).toNatClampNeg < 2)) <| bd1 (X11_contains Y4 (Y4 3 ((Y4 1 0 0 0).toNatClampNeg) 0 15) a1) <| fun r8 => gd (decide (r8 = 0 ∨ r8 = 1)) <| some (.inr (r8, Y4))
section
variable {p : Program} {l : Launch} {e : Env} {s : State} {m : MethodId} {below : List Frame} {meth : Method} {c : Code} {N0 : Nat} {T : Nat → ClassId} {D : va_G} {gr : List (Nat × Nat)} {ad : Nat → Nat → Nat → Nat}
set_option maxRecDepth 100000 in
set_option maxHeartbeats 4000000 in
theorem w_X11_isHot {Y : Mem} {a1 : Int32} (C : Cx p s m [.ref (ad 0 0 0), .int a1].toArray meth c cX11_isHot 2 wsX11_isHot RX11 N0 T D gr ad) (hrt : meth.sig.returnType = (some .boolean)) (hG : ∀ q ∈ ([(1, 0), (0, 0)] ++ allG), q ∈ gr) (hl : l.stackTraces = false) (hX : ∀ x ∈ c.exceptionTable.toList, False) {res : (Nat × Mem) ⊕ (Int32 × Mem)} (h : X11_isHot Y a1 = some res) : FW p l e (Rx 7 1) s m [.ref (ad 0 0 0), .int a1].toArray below meth c 2 N0 T D gr ad 0 0 (vx_MQ below (va_Qi (fun r Y1 => Sum.inr (r, Y1) = res) (WB T D gr ad) (fun q => N0 ≤ q)) (vx_X (fun u => Sum.inl u = res) (XB T D gr ad) (fun q => N0 ≤ q)) [.ref (ad 0 0 0), .int a1].toArray s 1 6 (fun q => N0 ≤ q)) Y 0 [(0, .ref (ad 0 0 0)), (1, .int a1)] [] := by
  unfold X11_isHot at h
  refine fw_aload_n C dX11_isHot_0 rfl 0 rfl ?_
  refine fw_iload_n C dX11_isHot_1 rfl 1 rfl ?_
  rcases bdxv_some h with ⟨x5, q2, e6⟩ | ⟨Y4, q2, h⟩
  · exact fw_callXVv_l C (ci := 9) (Cn := RX11) (Tc := TX11) (N := 11) (As := [.int a1]) (c_X11_requireStep hl (gac (hG _ (List.mem_of_getElem? (i := 1) rfl)) (gac (hG _ (List.mem_of_getElem? (i := 0) rfl)) (fun q hq => hG q (List.mem_append_right _ hq)))) q2) (cwV 1 (cx_ts C) gX11_isHot_X11_requireStep rfl rfl rfl (by decide +kernel) ⟨Nat.le_of_ble_eq_true rfl, Nat.le_of_ble_eq_true rfl⟩) rfl (hG _ (List.mem_of_getElem? (i := 1) rfl)) (of0_0 _) (ce0 T ad _ _) rfl (st := []) rfl (Nat.le_of_ble_eq_true rfl) ⟨Nat.le_of_ble_eq_true rfl, Nat.le_of_ble_eq_true rfl⟩ dX11_isHot_2 hX e6 (Nat.le_of_ble_eq_true rfl) (Nat.le_of_ble_eq_true rfl)
  refine fw_callXVv_r C (ci := 9) (Cn := RX11) (Tc := TX11) (N := 11) (As := [.int a1]) (c_X11_requireStep hl (gac (hG _ (List.mem_of_getElem? (i := 1) rfl)) (gac (hG _ (List.mem_of_getElem? (i := 0) rfl)) (fun q hq => hG q (List.mem_append_right _ hq)))) q2) (cwV 1 (cx_ts C) gX11_isHot_X11_requireStep rfl rfl rfl (by decide +kernel) ⟨Nat.le_of_ble_eq_true rfl, Nat.le_of_ble_eq_true rfl⟩) rfl (hG _ (List.mem_of_getElem? (i := 1) rfl)) (of0_0 _) (ce0 T ad _ _) rfl (st := []) rfl (Nat.le_of_ble_eq_true rfl) ⟨Nat.le_of_ble_eq_true rfl, Nat.le_of_ble_eq_true rfl⟩ dX11_isHot_2 ?_
  refine fw_aload_n C dX11_isHot_5 rfl 0 rfl ?_
  refine fw_get C (ci := 9) (Cn := RX11) (Tc := TX11) (N := 11) (j := 5) ly_X11_isHot_11 rfl (hG _ (List.mem_of_getElem? (i := 1) rfl)) (of0_0 _) (ce0 T ad _ _) (by decide) (cx_ts C _ fl_X11_isHot_67) (fun _ h => h) (v := .ref (ad 1 0 0)) rfl dX11_isHot_6 ?_
  refine fw_getN C (ci := 1) (Cn := RX3) (Tc := TX3) (N := 5) (j := 0) ly_X11_isHot_3 rfl (hG _ (List.mem_of_getElem? (i := 0) rfl)) (of1_0 _) (ce1 T ad _ _) (by decide) (Nst_use (cx_nst C) (w := .fieldLinkNest RX11 117 "RecipeScheduler$Kitchen" "recipe" "LRecipeScheduler$Recipe;" "RecipeScheduler") 516 (by decide +kernel) rfl) (fun _ h => h) (v := .ref (ad 3 ((Y4 1 0 0 0).toNatClampNeg) 0)) rfl dX11_isHot_9 ?_
  obtain ⟨b7, h⟩ := gd_some h
  have b7 := of_decide_eq_true b7
  refine fw_getN C (ci := 3) (Cn := RX5) (Tc := TX5) (N := 17) (j := 15) ly_X11_isHot_5 rfl ((fun q hq => hG q (List.mem_append_right _ hq)) _ (allG_3 b7)) (of3_0 _) (ce3 T ad _ _) (by decide) (Nst_use (cx_nst C) (w := .fieldLinkNest RX11 205 "RecipeScheduler$Recipe" "hot" "I" "RecipeScheduler") 176 (by decide +kernel) rfl) (fun _ h => h) (v := .int (Y4 3 ((Y4 1 0 0 0).toNatClampNeg) 0 15)) rfl dX11_isHot_12 ?_
  refine fw_iload_n C dX11_isHot_15 rfl 1 rfl ?_
  obtain ⟨r8, q9, h⟩ := bd1_some h
  refine fw_callSi C (As := [.int (Y4 3 ((Y4 1 0 0 0).toNatClampNeg) 0 15), .int a1]) (c_X11_contains ga0 q9) (va_cwS 2 (cx_ts C) gX11_isHot_X11_contains rfl rfl rfl (by decide +kernel) ⟨Nat.le_of_ble_eq_true rfl, Nat.le_of_ble_eq_true rfl⟩) rfl (st := []) rfl (Nat.le_of_ble_eq_true rfl) ⟨Nat.le_refl 0, Nat.le_refl 0⟩ dX11_isHot_16 ?_
  rintro _ _ ⟨rfl, rfl⟩
  refine fw_xr (Nat.le_of_ble_eq_true rfl) (Nat.le_of_ble_eq_true rfl) ?_
  obtain ⟨b10, h⟩ := gd_some h
  exact fw_zret C hrt (of_decide_eq_true b10) Y4 (Option.some.inj h) (fun t ht => ht) dX11_isHot_19
end
set_option maxRecDepth 100000 in
set_option maxHeartbeats 4000000 in
theorem c_X11_isHot {l : Launch} {N0 : Nat} {T : Nat → ClassId} {D : va_G} {gr : List (Nat × Nat)} {ad : Nat → Nat → Nat → Nat} {Y : Mem} {a1 : Int32} {res : (Nat × Mem) ⊕ (Int32 × Mem)} (hl : l.stackTraces = false) (hG : ∀ q ∈ ([(1, 0), (0, 0)] ++ allG), q ∈ gr) (h : X11_isHot Y a1 = some res) : CXi l yX11_isHot wsX11_isHot (Rx 7 1) N0 T D gr ad Y [.ref (ad 0 0 0), .int a1] 1 res :=
  fw_xbody (by decide +kernel) rfl (Nat.le_of_ble_eq_true rfl) (fun p e s m below meth c C hrt hX => w_X11_isHot C hrt hG hl hX h)
theorem ly_X11_isTakenUp_11 : ∀ w ∈ u_ws RX11 TX11 11, w ∈ wsX11_isTakenUp := by decide +kernel
theorem fl_X11_isTakenUp_67 : Cond.fieldLink RX11 67 "RecipeScheduler" "now" "LRecipeScheduler$Kitchen;" ∈ wsX11_isTakenUp := by decide +kernel
theorem ly_X11_isTakenUp_3 : ∀ w ∈ u_ws RX3 TX3 5, w ∈ wsX11_isTakenUp := by decide +kernel
theorem ly_X11_isTakenUp_8 : ∀ w ∈ u_ws RX8 TX8 15, w ∈ wsX11_isTakenUp := by decide +kernel
noncomputable def X11_isTakenUp (Y : Mem) (a1 : Int32) : Option ((Nat × Mem) ⊕ (Int32 × Mem)) :=
  bdxv (X11_requireStep Y a1) <| fun Y4 => bd1 (X11_contains Y4 (Y4 2 0 0 7) a1) <| fun r7 => if r7 = 0 then (some (.inr (0, Y4))) else (bd1 (X3_isContinued Y4 0 a1) <| fun r10 => if r10 = 0 then (some (.inr (0, Y4))) else (some (.inr (1, Y4))))
section
variable {p : Program} {l : Launch} {e : Env} {s : State} {m : MethodId} {below : List Frame} {meth : Method} {c : Code} {N0 : Nat} {T : Nat → ClassId} {D : va_G} {gr : List (Nat × Nat)} {ad : Nat → Nat → Nat → Nat}
set_option maxRecDepth 100000 in
set_option maxHeartbeats 4000000 in
theorem w_X11_isTakenUp {Y : Mem} {a1 : Int32} (C : Cx p s m [.ref (ad 0 0 0), .int a1].toArray meth c cX11_isTakenUp 2 wsX11_isTakenUp RX11 N0 T D gr ad) (hrt : meth.sig.returnType = (some .boolean)) (hG : ∀ q ∈ ([(1, 0), (0, 0), (2, 0)] ++ allG), q ∈ gr) (hl : l.stackTraces = false) (hX : ∀ x ∈ c.exceptionTable.toList, False) {res : (Nat × Mem) ⊕ (Int32 × Mem)} (h : X11_isTakenUp Y a1 = some res) : FW p l e (Rx 7 1) s m [.ref (ad 0 0 0), .int a1].toArray below meth c 2 N0 T D gr ad 0 0 (vx_MQ below (va_Qi (fun r Y1 => Sum.inr (r, Y1) = res) (WB T D gr ad) (fun q => N0 ≤ q)) (vx_X (fun u => Sum.inl u = res) (XB T D gr ad) (fun q => N0 ≤ q)) [.ref (ad 0 0 0), .int a1].toArray s 1 6 (fun q => N0 ≤ q)) Y 0 [(0, .ref (ad 0 0 0)), (1, .int a1)] [] := by
  unfold X11_isTakenUp at h
  refine fw_aload_n C dX11_isTakenUp_0 rfl 0 rfl ?_
  refine fw_iload_n C dX11_isTakenUp_1 rfl 1 rfl ?_
  rcases bdxv_some h with ⟨x5, q2, e6⟩ | ⟨Y4, q2, h⟩
  · exact fw_callXVv_l C (ci := 9) (Cn := RX11) (Tc := TX11) (N := 11) (As := [.int a1]) (c_X11_requireStep hl (gac (hG _ (List.mem_of_getElem? (i := 1) rfl)) (gac (hG _ (List.mem_of_getElem? (i := 0) rfl)) (fun q hq => hG q (List.mem_append_right _ hq)))) q2) (cwV 1 (cx_ts C) gX11_isTakenUp_X11_requireStep rfl rfl rfl (by decide +kernel) ⟨Nat.le_of_ble_eq_true rfl, Nat.le_of_ble_eq_true rfl⟩) rfl (hG _ (List.mem_of_getElem? (i := 1) rfl)) (of0_0 _) (ce0 T ad _ _) rfl (st := []) rfl (Nat.le_of_ble_eq_true rfl) ⟨Nat.le_of_ble_eq_true rfl, Nat.le_of_ble_eq_true rfl⟩ dX11_isTakenUp_2 hX e6 (Nat.le_of_ble_eq_true rfl) (Nat.le_of_ble_eq_true rfl)
  refine fw_callXVv_r C (ci := 9) (Cn := RX11) (Tc := TX11) (N := 11) (As := [.int a1]) (c_X11_requireStep hl (gac (hG _ (List.mem_of_getElem? (i := 1) rfl)) (gac (hG _ (List.mem_of_getElem? (i := 0) rfl)) (fun q hq => hG q (List.mem_append_right _ hq)))) q2) (cwV 1 (cx_ts C) gX11_isTakenUp_X11_requireStep rfl rfl rfl (by decide +kernel) ⟨Nat.le_of_ble_eq_true rfl, Nat.le_of_ble_eq_true rfl⟩) rfl (hG _ (List.mem_of_getElem? (i := 1) rfl)) (of0_0 _) (ce0 T ad _ _) rfl (st := []) rfl (Nat.le_of_ble_eq_true rfl) ⟨Nat.le_of_ble_eq_true rfl, Nat.le_of_ble_eq_true rfl⟩ dX11_isTakenUp_2 ?_
  refine fw_aload_n C dX11_isTakenUp_5 rfl 0 rfl ?_
  refine fw_get C (ci := 9) (Cn := RX11) (Tc := TX11) (N := 11) (j := 5) ly_X11_isTakenUp_11 rfl (hG _ (List.mem_of_getElem? (i := 1) rfl)) (of0_0 _) (ce0 T ad _ _) (by decide) (cx_ts C _ fl_X11_isTakenUp_67) (fun _ h => h) (v := .ref (ad 1 0 0)) rfl dX11_isTakenUp_6 ?_
  refine fw_getN C (ci := 1) (Cn := RX3) (Tc := TX3) (N := 5) (j := 1) ly_X11_isTakenUp_3 rfl (hG _ (List.mem_of_getElem? (i := 0) rfl)) (of1_0 _) (ce1 T ad _ _) (by decide) (Nst_use (cx_nst C) (w := .fieldLinkNest RX11 139 "RecipeScheduler$Kitchen" "state" "LRecipeScheduler$State;" "RecipeScheduler") 518 (by decide +kernel) rfl) (fun _ h => h) (v := .ref (ad 2 0 0)) rfl dX11_isTakenUp_9 ?_
  refine fw_getN C (ci := 6) (Cn := RX8) (Tc := TX8) (N := 15) (j := 7) ly_X11_isTakenUp_8 rfl (hG _ (List.mem_of_getElem? (i := 2) rfl)) (of2_0 _) (ce2 T ad _ _) (by decide) (Nst_use (cx_nst C) (w := .fieldLinkNest RX11 261 "RecipeScheduler$State" "done" "I" "RecipeScheduler") 456 (by decide +kernel) rfl) (fun _ h => h) (v := .int (Y4 2 0 0 7)) rfl dX11_isTakenUp_12 ?_
  refine fw_iload_n C dX11_isTakenUp_15 rfl 1 rfl ?_
  obtain ⟨r7, q8, h⟩ := bd1_some h
  refine fw_callSi C (As := [.int (Y4 2 0 0 7), .int a1]) (c_X11_contains ga0 q8) (va_cwS 2 (cx_ts C) gX11_isTakenUp_X11_contains rfl rfl rfl (by decide +kernel) ⟨Nat.le_of_ble_eq_true rfl, Nat.le_of_ble_eq_true rfl⟩) rfl (st := []) rfl (Nat.le_of_ble_eq_true rfl) ⟨Nat.le_refl 0, Nat.le_refl 0⟩ dX11_isTakenUp_16 ?_
  rintro _ _ ⟨rfl, rfl⟩
  refine fw_if_eq C dX11_isTakenUp_19 (tgt := 37) rfl (fun c9 => ?_) (fun c9 => ?_)
  · have h := ite_t c9 h
    refine fw_iconst C dX11_isTakenUp_37 (v := 0) rfl ?_
    refine fw_xr (Nat.le_of_ble_eq_true rfl) (Nat.le_of_ble_eq_true rfl) ?_
    exact fw_zret C hrt (by decide) Y4 (Option.some.inj h) (fun t ht => ht) dX11_isTakenUp_38
  · have h := ite_f c9 h
    refine fw_aload_n C dX11_isTakenUp_22 rfl 0 rfl ?_
    refine fw_get C (ci := 9) (Cn := RX11) (Tc := TX11) (N := 11) (j := 5) ly_X11_isTakenUp_11 rfl (hG _ (List.mem_of_getElem? (i := 1) rfl)) (of0_0 _) (ce0 T ad _ _) (by decide) (cx_ts C _ fl_X11_isTakenUp_67) (fun _ h => h) (v := .ref (ad 1 0 0)) rfl dX11_isTakenUp_23 ?_
    refine fw_iload_n C dX11_isTakenUp_26 rfl 1 rfl ?_
    obtain ⟨r10, q11, h⟩ := bd1_some h
    refine fw_callVi C (ci := 1) (Cn := RX3) (Tc := TX3) (N := 5) (As := [.int a1]) (c_X3_isContinued (gac (hG _ (List.mem_of_getElem? (i := 0) rfl)) (gac (hG _ (List.mem_of_getElem? (i := 2) rfl)) (fun q hq => hG q (List.mem_append_right _ hq)))) q11) (cwV 1 (cx_ts C) gX11_isTakenUp_X3_isContinued rfl rfl rfl (by decide +kernel) ⟨Nat.le_of_ble_eq_true rfl, Nat.le_of_ble_eq_true rfl⟩) rfl (hG _ (List.mem_of_getElem? (i := 0) rfl)) (of1_0 _) (ce1 T ad _ _) rfl (st := []) rfl (Nat.le_of_ble_eq_true rfl) ⟨Nat.le_refl 0, Nat.le_refl 0⟩ dX11_isTakenUp_27 ?_
    rintro _ _ ⟨rfl, rfl⟩
    refine fw_if_eq C dX11_isTakenUp_30 (tgt := 37) rfl (fun c12 => ?_) (fun c12 => ?_)
    · have h := ite_t c12 h
      refine fw_iconst C dX11_isTakenUp_37 (v := 0) rfl ?_
      refine fw_xr (Nat.le_of_ble_eq_true rfl) (Nat.le_of_ble_eq_true rfl) ?_
      exact fw_zret C hrt (by decide) Y4 (Option.some.inj h) (fun t ht => ht) dX11_isTakenUp_38
    · have h := ite_f c12 h
      refine fw_iconst C dX11_isTakenUp_33 (v := 1) rfl ?_
      refine fw_goto C dX11_isTakenUp_34 (tgt := 38) rfl ?_
      refine fw_xr (Nat.le_of_ble_eq_true rfl) (Nat.le_of_ble_eq_true rfl) ?_
      exact fw_zret C hrt (by decide) Y4 (Option.some.inj h) (fun t ht => ht) dX11_isTakenUp_38
end
set_option maxRecDepth 100000 in
set_option maxHeartbeats 4000000 in
theorem c_X11_isTakenUp {l : Launch} {N0 : Nat} {T : Nat → ClassId} {D : va_G} {gr : List (Nat × Nat)} {ad : Nat → Nat → Nat → Nat} {Y : Mem} {a1 : Int32} {res : (Nat × Mem) ⊕ (Int32 × Mem)} (hl : l.stackTraces = false) (hG : ∀ q ∈ ([(1, 0), (0, 0), (2, 0)] ++ allG), q ∈ gr) (h : X11_isTakenUp Y a1 = some res) : CXi l yX11_isTakenUp wsX11_isTakenUp (Rx 7 1) N0 T D gr ad Y [.ref (ad 0 0 0), .int a1] 1 res :=
  fw_xbody (by decide +kernel) rfl (Nat.le_of_ble_eq_true rfl) (fun p e s m below meth c C hrt hX => w_X11_isTakenUp C hrt hG hl hX h)
theorem ly_X11_isUnattended_11 : ∀ w ∈ u_ws RX11 TX11 11, w ∈ wsX11_isUnattended := by decide +kernel
theorem fl_X11_isUnattended_67 : Cond.fieldLink RX11 67 "RecipeScheduler" "now" "LRecipeScheduler$Kitchen;" ∈ wsX11_isUnattended := by decide +kernel
theorem ly_X11_isUnattended_3 : ∀ w ∈ u_ws RX3 TX3 5, w ∈ wsX11_isUnattended := by decide +kernel
theorem ly_X11_isUnattended_5 : ∀ w ∈ u_ws RX5 TX5 17, w ∈ wsX11_isUnattended := by decide +kernel
noncomputable def X11_isUnattended (Y : Mem) (a1 : Int32) : Option ((Nat × Mem) ⊕ (Int32 × Mem)) :=
  bdxv (X11_requireStep Y a1) <| fun Y4 => gd (decide ((Y4 1 0 0 0).toNatClampNeg < 2)) <| bd1 (X11_contains Y4 (Y4 3 ((Y4 1 0 0 0).toNatClampNeg) 0 16) a1) <| fun r8 => gd (decide (r8 = 0 ∨ r8 = 1)) <| some (.inr (r8, Y4))
section
variable {p : Program} {l : Launch} {e : Env} {s : State} {m : MethodId} {below : List Frame} {meth : Method} {c : Code} {N0 : Nat} {T : Nat → ClassId} {D : va_G} {gr : List (Nat × Nat)} {ad : Nat → Nat → Nat → Nat}
set_option maxRecDepth 100000 in
set_option maxHeartbeats 4000000 in
theorem w_X11_isUnattended {Y : Mem} {a1 : Int32} (C : Cx p s m [.ref (ad 0 0 0), .int a1].toArray meth c cX11_isUnattended 2 wsX11_isUnattended RX11 N0 T D gr ad) (hrt : meth.sig.returnType = (some .boolean)) (hG : ∀ q ∈ ([(1, 0), (0, 0)] ++ allG), q ∈ gr) (hl : l.stackTraces = false) (hX : ∀ x ∈ c.exceptionTable.toList, False) {res : (Nat × Mem) ⊕ (Int32 × Mem)} (h : X11_isUnattended Y a1 = some res) : FW p l e (Rx 7 1) s m [.ref (ad 0 0 0), .int a1].toArray below meth c 2 N0 T D gr ad 0 0 (vx_MQ below (va_Qi (fun r Y1 => Sum.inr (r, Y1) = res) (WB T D gr ad) (fun q => N0 ≤ q)) (vx_X (fun u => Sum.inl u = res) (XB T D gr ad) (fun q => N0 ≤ q)) [.ref (ad 0 0 0), .int a1].toArray s 1 6 (fun q => N0 ≤ q)) Y 0 [(0, .ref (ad 0 0 0)), (1, .int a1)] [] := by
  unfold X11_isUnattended at h
  refine fw_aload_n C dX11_isUnattended_0 rfl 0 rfl ?_
  refine fw_iload_n C dX11_isUnattended_1 rfl 1 rfl ?_
  rcases bdxv_some h with ⟨x5, q2, e6⟩ | ⟨Y4, q2, h⟩
  · exact fw_callXVv_l C (ci := 9) (Cn := RX11) (Tc := TX11) (N := 11) (As := [.int a1]) (c_X11_requireStep hl (gac (hG _ (List.mem_of_getElem? (i := 1) rfl)) (gac (hG _ (List.mem_of_getElem? (i := 0) rfl)) (fun q hq => hG q (List.mem_append_right _ hq)))) q2) (cwV 1 (cx_ts C) gX11_isUnattended_X11_requireStep rfl rfl rfl (by decide +kernel) ⟨Nat.le_of_ble_eq_true rfl, Nat.le_of_ble_eq_true rfl⟩) rfl (hG _ (List.mem_of_getElem? (i := 1) rfl)) (of0_0 _) (ce0 T ad _ _) rfl (st := []) rfl (Nat.le_of_ble_eq_true rfl) ⟨Nat.le_of_ble_eq_true rfl, Nat.le_of_ble_eq_true rfl⟩ dX11_isUnattended_2 hX e6 (Nat.le_of_ble_eq_true rfl) (Nat.le_of_ble_eq_true rfl)
  refine fw_callXVv_r C (ci := 9) (Cn := RX11) (Tc := TX11) (N := 11) (As := [.int a1]) (c_X11_requireStep hl (gac (hG _ (List.mem_of_getElem? (i := 1) rfl)) (gac (hG _ (List.mem_of_getElem? (i := 0) rfl)) (fun q hq => hG q (List.mem_append_right _ hq)))) q2) (cwV 1 (cx_ts C) gX11_isUnattended_X11_requireStep rfl rfl rfl (by decide +kernel) ⟨Nat.le_of_ble_eq_true rfl, Nat.le_of_ble_eq_true rfl⟩) rfl (hG _ (List.mem_of_getElem? (i := 1) rfl)) (of0_0 _) (ce0 T ad _ _) rfl (st := []) rfl (Nat.le_of_ble_eq_true rfl) ⟨Nat.le_of_ble_eq_true rfl, Nat.le_of_ble_eq_true rfl⟩ dX11_isUnattended_2 ?_
  refine fw_aload_n C dX11_isUnattended_5 rfl 0 rfl ?_
  refine fw_get C (ci := 9) (Cn := RX11) (Tc := TX11) (N := 11) (j := 5) ly_X11_isUnattended_11 rfl (hG _ (List.mem_of_getElem? (i := 1) rfl)) (of0_0 _) (ce0 T ad _ _) (by decide) (cx_ts C _ fl_X11_isUnattended_67) (fun _ h => h) (v := .ref (ad 1 0 0)) rfl dX11_isUnattended_6 ?_
  refine fw_getN C (ci := 1) (Cn := RX3) (Tc := TX3) (N := 5) (j := 0) ly_X11_isUnattended_3 rfl (hG _ (List.mem_of_getElem? (i := 0) rfl)) (of1_0 _) (ce1 T ad _ _) (by decide) (Nst_use (cx_nst C) (w := .fieldLinkNest RX11 117 "RecipeScheduler$Kitchen" "recipe" "LRecipeScheduler$Recipe;" "RecipeScheduler") 516 (by decide +kernel) rfl) (fun _ h => h) (v := .ref (ad 3 ((Y4 1 0 0 0).toNatClampNeg) 0)) rfl dX11_isUnattended_9 ?_
  obtain ⟨b7, h⟩ := gd_some h
  have b7 := of_decide_eq_true b7
  refine fw_getN C (ci := 3) (Cn := RX5) (Tc := TX5) (N := 17) (j := 16) ly_X11_isUnattended_5 rfl ((fun q hq => hG q (List.mem_append_right _ hq)) _ (allG_3 b7)) (of3_0 _) (ce3 T ad _ _) (by decide) (Nst_use (cx_nst C) (w := .fieldLinkNest RX11 212 "RecipeScheduler$Recipe" "alone" "I" "RecipeScheduler") 180 (by decide +kernel) rfl) (fun _ h => h) (v := .int (Y4 3 ((Y4 1 0 0 0).toNatClampNeg) 0 16)) rfl dX11_isUnattended_12 ?_
  refine fw_iload_n C dX11_isUnattended_15 rfl 1 rfl ?_
  obtain ⟨r8, q9, h⟩ := bd1_some h
  refine fw_callSi C (As := [.int (Y4 3 ((Y4 1 0 0 0).toNatClampNeg) 0 16), .int a1]) (c_X11_contains ga0 q9) (va_cwS 2 (cx_ts C) gX11_isUnattended_X11_contains rfl rfl rfl (by decide +kernel) ⟨Nat.le_of_ble_eq_true rfl, Nat.le_of_ble_eq_true rfl⟩) rfl (st := []) rfl (Nat.le_of_ble_eq_true rfl) ⟨Nat.le_refl 0, Nat.le_refl 0⟩ dX11_isUnattended_16 ?_
  rintro _ _ ⟨rfl, rfl⟩
  refine fw_xr (Nat.le_of_ble_eq_true rfl) (Nat.le_of_ble_eq_true rfl) ?_
  obtain ⟨b10, h⟩ := gd_some h
  exact fw_zret C hrt (of_decide_eq_true b10) Y4 (Option.some.inj h) (fun t ht => ht) dX11_isUnattended_19
end
set_option maxRecDepth 100000 in
set_option maxHeartbeats 4000000 in
theorem c_X11_isUnattended {l : Launch} {N0 : Nat} {T : Nat → ClassId} {D : va_G} {gr : List (Nat × Nat)} {ad : Nat → Nat → Nat → Nat} {Y : Mem} {a1 : Int32} {res : (Nat × Mem) ⊕ (Int32 × Mem)} (hl : l.stackTraces = false) (hG : ∀ q ∈ ([(1, 0), (0, 0)] ++ allG), q ∈ gr) (h : X11_isUnattended Y a1 = some res) : CXi l yX11_isUnattended wsX11_isUnattended (Rx 7 1) N0 T D gr ad Y [.ref (ad 0 0 0), .int a1] 1 res :=
  fw_xbody (by decide +kernel) rfl (Nat.le_of_ble_eq_true rfl) (fun p e s m below meth c C hrt hX => w_X11_isUnattended C hrt hG hl hX h)
noncomputable def J7_fill_53178_b5 (k0 : Nat) (g0 : Nat) (o0 : Nat) (n0 : Nat) (a1 : Int32) : Nat → Mem → Int32 → Int32 → Option (Mem)
  | 0, _, _, _ => none
  | n+1, Y, l3, l2 =>
  if l3 ≤ l2 then (some Y) else (gd (inb l2 n0) <| lt_ (up Y k0 g0 o0 (ix l2) a1) <| fun Y5 => J7_fill_53178_b5 k0 g0 o0 n0 a1 n Y5 l3 (l2 + 1))
noncomputable def J7_fill_53178 (Y : Mem) (k0 : Nat) (g0 : Nat) (o0 : Nat) (n0 : Nat) (a1 : Int32) : Option (Mem) :=
  lt_ ((Int32.ofNat n0)) <| fun v1 => J7_fill_53178_b5 k0 g0 o0 n0 a1 FU Y v1 0
section
variable {p : Program} {l : Launch} {e : Env} {s : State} {m : MethodId} {below : List Frame} {meth : Method} {c : Code} {N0 : Nat} {T : Nat → ClassId} {D : va_G} {gr : List (Nat × Nat)} {ad : Nat → Nat → Nat → Nat}
set_option maxRecDepth 100000 in
set_option maxHeartbeats 4000000 in
theorem w_J7_fill_53178_b5 {k0 : Nat} {g0 : Nat} {o0 : Nat} {n0 : Nat} {a1 : Int32} (C : Cx p s m [.ref (ad k0 g0 o0), .int a1].toArray meth c cJ7_fill_53178 4 wsJ7_fill_53178 RJ7 N0 T D gr ad) (hrt : meth.sig.returnType = none) (hG : ∀ q ∈ [(k0, g0)], q ∈ gr) (hA0 : ∀ y, cell T ad k0 g0 o0 y = .inl (T 0, n0, .inl y)) (hO0 : o0 ∈ offs k0 g0) (hN0 : n0 < 2 ^ 31) {res : Mem} : ∀ (n : Nat) (Y : Mem) (l3 : Int32) (l2 : Int32), J7_fill_53178_b5 k0 g0 o0 n0 a1  n Y l3 l2 = some res → FW p l e (Rm 0) s m [.ref (ad k0 g0 o0), .int a1].toArray below meth c 4 N0 T D gr ad 0 0 (MQ below (va_Qv (fun Y1 => Y1 = res) (WB T D gr ad) (fun q => N0 ≤ q)) [.ref (ad k0 g0 o0), .int a1].toArray s 0 0 (fun q => N0 ≤ q)) Y 5 [(3, .int l3), (2, .int l2), (0, .ref (ad k0 g0 o0)), (1, .int a1)] [] := by
  intro n
  induction n with
  | zero =>
    intro Y l3 l2 h
    unfold J7_fill_53178_b5 at h
    cases h
  | succ n ih =>
    intro Y l3 l2 h
    unfold J7_fill_53178_b5 at h
    refine fw_iload_n C dJ7_fill_53178_5 rfl 1 rfl ?_
    refine fw_iload_n C dJ7_fill_53178_6 rfl 0 rfl ?_
    refine fw_icmp_ge C dJ7_fill_53178_7 (tgt := 20) rfl (fun c3 => ?_) (fun c3 => ?_)
    · have h := ite_t c3 h
      exact fw_vret C hrt Y (Option.some.inj h) (fun t ht => ht) dJ7_fill_53178_20
    · have h := ite_f c3 h
      refine fw_aload_n C dJ7_fill_53178_10 rfl 2 rfl ?_
      refine fw_iload_n C dJ7_fill_53178_11 rfl 1 rfl ?_
      refine fw_iload_n C dJ7_fill_53178_12 rfl 3 rfl ?_
      obtain ⟨b4, h⟩ := gd_some h
      obtain ⟨Y5, e6, h⟩ := lt_some h
      refine fw_iast2 C (hG _ (List.mem_of_getElem? (i := 0) rfl)) hO0 hA0 b4 hN0 dJ7_fill_53178_13 ?_
      refine fw_mem e6 ?_
      refine fw_iinc C dJ7_fill_53178_14 (kk := 1) (v := l2 + 1) rfl rfl (by decide) (L' := [(2, .int (l2 + 1)), (3, .int l3), (0, .ref (ad k0 g0 o0)), (1, .int a1)]) rfl ?_
      refine fw_goto C dJ7_fill_53178_17 (tgt := 5) rfl ?_
      refine fw_sub [1, 0, 2, 3] (L' := [(3, .int l3), (2, .int (l2 + 1)), (0, .ref (ad k0 g0 o0)), (1, .int a1)]) rfl ?_
      exact ih _ _ _ h
set_option maxRecDepth 100000 in
set_option maxHeartbeats 4000000 in
theorem w_J7_fill_53178 {Y : Mem} {k0 : Nat} {g0 : Nat} {o0 : Nat} {n0 : Nat} {a1 : Int32} (C : Cx p s m [.ref (ad k0 g0 o0), .int a1].toArray meth c cJ7_fill_53178 4 wsJ7_fill_53178 RJ7 N0 T D gr ad) (hrt : meth.sig.returnType = none) (hG : ∀ q ∈ [(k0, g0)], q ∈ gr) (hA0 : ∀ y, cell T ad k0 g0 o0 y = .inl (T 0, n0, .inl y)) (hO0 : o0 ∈ offs k0 g0) (hN0 : n0 < 2 ^ 31) {res : Mem} (h : J7_fill_53178 Y k0 g0 o0 n0 a1 = some res) : FW p l e (Rm 0) s m [.ref (ad k0 g0 o0), .int a1].toArray below meth c 4 N0 T D gr ad 0 0 (MQ below (va_Qv (fun Y1 => Y1 = res) (WB T D gr ad) (fun q => N0 ≤ q)) [.ref (ad k0 g0 o0), .int a1].toArray s 0 0 (fun q => N0 ≤ q)) Y 0 [(0, .ref (ad k0 g0 o0)), (1, .int a1)] [] := by
  unfold J7_fill_53178 at h
  refine fw_iconst C dJ7_fill_53178_0 (v := 0) rfl ?_
  refine fw_istore_n C dJ7_fill_53178_1 rfl (by decide) (L' := [(2, .int 0), (0, .ref (ad k0 g0 o0)), (1, .int a1)]) rfl ?_
  refine fw_aload_n C dJ7_fill_53178_2 rfl 1 rfl ?_
  refine fw_alen C 0 (hG _ (List.mem_of_getElem? (i := 0) rfl)) hO0 (hA0 _) rfl (v := (Int32.ofNat n0)) rfl dJ7_fill_53178_3 ?_
  obtain ⟨v1, e2, h⟩ := lt_some h
  refine fw_top (v' := .int v1) (by rw [e2]) ?_
  refine fw_istore_n C dJ7_fill_53178_4 rfl (by decide) (L' := [(3, .int v1), (2, .int 0), (0, .ref (ad k0 g0 o0)), (1, .int a1)]) rfl ?_
  exact w_J7_fill_53178_b5 C hrt hG hA0 hO0 hN0  _ _ _ _ h
end
set_option maxRecDepth 100000 in
set_option maxHeartbeats 4000000 in
theorem c_J7_fill_53178 {l : Launch} {N0 : Nat} {T : Nat → ClassId} {D : va_G} {gr : List (Nat × Nat)} {ad : Nat → Nat → Nat → Nat} {Y : Mem} {k0 : Nat} {g0 : Nat} {o0 : Nat} {n0 : Nat} {a1 : Int32} {res : Mem} (hG : ∀ q ∈ [(k0, g0)], q ∈ gr) (hA0 : ∀ y, cell T ad k0 g0 o0 y = .inl (T 0, n0, .inl y)) (hO0 : o0 ∈ offs k0 g0) (hN0 : n0 < 2 ^ 31) (h : J7_fill_53178 Y k0 g0 o0 n0 a1 = some res) : CV l yJ7_fill_53178 wsJ7_fill_53178 (Rm 0) N0 T D gr ad Y [.ref (ad k0 g0 o0), .int a1] (fun Y1 => Y1 = res) :=
  fw_body (by decide +kernel) rfl (Nat.le_of_ble_eq_true rfl) (fun p e s m below meth c C hrt => w_J7_fill_53178 C hrt hG hA0 hO0 hN0 h)
theorem ly_X5_clear_5 : ∀ w ∈ u_ws RX5 TX5 17, w ∈ wsX5_clear := by decide +kernel
theorem fl_X5_clear_14 : Cond.fieldLink RX5 14 "RecipeScheduler$Recipe" "pans" "LRecipeScheduler$Names;" ∈ wsX5_clear := by decide +kernel
theorem ly_X5_clear_4 : ∀ w ∈ u_ws RX4 TX4 3, w ∈ wsX5_clear := by decide +kernel
theorem fl_X5_clear_27 : Cond.fieldLink RX5 27 "RecipeScheduler$Recipe" "steps" "LRecipeScheduler$Names;" ∈ wsX5_clear := by decide +kernel
theorem fl_X5_clear_57 : Cond.fieldLink RX5 57 "RecipeScheduler$Recipe" "hot" "I" ∈ wsX5_clear := by decide +kernel
theorem fl_X5_clear_60 : Cond.fieldLink RX5 60 "RecipeScheduler$Recipe" "alone" "I" ∈ wsX5_clear := by decide +kernel
theorem fl_X5_clear_24 : Cond.fieldLink RX5 24 "RecipeScheduler$Recipe" "panUsers" "[I" ∈ wsX5_clear := by decide +kernel
theorem fl_X5_clear_44 : Cond.fieldLink RX5 44 "RecipeScheduler$Recipe" "predecessorCount" "[I" ∈ wsX5_clear := by decide +kernel
theorem fl_X5_clear_47 : Cond.fieldLink RX5 47 "RecipeScheduler$Recipe" "predecessorSet" "[I" ∈ wsX5_clear := by decide +kernel
theorem fl_X5_clear_50 : Cond.fieldLink RX5 50 "RecipeScheduler$Recipe" "successorSet" "[I" ∈ wsX5_clear := by decide +kernel
noncomputable def X5_clear (Y : Mem) (g0 : Nat) : Option (Mem) :=
  lt_ (up Y 4 (2*g0) 0 2 0) <| fun Y1 => lt_ (up Y1 4 (2*g0+1) 0 2 0) <| fun Y3 => lt_ (up Y3 3 g0 0 15 0) <| fun Y5 => lt_ (up Y5 3 g0 0 16 0) <| fun Y7 => bd1 (J7_fill_53178 Y7 3 g0 2 4 0) <| fun Y11 => bd1 (J7_fill_53178 Y11 3 g0 7 14 0) <| fun Y14 => bd1 (J7_fill_53178 Y14 3 g0 8 14 0) <| fun Y17 => bd1 (J7_fill_53178 Y17 3 g0 9 14 0) <| fun Y20 => some Y20
section
variable {p : Program} {l : Launch} {e : Env} {s : State} {m : MethodId} {below : List Frame} {meth : Method} {c : Code} {N0 : Nat} {T : Nat → ClassId} {D : va_G} {gr : List (Nat × Nat)} {ad : Nat → Nat → Nat → Nat}
set_option maxRecDepth 100000 in
set_option maxHeartbeats 4000000 in
theorem w_X5_clear {Y : Mem} {g0 : Nat} (C : Cx p s m [.ref (ad 3 g0 0)].toArray meth c cX5_clear 1 wsX5_clear RX5 N0 T D gr ad) (hrt : meth.sig.returnType = none) (hG : ∀ q ∈ [(3, g0), (4, 2*g0), (4, 2*g0+1)], q ∈ gr) {res : Mem} (h : X5_clear Y g0 = some res) : FW p l e (Rm 1) s m [.ref (ad 3 g0 0)].toArray below meth c 1 N0 T D gr ad 0 0 (MQ below (va_Qv (fun Y1 => Y1 = res) (WB T D gr ad) (fun q => N0 ≤ q)) [.ref (ad 3 g0 0)].toArray s 0 0 (fun q => N0 ≤ q)) Y 0 [(0, .ref (ad 3 g0 0))] [] := by
  unfold X5_clear at h
  refine fw_aload_n C dX5_clear_0 rfl 0 rfl ?_
  refine fw_get C (ci := 3) (Cn := RX5) (Tc := TX5) (N := 17) (j := 4) ly_X5_clear_5 rfl (hG _ (List.mem_of_getElem? (i := 0) rfl)) (of3_0 _) (ce3 T ad _ _) (by decide) (cx_ts C _ fl_X5_clear_14) (fun _ h => h) (v := .ref (ad 4 (2*g0) 0)) rfl dX5_clear_1 ?_
  refine fw_iconst C dX5_clear_4 (v := 0) rfl ?_
  obtain ⟨Y1, e2, h⟩ := lt_some h
  refine fw_putN C (ci := 2) (Cn := RX4) (Tc := TX4) (N := 3) (j := 2) (ty := .int) (upd (Y 4 (2*g0) 0) 2 0) ly_X5_clear_4 rfl tyX4_ok nmX4 (hG _ (List.mem_of_getElem? (i := 1) rfl)) (of4_0 _) (ce4 T ad _ _) (by decide) (Nst_use (cx_nst C) (w := .fieldLinkNest RX5 53 "RecipeScheduler$Names" "count" "I" "RecipeScheduler") 111 (by decide +kernel) rfl) (fun _ h => h) rfl (by decide +kernel) rfl rfl (by decide) (ce4_put2 T ad _ _ _) dX5_clear_5 ?_
  refine fw_mem ((up_eq _ _ _ _ _ _).symm.trans e2) ?_
  refine fw_aload_n C dX5_clear_8 rfl 0 rfl ?_
  refine fw_get C (ci := 3) (Cn := RX5) (Tc := TX5) (N := 17) (j := 7) ly_X5_clear_5 rfl (hG _ (List.mem_of_getElem? (i := 0) rfl)) (of3_0 _) (ce3 T ad _ _) (by decide) (cx_ts C _ fl_X5_clear_27) (fun _ h => h) (v := .ref (ad 4 (2*g0+1) 0)) rfl dX5_clear_9 ?_
  refine fw_iconst C dX5_clear_12 (v := 0) rfl ?_
  obtain ⟨Y3, e4, h⟩ := lt_some h
  refine fw_putN C (ci := 2) (Cn := RX4) (Tc := TX4) (N := 3) (j := 2) (ty := .int) (upd (Y1 4 (2*g0+1) 0) 2 0) ly_X5_clear_4 rfl tyX4_ok nmX4 (hG _ (List.mem_of_getElem? (i := 2) rfl)) (of4_0 _) (ce4 T ad _ _) (by decide) (Nst_use (cx_nst C) (w := .fieldLinkNest RX5 53 "RecipeScheduler$Names" "count" "I" "RecipeScheduler") 111 (by decide +kernel) rfl) (fun _ h => h) rfl (by decide +kernel) rfl rfl (by decide) (ce4_put2 T ad _ _ _) dX5_clear_13 ?_
  refine fw_mem ((up_eq _ _ _ _ _ _).symm.trans e4) ?_
  refine fw_aload_n C dX5_clear_16 rfl 0 rfl ?_
  refine fw_iconst C dX5_clear_17 (v := 0) rfl ?_
  obtain ⟨Y5, e6, h⟩ := lt_some h
  refine fw_put C (ci := 3) (Cn := RX5) (Tc := TX5) (N := 17) (j := 15) (ty := .int) (upd (Y3 3 g0 0) 15 0) ly_X5_clear_5 rfl tyX5_ok nmX5 (hG _ (List.mem_of_getElem? (i := 0) rfl)) (of3_0 _) (ce3 T ad _ _) (by decide) (cx_ts C _ fl_X5_clear_57) (fun _ h => h) rfl (by decide +kernel) rfl rfl (by decide) (ce3_put15 T ad _ _ _) dX5_clear_18 ?_
  refine fw_mem ((up_eq _ _ _ _ _ _).symm.trans e6) ?_
  refine fw_aload_n C dX5_clear_21 rfl 0 rfl ?_
  refine fw_iconst C dX5_clear_22 (v := 0) rfl ?_
  obtain ⟨Y7, e8, h⟩ := lt_some h
  refine fw_put C (ci := 3) (Cn := RX5) (Tc := TX5) (N := 17) (j := 16) (ty := .int) (upd (Y5 3 g0 0) 16 0) ly_X5_clear_5 rfl tyX5_ok nmX5 (hG _ (List.mem_of_getElem? (i := 0) rfl)) (of3_0 _) (ce3 T ad _ _) (by decide) (cx_ts C _ fl_X5_clear_60) (fun _ h => h) rfl (by decide +kernel) rfl rfl (by decide) (ce3_put16 T ad _ _ _) dX5_clear_23 ?_
  refine fw_mem ((up_eq _ _ _ _ _ _).symm.trans e8) ?_
  refine fw_aload_n C dX5_clear_26 rfl 0 rfl ?_
  refine fw_get C (ci := 3) (Cn := RX5) (Tc := TX5) (N := 17) (j := 6) ly_X5_clear_5 rfl (hG _ (List.mem_of_getElem? (i := 0) rfl)) (of3_0 _) (ce3 T ad _ _) (by decide) (cx_ts C _ fl_X5_clear_24) (fun _ h => h) (v := .ref (ad 3 g0 2)) rfl dX5_clear_27 ?_
  refine fw_iconst C dX5_clear_30 (v := 0) rfl ?_
  obtain ⟨Y11, q10, h⟩ := bd1_some h
  refine fw_callSv C (As := [.ref (ad 3 g0 2), .int 0]) (c_J7_fill_53178 (gac (hG _ (List.mem_of_getElem? (i := 0) rfl)) ga0) (ca3_2 T ad _) (of3_2 _) (Nat.le_of_ble_eq_true rfl) q10) (va_cwS 2 (cx_ts C) gX5_clear_J7_fill_53178 rfl rfl rfl (by decide +kernel) ⟨Nat.le_of_ble_eq_true rfl, Nat.le_of_ble_eq_true rfl⟩) rfl (st := []) rfl (Nat.le_of_ble_eq_true rfl) ⟨Nat.le_refl 0, Nat.le_refl 0⟩ dX5_clear_31 ?_
  rintro _ rfl
  refine fw_aload_n C dX5_clear_34 rfl 0 rfl ?_
  refine fw_get C (ci := 3) (Cn := RX5) (Tc := TX5) (N := 17) (j := 12) ly_X5_clear_5 rfl (hG _ (List.mem_of_getElem? (i := 0) rfl)) (of3_0 _) (ce3 T ad _ _) (by decide) (cx_ts C _ fl_X5_clear_44) (fun _ h => h) (v := .ref (ad 3 g0 7)) rfl dX5_clear_35 ?_
  refine fw_iconst C dX5_clear_38 (v := 0) rfl ?_
  obtain ⟨Y14, q13, h⟩ := bd1_some h
  refine fw_callSv C (As := [.ref (ad 3 g0 7), .int 0]) (c_J7_fill_53178 (gac (hG _ (List.mem_of_getElem? (i := 0) rfl)) ga0) (ca3_7 T ad _) (of3_7 _) (Nat.le_of_ble_eq_true rfl) q13) (va_cwS 2 (cx_ts C) gX5_clear_J7_fill_53178 rfl rfl rfl (by decide +kernel) ⟨Nat.le_of_ble_eq_true rfl, Nat.le_of_ble_eq_true rfl⟩) rfl (st := []) rfl (Nat.le_of_ble_eq_true rfl) ⟨Nat.le_refl 0, Nat.le_refl 0⟩ dX5_clear_39 ?_
  rintro _ rfl
  refine fw_aload_n C dX5_clear_42 rfl 0 rfl ?_
  refine fw_get C (ci := 3) (Cn := RX5) (Tc := TX5) (N := 17) (j := 13) ly_X5_clear_5 rfl (hG _ (List.mem_of_getElem? (i := 0) rfl)) (of3_0 _) (ce3 T ad _ _) (by decide) (cx_ts C _ fl_X5_clear_47) (fun _ h => h) (v := .ref (ad 3 g0 8)) rfl dX5_clear_43 ?_
  refine fw_iconst C dX5_clear_46 (v := 0) rfl ?_
  obtain ⟨Y17, q16, h⟩ := bd1_some h
  refine fw_callSv C (As := [.ref (ad 3 g0 8), .int 0]) (c_J7_fill_53178 (gac (hG _ (List.mem_of_getElem? (i := 0) rfl)) ga0) (ca3_8 T ad _) (of3_8 _) (Nat.le_of_ble_eq_true rfl) q16) (va_cwS 2 (cx_ts C) gX5_clear_J7_fill_53178 rfl rfl rfl (by decide +kernel) ⟨Nat.le_of_ble_eq_true rfl, Nat.le_of_ble_eq_true rfl⟩) rfl (st := []) rfl (Nat.le_of_ble_eq_true rfl) ⟨Nat.le_refl 0, Nat.le_refl 0⟩ dX5_clear_47 ?_
  rintro _ rfl
  refine fw_aload_n C dX5_clear_50 rfl 0 rfl ?_
  refine fw_get C (ci := 3) (Cn := RX5) (Tc := TX5) (N := 17) (j := 14) ly_X5_clear_5 rfl (hG _ (List.mem_of_getElem? (i := 0) rfl)) (of3_0 _) (ce3 T ad _ _) (by decide) (cx_ts C _ fl_X5_clear_50) (fun _ h => h) (v := .ref (ad 3 g0 9)) rfl dX5_clear_51 ?_
  refine fw_iconst C dX5_clear_54 (v := 0) rfl ?_
  obtain ⟨Y20, q19, h⟩ := bd1_some h
  refine fw_callSv C (As := [.ref (ad 3 g0 9), .int 0]) (c_J7_fill_53178 (gac (hG _ (List.mem_of_getElem? (i := 0) rfl)) ga0) (ca3_9 T ad _) (of3_9 _) (Nat.le_of_ble_eq_true rfl) q19) (va_cwS 2 (cx_ts C) gX5_clear_J7_fill_53178 rfl rfl rfl (by decide +kernel) ⟨Nat.le_of_ble_eq_true rfl, Nat.le_of_ble_eq_true rfl⟩) rfl (st := []) rfl (Nat.le_of_ble_eq_true rfl) ⟨Nat.le_refl 0, Nat.le_refl 0⟩ dX5_clear_55 ?_
  rintro _ rfl
  exact fw_vret C hrt Y20 (Option.some.inj h) (fun t ht => ht) dX5_clear_58
end
set_option maxRecDepth 100000 in
set_option maxHeartbeats 4000000 in
theorem c_X5_clear {l : Launch} {N0 : Nat} {T : Nat → ClassId} {D : va_G} {gr : List (Nat × Nat)} {ad : Nat → Nat → Nat → Nat} {Y : Mem} {g0 : Nat} {res : Mem} (hG : ∀ q ∈ [(3, g0), (4, 2*g0), (4, 2*g0+1)], q ∈ gr) (h : X5_clear Y g0 = some res) : CV l yX5_clear wsX5_clear (Rm 1) N0 T D gr ad Y [.ref (ad 3 g0 0)] (fun Y1 => Y1 = res) :=
  fw_body (by decide +kernel) rfl (Nat.le_of_ble_eq_true rfl) (fun p e s m below meth c C hrt => w_X5_clear C hrt hG  h)
theorem ly_X7_readHead_7 : ∀ w ∈ u_ws RX7 TX7 1, w ∈ wsX7_readHead := by decide +kernel
theorem fl_X7_readHead_9 : Cond.fieldLink RX7 9 "RecipeScheduler$SetupReader" "tokens" "LRecipeScheduler$Tokens;" ∈ wsX7_readHead := by decide +kernel
theorem ly_X7_readHead_5 : ∀ w ∈ u_ws RX5 TX5 17, w ∈ wsX7_readHead := by decide +kernel
noncomputable def X7_readHead_b20 (g1 : Nat) (Y : Mem) : Option (Mem) :=
  bd2 (X10_expectNumber Y 1 4) <| fun r5 Y7 => lt_ (up Y7 3 g1 0 0 r5) <| fun Y8 => bd2 (X10_expectNumber Y8 0 30) <| fun r10 Y12 => lt_ (up Y12 3 g1 0 1 r10) <| fun Y13 => bd2 (X10_expectNumber Y13 0 99) <| fun r15 Y17 => lt_ (up Y17 3 g1 0 2 r15) <| fun Y18 => bd2 (X10_expectNumber Y18 (Y18 3 g1 0 2) 99) <| fun r20 Y22 => lt_ (up Y22 3 g1 0 3 r20) <| fun Y23 => bd1 (X10_expectSemicolon Y23) <| fun Y27 => some Y27
noncomputable def X7_readHead (Y : Mem) (g1 : Nat) : Option (Mem) :=
  bd2 (X10_accept Y 1) <| fun r1 Y3 => if r1 = 0 then (bd1 (X10_fail Y3 1) <| fun Y30 => X7_readHead_b20 g1 Y30) else (X7_readHead_b20 g1 Y3)
section
variable {p : Program} {l : Launch} {e : Env} {s : State} {m : MethodId} {below : List Frame} {meth : Method} {c : Code} {N0 : Nat} {T : Nat → ClassId} {D : va_G} {gr : List (Nat × Nat)} {ad : Nat → Nat → Nat → Nat}
set_option maxRecDepth 100000 in
set_option maxHeartbeats 4000000 in
theorem w_X7_readHead_b20 {g1 : Nat} (C : Cx p s m [.ref (ad 7 0 0), .ref (ad 3 g1 0)].toArray meth c cX7_readHead 2 wsX7_readHead RX7 N0 T D gr ad) (hrt : meth.sig.returnType = none) (hG : ∀ q ∈ [(7, 0), (6, 0), (5, 0), (3, g1)], q ∈ gr) {res : Mem} (Y : Mem) (h : X7_readHead_b20 g1  Y = some res) : FW p l e (Rm 6) s m [.ref (ad 7 0 0), .ref (ad 3 g1 0)].toArray below meth c 2 N0 T D gr ad 0 0 (MQ below (va_Qv (fun Y1 => Y1 = res) (WB T D gr ad) (fun q => N0 ≤ q)) [.ref (ad 7 0 0), .ref (ad 3 g1 0)].toArray s 0 0 (fun q => N0 ≤ q)) Y 20 [(0, .ref (ad 7 0 0)), (1, .ref (ad 3 g1 0))] [] := by
  unfold X7_readHead_b20 at h
  refine fw_aload_n C dX7_readHead_20 rfl 1 rfl ?_
  refine fw_aload_n C dX7_readHead_21 rfl 0 rfl ?_
  refine fw_get C (ci := 5) (Cn := RX7) (Tc := TX7) (N := 1) (j := 0) ly_X7_readHead_7 rfl (hG _ (List.mem_of_getElem? (i := 0) rfl)) (of7_0 _) (ce7 T ad _ _) (by decide) (cx_ts C _ fl_X7_readHead_9) (fun _ h => h) (v := .ref (ad 6 0 0)) rfl dX7_readHead_22 ?_
  refine fw_iconst C dX7_readHead_25 (v := 1) rfl ?_
  refine fw_iconst C dX7_readHead_26 (v := 4) rfl ?_
  obtain ⟨r5, Y7, q6, h⟩ := bd2_some h
  refine fw_callVi C (ci := 8) (Cn := RX10) (Tc := TX10) (N := 6) (As := [.int 1, .int 4]) (c_X10_expectNumber (gac (hG _ (List.mem_of_getElem? (i := 1) rfl)) (gac (hG _ (List.mem_of_getElem? (i := 2) rfl)) ga0)) q6) (cwV 2 (cx_ts C) gX7_readHead_X10_expectNumber rfl rfl rfl (by decide +kernel) ⟨Nat.le_of_ble_eq_true rfl, Nat.le_of_ble_eq_true rfl⟩) rfl (hG _ (List.mem_of_getElem? (i := 1) rfl)) (of6_0 _) (ce6 T ad _ _) rfl (st := [.ref (ad 3 g1 0)]) rfl (Nat.le_of_ble_eq_true rfl) ⟨Nat.le_refl 0, Nat.le_refl 0⟩ dX7_readHead_27 ?_
  intro r_ Y_ e_
  obtain ⟨rfl, rfl⟩ := Prod.mk.inj e_
  obtain ⟨Y8, e9, h⟩ := lt_some h
  refine fw_putN C (ci := 3) (Cn := RX5) (Tc := TX5) (N := 17) (j := 0) (ty := .int) (upd (Y7 3 g1 0) 0 r5) ly_X7_readHead_5 rfl tyX5_ok nmX5 (hG _ (List.mem_of_getElem? (i := 3) rfl)) (of3_0 _) (ce3 T ad _ _) (by decide) (Nst_use (cx_nst C) (w := .fieldLinkNest RX7 58 "RecipeScheduler$Recipe" "cooks" "I" "RecipeScheduler") 126 (by decide +kernel) rfl) (fun _ h => h) rfl (by decide +kernel) rfl rfl (by decide) (ce3_put0 T ad _ _ _) dX7_readHead_30 ?_
  refine fw_mem ((up_eq _ _ _ _ _ _).symm.trans e9) ?_
  refine fw_aload_n C dX7_readHead_33 rfl 1 rfl ?_
  refine fw_aload_n C dX7_readHead_34 rfl 0 rfl ?_
  refine fw_get C (ci := 5) (Cn := RX7) (Tc := TX7) (N := 1) (j := 0) ly_X7_readHead_7 rfl (hG _ (List.mem_of_getElem? (i := 0) rfl)) (of7_0 _) (ce7 T ad _ _) (by decide) (cx_ts C _ fl_X7_readHead_9) (fun _ h => h) (v := .ref (ad 6 0 0)) rfl dX7_readHead_35 ?_
  refine fw_iconst C dX7_readHead_38 (v := 0) rfl ?_
  refine fw_bipush C dX7_readHead_39 (v := 30) rfl ?_
  obtain ⟨r10, Y12, q11, h⟩ := bd2_some h
  refine fw_callVi C (ci := 8) (Cn := RX10) (Tc := TX10) (N := 6) (As := [.int 0, .int 30]) (c_X10_expectNumber (gac (hG _ (List.mem_of_getElem? (i := 1) rfl)) (gac (hG _ (List.mem_of_getElem? (i := 2) rfl)) ga0)) q11) (cwV 2 (cx_ts C) gX7_readHead_X10_expectNumber rfl rfl rfl (by decide +kernel) ⟨Nat.le_of_ble_eq_true rfl, Nat.le_of_ble_eq_true rfl⟩) rfl (hG _ (List.mem_of_getElem? (i := 1) rfl)) (of6_0 _) (ce6 T ad _ _) rfl (st := [.ref (ad 3 g1 0)]) rfl (Nat.le_of_ble_eq_true rfl) ⟨Nat.le_refl 0, Nat.le_refl 0⟩ dX7_readHead_41 ?_
  intro r_ Y_ e_
  obtain ⟨rfl, rfl⟩ := Prod.mk.inj e_
  obtain ⟨Y13, e14, h⟩ := lt_some h
  refine fw_putN C (ci := 3) (Cn := RX5) (Tc := TX5) (N := 17) (j := 1) (ty := .int) (upd (Y12 3 g1 0) 1 r10) ly_X7_readHead_5 rfl tyX5_ok nmX5 (hG _ (List.mem_of_getElem? (i := 3) rfl)) (of3_0 _) (ce3 T ad _ _) (by decide) (Nst_use (cx_nst C) (w := .fieldLinkNest RX7 62 "RecipeScheduler$Recipe" "hold" "I" "RecipeScheduler") 127 (by decide +kernel) rfl) (fun _ h => h) rfl (by decide +kernel) rfl rfl (by decide) (ce3_put1 T ad _ _ _) dX7_readHead_44 ?_
  refine fw_mem ((up_eq _ _ _ _ _ _).symm.trans e14) ?_
  refine fw_aload_n C dX7_readHead_47 rfl 1 rfl ?_
  refine fw_aload_n C dX7_readHead_48 rfl 0 rfl ?_
  refine fw_get C (ci := 5) (Cn := RX7) (Tc := TX7) (N := 1) (j := 0) ly_X7_readHead_7 rfl (hG _ (List.mem_of_getElem? (i := 0) rfl)) (of7_0 _) (ce7 T ad _ _) (by decide) (cx_ts C _ fl_X7_readHead_9) (fun _ h => h) (v := .ref (ad 6 0 0)) rfl dX7_readHead_49 ?_
  refine fw_iconst C dX7_readHead_52 (v := 0) rfl ?_
  refine fw_bipush C dX7_readHead_53 (v := 99) rfl ?_
  obtain ⟨r15, Y17, q16, h⟩ := bd2_some h
  refine fw_callVi C (ci := 8) (Cn := RX10) (Tc := TX10) (N := 6) (As := [.int 0, .int 99]) (c_X10_expectNumber (gac (hG _ (List.mem_of_getElem? (i := 1) rfl)) (gac (hG _ (List.mem_of_getElem? (i := 2) rfl)) ga0)) q16) (cwV 2 (cx_ts C) gX7_readHead_X10_expectNumber rfl rfl rfl (by decide +kernel) ⟨Nat.le_of_ble_eq_true rfl, Nat.le_of_ble_eq_true rfl⟩) rfl (hG _ (List.mem_of_getElem? (i := 1) rfl)) (of6_0 _) (ce6 T ad _ _) rfl (st := [.ref (ad 3 g1 0)]) rfl (Nat.le_of_ble_eq_true rfl) ⟨Nat.le_refl 0, Nat.le_refl 0⟩ dX7_readHead_55 ?_
  intro r_ Y_ e_
  obtain ⟨rfl, rfl⟩ := Prod.mk.inj e_
  obtain ⟨Y18, e19, h⟩ := lt_some h
  refine fw_putN C (ci := 3) (Cn := RX5) (Tc := TX5) (N := 17) (j := 2) (ty := .int) (upd (Y17 3 g1 0) 2 r15) ly_X7_readHead_5 rfl tyX5_ok nmX5 (hG _ (List.mem_of_getElem? (i := 3) rfl)) (of3_0 _) (ce3 T ad _ _) (by decide) (Nst_use (cx_nst C) (w := .fieldLinkNest RX7 65 "RecipeScheduler$Recipe" "lowest" "I" "RecipeScheduler") 129 (by decide +kernel) rfl) (fun _ h => h) rfl (by decide +kernel) rfl rfl (by decide) (ce3_put2 T ad _ _ _) dX7_readHead_58 ?_
  refine fw_mem ((up_eq _ _ _ _ _ _).symm.trans e19) ?_
  refine fw_aload_n C dX7_readHead_61 rfl 1 rfl ?_
  refine fw_aload_n C dX7_readHead_62 rfl 0 rfl ?_
  refine fw_get C (ci := 5) (Cn := RX7) (Tc := TX7) (N := 1) (j := 0) ly_X7_readHead_7 rfl (hG _ (List.mem_of_getElem? (i := 0) rfl)) (of7_0 _) (ce7 T ad _ _) (by decide) (cx_ts C _ fl_X7_readHead_9) (fun _ h => h) (v := .ref (ad 6 0 0)) rfl dX7_readHead_63 ?_
  refine fw_aload_n C dX7_readHead_66 rfl 1 rfl ?_
  refine fw_getN C (ci := 3) (Cn := RX5) (Tc := TX5) (N := 17) (j := 2) ly_X7_readHead_5 rfl (hG _ (List.mem_of_getElem? (i := 3) rfl)) (of3_0 _) (ce3 T ad _ _) (by decide) (Nst_use (cx_nst C) (w := .fieldLinkNest RX7 65 "RecipeScheduler$Recipe" "lowest" "I" "RecipeScheduler") 129 (by decide +kernel) rfl) (fun _ h => h) (v := .int (Y18 3 g1 0 2)) rfl dX7_readHead_67 ?_
  refine fw_bipush C dX7_readHead_70 (v := 99) rfl ?_
  obtain ⟨r20, Y22, q21, h⟩ := bd2_some h
  refine fw_callVi C (ci := 8) (Cn := RX10) (Tc := TX10) (N := 6) (As := [.int (Y18 3 g1 0 2), .int 99]) (c_X10_expectNumber (gac (hG _ (List.mem_of_getElem? (i := 1) rfl)) (gac (hG _ (List.mem_of_getElem? (i := 2) rfl)) ga0)) q21) (cwV 2 (cx_ts C) gX7_readHead_X10_expectNumber rfl rfl rfl (by decide +kernel) ⟨Nat.le_of_ble_eq_true rfl, Nat.le_of_ble_eq_true rfl⟩) rfl (hG _ (List.mem_of_getElem? (i := 1) rfl)) (of6_0 _) (ce6 T ad _ _) rfl (st := [.ref (ad 3 g1 0)]) rfl (Nat.le_of_ble_eq_true rfl) ⟨Nat.le_refl 0, Nat.le_refl 0⟩ dX7_readHead_72 ?_
  intro r_ Y_ e_
  obtain ⟨rfl, rfl⟩ := Prod.mk.inj e_
  obtain ⟨Y23, e24, h⟩ := lt_some h
  refine fw_putN C (ci := 3) (Cn := RX5) (Tc := TX5) (N := 17) (j := 3) (ty := .int) (upd (Y22 3 g1 0) 3 r20) ly_X7_readHead_5 rfl tyX5_ok nmX5 (hG _ (List.mem_of_getElem? (i := 3) rfl)) (of3_0 _) (ce3 T ad _ _) (by decide) (Nst_use (cx_nst C) (w := .fieldLinkNest RX7 68 "RecipeScheduler$Recipe" "highest" "I" "RecipeScheduler") 132 (by decide +kernel) rfl) (fun _ h => h) rfl (by decide +kernel) rfl rfl (by decide) (ce3_put3 T ad _ _ _) dX7_readHead_75 ?_
  refine fw_mem ((up_eq _ _ _ _ _ _).symm.trans e24) ?_
  refine fw_aload_n C dX7_readHead_78 rfl 0 rfl ?_
  refine fw_get C (ci := 5) (Cn := RX7) (Tc := TX7) (N := 1) (j := 0) ly_X7_readHead_7 rfl (hG _ (List.mem_of_getElem? (i := 0) rfl)) (of7_0 _) (ce7 T ad _ _) (by decide) (cx_ts C _ fl_X7_readHead_9) (fun _ h => h) (v := .ref (ad 6 0 0)) rfl dX7_readHead_79 ?_
  obtain ⟨Y27, q26, h⟩ := bd1_some h
  refine fw_callVv C (ci := 8) (Cn := RX10) (Tc := TX10) (N := 6) (As := []) (c_X10_expectSemicolon (gac (hG _ (List.mem_of_getElem? (i := 1) rfl)) (gac (hG _ (List.mem_of_getElem? (i := 2) rfl)) ga0)) q26) (cwV 0 (cx_ts C) gX7_readHead_X10_expectSemicolon rfl rfl rfl (by decide +kernel) ⟨Nat.le_of_ble_eq_true rfl, Nat.le_of_ble_eq_true rfl⟩) rfl (hG _ (List.mem_of_getElem? (i := 1) rfl)) (of6_0 _) (ce6 T ad _ _) rfl (st := []) rfl (Nat.le_of_ble_eq_true rfl) ⟨Nat.le_refl 0, Nat.le_refl 0⟩ dX7_readHead_82 ?_
  rintro _ rfl
  exact fw_vret C hrt Y27 (Option.some.inj h) (fun t ht => ht) dX7_readHead_85
set_option maxRecDepth 100000 in
set_option maxHeartbeats 4000000 in
theorem w_X7_readHead {Y : Mem} {g1 : Nat} (C : Cx p s m [.ref (ad 7 0 0), .ref (ad 3 g1 0)].toArray meth c cX7_readHead 2 wsX7_readHead RX7 N0 T D gr ad) (hrt : meth.sig.returnType = none) (hG : ∀ q ∈ [(7, 0), (6, 0), (5, 0), (3, g1)], q ∈ gr) {res : Mem} (h : X7_readHead Y g1 = some res) : FW p l e (Rm 6) s m [.ref (ad 7 0 0), .ref (ad 3 g1 0)].toArray below meth c 2 N0 T D gr ad 0 0 (MQ below (va_Qv (fun Y1 => Y1 = res) (WB T D gr ad) (fun q => N0 ≤ q)) [.ref (ad 7 0 0), .ref (ad 3 g1 0)].toArray s 0 0 (fun q => N0 ≤ q)) Y 0 [(0, .ref (ad 7 0 0)), (1, .ref (ad 3 g1 0))] [] := by
  unfold X7_readHead at h
  refine fw_aload_n C dX7_readHead_0 rfl 0 rfl ?_
  refine fw_get C (ci := 5) (Cn := RX7) (Tc := TX7) (N := 1) (j := 0) ly_X7_readHead_7 rfl (hG _ (List.mem_of_getElem? (i := 0) rfl)) (of7_0 _) (ce7 T ad _ _) (by decide) (cx_ts C _ fl_X7_readHead_9) (fun _ h => h) (v := .ref (ad 6 0 0)) rfl dX7_readHead_1 ?_
  refine fw_ldcS C ((cx_st C).2.1 _ (List.mem_of_getElem? (i := 1) rfl)) dX7_readHead_4 ?_
  obtain ⟨r1, Y3, q2, h⟩ := bd2_some h
  refine fw_callVi C (ci := 8) (Cn := RX10) (Tc := TX10) (N := 6) (As := [.ref (ad 21 1 0)]) (c_X10_accept (gac (hG _ (List.mem_of_getElem? (i := 2) rfl)) (gac (hG _ (List.mem_of_getElem? (i := 1) rfl)) ga0)) q2) (cwV 1 (cx_ts C) gX7_readHead_X10_accept rfl rfl rfl (by decide +kernel) ⟨Nat.le_of_ble_eq_true rfl, Nat.le_of_ble_eq_true rfl⟩) rfl (hG _ (List.mem_of_getElem? (i := 1) rfl)) (of6_0 _) (ce6 T ad _ _) rfl (st := []) rfl (Nat.le_of_ble_eq_true rfl) ⟨Nat.le_refl 0, Nat.le_refl 0⟩ dX7_readHead_6 ?_
  intro r_ Y_ e_
  obtain ⟨rfl, rfl⟩ := Prod.mk.inj e_
  refine fw_if_ne C dX7_readHead_9 (tgt := 20) rfl (fun c4 => ?_) (fun c4 => ?_)
  · have h := ite_f c4 h
    exact w_X7_readHead_b20 C hrt hG   _ h
  · have h := ite_t c4 h
    refine fw_aload_n C dX7_readHead_12 rfl 0 rfl ?_
    refine fw_get C (ci := 5) (Cn := RX7) (Tc := TX7) (N := 1) (j := 0) ly_X7_readHead_7 rfl (hG _ (List.mem_of_getElem? (i := 0) rfl)) (of7_0 _) (ce7 T ad _ _) (by decide) (cx_ts C _ fl_X7_readHead_9) (fun _ h => h) (v := .ref (ad 6 0 0)) rfl dX7_readHead_13 ?_
    refine fw_iconst C dX7_readHead_16 (v := 1) rfl ?_
    obtain ⟨Y30, q29, h⟩ := bd1_some h
    refine fw_callVv C (ci := 8) (Cn := RX10) (Tc := TX10) (N := 6) (As := [.int 1]) (c_X10_fail (gac (hG _ (List.mem_of_getElem? (i := 1) rfl)) ga0) q29) (cwV 1 (cx_ts C) gX7_readHead_X10_fail rfl rfl rfl (by decide +kernel) ⟨Nat.le_of_ble_eq_true rfl, Nat.le_of_ble_eq_true rfl⟩) rfl (hG _ (List.mem_of_getElem? (i := 1) rfl)) (of6_0 _) (ce6 T ad _ _) rfl (st := []) rfl (Nat.le_of_ble_eq_true rfl) ⟨Nat.le_refl 0, Nat.le_refl 0⟩ dX7_readHead_17 ?_
    rintro _ rfl
    exact w_X7_readHead_b20 C hrt hG   _ h
end
set_option maxRecDepth 100000 in
set_option maxHeartbeats 4000000 in
theorem c_X7_readHead {l : Launch} {N0 : Nat} {T : Nat → ClassId} {D : va_G} {gr : List (Nat × Nat)} {ad : Nat → Nat → Nat → Nat} {Y : Mem} {g1 : Nat} {res : Mem} (hG : ∀ q ∈ [(7, 0), (6, 0), (5, 0), (3, g1)], q ∈ gr) (h : X7_readHead Y g1 = some res) : CV l yX7_readHead wsX7_readHead (Rm 6) N0 T D gr ad Y [.ref (ad 7 0 0), .ref (ad 3 g1 0)] (fun Y1 => Y1 = res) :=
  fw_body (by decide +kernel) rfl (Nat.le_of_ble_eq_true rfl) (fun p e s m below meth c C hrt => w_X7_readHead C hrt hG  h)
theorem ly_X7_readPan_5 : ∀ w ∈ u_ws RX5 TX5 17, w ∈ wsX7_readPan := by decide +kernel
theorem ly_X7_readPan_4 : ∀ w ∈ u_ws RX4 TX4 3, w ∈ wsX7_readPan := by decide +kernel
theorem ly_X7_readPan_7 : ∀ w ∈ u_ws RX7 TX7 1, w ∈ wsX7_readPan := by decide +kernel
theorem fl_X7_readPan_9 : Cond.fieldLink RX7 9 "RecipeScheduler$SetupReader" "tokens" "LRecipeScheduler$Tokens;" ∈ wsX7_readPan := by decide +kernel
noncomputable def X7_readPan (Y : Mem) (g1 : Nat) : Option (Mem) :=
  lt_ (Y 4 (2*g1) 0 2) <| fun v1 => bd1 (X4_isFull Y (2*g1)) <| fun r3 => if r3 = 0 then (bd1 (X10_advance Y) <| fun Y8 => bd1 (X10_expectNewName Y8 (2*g1)) <| fun Y11 => bd2 (X10_expectNumber Y11 1 5) <| fun r12 Y14 => gd (inb v1 4) <| lt_ (up Y14 3 g1 1 (ix v1) r12) <| fun Y16 => bd1 (X10_expectSemicolon Y16) <| fun Y20 => lt_ (up Y20 4 (2*g1) 0 2 ((Y20 4 (2*g1) 0 2) + 1)) <| fun Y21 => some Y21) else (bd1 (X10_fail Y 5) <| fun Y25 => some Y25)
section
variable {p : Program} {l : Launch} {e : Env} {s : State} {m : MethodId} {below : List Frame} {meth : Method} {c : Code} {N0 : Nat} {T : Nat → ClassId} {D : va_G} {gr : List (Nat × Nat)} {ad : Nat → Nat → Nat → Nat}
set_option maxRecDepth 100000 in
set_option maxHeartbeats 4000000 in
theorem w_X7_readPan {Y : Mem} {g1 : Nat} (C : Cx p s m [.ref (ad 7 0 0), .ref (ad 3 g1 0)].toArray meth c cX7_readPan 3 wsX7_readPan RX7 N0 T D gr ad) (hrt : meth.sig.returnType = none) (hG : ∀ q ∈ [(3, g1), (4, 2*g1), (7, 0), (5, 0), (6, 0), (4, 0)], q ∈ gr) {res : Mem} (h : X7_readPan Y g1 = some res) : FW p l e (Rm 3) s m [.ref (ad 7 0 0), .ref (ad 3 g1 0)].toArray below meth c 3 N0 T D gr ad 0 0 (MQ below (va_Qv (fun Y1 => Y1 = res) (WB T D gr ad) (fun q => N0 ≤ q)) [.ref (ad 7 0 0), .ref (ad 3 g1 0)].toArray s 0 0 (fun q => N0 ≤ q)) Y 0 [(0, .ref (ad 7 0 0)), (1, .ref (ad 3 g1 0))] [] := by
  unfold X7_readPan at h
  refine fw_aload_n C dX7_readPan_0 rfl 1 rfl ?_
  refine fw_getN C (ci := 3) (Cn := RX5) (Tc := TX5) (N := 17) (j := 4) ly_X7_readPan_5 rfl (hG _ (List.mem_of_getElem? (i := 0) rfl)) (of3_0 _) (ce3 T ad _ _) (by decide) (Nst_use (cx_nst C) (w := .fieldLinkNest RX7 74 "RecipeScheduler$Recipe" "pans" "LRecipeScheduler$Names;" "RecipeScheduler") 136 (by decide +kernel) rfl) (fun _ h => h) (v := .ref (ad 4 (2*g1) 0)) rfl dX7_readPan_1 ?_
  refine fw_getN C (ci := 2) (Cn := RX4) (Tc := TX4) (N := 3) (j := 2) ly_X7_readPan_4 rfl (hG _ (List.mem_of_getElem? (i := 1) rfl)) (of4_0 _) (ce4 T ad _ _) (by decide) (Nst_use (cx_nst C) (w := .fieldLinkNest RX7 78 "RecipeScheduler$Names" "count" "I" "RecipeScheduler") 112 (by decide +kernel) rfl) (fun _ h => h) (v := .int (Y 4 (2*g1) 0 2)) rfl dX7_readPan_4 ?_
  obtain ⟨v1, e2, h⟩ := lt_some h
  refine fw_top (v' := .int v1) (by rw [e2]) ?_
  refine fw_istore_n C dX7_readPan_7 rfl (by decide) (L' := [(2, .int v1), (0, .ref (ad 7 0 0)), (1, .ref (ad 3 g1 0))]) rfl ?_
  refine fw_aload_n C dX7_readPan_8 rfl 2 rfl ?_
  refine fw_getN C (ci := 3) (Cn := RX5) (Tc := TX5) (N := 17) (j := 4) ly_X7_readPan_5 rfl (hG _ (List.mem_of_getElem? (i := 0) rfl)) (of3_0 _) (ce3 T ad _ _) (by decide) (Nst_use (cx_nst C) (w := .fieldLinkNest RX7 74 "RecipeScheduler$Recipe" "pans" "LRecipeScheduler$Names;" "RecipeScheduler") 136 (by decide +kernel) rfl) (fun _ h => h) (v := .ref (ad 4 (2*g1) 0)) rfl dX7_readPan_9 ?_
  obtain ⟨r3, q4, h⟩ := bd1_some h
  refine fw_callVi C (ci := 2) (Cn := RX4) (Tc := TX4) (N := 3) (As := []) (c_X4_isFull (gac (hG _ (List.mem_of_getElem? (i := 1) rfl)) ga0) q4) (cwV 0 (cx_ts C) gX7_readPan_X4_isFull rfl rfl rfl (by decide +kernel) ⟨Nat.le_of_ble_eq_true rfl, Nat.le_of_ble_eq_true rfl⟩) rfl (hG _ (List.mem_of_getElem? (i := 1) rfl)) (of4_0 _) (ce4 T ad _ _) rfl (st := []) rfl (Nat.le_of_ble_eq_true rfl) ⟨Nat.le_refl 0, Nat.le_refl 0⟩ dX7_readPan_12 ?_
  rintro _ _ ⟨rfl, rfl⟩
  refine fw_if_eq C dX7_readPan_15 (tgt := 27) rfl (fun c5 => ?_) (fun c5 => ?_)
  · have h := ite_t c5 h
    refine fw_aload_n C dX7_readPan_27 rfl 1 rfl ?_
    refine fw_get C (ci := 5) (Cn := RX7) (Tc := TX7) (N := 1) (j := 0) ly_X7_readPan_7 rfl (hG _ (List.mem_of_getElem? (i := 2) rfl)) (of7_0 _) (ce7 T ad _ _) (by decide) (cx_ts C _ fl_X7_readPan_9) (fun _ h => h) (v := .ref (ad 6 0 0)) rfl dX7_readPan_28 ?_
    obtain ⟨Y8, q7, h⟩ := bd1_some h
    refine fw_callVv C (ci := 8) (Cn := RX10) (Tc := TX10) (N := 6) (As := []) (c_X10_advance (gac (hG _ (List.mem_of_getElem? (i := 4) rfl)) (gac (hG _ (List.mem_of_getElem? (i := 3) rfl)) ga0)) q7) (cwV 0 (cx_ts C) gX7_readPan_X10_advance rfl rfl rfl (by decide +kernel) ⟨Nat.le_of_ble_eq_true rfl, Nat.le_of_ble_eq_true rfl⟩) rfl (hG _ (List.mem_of_getElem? (i := 4) rfl)) (of6_0 _) (ce6 T ad _ _) rfl (st := []) rfl (Nat.le_of_ble_eq_true rfl) ⟨Nat.le_refl 0, Nat.le_refl 0⟩ dX7_readPan_31 ?_
    rintro _ rfl
    refine fw_aload_n C dX7_readPan_34 rfl 1 rfl ?_
    refine fw_get C (ci := 5) (Cn := RX7) (Tc := TX7) (N := 1) (j := 0) ly_X7_readPan_7 rfl (hG _ (List.mem_of_getElem? (i := 2) rfl)) (of7_0 _) (ce7 T ad _ _) (by decide) (cx_ts C _ fl_X7_readPan_9) (fun _ h => h) (v := .ref (ad 6 0 0)) rfl dX7_readPan_35 ?_
    refine fw_aload_n C dX7_readPan_38 rfl 2 rfl ?_
    refine fw_getN C (ci := 3) (Cn := RX5) (Tc := TX5) (N := 17) (j := 4) ly_X7_readPan_5 rfl (hG _ (List.mem_of_getElem? (i := 0) rfl)) (of3_0 _) (ce3 T ad _ _) (by decide) (Nst_use (cx_nst C) (w := .fieldLinkNest RX7 74 "RecipeScheduler$Recipe" "pans" "LRecipeScheduler$Names;" "RecipeScheduler") 136 (by decide +kernel) rfl) (fun _ h => h) (v := .ref (ad 4 (2*g1) 0)) rfl dX7_readPan_39 ?_
    obtain ⟨Y11, q10, h⟩ := bd1_some h
    refine fw_callVv C (ci := 8) (Cn := RX10) (Tc := TX10) (N := 6) (As := [.ref (ad 4 (2*g1) 0)]) (c_X10_expectNewName (gac (hG _ (List.mem_of_getElem? (i := 4) rfl)) (gac (hG _ (List.mem_of_getElem? (i := 3) rfl)) (gac (hG _ (List.mem_of_getElem? (i := 5) rfl)) (gac (hG _ (List.mem_of_getElem? (i := 1) rfl)) ga0)))) q10) (cwV 1 (cx_ts C) gX7_readPan_X10_expectNewName rfl rfl rfl (by decide +kernel) ⟨Nat.le_of_ble_eq_true rfl, Nat.le_of_ble_eq_true rfl⟩) rfl (hG _ (List.mem_of_getElem? (i := 4) rfl)) (of6_0 _) (ce6 T ad _ _) rfl (st := []) rfl (Nat.le_of_ble_eq_true rfl) ⟨Nat.le_refl 0, Nat.le_refl 0⟩ dX7_readPan_42 ?_
    rintro _ rfl
    refine fw_aload_n C dX7_readPan_45 rfl 2 rfl ?_
    refine fw_getN C (ci := 3) (Cn := RX5) (Tc := TX5) (N := 17) (j := 5) ly_X7_readPan_5 rfl (hG _ (List.mem_of_getElem? (i := 0) rfl)) (of3_0 _) (ce3 T ad _ _) (by decide) (Nst_use (cx_nst C) (w := .fieldLinkNest RX7 93 "RecipeScheduler$Recipe" "capacity" "[I" "RecipeScheduler") 139 (by decide +kernel) rfl) (fun _ h => h) (v := .ref (ad 3 g1 1)) rfl dX7_readPan_46 ?_
    refine fw_iload_n C dX7_readPan_49 rfl 0 rfl ?_
    refine fw_aload_n C dX7_readPan_50 rfl 1 rfl ?_
    refine fw_get C (ci := 5) (Cn := RX7) (Tc := TX7) (N := 1) (j := 0) ly_X7_readPan_7 rfl (hG _ (List.mem_of_getElem? (i := 2) rfl)) (of7_0 _) (ce7 T ad _ _) (by decide) (cx_ts C _ fl_X7_readPan_9) (fun _ h => h) (v := .ref (ad 6 0 0)) rfl dX7_readPan_51 ?_
    refine fw_iconst C dX7_readPan_54 (v := 1) rfl ?_
    refine fw_iconst C dX7_readPan_55 (v := 5) rfl ?_
    obtain ⟨r12, Y14, q13, h⟩ := bd2_some h
    refine fw_callVi C (ci := 8) (Cn := RX10) (Tc := TX10) (N := 6) (As := [.int 1, .int 5]) (c_X10_expectNumber (gac (hG _ (List.mem_of_getElem? (i := 4) rfl)) (gac (hG _ (List.mem_of_getElem? (i := 3) rfl)) ga0)) q13) (cwV 2 (cx_ts C) gX7_readPan_X10_expectNumber rfl rfl rfl (by decide +kernel) ⟨Nat.le_of_ble_eq_true rfl, Nat.le_of_ble_eq_true rfl⟩) rfl (hG _ (List.mem_of_getElem? (i := 4) rfl)) (of6_0 _) (ce6 T ad _ _) rfl (st := [.int v1, .ref (ad 3 g1 1)]) rfl (Nat.le_of_ble_eq_true rfl) ⟨Nat.le_refl 0, Nat.le_refl 0⟩ dX7_readPan_56 ?_
    intro r_ Y_ e_
    obtain ⟨rfl, rfl⟩ := Prod.mk.inj e_
    obtain ⟨b15, h⟩ := gd_some h
    obtain ⟨Y16, e17, h⟩ := lt_some h
    refine fw_iast2 C (hG _ (List.mem_of_getElem? (i := 0) rfl)) (of3_1 _) (ca3_1 T ad _) b15 (Nat.le_of_ble_eq_true rfl) dX7_readPan_59 ?_
    refine fw_mem e17 ?_
    refine fw_aload_n C dX7_readPan_60 rfl 1 rfl ?_
    refine fw_get C (ci := 5) (Cn := RX7) (Tc := TX7) (N := 1) (j := 0) ly_X7_readPan_7 rfl (hG _ (List.mem_of_getElem? (i := 2) rfl)) (of7_0 _) (ce7 T ad _ _) (by decide) (cx_ts C _ fl_X7_readPan_9) (fun _ h => h) (v := .ref (ad 6 0 0)) rfl dX7_readPan_61 ?_
    obtain ⟨Y20, q19, h⟩ := bd1_some h
    refine fw_callVv C (ci := 8) (Cn := RX10) (Tc := TX10) (N := 6) (As := []) (c_X10_expectSemicolon (gac (hG _ (List.mem_of_getElem? (i := 4) rfl)) (gac (hG _ (List.mem_of_getElem? (i := 3) rfl)) ga0)) q19) (cwV 0 (cx_ts C) gX7_readPan_X10_expectSemicolon rfl rfl rfl (by decide +kernel) ⟨Nat.le_of_ble_eq_true rfl, Nat.le_of_ble_eq_true rfl⟩) rfl (hG _ (List.mem_of_getElem? (i := 4) rfl)) (of6_0 _) (ce6 T ad _ _) rfl (st := []) rfl (Nat.le_of_ble_eq_true rfl) ⟨Nat.le_refl 0, Nat.le_refl 0⟩ dX7_readPan_64 ?_
    rintro _ rfl
    refine fw_aload_n C dX7_readPan_67 rfl 2 rfl ?_
    refine fw_getN C (ci := 3) (Cn := RX5) (Tc := TX5) (N := 17) (j := 4) ly_X7_readPan_5 rfl (hG _ (List.mem_of_getElem? (i := 0) rfl)) (of3_0 _) (ce3 T ad _ _) (by decide) (Nst_use (cx_nst C) (w := .fieldLinkNest RX7 74 "RecipeScheduler$Recipe" "pans" "LRecipeScheduler$Names;" "RecipeScheduler") 136 (by decide +kernel) rfl) (fun _ h => h) (v := .ref (ad 4 (2*g1) 0)) rfl dX7_readPan_68 ?_
    refine fw_dup C dX7_readPan_71 rfl ?_
    refine fw_getN C (ci := 2) (Cn := RX4) (Tc := TX4) (N := 3) (j := 2) ly_X7_readPan_4 rfl (hG _ (List.mem_of_getElem? (i := 1) rfl)) (of4_0 _) (ce4 T ad _ _) (by decide) (Nst_use (cx_nst C) (w := .fieldLinkNest RX7 78 "RecipeScheduler$Names" "count" "I" "RecipeScheduler") 112 (by decide +kernel) rfl) (fun _ h => h) (v := .int (Y20 4 (2*g1) 0 2)) rfl dX7_readPan_72 ?_
    refine fw_iconst C dX7_readPan_75 (v := 1) rfl ?_
    refine fw_iadd C dX7_readPan_76 ?_
    obtain ⟨Y21, e22, h⟩ := lt_some h
    refine fw_putN C (ci := 2) (Cn := RX4) (Tc := TX4) (N := 3) (j := 2) (ty := .int) (upd (Y20 4 (2*g1) 0) 2 ((Y20 4 (2*g1) 0 2) + 1)) ly_X7_readPan_4 rfl tyX4_ok nmX4 (hG _ (List.mem_of_getElem? (i := 1) rfl)) (of4_0 _) (ce4 T ad _ _) (by decide) (Nst_use (cx_nst C) (w := .fieldLinkNest RX7 78 "RecipeScheduler$Names" "count" "I" "RecipeScheduler") 112 (by decide +kernel) rfl) (fun _ h => h) rfl (by decide +kernel) rfl rfl (by decide) (ce4_put2 T ad _ _ _) dX7_readPan_77 ?_
    refine fw_mem ((up_eq _ _ _ _ _ _).symm.trans e22) ?_
    exact fw_vret C hrt Y21 (Option.some.inj h) (fun t ht => ht) dX7_readPan_80
  · have h := ite_f c5 h
    refine fw_aload_n C dX7_readPan_18 rfl 1 rfl ?_
    refine fw_get C (ci := 5) (Cn := RX7) (Tc := TX7) (N := 1) (j := 0) ly_X7_readPan_7 rfl (hG _ (List.mem_of_getElem? (i := 2) rfl)) (of7_0 _) (ce7 T ad _ _) (by decide) (cx_ts C _ fl_X7_readPan_9) (fun _ h => h) (v := .ref (ad 6 0 0)) rfl dX7_readPan_19 ?_
    refine fw_iconst C dX7_readPan_22 (v := 5) rfl ?_
    obtain ⟨Y25, q24, h⟩ := bd1_some h
    refine fw_callVv C (ci := 8) (Cn := RX10) (Tc := TX10) (N := 6) (As := [.int 5]) (c_X10_fail (gac (hG _ (List.mem_of_getElem? (i := 4) rfl)) ga0) q24) (cwV 1 (cx_ts C) gX7_readPan_X10_fail rfl rfl rfl (by decide +kernel) ⟨Nat.le_of_ble_eq_true rfl, Nat.le_of_ble_eq_true rfl⟩) rfl (hG _ (List.mem_of_getElem? (i := 4) rfl)) (of6_0 _) (ce6 T ad _ _) rfl (st := []) rfl (Nat.le_of_ble_eq_true rfl) ⟨Nat.le_refl 0, Nat.le_refl 0⟩ dX7_readPan_23 ?_
    rintro _ rfl
    exact fw_vret C hrt Y25 (Option.some.inj h) (fun t ht => ht) dX7_readPan_26
end
set_option maxRecDepth 100000 in
set_option maxHeartbeats 4000000 in
theorem c_X7_readPan {l : Launch} {N0 : Nat} {T : Nat → ClassId} {D : va_G} {gr : List (Nat × Nat)} {ad : Nat → Nat → Nat → Nat} {Y : Mem} {g1 : Nat} {res : Mem} (hG : ∀ q ∈ [(3, g1), (4, 2*g1), (7, 0), (5, 0), (6, 0), (4, 0)], q ∈ gr) (h : X7_readPan Y g1 = some res) : CV l yX7_readPan wsX7_readPan (Rm 3) N0 T D gr ad Y [.ref (ad 7 0 0), .ref (ad 3 g1 0)] (fun Y1 => Y1 = res) :=
  fw_body (by decide +kernel) rfl (Nat.le_of_ble_eq_true rfl) (fun p e s m below meth c C hrt => w_X7_readPan C hrt hG  h)
theorem ly_X7_readPanOf_5 : ∀ w ∈ u_ws RX5 TX5 17, w ∈ wsX7_readPanOf := by decide +kernel
theorem ly_X7_readPanOf_7 : ∀ w ∈ u_ws RX7 TX7 1, w ∈ wsX7_readPanOf := by decide +kernel
theorem fl_X7_readPanOf_9 : Cond.fieldLink RX7 9 "RecipeScheduler$SetupReader" "tokens" "LRecipeScheduler$Tokens;" ∈ wsX7_readPanOf := by decide +kernel
noncomputable def X7_readPanOf (Y : Mem) (g1 : Nat) (a2 : Int32) : Option (Mem) :=
  gd (inb a2 14) <| lt_ (up Y 3 g1 5 (ix a2) ((-1))) <| fun Y2 => bd2 (X10_accept Y2 4) <| fun r4 Y6 => if r4 = 0 then (some Y6) else (bd2 (X10_findName Y6 (2*g1)) <| fun r8 Y10 => if r8 = ((-1)) then (some Y10) else (lt_ (up Y10 3 g1 5 (ix a2) r8) <| fun Y12 => gd (inb r8 4) <| lt_ (up Y12 3 g1 2 (ix r8) ((Y12 3 g1 2 (ix r8)) ||| (1 <<< (a2 &&& 31)))) <| fun Y15 => bd1 (X10_advance Y15) <| fun Y19 => some Y19))
section
variable {p : Program} {l : Launch} {e : Env} {s : State} {m : MethodId} {below : List Frame} {meth : Method} {c : Code} {N0 : Nat} {T : Nat → ClassId} {D : va_G} {gr : List (Nat × Nat)} {ad : Nat → Nat → Nat → Nat}
set_option maxRecDepth 100000 in
set_option maxHeartbeats 4000000 in
theorem w_X7_readPanOf {Y : Mem} {g1 : Nat} {a2 : Int32} (C : Cx p s m [.ref (ad 7 0 0), .ref (ad 3 g1 0), .int a2].toArray meth c cX7_readPanOf 4 wsX7_readPanOf RX7 N0 T D gr ad) (hrt : meth.sig.returnType = none) (hG : ∀ q ∈ [(3, g1), (7, 0), (6, 0), (5, 0), (4, 2*g1), (4, 0)], q ∈ gr) {res : Mem} (h : X7_readPanOf Y g1 a2 = some res) : FW p l e (Rm 6) s m [.ref (ad 7 0 0), .ref (ad 3 g1 0), .int a2].toArray below meth c 4 N0 T D gr ad 0 0 (MQ below (va_Qv (fun Y1 => Y1 = res) (WB T D gr ad) (fun q => N0 ≤ q)) [.ref (ad 7 0 0), .ref (ad 3 g1 0), .int a2].toArray s 0 0 (fun q => N0 ≤ q)) Y 0 [(0, .ref (ad 7 0 0)), (1, .ref (ad 3 g1 0)), (2, .int a2)] [] := by
  unfold X7_readPanOf at h
  refine fw_aload_n C dX7_readPanOf_0 rfl 1 rfl ?_
  refine fw_getN C (ci := 3) (Cn := RX5) (Tc := TX5) (N := 17) (j := 10) ly_X7_readPanOf_5 rfl (hG _ (List.mem_of_getElem? (i := 0) rfl)) (of3_0 _) (ce3 T ad _ _) (by decide) (Nst_use (cx_nst C) (w := .fieldLinkNest RX7 125 "RecipeScheduler$Recipe" "pan" "[I" "RecipeScheduler") 157 (by decide +kernel) rfl) (fun _ h => h) (v := .ref (ad 3 g1 5)) rfl dX7_readPanOf_1 ?_
  refine fw_iload_n C dX7_readPanOf_4 rfl 2 rfl ?_
  refine fw_iconst C dX7_readPanOf_5 (v := (-1)) rfl ?_
  obtain ⟨b1, h⟩ := gd_some h
  obtain ⟨Y2, e3, h⟩ := lt_some h
  refine fw_iast2 C (hG _ (List.mem_of_getElem? (i := 0) rfl)) (of3_5 _) (ca3_5 T ad _) b1 (Nat.le_of_ble_eq_true rfl) dX7_readPanOf_6 ?_
  refine fw_mem e3 ?_
  refine fw_aload_n C dX7_readPanOf_7 rfl 0 rfl ?_
  refine fw_get C (ci := 5) (Cn := RX7) (Tc := TX7) (N := 1) (j := 0) ly_X7_readPanOf_7 rfl (hG _ (List.mem_of_getElem? (i := 1) rfl)) (of7_0 _) (ce7 T ad _ _) (by decide) (cx_ts C _ fl_X7_readPanOf_9) (fun _ h => h) (v := .ref (ad 6 0 0)) rfl dX7_readPanOf_8 ?_
  refine fw_ldcS C ((cx_st C).2.1 _ (List.mem_of_getElem? (i := 4) rfl)) dX7_readPanOf_11 ?_
  obtain ⟨r4, Y6, q5, h⟩ := bd2_some h
  refine fw_callVi C (ci := 8) (Cn := RX10) (Tc := TX10) (N := 6) (As := [.ref (ad 21 4 0)]) (c_X10_accept (gac (hG _ (List.mem_of_getElem? (i := 3) rfl)) (gac (hG _ (List.mem_of_getElem? (i := 2) rfl)) ga0)) q5) (cwV 1 (cx_ts C) gX7_readPanOf_X10_accept rfl rfl rfl (by decide +kernel) ⟨Nat.le_of_ble_eq_true rfl, Nat.le_of_ble_eq_true rfl⟩) rfl (hG _ (List.mem_of_getElem? (i := 2) rfl)) (of6_0 _) (ce6 T ad _ _) rfl (st := []) rfl (Nat.le_of_ble_eq_true rfl) ⟨Nat.le_refl 0, Nat.le_refl 0⟩ dX7_readPanOf_13 ?_
  intro r_ Y_ e_
  obtain ⟨rfl, rfl⟩ := Prod.mk.inj e_
  refine fw_if_eq C dX7_readPanOf_16 (tgt := 62) rfl (fun c7 => ?_) (fun c7 => ?_)
  · have h := ite_t c7 h
    exact fw_vret C hrt Y6 (Option.some.inj h) (fun t ht => ht) dX7_readPanOf_62
  · have h := ite_f c7 h
    refine fw_aload_n C dX7_readPanOf_19 rfl 0 rfl ?_
    refine fw_get C (ci := 5) (Cn := RX7) (Tc := TX7) (N := 1) (j := 0) ly_X7_readPanOf_7 rfl (hG _ (List.mem_of_getElem? (i := 1) rfl)) (of7_0 _) (ce7 T ad _ _) (by decide) (cx_ts C _ fl_X7_readPanOf_9) (fun _ h => h) (v := .ref (ad 6 0 0)) rfl dX7_readPanOf_20 ?_
    refine fw_aload_n C dX7_readPanOf_23 rfl 1 rfl ?_
    refine fw_getN C (ci := 3) (Cn := RX5) (Tc := TX5) (N := 17) (j := 4) ly_X7_readPanOf_5 rfl (hG _ (List.mem_of_getElem? (i := 0) rfl)) (of3_0 _) (ce3 T ad _ _) (by decide) (Nst_use (cx_nst C) (w := .fieldLinkNest RX7 74 "RecipeScheduler$Recipe" "pans" "LRecipeScheduler$Names;" "RecipeScheduler") 136 (by decide +kernel) rfl) (fun _ h => h) (v := .ref (ad 4 (2*g1) 0)) rfl dX7_readPanOf_24 ?_
    obtain ⟨r8, Y10, q9, h⟩ := bd2_some h
    refine fw_callVi C (ci := 8) (Cn := RX10) (Tc := TX10) (N := 6) (As := [.ref (ad 4 (2*g1) 0)]) (c_X10_findName (gac (hG _ (List.mem_of_getElem? (i := 2) rfl)) (gac (hG _ (List.mem_of_getElem? (i := 3) rfl)) (gac (hG _ (List.mem_of_getElem? (i := 5) rfl)) (gac (hG _ (List.mem_of_getElem? (i := 4) rfl)) ga0)))) q9) (cwV 1 (cx_ts C) gX7_readPanOf_X10_findName rfl rfl rfl (by decide +kernel) ⟨Nat.le_of_ble_eq_true rfl, Nat.le_of_ble_eq_true rfl⟩) rfl (hG _ (List.mem_of_getElem? (i := 2) rfl)) (of6_0 _) (ce6 T ad _ _) rfl (st := []) rfl (Nat.le_of_ble_eq_true rfl) ⟨Nat.le_refl 0, Nat.le_refl 0⟩ dX7_readPanOf_27 ?_
    intro r_ Y_ e_
    obtain ⟨rfl, rfl⟩ := Prod.mk.inj e_
    refine fw_istore_n C dX7_readPanOf_30 rfl (by decide) (L' := [(3, .int r8), (0, .ref (ad 7 0 0)), (1, .ref (ad 3 g1 0)), (2, .int a2)]) rfl ?_
    refine fw_iload_n C dX7_readPanOf_31 rfl 0 rfl ?_
    refine fw_iconst C dX7_readPanOf_32 (v := (-1)) rfl ?_
    refine fw_icmp_eq C dX7_readPanOf_33 (tgt := 62) rfl (fun c11 => ?_) (fun c11 => ?_)
    · have h := ite_t c11 h
      exact fw_vret C hrt Y10 (Option.some.inj h) (fun t ht => ht) dX7_readPanOf_62
    · have h := ite_f c11 h
      refine fw_aload_n C dX7_readPanOf_36 rfl 2 rfl ?_
      refine fw_getN C (ci := 3) (Cn := RX5) (Tc := TX5) (N := 17) (j := 10) ly_X7_readPanOf_5 rfl (hG _ (List.mem_of_getElem? (i := 0) rfl)) (of3_0 _) (ce3 T ad _ _) (by decide) (Nst_use (cx_nst C) (w := .fieldLinkNest RX7 125 "RecipeScheduler$Recipe" "pan" "[I" "RecipeScheduler") 157 (by decide +kernel) rfl) (fun _ h => h) (v := .ref (ad 3 g1 5)) rfl dX7_readPanOf_37 ?_
      refine fw_iload_n C dX7_readPanOf_40 rfl 3 rfl ?_
      refine fw_iload_n C dX7_readPanOf_41 rfl 0 rfl ?_
      obtain ⟨Y12, e13, h⟩ := lt_some h
      refine fw_iast2 C (hG _ (List.mem_of_getElem? (i := 0) rfl)) (of3_5 _) (ca3_5 T ad _) b1 (Nat.le_of_ble_eq_true rfl) dX7_readPanOf_42 ?_
      refine fw_mem e13 ?_
      refine fw_aload_n C dX7_readPanOf_43 rfl 2 rfl ?_
      refine fw_getN C (ci := 3) (Cn := RX5) (Tc := TX5) (N := 17) (j := 6) ly_X7_readPanOf_5 rfl (hG _ (List.mem_of_getElem? (i := 0) rfl)) (of3_0 _) (ce3 T ad _ _) (by decide) (Nst_use (cx_nst C) (w := .fieldLinkNest RX7 133 "RecipeScheduler$Recipe" "panUsers" "[I" "RecipeScheduler") 143 (by decide +kernel) rfl) (fun _ h => h) (v := .ref (ad 3 g1 2)) rfl dX7_readPanOf_44 ?_
      refine fw_iload_n C dX7_readPanOf_47 rfl 0 rfl ?_
      refine fw_dup2 C dX7_readPanOf_48 rfl rfl ?_
      obtain ⟨b14, h⟩ := gd_some h
      refine fw_iald2 C (hG _ (List.mem_of_getElem? (i := 0) rfl)) (of3_2 _) (ca3_2 T ad _ _) b14 (Nat.le_of_ble_eq_true rfl) dX7_readPanOf_49 ?_
      refine fw_iconst C dX7_readPanOf_50 (v := 1) rfl ?_
      refine fw_iload_n C dX7_readPanOf_51 rfl 3 rfl ?_
      refine fw_ishl C dX7_readPanOf_52 ?_
      refine fw_ior C dX7_readPanOf_53 ?_
      obtain ⟨Y15, e16, h⟩ := lt_some h
      refine fw_iast2 C (hG _ (List.mem_of_getElem? (i := 0) rfl)) (of3_2 _) (ca3_2 T ad _) b14 (Nat.le_of_ble_eq_true rfl) dX7_readPanOf_54 ?_
      refine fw_mem e16 ?_
      refine fw_aload_n C dX7_readPanOf_55 rfl 1 rfl ?_
      refine fw_get C (ci := 5) (Cn := RX7) (Tc := TX7) (N := 1) (j := 0) ly_X7_readPanOf_7 rfl (hG _ (List.mem_of_getElem? (i := 1) rfl)) (of7_0 _) (ce7 T ad _ _) (by decide) (cx_ts C _ fl_X7_readPanOf_9) (fun _ h => h) (v := .ref (ad 6 0 0)) rfl dX7_readPanOf_56 ?_
      obtain ⟨Y19, q18, h⟩ := bd1_some h
      refine fw_callVv C (ci := 8) (Cn := RX10) (Tc := TX10) (N := 6) (As := []) (c_X10_advance (gac (hG _ (List.mem_of_getElem? (i := 2) rfl)) (gac (hG _ (List.mem_of_getElem? (i := 3) rfl)) ga0)) q18) (cwV 0 (cx_ts C) gX7_readPanOf_X10_advance rfl rfl rfl (by decide +kernel) ⟨Nat.le_of_ble_eq_true rfl, Nat.le_of_ble_eq_true rfl⟩) rfl (hG _ (List.mem_of_getElem? (i := 2) rfl)) (of6_0 _) (ce6 T ad _ _) rfl (st := []) rfl (Nat.le_of_ble_eq_true rfl) ⟨Nat.le_refl 0, Nat.le_refl 0⟩ dX7_readPanOf_59 ?_
      rintro _ rfl
      exact fw_vret C hrt Y19 (Option.some.inj h) (fun t ht => ht) dX7_readPanOf_62
end
set_option maxRecDepth 100000 in
set_option maxHeartbeats 4000000 in
theorem c_X7_readPanOf {l : Launch} {N0 : Nat} {T : Nat → ClassId} {D : va_G} {gr : List (Nat × Nat)} {ad : Nat → Nat → Nat → Nat} {Y : Mem} {g1 : Nat} {a2 : Int32} {res : Mem} (hG : ∀ q ∈ [(3, g1), (7, 0), (6, 0), (5, 0), (4, 2*g1), (4, 0)], q ∈ gr) (h : X7_readPanOf Y g1 a2 = some res) : CV l yX7_readPanOf wsX7_readPanOf (Rm 6) N0 T D gr ad Y [.ref (ad 7 0 0), .ref (ad 3 g1 0), .int a2] (fun Y1 => Y1 = res) :=
  fw_body (by decide +kernel) rfl (Nat.le_of_ble_eq_true rfl) (fun p e s m below meth c C hrt => w_X7_readPanOf C hrt hG  h)
theorem ly_X5_addPredecessor_5 : ∀ w ∈ u_ws RX5 TX5 17, w ∈ wsX5_addPredecessor := by decide +kernel
theorem fl_X5_addPredecessor_41 : Cond.fieldLink RX5 41 "RecipeScheduler$Recipe" "predecessors" "[[I" ∈ wsX5_addPredecessor := by decide +kernel
theorem fl_X5_addPredecessor_44 : Cond.fieldLink RX5 44 "RecipeScheduler$Recipe" "predecessorCount" "[I" ∈ wsX5_addPredecessor := by decide +kernel
theorem fl_X5_addPredecessor_47 : Cond.fieldLink RX5 47 "RecipeScheduler$Recipe" "predecessorSet" "[I" ∈ wsX5_addPredecessor := by decide +kernel
theorem fl_X5_addPredecessor_50 : Cond.fieldLink RX5 50 "RecipeScheduler$Recipe" "successorSet" "[I" ∈ wsX5_addPredecessor := by decide +kernel
noncomputable def X5_addPredecessor (Y : Mem) (g0 : Nat) (a1 : Int32) (a2 : Int32) : Option (Mem) :=
  gd (inb a1 14) <| gd (inb (Y 3 g0 7 (ix a1)) 4) <| lt_ (up Y 3 g0 (20+ix a1) (ix (Y 3 g0 7 (ix a1))) a2) <| fun Y3 => lt_ (up Y3 3 g0 7 (ix a1) ((Y3 3 g0 7 (ix a1)) + 1)) <| fun Y5 => lt_ (up Y5 3 g0 8 (ix a1) ((Y5 3 g0 8 (ix a1)) ||| (1 <<< (a2 &&& 31)))) <| fun Y7 => gd (inb a2 14) <| lt_ (up Y7 3 g0 9 (ix a2) ((Y7 3 g0 9 (ix a2)) ||| (1 <<< (a1 &&& 31)))) <| fun Y10 => some Y10
section
variable {p : Program} {l : Launch} {e : Env} {s : State} {m : MethodId} {below : List Frame} {meth : Method} {c : Code} {N0 : Nat} {T : Nat → ClassId} {D : va_G} {gr : List (Nat × Nat)} {ad : Nat → Nat → Nat → Nat}
set_option maxRecDepth 100000 in
set_option maxHeartbeats 4000000 in
theorem w_X5_addPredecessor {Y : Mem} {g0 : Nat} {a1 : Int32} {a2 : Int32} (C : Cx p s m [.ref (ad 3 g0 0), .int a1, .int a2].toArray meth c cX5_addPredecessor 3 wsX5_addPredecessor RX5 N0 T D gr ad) (hrt : meth.sig.returnType = none) (hG : ∀ q ∈ [(3, g0)], q ∈ gr) {res : Mem} (h : X5_addPredecessor Y g0 a1 a2 = some res) : FW p l e (Rm 0) s m [.ref (ad 3 g0 0), .int a1, .int a2].toArray below meth c 3 N0 T D gr ad 0 0 (MQ below (va_Qv (fun Y1 => Y1 = res) (WB T D gr ad) (fun q => N0 ≤ q)) [.ref (ad 3 g0 0), .int a1, .int a2].toArray s 0 0 (fun q => N0 ≤ q)) Y 0 [(0, .ref (ad 3 g0 0)), (1, .int a1), (2, .int a2)] [] := by
  unfold X5_addPredecessor at h
  refine fw_aload_n C dX5_addPredecessor_0 rfl 0 rfl ?_
  refine fw_get C (ci := 3) (Cn := RX5) (Tc := TX5) (N := 17) (j := 11) ly_X5_addPredecessor_5 rfl (hG _ (List.mem_of_getElem? (i := 0) rfl)) (of3_0 _) (ce3 T ad _ _) (by decide) (cx_ts C _ fl_X5_addPredecessor_41) (fun _ h => h) (v := .ref (ad 3 g0 6)) rfl dX5_addPredecessor_1 ?_
  refine fw_iload_n C dX5_addPredecessor_4 rfl 1 rfl ?_
  obtain ⟨b1, h⟩ := gd_some h
  refine fw_aald2 C 5 (hG _ (List.mem_of_getElem? (i := 0) rfl)) (of3_6 _) (ca3_6 T ad _ _) rfl rfl b1 (Nat.le_of_ble_eq_true rfl) (v := .ref (ad 3 g0 (20+ix a1))) rfl dX5_addPredecessor_5 ?_
  refine fw_aload_n C dX5_addPredecessor_6 rfl 0 rfl ?_
  refine fw_get C (ci := 3) (Cn := RX5) (Tc := TX5) (N := 17) (j := 12) ly_X5_addPredecessor_5 rfl (hG _ (List.mem_of_getElem? (i := 0) rfl)) (of3_0 _) (ce3 T ad _ _) (by decide) (cx_ts C _ fl_X5_addPredecessor_44) (fun _ h => h) (v := .ref (ad 3 g0 7)) rfl dX5_addPredecessor_7 ?_
  refine fw_iload_n C dX5_addPredecessor_10 rfl 1 rfl ?_
  refine fw_iald2 C (hG _ (List.mem_of_getElem? (i := 0) rfl)) (of3_7 _) (ca3_7 T ad _ _) b1 (Nat.le_of_ble_eq_true rfl) dX5_addPredecessor_11 ?_
  refine fw_iload_n C dX5_addPredecessor_12 rfl 2 rfl ?_
  obtain ⟨b2, h⟩ := gd_some h
  obtain ⟨Y3, e4, h⟩ := lt_some h
  refine fw_iast2 C (hG _ (List.mem_of_getElem? (i := 0) rfl)) (of3_r _ (inb_lt b1)) (ca3_r T ad _ _) b2 (Nat.le_of_ble_eq_true rfl) dX5_addPredecessor_13 ?_
  refine fw_mem e4 ?_
  refine fw_aload_n C dX5_addPredecessor_14 rfl 0 rfl ?_
  refine fw_get C (ci := 3) (Cn := RX5) (Tc := TX5) (N := 17) (j := 12) ly_X5_addPredecessor_5 rfl (hG _ (List.mem_of_getElem? (i := 0) rfl)) (of3_0 _) (ce3 T ad _ _) (by decide) (cx_ts C _ fl_X5_addPredecessor_44) (fun _ h => h) (v := .ref (ad 3 g0 7)) rfl dX5_addPredecessor_15 ?_
  refine fw_iload_n C dX5_addPredecessor_18 rfl 1 rfl ?_
  refine fw_dup2 C dX5_addPredecessor_19 rfl rfl ?_
  refine fw_iald2 C (hG _ (List.mem_of_getElem? (i := 0) rfl)) (of3_7 _) (ca3_7 T ad _ _) b1 (Nat.le_of_ble_eq_true rfl) dX5_addPredecessor_20 ?_
  refine fw_iconst C dX5_addPredecessor_21 (v := 1) rfl ?_
  refine fw_iadd C dX5_addPredecessor_22 ?_
  obtain ⟨Y5, e6, h⟩ := lt_some h
  refine fw_iast2 C (hG _ (List.mem_of_getElem? (i := 0) rfl)) (of3_7 _) (ca3_7 T ad _) b1 (Nat.le_of_ble_eq_true rfl) dX5_addPredecessor_23 ?_
  refine fw_mem e6 ?_
  refine fw_aload_n C dX5_addPredecessor_24 rfl 0 rfl ?_
  refine fw_get C (ci := 3) (Cn := RX5) (Tc := TX5) (N := 17) (j := 13) ly_X5_addPredecessor_5 rfl (hG _ (List.mem_of_getElem? (i := 0) rfl)) (of3_0 _) (ce3 T ad _ _) (by decide) (cx_ts C _ fl_X5_addPredecessor_47) (fun _ h => h) (v := .ref (ad 3 g0 8)) rfl dX5_addPredecessor_25 ?_
  refine fw_iload_n C dX5_addPredecessor_28 rfl 1 rfl ?_
  refine fw_dup2 C dX5_addPredecessor_29 rfl rfl ?_
  refine fw_iald2 C (hG _ (List.mem_of_getElem? (i := 0) rfl)) (of3_8 _) (ca3_8 T ad _ _) b1 (Nat.le_of_ble_eq_true rfl) dX5_addPredecessor_30 ?_
  refine fw_iconst C dX5_addPredecessor_31 (v := 1) rfl ?_
  refine fw_iload_n C dX5_addPredecessor_32 rfl 2 rfl ?_
  refine fw_ishl C dX5_addPredecessor_33 ?_
  refine fw_ior C dX5_addPredecessor_34 ?_
  obtain ⟨Y7, e8, h⟩ := lt_some h
  refine fw_iast2 C (hG _ (List.mem_of_getElem? (i := 0) rfl)) (of3_8 _) (ca3_8 T ad _) b1 (Nat.le_of_ble_eq_true rfl) dX5_addPredecessor_35 ?_
  refine fw_mem e8 ?_
  refine fw_aload_n C dX5_addPredecessor_36 rfl 0 rfl ?_
  refine fw_get C (ci := 3) (Cn := RX5) (Tc := TX5) (N := 17) (j := 14) ly_X5_addPredecessor_5 rfl (hG _ (List.mem_of_getElem? (i := 0) rfl)) (of3_0 _) (ce3 T ad _ _) (by decide) (cx_ts C _ fl_X5_addPredecessor_50) (fun _ h => h) (v := .ref (ad 3 g0 9)) rfl dX5_addPredecessor_37 ?_
  refine fw_iload_n C dX5_addPredecessor_40 rfl 2 rfl ?_
  refine fw_dup2 C dX5_addPredecessor_41 rfl rfl ?_
  obtain ⟨b9, h⟩ := gd_some h
  refine fw_iald2 C (hG _ (List.mem_of_getElem? (i := 0) rfl)) (of3_9 _) (ca3_9 T ad _ _) b9 (Nat.le_of_ble_eq_true rfl) dX5_addPredecessor_42 ?_
  refine fw_iconst C dX5_addPredecessor_43 (v := 1) rfl ?_
  refine fw_iload_n C dX5_addPredecessor_44 rfl 1 rfl ?_
  refine fw_ishl C dX5_addPredecessor_45 ?_
  refine fw_ior C dX5_addPredecessor_46 ?_
  obtain ⟨Y10, e11, h⟩ := lt_some h
  refine fw_iast2 C (hG _ (List.mem_of_getElem? (i := 0) rfl)) (of3_9 _) (ca3_9 T ad _) b9 (Nat.le_of_ble_eq_true rfl) dX5_addPredecessor_47 ?_
  refine fw_mem e11 ?_
  exact fw_vret C hrt Y10 (Option.some.inj h) (fun t ht => ht) dX5_addPredecessor_48
end
set_option maxRecDepth 100000 in
set_option maxHeartbeats 4000000 in
theorem c_X5_addPredecessor {l : Launch} {N0 : Nat} {T : Nat → ClassId} {D : va_G} {gr : List (Nat × Nat)} {ad : Nat → Nat → Nat → Nat} {Y : Mem} {g0 : Nat} {a1 : Int32} {a2 : Int32} {res : Mem} (hG : ∀ q ∈ [(3, g0)], q ∈ gr) (h : X5_addPredecessor Y g0 a1 a2 = some res) : CV l yX5_addPredecessor wsX5_addPredecessor (Rm 0) N0 T D gr ad Y [.ref (ad 3 g0 0), .int a1, .int a2] (fun Y1 => Y1 = res) :=
  fw_body (by decide +kernel) rfl (Nat.le_of_ble_eq_true rfl) (fun p e s m below meth c C hrt => w_X5_addPredecessor C hrt hG  h)
theorem ly_X7_readPredecessors_7 : ∀ w ∈ u_ws RX7 TX7 1, w ∈ wsX7_readPredecessors := by decide +kernel
theorem fl_X7_readPredecessors_9 : Cond.fieldLink RX7 9 "RecipeScheduler$SetupReader" "tokens" "LRecipeScheduler$Tokens;" ∈ wsX7_readPredecessors := by decide +kernel
theorem ly_X7_readPredecessors_5 : ∀ w ∈ u_ws RX5 TX5 17, w ∈ wsX7_readPredecessors := by decide +kernel
theorem in_X7_readPredecessors_11 : Cond.initialized RX11 ∈ wsX7_readPredecessors := by decide +kernel
theorem sw_X7_readPredecessors_X11_contains : Cond.static yX11_contains ∈ wsX7_readPredecessors := by decide +kernel
noncomputable def X7_readPredecessors_b101 (g1 : Nat) (a2 : Int32) (k2 : Mem → Int32 → Option (Mem)) (Y : Mem) (l3 : Int32) : Option (Mem) :=
  k2 Y (l3 + 1)
noncomputable def X7_readPredecessors_b21 (g1 : Nat) (a2 : Int32) (k2 : Mem → Int32 → Option (Mem)) (Y : Mem) (l3 : Int32) : Option (Mem) :=
  bd2 (X10_findName Y (2*g1+1)) <| fun r3 Y5 => if r3 = ((-1)) then (some Y5) else (gd (inb a2 14) <| bd1 (X11_contains Y5 (Y5 3 g1 8 (ix a2)) r3) <| fun r8 => if r8 = 0 then (if (Y5 3 g1 7 (ix a2)) < 4 then (bd1 (X5_addPredecessor Y5 g1 a2 r3) <| fun Y14 => bd1 (X10_advance Y14) <| fun Y17 => X7_readPredecessors_b101 g1 a2 k2 Y17 l3) else (bd1 (X10_fail Y5 5) <| fun Y20 => X7_readPredecessors_b101 g1 a2 k2 Y20 l3)) else (bd1 (X10_fail Y5 4) <| fun Y23 => X7_readPredecessors_b101 g1 a2 k2 Y23 l3))
noncomputable def X7_readPredecessors_b2 (g1 : Nat) (a2 : Int32) : Nat → Mem → Int32 → Option (Mem)
  | 0, _, _ => none
  | n+1, Y, l3 =>
  if 4 < l3 then (some Y) else (if l3 = 0 then (X7_readPredecessors_b21 g1 a2 (X7_readPredecessors_b2 g1 a2 n) Y l3) else (bd1 (X10_isAnyWord Y) <| fun r24 => if r24 = 0 then (some Y) else (X7_readPredecessors_b21 g1 a2 (X7_readPredecessors_b2 g1 a2 n) Y l3)))
noncomputable def X7_readPredecessors (Y : Mem) (g1 : Nat) (a2 : Int32) : Option (Mem) :=
  X7_readPredecessors_b2 g1 a2 FU Y 0
section
variable {p : Program} {l : Launch} {e : Env} {s : State} {m : MethodId} {below : List Frame} {meth : Method} {c : Code} {N0 : Nat} {T : Nat → ClassId} {D : va_G} {gr : List (Nat × Nat)} {ad : Nat → Nat → Nat → Nat}
set_option maxRecDepth 100000 in
set_option maxHeartbeats 4000000 in
theorem w_X7_readPredecessors_b101 {g1 : Nat} {a2 : Int32} (C : Cx p s m [.ref (ad 7 0 0), .ref (ad 3 g1 0), .int a2].toArray meth c cX7_readPredecessors 5 wsX7_readPredecessors RX7 N0 T D gr ad) (hrt : meth.sig.returnType = none) (hG : ∀ q ∈ [(7, 0), (3, g1), (4, 2*g1+1), (4, 0), (5, 0), (6, 0)], q ∈ gr) {res : Mem} {k2 : Mem → Int32 → Option (Mem)} (hk2 : ∀ (Y : Mem) (l3 : Int32), k2 Y l3 = some res → FW p l e (Rm 3) s m [.ref (ad 7 0 0), .ref (ad 3 g1 0), .int a2].toArray below meth c 5 N0 T D gr ad 0 0 (MQ below (va_Qv (fun Y1 => Y1 = res) (WB T D gr ad) (fun q => N0 ≤ q)) [.ref (ad 7 0 0), .ref (ad 3 g1 0), .int a2].toArray s 0 0 (fun q => N0 ≤ q)) Y 2 [(3, .int l3), (0, .ref (ad 7 0 0)), (1, .ref (ad 3 g1 0)), (2, .int a2)] []) (Y : Mem) (l3 : Int32) (h : X7_readPredecessors_b101 g1 a2 k2 Y l3 = some res) : FW p l e (Rm 3) s m [.ref (ad 7 0 0), .ref (ad 3 g1 0), .int a2].toArray below meth c 5 N0 T D gr ad 0 0 (MQ below (va_Qv (fun Y1 => Y1 = res) (WB T D gr ad) (fun q => N0 ≤ q)) [.ref (ad 7 0 0), .ref (ad 3 g1 0), .int a2].toArray s 0 0 (fun q => N0 ≤ q)) Y 101 [(3, .int l3), (0, .ref (ad 7 0 0)), (1, .ref (ad 3 g1 0)), (2, .int a2)] [] := by
  unfold X7_readPredecessors_b101 at h
  refine fw_iinc C dX7_readPredecessors_101 (kk := 0) (v := l3 + 1) rfl rfl (by decide) (L' := [(3, .int (l3 + 1)), (0, .ref (ad 7 0 0)), (1, .ref (ad 3 g1 0)), (2, .int a2)]) rfl ?_
  refine fw_goto C dX7_readPredecessors_104 (tgt := 2) rfl ?_
  exact hk2 _ _ h
set_option maxRecDepth 100000 in
set_option maxHeartbeats 4000000 in
theorem w_X7_readPredecessors_b21 {g1 : Nat} {a2 : Int32} (C : Cx p s m [.ref (ad 7 0 0), .ref (ad 3 g1 0), .int a2].toArray meth c cX7_readPredecessors 5 wsX7_readPredecessors RX7 N0 T D gr ad) (hrt : meth.sig.returnType = none) (hG : ∀ q ∈ [(7, 0), (3, g1), (4, 2*g1+1), (4, 0), (5, 0), (6, 0)], q ∈ gr) {res : Mem} {k2 : Mem → Int32 → Option (Mem)} (hk2 : ∀ (Y : Mem) (l3 : Int32), k2 Y l3 = some res → FW p l e (Rm 3) s m [.ref (ad 7 0 0), .ref (ad 3 g1 0), .int a2].toArray below meth c 5 N0 T D gr ad 0 0 (MQ below (va_Qv (fun Y1 => Y1 = res) (WB T D gr ad) (fun q => N0 ≤ q)) [.ref (ad 7 0 0), .ref (ad 3 g1 0), .int a2].toArray s 0 0 (fun q => N0 ≤ q)) Y 2 [(3, .int l3), (0, .ref (ad 7 0 0)), (1, .ref (ad 3 g1 0)), (2, .int a2)] []) (Y : Mem) (l3 : Int32) (h : X7_readPredecessors_b21 g1 a2 k2 Y l3 = some res) : FW p l e (Rm 3) s m [.ref (ad 7 0 0), .ref (ad 3 g1 0), .int a2].toArray below meth c 5 N0 T D gr ad 0 0 (MQ below (va_Qv (fun Y1 => Y1 = res) (WB T D gr ad) (fun q => N0 ≤ q)) [.ref (ad 7 0 0), .ref (ad 3 g1 0), .int a2].toArray s 0 0 (fun q => N0 ≤ q)) Y 21 [(3, .int l3), (0, .ref (ad 7 0 0)), (1, .ref (ad 3 g1 0)), (2, .int a2)] [] := by
  unfold X7_readPredecessors_b21 at h
  refine fw_aload_n C dX7_readPredecessors_21 rfl 1 rfl ?_
  refine fw_get C (ci := 5) (Cn := RX7) (Tc := TX7) (N := 1) (j := 0) ly_X7_readPredecessors_7 rfl (hG _ (List.mem_of_getElem? (i := 0) rfl)) (of7_0 _) (ce7 T ad _ _) (by decide) (cx_ts C _ fl_X7_readPredecessors_9) (fun _ h => h) (v := .ref (ad 6 0 0)) rfl dX7_readPredecessors_22 ?_
  refine fw_aload_n C dX7_readPredecessors_25 rfl 2 rfl ?_
  refine fw_getN C (ci := 3) (Cn := RX5) (Tc := TX5) (N := 17) (j := 7) ly_X7_readPredecessors_5 rfl (hG _ (List.mem_of_getElem? (i := 1) rfl)) (of3_0 _) (ce3 T ad _ _) (by decide) (Nst_use (cx_nst C) (w := .fieldLinkNest RX7 97 "RecipeScheduler$Recipe" "steps" "LRecipeScheduler$Names;" "RecipeScheduler") 147 (by decide +kernel) rfl) (fun _ h => h) (v := .ref (ad 4 (2*g1+1) 0)) rfl dX7_readPredecessors_26 ?_
  obtain ⟨r3, Y5, q4, h⟩ := bd2_some h
  refine fw_callVi C (ci := 8) (Cn := RX10) (Tc := TX10) (N := 6) (As := [.ref (ad 4 (2*g1+1) 0)]) (c_X10_findName (gac (hG _ (List.mem_of_getElem? (i := 5) rfl)) (gac (hG _ (List.mem_of_getElem? (i := 4) rfl)) (gac (hG _ (List.mem_of_getElem? (i := 3) rfl)) (gac (hG _ (List.mem_of_getElem? (i := 2) rfl)) ga0)))) q4) (cwV 1 (cx_ts C) gX7_readPredecessors_X10_findName rfl rfl rfl (by decide +kernel) ⟨Nat.le_of_ble_eq_true rfl, Nat.le_of_ble_eq_true rfl⟩) rfl (hG _ (List.mem_of_getElem? (i := 5) rfl)) (of6_0 _) (ce6 T ad _ _) rfl (st := []) rfl (Nat.le_of_ble_eq_true rfl) ⟨Nat.le_refl 0, Nat.le_refl 0⟩ dX7_readPredecessors_29 ?_
  intro r_ Y_ e_
  obtain ⟨rfl, rfl⟩ := Prod.mk.inj e_
  refine fw_istore C dX7_readPredecessors_32 (by decide) (L' := [(4, .int r3), (3, .int l3), (0, .ref (ad 7 0 0)), (1, .ref (ad 3 g1 0)), (2, .int a2)]) rfl ?_
  refine fw_iload C dX7_readPredecessors_34 0 rfl ?_
  refine fw_iconst C dX7_readPredecessors_36 (v := (-1)) rfl ?_
  refine fw_icmp_ne C dX7_readPredecessors_37 (tgt := 41) rfl (fun c6 => ?_) (fun c6 => ?_)
  · have h := ite_f c6 h
    refine fw_aload_n C dX7_readPredecessors_41 rfl 3 rfl ?_
    refine fw_getN C (ci := 3) (Cn := RX5) (Tc := TX5) (N := 17) (j := 13) ly_X7_readPredecessors_5 rfl (hG _ (List.mem_of_getElem? (i := 1) rfl)) (of3_0 _) (ce3 T ad _ _) (by decide) (Nst_use (cx_nst C) (w := .fieldLinkNest RX7 139 "RecipeScheduler$Recipe" "predecessorSet" "[I" "RecipeScheduler") 168 (by decide +kernel) rfl) (fun _ h => h) (v := .ref (ad 3 g1 8)) rfl dX7_readPredecessors_42 ?_
    refine fw_iload_n C dX7_readPredecessors_45 rfl 4 rfl ?_
    obtain ⟨b7, h⟩ := gd_some h
    refine fw_iald2 C (hG _ (List.mem_of_getElem? (i := 1) rfl)) (of3_8 _) (ca3_8 T ad _ _) b7 (Nat.le_of_ble_eq_true rfl) dX7_readPredecessors_46 ?_
    refine fw_iload C dX7_readPredecessors_47 0 rfl ?_
    obtain ⟨r8, q9, h⟩ := bd1_some h
    refine fw_callSNi C (As := [.int (Y5 3 g1 8 (ix a2)), .int r3]) (c_X11_contains ga0 q9) ⟨(va_cnB 2 (cx_ts C) gX7_readPredecessors_X11_contains_n142 rfl rfl rfl (cx_nw C (w := .methodLinkNest RX7 142 yX11_contains "RecipeScheduler") 383 (by decide +kernel) rfl) (cx_ts C _ in_X7_readPredecessors_11) (by decide +kernel) ⟨Nat.le_of_ble_eq_true rfl, Nat.le_of_ble_eq_true rfl⟩), cx_ts C _ sw_X7_readPredecessors_X11_contains, trivial⟩ rfl (st := []) rfl (Nat.le_of_ble_eq_true rfl) ⟨Nat.le_refl 0, Nat.le_refl 0⟩ dX7_readPredecessors_49 ?_
    rintro _ _ ⟨rfl, rfl⟩
    refine fw_if_eq C dX7_readPredecessors_52 (tgt := 66) rfl (fun c10 => ?_) (fun c10 => ?_)
    · have h := ite_t c10 h
      refine fw_aload_n C dX7_readPredecessors_66 rfl 3 rfl ?_
      refine fw_getN C (ci := 3) (Cn := RX5) (Tc := TX5) (N := 17) (j := 12) ly_X7_readPredecessors_5 rfl (hG _ (List.mem_of_getElem? (i := 1) rfl)) (of3_0 _) (ce3 T ad _ _) (by decide) (Nst_use (cx_nst C) (w := .fieldLinkNest RX7 146 "RecipeScheduler$Recipe" "predecessorCount" "[I" "RecipeScheduler") 164 (by decide +kernel) rfl) (fun _ h => h) (v := .ref (ad 3 g1 7)) rfl dX7_readPredecessors_67 ?_
      refine fw_iload_n C dX7_readPredecessors_70 rfl 4 rfl ?_
      refine fw_iald2 C (hG _ (List.mem_of_getElem? (i := 1) rfl)) (of3_7 _) (ca3_7 T ad _ _) b7 (Nat.le_of_ble_eq_true rfl) dX7_readPredecessors_71 ?_
      refine fw_iconst C dX7_readPredecessors_72 (v := 4) rfl ?_
      refine fw_icmp_lt C dX7_readPredecessors_73 (tgt := 87) rfl (fun c11 => ?_) (fun c11 => ?_)
      · have h := ite_t c11 h
        refine fw_aload_n C dX7_readPredecessors_87 rfl 3 rfl ?_
        refine fw_iload_n C dX7_readPredecessors_88 rfl 4 rfl ?_
        refine fw_iload C dX7_readPredecessors_89 0 rfl ?_
        obtain ⟨Y14, q13, h⟩ := bd1_some h
        refine fw_callVv C (ci := 3) (Cn := RX5) (Tc := TX5) (N := 17) (As := [.int a2, .int r3]) (c_X5_addPredecessor (gac (hG _ (List.mem_of_getElem? (i := 1) rfl)) ga0) q13) (cwV 2 (cx_ts C) gX7_readPredecessors_X5_addPredecessor rfl rfl rfl (by decide +kernel) ⟨Nat.le_of_ble_eq_true rfl, Nat.le_of_ble_eq_true rfl⟩) rfl (hG _ (List.mem_of_getElem? (i := 1) rfl)) (of3_0 _) (ce3 T ad _ _) rfl (st := []) rfl (Nat.le_of_ble_eq_true rfl) ⟨Nat.le_refl 0, Nat.le_refl 0⟩ dX7_readPredecessors_91 ?_
        rintro _ rfl
        refine fw_aload_n C dX7_readPredecessors_94 rfl 2 rfl ?_
        refine fw_get C (ci := 5) (Cn := RX7) (Tc := TX7) (N := 1) (j := 0) ly_X7_readPredecessors_7 rfl (hG _ (List.mem_of_getElem? (i := 0) rfl)) (of7_0 _) (ce7 T ad _ _) (by decide) (cx_ts C _ fl_X7_readPredecessors_9) (fun _ h => h) (v := .ref (ad 6 0 0)) rfl dX7_readPredecessors_95 ?_
        obtain ⟨Y17, q16, h⟩ := bd1_some h
        refine fw_callVv C (ci := 8) (Cn := RX10) (Tc := TX10) (N := 6) (As := []) (c_X10_advance (gac (hG _ (List.mem_of_getElem? (i := 5) rfl)) (gac (hG _ (List.mem_of_getElem? (i := 4) rfl)) ga0)) q16) (cwV 0 (cx_ts C) gX7_readPredecessors_X10_advance rfl rfl rfl (by decide +kernel) ⟨Nat.le_of_ble_eq_true rfl, Nat.le_of_ble_eq_true rfl⟩) rfl (hG _ (List.mem_of_getElem? (i := 5) rfl)) (of6_0 _) (ce6 T ad _ _) rfl (st := []) rfl (Nat.le_of_ble_eq_true rfl) ⟨Nat.le_refl 0, Nat.le_refl 0⟩ dX7_readPredecessors_98 ?_
        rintro _ rfl
        refine fw_sub [1, 2, 3, 4] (L' := [(3, .int l3), (0, .ref (ad 7 0 0)), (1, .ref (ad 3 g1 0)), (2, .int a2)]) rfl ?_
        exact w_X7_readPredecessors_b101 C hrt hG  hk2 _ _ h
      · have h := ite_f c11 h
        refine fw_aload_n C dX7_readPredecessors_76 rfl 2 rfl ?_
        refine fw_get C (ci := 5) (Cn := RX7) (Tc := TX7) (N := 1) (j := 0) ly_X7_readPredecessors_7 rfl (hG _ (List.mem_of_getElem? (i := 0) rfl)) (of7_0 _) (ce7 T ad _ _) (by decide) (cx_ts C _ fl_X7_readPredecessors_9) (fun _ h => h) (v := .ref (ad 6 0 0)) rfl dX7_readPredecessors_77 ?_
        refine fw_iconst C dX7_readPredecessors_80 (v := 5) rfl ?_
        obtain ⟨Y20, q19, h⟩ := bd1_some h
        refine fw_callVv C (ci := 8) (Cn := RX10) (Tc := TX10) (N := 6) (As := [.int 5]) (c_X10_fail (gac (hG _ (List.mem_of_getElem? (i := 5) rfl)) ga0) q19) (cwV 1 (cx_ts C) gX7_readPredecessors_X10_fail rfl rfl rfl (by decide +kernel) ⟨Nat.le_of_ble_eq_true rfl, Nat.le_of_ble_eq_true rfl⟩) rfl (hG _ (List.mem_of_getElem? (i := 5) rfl)) (of6_0 _) (ce6 T ad _ _) rfl (st := []) rfl (Nat.le_of_ble_eq_true rfl) ⟨Nat.le_refl 0, Nat.le_refl 0⟩ dX7_readPredecessors_81 ?_
        rintro _ rfl
        refine fw_goto C dX7_readPredecessors_84 (tgt := 101) rfl ?_
        refine fw_sub [1, 2, 3, 4] (L' := [(3, .int l3), (0, .ref (ad 7 0 0)), (1, .ref (ad 3 g1 0)), (2, .int a2)]) rfl ?_
        exact w_X7_readPredecessors_b101 C hrt hG  hk2 _ _ h
    · have h := ite_f c10 h
      refine fw_aload_n C dX7_readPredecessors_55 rfl 2 rfl ?_
      refine fw_get C (ci := 5) (Cn := RX7) (Tc := TX7) (N := 1) (j := 0) ly_X7_readPredecessors_7 rfl (hG _ (List.mem_of_getElem? (i := 0) rfl)) (of7_0 _) (ce7 T ad _ _) (by decide) (cx_ts C _ fl_X7_readPredecessors_9) (fun _ h => h) (v := .ref (ad 6 0 0)) rfl dX7_readPredecessors_56 ?_
      refine fw_iconst C dX7_readPredecessors_59 (v := 4) rfl ?_
      obtain ⟨Y23, q22, h⟩ := bd1_some h
      refine fw_callVv C (ci := 8) (Cn := RX10) (Tc := TX10) (N := 6) (As := [.int 4]) (c_X10_fail (gac (hG _ (List.mem_of_getElem? (i := 5) rfl)) ga0) q22) (cwV 1 (cx_ts C) gX7_readPredecessors_X10_fail rfl rfl rfl (by decide +kernel) ⟨Nat.le_of_ble_eq_true rfl, Nat.le_of_ble_eq_true rfl⟩) rfl (hG _ (List.mem_of_getElem? (i := 5) rfl)) (of6_0 _) (ce6 T ad _ _) rfl (st := []) rfl (Nat.le_of_ble_eq_true rfl) ⟨Nat.le_refl 0, Nat.le_refl 0⟩ dX7_readPredecessors_60 ?_
      rintro _ rfl
      refine fw_goto C dX7_readPredecessors_63 (tgt := 101) rfl ?_
      refine fw_sub [1, 2, 3, 4] (L' := [(3, .int l3), (0, .ref (ad 7 0 0)), (1, .ref (ad 3 g1 0)), (2, .int a2)]) rfl ?_
      exact w_X7_readPredecessors_b101 C hrt hG  hk2 _ _ h
  · have h := ite_t c6 h
    exact fw_vret C hrt Y5 (Option.some.inj h) (fun t ht => ht) dX7_readPredecessors_40
set_option maxRecDepth 100000 in
set_option maxHeartbeats 4000000 in
theorem w_X7_readPredecessors_b2 {g1 : Nat} {a2 : Int32} (C : Cx p s m [.ref (ad 7 0 0), .ref (ad 3 g1 0), .int a2].toArray meth c cX7_readPredecessors 5 wsX7_readPredecessors RX7 N0 T D gr ad) (hrt : meth.sig.returnType = none) (hG : ∀ q ∈ [(7, 0), (3, g1), (4, 2*g1+1), (4, 0), (5, 0), (6, 0)], q ∈ gr) {res : Mem} : ∀ (n : Nat) (Y : Mem) (l3 : Int32), X7_readPredecessors_b2 g1 a2  n Y l3 = some res → FW p l e (Rm 3) s m [.ref (ad 7 0 0), .ref (ad 3 g1 0), .int a2].toArray below meth c 5 N0 T D gr ad 0 0 (MQ below (va_Qv (fun Y1 => Y1 = res) (WB T D gr ad) (fun q => N0 ≤ q)) [.ref (ad 7 0 0), .ref (ad 3 g1 0), .int a2].toArray s 0 0 (fun q => N0 ≤ q)) Y 2 [(3, .int l3), (0, .ref (ad 7 0 0)), (1, .ref (ad 3 g1 0)), (2, .int a2)] [] := by
  intro n
  induction n with
  | zero =>
    intro Y l3 h
    unfold X7_readPredecessors_b2 at h
    cases h
  | succ n ih =>
    intro Y l3 h
    unfold X7_readPredecessors_b2 at h
    refine fw_iload_n C dX7_readPredecessors_2 rfl 0 rfl ?_
    refine fw_iconst C dX7_readPredecessors_3 (v := 4) rfl ?_
    refine fw_icmp_gt C dX7_readPredecessors_4 (tgt := 107) rfl (fun c1 => ?_) (fun c1 => ?_)
    · have h := ite_t c1 h
      exact fw_vret C hrt Y (Option.some.inj h) (fun t ht => ht) dX7_readPredecessors_107
    · have h := ite_f c1 h
      refine fw_iload_n C dX7_readPredecessors_7 rfl 0 rfl ?_
      refine fw_if_eq C dX7_readPredecessors_8 (tgt := 21) rfl (fun c2 => ?_) (fun c2 => ?_)
      · have h := ite_t c2 h
        exact w_X7_readPredecessors_b21 C hrt hG  ih _ _ h
      · have h := ite_f c2 h
        refine fw_aload_n C dX7_readPredecessors_11 rfl 1 rfl ?_
        refine fw_get C (ci := 5) (Cn := RX7) (Tc := TX7) (N := 1) (j := 0) ly_X7_readPredecessors_7 rfl (hG _ (List.mem_of_getElem? (i := 0) rfl)) (of7_0 _) (ce7 T ad _ _) (by decide) (cx_ts C _ fl_X7_readPredecessors_9) (fun _ h => h) (v := .ref (ad 6 0 0)) rfl dX7_readPredecessors_12 ?_
        obtain ⟨r24, q25, h⟩ := bd1_some h
        refine fw_callVi C (ci := 8) (Cn := RX10) (Tc := TX10) (N := 6) (As := []) (c_X10_isAnyWord (gac (hG _ (List.mem_of_getElem? (i := 5) rfl)) ga0) q25) (cwV 0 (cx_ts C) gX7_readPredecessors_X10_isAnyWord rfl rfl rfl (by decide +kernel) ⟨Nat.le_of_ble_eq_true rfl, Nat.le_of_ble_eq_true rfl⟩) rfl (hG _ (List.mem_of_getElem? (i := 5) rfl)) (of6_0 _) (ce6 T ad _ _) rfl (st := []) rfl (Nat.le_of_ble_eq_true rfl) ⟨Nat.le_refl 0, Nat.le_refl 0⟩ dX7_readPredecessors_15 ?_
        rintro _ _ ⟨rfl, rfl⟩
        refine fw_if_eq C dX7_readPredecessors_18 (tgt := 107) rfl (fun c26 => ?_) (fun c26 => ?_)
        · have h := ite_t c26 h
          exact fw_vret C hrt Y (Option.some.inj h) (fun t ht => ht) dX7_readPredecessors_107
        · have h := ite_f c26 h
          exact w_X7_readPredecessors_b21 C hrt hG  ih _ _ h
set_option maxRecDepth 100000 in
set_option maxHeartbeats 4000000 in
theorem w_X7_readPredecessors {Y : Mem} {g1 : Nat} {a2 : Int32} (C : Cx p s m [.ref (ad 7 0 0), .ref (ad 3 g1 0), .int a2].toArray meth c cX7_readPredecessors 5 wsX7_readPredecessors RX7 N0 T D gr ad) (hrt : meth.sig.returnType = none) (hG : ∀ q ∈ [(7, 0), (3, g1), (4, 2*g1+1), (4, 0), (5, 0), (6, 0)], q ∈ gr) {res : Mem} (h : X7_readPredecessors Y g1 a2 = some res) : FW p l e (Rm 3) s m [.ref (ad 7 0 0), .ref (ad 3 g1 0), .int a2].toArray below meth c 5 N0 T D gr ad 0 0 (MQ below (va_Qv (fun Y1 => Y1 = res) (WB T D gr ad) (fun q => N0 ≤ q)) [.ref (ad 7 0 0), .ref (ad 3 g1 0), .int a2].toArray s 0 0 (fun q => N0 ≤ q)) Y 0 [(0, .ref (ad 7 0 0)), (1, .ref (ad 3 g1 0)), (2, .int a2)] [] := by
  unfold X7_readPredecessors at h
  refine fw_iconst C dX7_readPredecessors_0 (v := 0) rfl ?_
  refine fw_istore_n C dX7_readPredecessors_1 rfl (by decide) (L' := [(3, .int 0), (0, .ref (ad 7 0 0)), (1, .ref (ad 3 g1 0)), (2, .int a2)]) rfl ?_
  exact w_X7_readPredecessors_b2 C hrt hG   _ _ _ h
end
set_option maxRecDepth 100000 in
set_option maxHeartbeats 4000000 in
theorem c_X7_readPredecessors {l : Launch} {N0 : Nat} {T : Nat → ClassId} {D : va_G} {gr : List (Nat × Nat)} {ad : Nat → Nat → Nat → Nat} {Y : Mem} {g1 : Nat} {a2 : Int32} {res : Mem} (hG : ∀ q ∈ [(7, 0), (3, g1), (4, 2*g1+1), (4, 0), (5, 0), (6, 0)], q ∈ gr) (h : X7_readPredecessors Y g1 a2 = some res) : CV l yX7_readPredecessors wsX7_readPredecessors (Rm 3) N0 T D gr ad Y [.ref (ad 7 0 0), .ref (ad 3 g1 0), .int a2] (fun Y1 => Y1 = res) :=
  fw_body (by decide +kernel) rfl (Nat.le_of_ble_eq_true rfl) (fun p e s m below meth c C hrt => w_X7_readPredecessors C hrt hG  h)
