section
variable {p : Program} {l : Launch} {e : Env} {s : State} {m : MethodId} {below : List Frame} {meth : Method} {c : Code} {N0 : Nat} {T : Nat → ClassId} {D : va_G} {gr : List (Nat × Nat)} {ad : Nat → Nat → Nat → Nat}
set_option maxRecDepth 100000 in
set_option maxHeartbeats 4000000 in
theorem w_X11_isCookCount {Y : Mem} {a1 : Int32} (C : Cx p s m [.ref (ad 0 0 0), .int a1].toArray meth c cX11_isCookCount 2 wsX11_isCookCount RX11 N0 T D gr ad) (hrt : meth.sig.returnType = (some .boolean)) (hG : ∀ q ∈ [], q ∈ gr) {res : Int32} (h : X11_isCookCount Y a1 = some res) : FW p l e (Rm 1) s m [.ref (ad 0 0 0), .int a1].toArray below meth c 2 N0 T D gr ad 0 0 (MQ below (va_Qi (fun r Y1 => r = res ∧ Y1 = Y) (WB T D gr ad) (fun q => N0 ≤ q)) [.ref (ad 0 0 0), .int a1].toArray s 0 0 (fun q => N0 ≤ q)) Y 0 [(0, .ref (ad 0 0 0)), (1, .int a1)] [] := by
  unfold X11_isCookCount at h
  refine fw_iload_n C dX11_isCookCount_0 rfl 1 rfl ?_
  refine fw_iconst C dX11_isCookCount_1 (v := 1) rfl ?_
  refine fw_iconst C dX11_isCookCount_2 (v := 4) rfl ?_
  obtain ⟨r1, q2, h⟩ := bd1_some h
  refine fw_callSi C (As := [.int a1, .int 1, .int 4]) (c_X11_isWithin ga0 q2) (va_cwS 3 (cx_ts C) gX11_isCookCount_X11_isWithin rfl rfl rfl (by decide +kernel) ⟨Nat.le_of_ble_eq_true rfl, Nat.le_of_ble_eq_true rfl⟩) rfl (st := []) rfl (Nat.le_of_ble_eq_true rfl) ⟨Nat.le_refl 0, Nat.le_refl 0⟩ dX11_isCookCount_3 (pp2 ?_)
  obtain ⟨b3, h⟩ := gd_some h
  exact fw_zret C hrt (of_decide_eq_true b3) Y ⟨Option.some.inj h, rfl⟩ (fun t ht => ht) dX11_isCookCount_6
end
set_option maxRecDepth 100000 in
set_option maxHeartbeats 4000000 in
theorem c_X11_isCookCount {l : Launch} {N0 : Nat} {T : Nat → ClassId} {D : va_G} {gr : List (Nat × Nat)} {ad : Nat → Nat → Nat → Nat} {Y : Mem} {a1 : Int32} {res : Int32} (hG : ∀ q ∈ [], q ∈ gr) (h : X11_isCookCount Y a1 = some res) : CI l yX11_isCookCount wsX11_isCookCount (Rm 1) N0 T D gr ad Y [.ref (ad 0 0 0), .int a1] (fun r Y1 => r = res ∧ Y1 = Y) :=
  fw_body (by decide +kernel) rfl (Nat.le_of_ble_eq_true rfl) (fun p e s m below meth c C hrt => w_X11_isCookCount C hrt hG  h)
section
variable {p : Program} {l : Launch} {e : Env} {s : State} {m : MethodId} {below : List Frame} {meth : Method} {c : Code} {N0 : Nat} {T : Nat → ClassId} {D : va_G} {gr : List (Nat × Nat)} {ad : Nat → Nat → Nat → Nat}
set_option maxRecDepth 100000 in
set_option maxHeartbeats 4000000 in
theorem w_X11_isDuration {Y : Mem} {a1 : Int32} (C : Cx p s m [.ref (ad 0 0 0), .int a1].toArray meth c cX11_isDuration 2 wsX11_isDuration RX11 N0 T D gr ad) (hrt : meth.sig.returnType = (some .boolean)) (hG : ∀ q ∈ [], q ∈ gr) {res : Int32} (h : X11_isDuration Y a1 = some res) : FW p l e (Rm 1) s m [.ref (ad 0 0 0), .int a1].toArray below meth c 2 N0 T D gr ad 0 0 (MQ below (va_Qi (fun r Y1 => r = res ∧ Y1 = Y) (WB T D gr ad) (fun q => N0 ≤ q)) [.ref (ad 0 0 0), .int a1].toArray s 0 0 (fun q => N0 ≤ q)) Y 0 [(0, .ref (ad 0 0 0)), (1, .int a1)] [] := by
  unfold X11_isDuration at h
  refine fw_iload_n C dX11_isDuration_0 rfl 1 rfl ?_
  refine fw_iconst C dX11_isDuration_1 (v := 1) rfl ?_
  refine fw_bipush C dX11_isDuration_2 (v := 60) rfl ?_
  obtain ⟨r1, q2, h⟩ := bd1_some h
  refine fw_callSi C (As := [.int a1, .int 1, .int 60]) (c_X11_isWithin ga0 q2) (va_cwS 3 (cx_ts C) gX11_isDuration_X11_isWithin rfl rfl rfl (by decide +kernel) ⟨Nat.le_of_ble_eq_true rfl, Nat.le_of_ble_eq_true rfl⟩) rfl (st := []) rfl (Nat.le_of_ble_eq_true rfl) ⟨Nat.le_refl 0, Nat.le_refl 0⟩ dX11_isDuration_4 (pp2 ?_)
  obtain ⟨b3, h⟩ := gd_some h
  exact fw_zret C hrt (of_decide_eq_true b3) Y ⟨Option.some.inj h, rfl⟩ (fun t ht => ht) dX11_isDuration_7
end
set_option maxRecDepth 100000 in
set_option maxHeartbeats 4000000 in
theorem c_X11_isDuration {l : Launch} {N0 : Nat} {T : Nat → ClassId} {D : va_G} {gr : List (Nat × Nat)} {ad : Nat → Nat → Nat → Nat} {Y : Mem} {a1 : Int32} {res : Int32} (hG : ∀ q ∈ [], q ∈ gr) (h : X11_isDuration Y a1 = some res) : CI l yX11_isDuration wsX11_isDuration (Rm 1) N0 T D gr ad Y [.ref (ad 0 0 0), .int a1] (fun r Y1 => r = res ∧ Y1 = Y) :=
  fw_body (by decide +kernel) rfl (Nat.le_of_ble_eq_true rfl) (fun p e s m below meth c C hrt => w_X11_isDuration C hrt hG  h)
theorem ly_X3_servingObstacle_3 : ∀ w ∈ u_ws RX3 TX3 5, w ∈ wsX3_servingObstacle := by decide +kernel
theorem fl_X3_servingObstacle_12 : Cond.fieldLink RX3 12 "RecipeScheduler$Kitchen" "state" "LRecipeScheduler$State;" ∈ wsX3_servingObstacle := by decide +kernel
theorem ly_X3_servingObstacle_8 : ∀ w ∈ u_ws RX8 TX8 15, w ∈ wsX3_servingObstacle := by decide +kernel
theorem fl_X3_servingObstacle_28 : Cond.fieldLink RX3 28 "RecipeScheduler$Kitchen" "recipe" "LRecipeScheduler$Recipe;" ∈ wsX3_servingObstacle := by decide +kernel
theorem ly_X3_servingObstacle_5 : ∀ w ∈ u_ws RX5 TX5 17, w ∈ wsX3_servingObstacle := by decide +kernel
section
variable {p : Program} {l : Launch} {e : Env} {s : State} {m : MethodId} {below : List Frame} {meth : Method} {c : Code} {N0 : Nat} {T : Nat → ClassId} {D : va_G} {gr : List (Nat × Nat)} {ad : Nat → Nat → Nat → Nat}
set_option maxRecDepth 100000 in
set_option maxHeartbeats 4000000 in
theorem w_X3_servingObstacle {Y : Mem} {g0 : Nat} (C : Cx p s m [.ref (ad 1 g0 0)].toArray meth c cX3_servingObstacle 1 wsX3_servingObstacle RX3 N0 T D gr ad) (hrt : meth.sig.returnType = (some .int)) (hG : ∀ q ∈ ([(1, g0), (2, g0)] ++ allG), q ∈ gr) {res : Int32} (h : X3_servingObstacle Y g0 = some res) : FW p l e (Rm 2) s m [.ref (ad 1 g0 0)].toArray below meth c 1 N0 T D gr ad 0 0 (MQ below (va_Qi (fun r Y1 => r = res ∧ Y1 = Y) (WB T D gr ad) (fun q => N0 ≤ q)) [.ref (ad 1 g0 0)].toArray s 0 0 (fun q => N0 ≤ q)) Y 0 [(0, .ref (ad 1 g0 0))] [] := by
  unfold X3_servingObstacle at h
  refine fw_aload_n C dX3_servingObstacle_0 rfl 0 rfl ?_
  refine fw_get C (ci := 1) (Cn := RX3) (Tc := TX3) (N := 5) (j := 1) ly_X3_servingObstacle_3 rfl (hG _ (List.mem_of_getElem? (i := 0) rfl)) (of1_0 _) (ce1 T ad _ _) (by decide) (cx_ts C _ fl_X3_servingObstacle_12) (fun _ h => h) (v := .ref (ad 2 g0 0)) rfl dX3_servingObstacle_1 ?_
  refine fw_getN C (ci := 6) (Cn := RX8) (Tc := TX8) (N := 15) (j := 5) ly_X3_servingObstacle_8 rfl (hG _ (List.mem_of_getElem? (i := 1) rfl)) (of2_0 _) (ce2 T ad _ _) (by decide) (Nst_use (cx_nst C) (w := .fieldLinkNest RX3 59 "RecipeScheduler$State" "served" "Z" "RecipeScheduler") 453 (by decide +kernel) rfl) (fun _ h => h) (v := .int (Y 2 g0 0 5)) rfl dX3_servingObstacle_4 ?_
  refine fw_if_eq C dX3_servingObstacle_7 (tgt := 12) rfl (fun c1 => ?_) (fun c1 => ?_)
  · have h := ite_t c1 h
    refine fw_aload_n C dX3_servingObstacle_12 rfl 0 rfl ?_
    refine fw_get C (ci := 1) (Cn := RX3) (Tc := TX3) (N := 5) (j := 1) ly_X3_servingObstacle_3 rfl (hG _ (List.mem_of_getElem? (i := 0) rfl)) (of1_0 _) (ce1 T ad _ _) (by decide) (cx_ts C _ fl_X3_servingObstacle_12) (fun _ h => h) (v := .ref (ad 2 g0 0)) rfl dX3_servingObstacle_13 ?_
    refine fw_getN C (ci := 6) (Cn := RX8) (Tc := TX8) (N := 15) (j := 8) ly_X3_servingObstacle_8 rfl (hG _ (List.mem_of_getElem? (i := 1) rfl)) (of2_0 _) (ce2 T ad _ _) (by decide) (Nst_use (cx_nst C) (w := .fieldLinkNest RX3 197 "RecipeScheduler$State" "burnt" "I" "RecipeScheduler") 462 (by decide +kernel) rfl) (fun _ h => h) (v := .int (Y 2 g0 0 8)) rfl dX3_servingObstacle_16 ?_
    refine fw_if_eq C dX3_servingObstacle_19 (tgt := 24) rfl (fun c2 => ?_) (fun c2 => ?_)
    · have h := ite_t c2 h
      refine fw_aload_n C dX3_servingObstacle_24 rfl 0 rfl ?_
      refine fw_get C (ci := 1) (Cn := RX3) (Tc := TX3) (N := 5) (j := 1) ly_X3_servingObstacle_3 rfl (hG _ (List.mem_of_getElem? (i := 0) rfl)) (of1_0 _) (ce1 T ad _ _) (by decide) (cx_ts C _ fl_X3_servingObstacle_12) (fun _ h => h) (v := .ref (ad 2 g0 0)) rfl dX3_servingObstacle_25 ?_
      refine fw_getN C (ci := 6) (Cn := RX8) (Tc := TX8) (N := 15) (j := 7) ly_X3_servingObstacle_8 rfl (hG _ (List.mem_of_getElem? (i := 1) rfl)) (of2_0 _) (ce2 T ad _ _) (by decide) (Nst_use (cx_nst C) (w := .fieldLinkNest RX3 47 "RecipeScheduler$State" "done" "I" "RecipeScheduler") 459 (by decide +kernel) rfl) (fun _ h => h) (v := .int (Y 2 g0 0 7)) rfl dX3_servingObstacle_28 ?_
      refine fw_aload_n C dX3_servingObstacle_31 rfl 0 rfl ?_
      refine fw_get C (ci := 1) (Cn := RX3) (Tc := TX3) (N := 5) (j := 0) ly_X3_servingObstacle_3 rfl (hG _ (List.mem_of_getElem? (i := 0) rfl)) (of1_0 _) (ce1 T ad _ _) (by decide) (cx_ts C _ fl_X3_servingObstacle_28) (fun _ h => h) (v := .ref (ad 3 ((Y 1 g0 0 0).toNatClampNeg) 0)) rfl dX3_servingObstacle_32 ?_
      obtain ⟨b3, h⟩ := gd_some h
      have b3 := of_decide_eq_true b3
      obtain ⟨b4, h⟩ := gd_some h
      have b4 := of_decide_eq_true b4
      obtain ⟨r5, q6, h⟩ := bd1_some h
      refine fw_callVi C (ci := 3) (Cn := RX5) (Tc := TX5) (N := 17) (As := []) (c_X5_allSteps (gac ((fun q hq => hG q (List.mem_append_right _ hq)) _ (allG_3 b4)) (gac ((fun q hq => hG q (List.mem_append_right _ hq)) _ (allG_4b b3)) ga0)) q6) (cwV 0 (cx_ts C) gX3_servingObstacle_X5_allSteps rfl rfl rfl (by decide +kernel) ⟨Nat.le_of_ble_eq_true rfl, Nat.le_of_ble_eq_true rfl⟩) rfl ((fun q hq => hG q (List.mem_append_right _ hq)) _ (allG_3 b4)) (of3_0 _) (ce3 T ad _ _) rfl (st := [.int (Y 2 g0 0 7)]) rfl (Nat.le_of_ble_eq_true rfl) ⟨Nat.le_refl 0, Nat.le_refl 0⟩ dX3_servingObstacle_35 (pp2 ?_)
      refine fw_icmp_eq C dX3_servingObstacle_38 (tgt := 43) rfl (fun c7 => ?_) (fun c7 => ?_)
      · have h := ite_t c7 h
        refine fw_aload_n C dX3_servingObstacle_43 rfl 0 rfl ?_
        obtain ⟨r8, q9, h⟩ := bd1_some h
        refine fw_callVi C (ci := 1) (Cn := RX3) (Tc := TX3) (N := 5) (As := []) (c_X3_dishTaste (gac (hG _ (List.mem_of_getElem? (i := 0) rfl)) (gac (hG _ (List.mem_of_getElem? (i := 1) rfl)) (fun q hq => hG q (List.mem_append_right _ hq)))) q9) (cwV 0 (cx_ts C) gX3_servingObstacle_X3_dishTaste rfl rfl rfl (by decide +kernel) ⟨Nat.le_of_ble_eq_true rfl, Nat.le_of_ble_eq_true rfl⟩) rfl (hG _ (List.mem_of_getElem? (i := 0) rfl)) (of1_0 _) (ce1 T ad _ _) rfl (st := []) rfl (Nat.le_of_ble_eq_true rfl) ⟨Nat.le_refl 0, Nat.le_refl 0⟩ dX3_servingObstacle_44 (pp2 ?_)
        refine fw_aload_n C dX3_servingObstacle_47 rfl 0 rfl ?_
        refine fw_get C (ci := 1) (Cn := RX3) (Tc := TX3) (N := 5) (j := 0) ly_X3_servingObstacle_3 rfl (hG _ (List.mem_of_getElem? (i := 0) rfl)) (of1_0 _) (ce1 T ad _ _) (by decide) (cx_ts C _ fl_X3_servingObstacle_28) (fun _ h => h) (v := .ref (ad 3 ((Y 1 g0 0 0).toNatClampNeg) 0)) rfl dX3_servingObstacle_48 ?_
        refine fw_getN C (ci := 3) (Cn := RX5) (Tc := TX5) (N := 17) (j := 2) ly_X3_servingObstacle_5 rfl ((fun q hq => hG q (List.mem_append_right _ hq)) _ (allG_3 b4)) (of3_0 _) (ce3 T ad _ _) (by decide) (Nst_use (cx_nst C) (w := .fieldLinkNest RX3 203 "RecipeScheduler$Recipe" "lowest" "I" "RecipeScheduler") 132 (by decide +kernel) rfl) (fun _ h => h) (v := .int (Y 3 ((Y 1 g0 0 0).toNatClampNeg) 0 2)) rfl dX3_servingObstacle_51 ?_
        refine fw_icmp_ge C dX3_servingObstacle_54 (tgt := 59) rfl (fun c10 => ?_) (fun c10 => ?_)
        · have h := ite_t c10 h
          refine fw_aload_n C dX3_servingObstacle_59 rfl 0 rfl ?_
          obtain ⟨r11, q12, h⟩ := bd1_some h
          refine fw_callVi C (ci := 1) (Cn := RX3) (Tc := TX3) (N := 5) (As := []) (c_X3_dishTaste (gac (hG _ (List.mem_of_getElem? (i := 0) rfl)) (gac (hG _ (List.mem_of_getElem? (i := 1) rfl)) (fun q hq => hG q (List.mem_append_right _ hq)))) q12) (cwV 0 (cx_ts C) gX3_servingObstacle_X3_dishTaste rfl rfl rfl (by decide +kernel) ⟨Nat.le_of_ble_eq_true rfl, Nat.le_of_ble_eq_true rfl⟩) rfl (hG _ (List.mem_of_getElem? (i := 0) rfl)) (of1_0 _) (ce1 T ad _ _) rfl (st := []) rfl (Nat.le_of_ble_eq_true rfl) ⟨Nat.le_refl 0, Nat.le_refl 0⟩ dX3_servingObstacle_60 (pp2 ?_)
          refine fw_aload_n C dX3_servingObstacle_63 rfl 0 rfl ?_
          refine fw_get C (ci := 1) (Cn := RX3) (Tc := TX3) (N := 5) (j := 0) ly_X3_servingObstacle_3 rfl (hG _ (List.mem_of_getElem? (i := 0) rfl)) (of1_0 _) (ce1 T ad _ _) (by decide) (cx_ts C _ fl_X3_servingObstacle_28) (fun _ h => h) (v := .ref (ad 3 ((Y 1 g0 0 0).toNatClampNeg) 0)) rfl dX3_servingObstacle_64 ?_
          refine fw_getN C (ci := 3) (Cn := RX5) (Tc := TX5) (N := 17) (j := 3) ly_X3_servingObstacle_5 rfl ((fun q hq => hG q (List.mem_append_right _ hq)) _ (allG_3 b4)) (of3_0 _) (ce3 T ad _ _) (by decide) (Nst_use (cx_nst C) (w := .fieldLinkNest RX3 206 "RecipeScheduler$Recipe" "highest" "I" "RecipeScheduler") 135 (by decide +kernel) rfl) (fun _ h => h) (v := .int (Y 3 ((Y 1 g0 0 0).toNatClampNeg) 0 3)) rfl dX3_servingObstacle_67 ?_
          refine fw_icmp_le C dX3_servingObstacle_70 (tgt := 77) rfl (fun c13 => ?_) (fun c13 => ?_)
          · have h := ite_t c13 h
            refine fw_iconst C dX3_servingObstacle_77 (v := 0) rfl ?_
            exact fw_iret C hrt Y ⟨Option.some.inj h, rfl⟩ (fun t ht => ht) dX3_servingObstacle_78
          · have h := ite_f c13 h
            refine fw_iconst C dX3_servingObstacle_73 (v := 5) rfl ?_
            refine fw_goto C dX3_servingObstacle_74 (tgt := 78) rfl ?_
            exact fw_iret C hrt Y ⟨Option.some.inj h, rfl⟩ (fun t ht => ht) dX3_servingObstacle_78
        · have h := ite_f c10 h
          refine fw_iconst C dX3_servingObstacle_57 (v := 4) rfl ?_
          exact fw_iret C hrt Y ⟨Option.some.inj h, rfl⟩ (fun t ht => ht) dX3_servingObstacle_58
      · have h := ite_f c7 h
        refine fw_iconst C dX3_servingObstacle_41 (v := 3) rfl ?_
        exact fw_iret C hrt Y ⟨Option.some.inj h, rfl⟩ (fun t ht => ht) dX3_servingObstacle_42
    · have h := ite_f c2 h
      refine fw_iconst C dX3_servingObstacle_22 (v := 2) rfl ?_
      exact fw_iret C hrt Y ⟨Option.some.inj h, rfl⟩ (fun t ht => ht) dX3_servingObstacle_23
  · have h := ite_f c1 h
    refine fw_iconst C dX3_servingObstacle_10 (v := 1) rfl ?_
    exact fw_iret C hrt Y ⟨Option.some.inj h, rfl⟩ (fun t ht => ht) dX3_servingObstacle_11
end
set_option maxRecDepth 100000 in
set_option maxHeartbeats 4000000 in
theorem c_X3_servingObstacle {l : Launch} {N0 : Nat} {T : Nat → ClassId} {D : va_G} {gr : List (Nat × Nat)} {ad : Nat → Nat → Nat → Nat} {Y : Mem} {g0 : Nat} {res : Int32} (hG : ∀ q ∈ ([(1, g0), (2, g0)] ++ allG), q ∈ gr) (h : X3_servingObstacle Y g0 = some res) : CI l yX3_servingObstacle wsX3_servingObstacle (Rm 2) N0 T D gr ad Y [.ref (ad 1 g0 0)] (fun r Y1 => r = res ∧ Y1 = Y) :=
  fw_body (by decide +kernel) rfl (Nat.le_of_ble_eq_true rfl) (fun p e s m below meth c C hrt => w_X3_servingObstacle C hrt hG  h)
theorem fl_X11_isAllowed_442 : Cond.fieldLink RX11 442 "RecipeScheduler$1" "$SwitchMap$RecipeScheduler$Command" "[I" ∈ wsX11_isAllowed := by decide +kernel
theorem ly_X11_isAllowed_11 : ∀ w ∈ u_ws RX11 TX11 11, w ∈ wsX11_isAllowed := by decide +kernel
theorem fl_X11_isAllowed_67 : Cond.fieldLink RX11 67 "RecipeScheduler" "now" "LRecipeScheduler$Kitchen;" ∈ wsX11_isAllowed := by decide +kernel
theorem ly_X11_isAllowed_3 : ∀ w ∈ u_ws RX3 TX3 5, w ∈ wsX11_isAllowed := by decide +kernel
theorem ly_X11_isAllowed_8 : ∀ w ∈ u_ws RX8 TX8 15, w ∈ wsX11_isAllowed := by decide +kernel
section
variable {p : Program} {l : Launch} {e : Env} {s : State} {m : MethodId} {below : List Frame} {meth : Method} {c : Code} {N0 : Nat} {T : Nat → ClassId} {D : va_G} {gr : List (Nat × Nat)} {ad : Nat → Nat → Nat → Nat}
set_option maxRecDepth 100000 in
set_option maxHeartbeats 4000000 in
theorem w_X11_isAllowed {Y : Mem} {w1 : Nat} {a2 : Int32} {a3 : Int32} (C : Cx p s m [.ref (ad 0 0 0), .ref (ad 20 w1 0), .int a2, .int a3].toArray meth c cX11_isAllowed 4 wsX11_isAllowed RX11 N0 T D gr ad) (hrt : meth.sig.returnType = (some .boolean)) (hG : ∀ q ∈ ([(0, 0), (2, 0), (1, 0)] ++ allG), q ∈ gr) {res : Int32} (h : X11_isAllowed Y w1 a2 a3 = some res) : FW p l e (Rm 3) s m [.ref (ad 0 0 0), .ref (ad 20 w1 0), .int a2, .int a3].toArray below meth c 4 N0 T D gr ad 0 0 (MQ below (va_Qi (fun r Y1 => r = res ∧ Y1 = Y) (WB T D gr ad) (fun q => N0 ≤ q)) [.ref (ad 0 0 0), .ref (ad 20 w1 0), .int a2, .int a3].toArray s 0 0 (fun q => N0 ≤ q)) Y 0 [(0, .ref (ad 0 0 0)), (1, .ref (ad 20 w1 0)), (2, .int a2), (3, .int a3)] [] := by
  unfold X11_isAllowed at h
  refine fw_gets C (v := .ref (ad 25 0 0)) (cx_st C).2.2.2.2.1.1 (cx_ts C _ fl_X11_isAllowed_442) (fun _ h => h) dX11_isAllowed_0 ?_
  refine fw_aload_n C dX11_isAllowed_3 rfl 1 rfl ?_
  obtain ⟨b1, h⟩ := gd_some h
  have b1 := of_decide_eq_true b1
  refine fw_callUi C (Cn := RX1) (As := []) (c_ordinal ga0 b1) (va_cwU 0 (cx_ts C) gX11_isAllowed_Jx29ce0_ordinal_8abf5_u447X1 rfl rfl rfl rfl (by decide +kernel) ⟨Nat.le_of_ble_eq_true rfl, Nat.le_of_ble_eq_true rfl⟩) ((cx_st C).2.2.1 _ b1).1 rfl (st := [.ref (ad 25 0 0)]) rfl (Nat.le_of_ble_eq_true rfl) ⟨Nat.zero_le _, Nat.zero_le _⟩ dX11_isAllowed_4 (pp2 ?_)
  obtain ⟨b2, h⟩ := gd_some h
  refine fw_ti C (cx_st C).2.2.2.2.1.2 b2 (v := .int (sSw (ix ((Int32.ofNat w1))))) rfl dX11_isAllowed_7 ?_
  by_cases c3 : (sSw (ix ((Int32.ofNat w1)))) = 1
  · have h := ite_t c3 h
    refine fw_tableIn C dX11_isAllowed_8 (by rw [c3]; decide +kernel) (by rw [c3]; decide +kernel) (off := 44) (by rw [c3]; decide +kernel) (tgt := 52) rfl ?_
    refine fw_aload_n C dX11_isAllowed_52 rfl 0 rfl ?_
    refine fw_iload_n C dX11_isAllowed_53 rfl 3 rfl ?_
    obtain ⟨r4, q5, h⟩ := bd1_some h
    refine fw_callVi C (ci := 9) (Cn := RX11) (Tc := TX11) (N := 11) (As := [.int a3]) (c_X11_isPassLength ga0 q5) (cwV 1 (cx_ts C) gX11_isAllowed_X11_isPassLength rfl rfl rfl (by decide +kernel) ⟨Nat.le_of_ble_eq_true rfl, Nat.le_of_ble_eq_true rfl⟩) rfl (hG _ (List.mem_of_getElem? (i := 0) rfl)) (of0_0 _) (ce0 T ad _ _) rfl (st := []) rfl (Nat.le_of_ble_eq_true rfl) ⟨Nat.le_refl 0, Nat.le_refl 0⟩ dX11_isAllowed_54 (pp2 ?_)
    refine fw_if_eq C dX11_isAllowed_57 (tgt := 72) rfl (fun c6 => ?_) (fun c6 => ?_)
    · have h := ite_t c6 h
      refine fw_iconst C dX11_isAllowed_72 (v := 0) rfl ?_
      exact fw_zret C hrt (by decide) Y ⟨Option.some.inj h, rfl⟩ (fun t ht => ht) dX11_isAllowed_73
    · have h := ite_f c6 h
      refine fw_aload_n C dX11_isAllowed_60 rfl 0 rfl ?_
      refine fw_iload_n C dX11_isAllowed_61 rfl 3 rfl ?_
      obtain ⟨r7, q8, h⟩ := bd1_some h
      refine fw_callVi C (ci := 9) (Cn := RX11) (Tc := TX11) (N := 11) (As := [.int a3]) (c_X11_fitsClock (gac (hG _ (List.mem_of_getElem? (i := 0) rfl)) (gac (hG _ (List.mem_of_getElem? (i := 2) rfl)) (gac (hG _ (List.mem_of_getElem? (i := 1) rfl)) ga0))) q8) (cwV 1 (cx_ts C) gX11_isAllowed_X11_fitsClock rfl rfl rfl (by decide +kernel) ⟨Nat.le_of_ble_eq_true rfl, Nat.le_of_ble_eq_true rfl⟩) rfl (hG _ (List.mem_of_getElem? (i := 0) rfl)) (of0_0 _) (ce0 T ad _ _) rfl (st := []) rfl (Nat.le_of_ble_eq_true rfl) ⟨Nat.le_refl 0, Nat.le_refl 0⟩ dX11_isAllowed_62 (pp2 ?_)
      refine fw_if_eq C dX11_isAllowed_65 (tgt := 72) rfl (fun c9 => ?_) (fun c9 => ?_)
      · have h := ite_t c9 h
        refine fw_iconst C dX11_isAllowed_72 (v := 0) rfl ?_
        exact fw_zret C hrt (by decide) Y ⟨Option.some.inj h, rfl⟩ (fun t ht => ht) dX11_isAllowed_73
      · have h := ite_f c9 h
        refine fw_iconst C dX11_isAllowed_68 (v := 1) rfl ?_
        refine fw_goto C dX11_isAllowed_69 (tgt := 73) rfl ?_
        exact fw_zret C hrt (by decide) Y ⟨Option.some.inj h, rfl⟩ (fun t ht => ht) dX11_isAllowed_73
  · have h := ite_f c3 h
    by_cases c10 : (sSw (ix ((Int32.ofNat w1)))) = 2
    · have h := ite_t c10 h
      refine fw_tableIn C dX11_isAllowed_8 (by rw [c10]; decide +kernel) (by rw [c10]; decide +kernel) (off := 66) (by rw [c10]; decide +kernel) (tgt := 74) rfl ?_
      refine fw_aload_n C dX11_isAllowed_74 rfl 0 rfl ?_
      refine fw_iload_n C dX11_isAllowed_75 rfl 3 rfl ?_
      obtain ⟨r11, q12, h⟩ := bd1_some h
      refine fw_callVi C (ci := 9) (Cn := RX11) (Tc := TX11) (N := 11) (As := [.int a3]) (c_X11_isSaltAmount ga0 q12) (cwV 1 (cx_ts C) gX11_isAllowed_X11_isSaltAmount rfl rfl rfl (by decide +kernel) ⟨Nat.le_of_ble_eq_true rfl, Nat.le_of_ble_eq_true rfl⟩) rfl (hG _ (List.mem_of_getElem? (i := 0) rfl)) (of0_0 _) (ce0 T ad _ _) rfl (st := []) rfl (Nat.le_of_ble_eq_true rfl) ⟨Nat.le_refl 0, Nat.le_refl 0⟩ dX11_isAllowed_76 (pp2 ?_)
      refine fw_if_eq C dX11_isAllowed_79 (tgt := 99) rfl (fun c13 => ?_) (fun c13 => ?_)
      · have h := ite_t c13 h
        refine fw_iconst C dX11_isAllowed_99 (v := 0) rfl ?_
        exact fw_zret C hrt (by decide) Y ⟨Option.some.inj h, rfl⟩ (fun t ht => ht) dX11_isAllowed_100
      · have h := ite_f c13 h
        refine fw_aload_n C dX11_isAllowed_82 rfl 0 rfl ?_
        refine fw_get C (ci := 9) (Cn := RX11) (Tc := TX11) (N := 11) (j := 5) ly_X11_isAllowed_11 rfl (hG _ (List.mem_of_getElem? (i := 0) rfl)) (of0_0 _) (ce0 T ad _ _) (by decide) (cx_ts C _ fl_X11_isAllowed_67) (fun _ h => h) (v := .ref (ad 1 0 0)) rfl dX11_isAllowed_83 ?_
        refine fw_getN C (ci := 1) (Cn := RX3) (Tc := TX3) (N := 5) (j := 1) ly_X11_isAllowed_3 rfl (hG _ (List.mem_of_getElem? (i := 2) rfl)) (of1_0 _) (ce1 T ad _ _) (by decide) (Nst_use (cx_nst C) (w := .fieldLinkNest RX11 139 "RecipeScheduler$Kitchen" "state" "LRecipeScheduler$State;" "RecipeScheduler") 522 (by decide +kernel) rfl) (fun _ h => h) (v := .ref (ad 2 0 0)) rfl dX11_isAllowed_86 ?_
        refine fw_getN C (ci := 6) (Cn := RX8) (Tc := TX8) (N := 15) (j := 5) ly_X11_isAllowed_8 rfl (hG _ (List.mem_of_getElem? (i := 1) rfl)) (of2_0 _) (ce2 T ad _ _) (by decide) (Nst_use (cx_nst C) (w := .fieldLinkNest RX11 350 "RecipeScheduler$State" "served" "Z" "RecipeScheduler") 454 (by decide +kernel) rfl) (fun _ h => h) (v := .int (Y 2 0 0 5)) rfl dX11_isAllowed_89 ?_
        refine fw_if_ne C dX11_isAllowed_92 (tgt := 99) rfl (fun c14 => ?_) (fun c14 => ?_)
        · have h := ite_f c14 h
          refine fw_iconst C dX11_isAllowed_99 (v := 0) rfl ?_
          exact fw_zret C hrt (by decide) Y ⟨Option.some.inj h, rfl⟩ (fun t ht => ht) dX11_isAllowed_100
        · have h := ite_t c14 h
          refine fw_iconst C dX11_isAllowed_95 (v := 1) rfl ?_
          refine fw_goto C dX11_isAllowed_96 (tgt := 100) rfl ?_
          exact fw_zret C hrt (by decide) Y ⟨Option.some.inj h, rfl⟩ (fun t ht => ht) dX11_isAllowed_100
    · have h := ite_f c10 h
      by_cases c15 : (sSw (ix ((Int32.ofNat w1)))) = 3
      · have h := ite_t c15 h
        refine fw_tableIn C dX11_isAllowed_8 (by rw [c15]; decide +kernel) (by rw [c15]; decide +kernel) (off := 66) (by rw [c15]; decide +kernel) (tgt := 74) rfl ?_
        refine fw_aload_n C dX11_isAllowed_74 rfl 0 rfl ?_
        refine fw_iload_n C dX11_isAllowed_75 rfl 3 rfl ?_
        obtain ⟨r16, q17, h⟩ := bd1_some h
        refine fw_callVi C (ci := 9) (Cn := RX11) (Tc := TX11) (N := 11) (As := [.int a3]) (c_X11_isSaltAmount ga0 q17) (cwV 1 (cx_ts C) gX11_isAllowed_X11_isSaltAmount rfl rfl rfl (by decide +kernel) ⟨Nat.le_of_ble_eq_true rfl, Nat.le_of_ble_eq_true rfl⟩) rfl (hG _ (List.mem_of_getElem? (i := 0) rfl)) (of0_0 _) (ce0 T ad _ _) rfl (st := []) rfl (Nat.le_of_ble_eq_true rfl) ⟨Nat.le_refl 0, Nat.le_refl 0⟩ dX11_isAllowed_76 (pp2 ?_)
        refine fw_if_eq C dX11_isAllowed_79 (tgt := 99) rfl (fun c18 => ?_) (fun c18 => ?_)
        · have h := ite_t c18 h
          refine fw_iconst C dX11_isAllowed_99 (v := 0) rfl ?_
          exact fw_zret C hrt (by decide) Y ⟨Option.some.inj h, rfl⟩ (fun t ht => ht) dX11_isAllowed_100
        · have h := ite_f c18 h
          refine fw_aload_n C dX11_isAllowed_82 rfl 0 rfl ?_
          refine fw_get C (ci := 9) (Cn := RX11) (Tc := TX11) (N := 11) (j := 5) ly_X11_isAllowed_11 rfl (hG _ (List.mem_of_getElem? (i := 0) rfl)) (of0_0 _) (ce0 T ad _ _) (by decide) (cx_ts C _ fl_X11_isAllowed_67) (fun _ h => h) (v := .ref (ad 1 0 0)) rfl dX11_isAllowed_83 ?_
          refine fw_getN C (ci := 1) (Cn := RX3) (Tc := TX3) (N := 5) (j := 1) ly_X11_isAllowed_3 rfl (hG _ (List.mem_of_getElem? (i := 2) rfl)) (of1_0 _) (ce1 T ad _ _) (by decide) (Nst_use (cx_nst C) (w := .fieldLinkNest RX11 139 "RecipeScheduler$Kitchen" "state" "LRecipeScheduler$State;" "RecipeScheduler") 522 (by decide +kernel) rfl) (fun _ h => h) (v := .ref (ad 2 0 0)) rfl dX11_isAllowed_86 ?_
          refine fw_getN C (ci := 6) (Cn := RX8) (Tc := TX8) (N := 15) (j := 5) ly_X11_isAllowed_8 rfl (hG _ (List.mem_of_getElem? (i := 1) rfl)) (of2_0 _) (ce2 T ad _ _) (by decide) (Nst_use (cx_nst C) (w := .fieldLinkNest RX11 350 "RecipeScheduler$State" "served" "Z" "RecipeScheduler") 454 (by decide +kernel) rfl) (fun _ h => h) (v := .int (Y 2 0 0 5)) rfl dX11_isAllowed_89 ?_
          refine fw_if_ne C dX11_isAllowed_92 (tgt := 99) rfl (fun c19 => ?_) (fun c19 => ?_)
          · have h := ite_f c19 h
            refine fw_iconst C dX11_isAllowed_99 (v := 0) rfl ?_
            exact fw_zret C hrt (by decide) Y ⟨Option.some.inj h, rfl⟩ (fun t ht => ht) dX11_isAllowed_100
          · have h := ite_t c19 h
            refine fw_iconst C dX11_isAllowed_95 (v := 1) rfl ?_
            refine fw_goto C dX11_isAllowed_96 (tgt := 100) rfl ?_
            exact fw_zret C hrt (by decide) Y ⟨Option.some.inj h, rfl⟩ (fun t ht => ht) dX11_isAllowed_100
      · have h := ite_f c15 h
        by_cases c20 : (sSw (ix ((Int32.ofNat w1)))) = 4
        · have h := ite_t c20 h
          refine fw_tableIn C dX11_isAllowed_8 (by rw [c20]; decide +kernel) (by rw [c20]; decide +kernel) (off := 93) (by rw [c20]; decide +kernel) (tgt := 101) rfl ?_
          refine fw_aload_n C dX11_isAllowed_101 rfl 0 rfl ?_
          refine fw_get C (ci := 9) (Cn := RX11) (Tc := TX11) (N := 11) (j := 5) ly_X11_isAllowed_11 rfl (hG _ (List.mem_of_getElem? (i := 0) rfl)) (of0_0 _) (ce0 T ad _ _) (by decide) (cx_ts C _ fl_X11_isAllowed_67) (fun _ h => h) (v := .ref (ad 1 0 0)) rfl dX11_isAllowed_102 ?_
          refine fw_getN C (ci := 1) (Cn := RX3) (Tc := TX3) (N := 5) (j := 1) ly_X11_isAllowed_3 rfl (hG _ (List.mem_of_getElem? (i := 2) rfl)) (of1_0 _) (ce1 T ad _ _) (by decide) (Nst_use (cx_nst C) (w := .fieldLinkNest RX11 139 "RecipeScheduler$Kitchen" "state" "LRecipeScheduler$State;" "RecipeScheduler") 522 (by decide +kernel) rfl) (fun _ h => h) (v := .ref (ad 2 0 0)) rfl dX11_isAllowed_105 ?_
          refine fw_getN C (ci := 6) (Cn := RX8) (Tc := TX8) (N := 15) (j := 6) ly_X11_isAllowed_8 rfl (hG _ (List.mem_of_getElem? (i := 1) rfl)) (of2_0 _) (ce2 T ad _ _) (by decide) (Nst_use (cx_nst C) (w := .fieldLinkNest RX11 324 "RecipeScheduler$State" "running" "I" "RecipeScheduler") 457 (by decide +kernel) rfl) (fun _ h => h) (v := .int (Y 2 0 0 6)) rfl dX11_isAllowed_108 ?_
          refine fw_iload_n C dX11_isAllowed_111 rfl 2 rfl ?_
          obtain ⟨r21, q22, h⟩ := bd1_some h
          refine fw_callSi C (As := [.int (Y 2 0 0 6), .int a2]) (c_X11_contains ga0 q22) (va_cwS 2 (cx_ts C) gX11_isAllowed_X11_contains rfl rfl rfl (by decide +kernel) ⟨Nat.le_of_ble_eq_true rfl, Nat.le_of_ble_eq_true rfl⟩) rfl (st := []) rfl (Nat.le_of_ble_eq_true rfl) ⟨Nat.le_refl 0, Nat.le_refl 0⟩ dX11_isAllowed_112 (pp2 ?_)
          obtain ⟨b23, h⟩ := gd_some h
          exact fw_zret C hrt (of_decide_eq_true b23) Y ⟨Option.some.inj h, rfl⟩ (fun t ht => ht) dX11_isAllowed_115
        · have h := ite_f c20 h
          by_cases c24 : (sSw (ix ((Int32.ofNat w1)))) = 5
          · have h := ite_t c24 h
            refine fw_tableIn C dX11_isAllowed_8 (by rw [c24]; decide +kernel) (by rw [c24]; decide +kernel) (off := 108) (by rw [c24]; decide +kernel) (tgt := 116) rfl ?_
            refine fw_aload_n C dX11_isAllowed_116 rfl 0 rfl ?_
            refine fw_get C (ci := 9) (Cn := RX11) (Tc := TX11) (N := 11) (j := 5) ly_X11_isAllowed_11 rfl (hG _ (List.mem_of_getElem? (i := 0) rfl)) (of0_0 _) (ce0 T ad _ _) (by decide) (cx_ts C _ fl_X11_isAllowed_67) (fun _ h => h) (v := .ref (ad 1 0 0)) rfl dX11_isAllowed_117 ?_
            refine fw_iload_n C dX11_isAllowed_120 rfl 2 rfl ?_
            obtain ⟨r25, q26, h⟩ := bd1_some h
            refine fw_callVi C (ci := 1) (Cn := RX3) (Tc := TX3) (N := 5) (As := [.int a2]) (c_X3_isRedoable (gac (hG _ (List.mem_of_getElem? (i := 2) rfl)) (gac (hG _ (List.mem_of_getElem? (i := 1) rfl)) (fun q hq => hG q (List.mem_append_right _ hq)))) q26) (cwV 1 (cx_ts C) gX11_isAllowed_X3_isRedoable rfl rfl rfl (by decide +kernel) ⟨Nat.le_of_ble_eq_true rfl, Nat.le_of_ble_eq_true rfl⟩) rfl (hG _ (List.mem_of_getElem? (i := 2) rfl)) (of1_0 _) (ce1 T ad _ _) rfl (st := []) rfl (Nat.le_of_ble_eq_true rfl) ⟨Nat.le_refl 0, Nat.le_refl 0⟩ dX11_isAllowed_121 (pp2 ?_)
            obtain ⟨b27, h⟩ := gd_some h
            exact fw_zret C hrt (of_decide_eq_true b27) Y ⟨Option.some.inj h, rfl⟩ (fun t ht => ht) dX11_isAllowed_124
          · have h := ite_f c24 h
            by_cases c28 : (sSw (ix ((Int32.ofNat w1)))) = 6
            · have h := ite_t c28 h
              refine fw_tableIn C dX11_isAllowed_8 (by rw [c28]; decide +kernel) (by rw [c28]; decide +kernel) (off := 117) (by rw [c28]; decide +kernel) (tgt := 125) rfl ?_
              refine fw_aload_n C dX11_isAllowed_125 rfl 0 rfl ?_
              refine fw_iload_n C dX11_isAllowed_126 rfl 3 rfl ?_
              obtain ⟨r29, q30, h⟩ := bd1_some h
              refine fw_callVi C (ci := 9) (Cn := RX11) (Tc := TX11) (N := 11) (As := [.int a3]) (c_X11_isCookCount ga0 q30) (cwV 1 (cx_ts C) gX11_isAllowed_X11_isCookCount rfl rfl rfl (by decide +kernel) ⟨Nat.le_of_ble_eq_true rfl, Nat.le_of_ble_eq_true rfl⟩) rfl (hG _ (List.mem_of_getElem? (i := 0) rfl)) (of0_0 _) (ce0 T ad _ _) rfl (st := []) rfl (Nat.le_of_ble_eq_true rfl) ⟨Nat.le_refl 0, Nat.le_refl 0⟩ dX11_isAllowed_127 (pp2 ?_)
              obtain ⟨b31, h⟩ := gd_some h
              exact fw_zret C hrt (of_decide_eq_true b31) Y ⟨Option.some.inj h, rfl⟩ (fun t ht => ht) dX11_isAllowed_130
            · have h := ite_f c28 h
              by_cases c32 : (sSw (ix ((Int32.ofNat w1)))) = 7
              · have h := ite_t c32 h
                refine fw_tableIn C dX11_isAllowed_8 (by rw [c32]; decide +kernel) (by rw [c32]; decide +kernel) (off := 123) (by rw [c32]; decide +kernel) (tgt := 131) rfl ?_
                refine fw_aload_n C dX11_isAllowed_131 rfl 0 rfl ?_
                refine fw_iload_n C dX11_isAllowed_132 rfl 3 rfl ?_
                obtain ⟨r33, q34, h⟩ := bd1_some h
                refine fw_callVi C (ci := 9) (Cn := RX11) (Tc := TX11) (N := 11) (As := [.int a3]) (c_X11_isDuration ga0 q34) (cwV 1 (cx_ts C) gX11_isAllowed_X11_isDuration rfl rfl rfl (by decide +kernel) ⟨Nat.le_of_ble_eq_true rfl, Nat.le_of_ble_eq_true rfl⟩) rfl (hG _ (List.mem_of_getElem? (i := 0) rfl)) (of0_0 _) (ce0 T ad _ _) rfl (st := []) rfl (Nat.le_of_ble_eq_true rfl) ⟨Nat.le_refl 0, Nat.le_refl 0⟩ dX11_isAllowed_133 (pp2 ?_)
                obtain ⟨b35, h⟩ := gd_some h
                exact fw_zret C hrt (of_decide_eq_true b35) Y ⟨Option.some.inj h, rfl⟩ (fun t ht => ht) dX11_isAllowed_136
              · have h := ite_f c32 h
                have c3 : ¬ ((sSw (ix ((Int32.ofNat w1))))).toInt = 1 := fun q => c3 (Int32.toInt_inj.mp (by rw [q]; decide +kernel))
                have c10 : ¬ ((sSw (ix ((Int32.ofNat w1))))).toInt = 2 := fun q => c10 (Int32.toInt_inj.mp (by rw [q]; decide +kernel))
                have c15 : ¬ ((sSw (ix ((Int32.ofNat w1))))).toInt = 3 := fun q => c15 (Int32.toInt_inj.mp (by rw [q]; decide +kernel))
                have c20 : ¬ ((sSw (ix ((Int32.ofNat w1))))).toInt = 4 := fun q => c20 (Int32.toInt_inj.mp (by rw [q]; decide +kernel))
                have c24 : ¬ ((sSw (ix ((Int32.ofNat w1))))).toInt = 5 := fun q => c24 (Int32.toInt_inj.mp (by rw [q]; decide +kernel))
                have c28 : ¬ ((sSw (ix ((Int32.ofNat w1))))).toInt = 6 := fun q => c28 (Int32.toInt_inj.mp (by rw [q]; decide +kernel))
                have c32 : ¬ ((sSw (ix ((Int32.ofNat w1))))).toInt = 7 := fun q => c32 (Int32.toInt_inj.mp (by rw [q]; decide +kernel))
                refine fw_tableOut C dX11_isAllowed_8 (by omega) (tgt := 137) rfl ?_
                refine fw_aload_n C dX11_isAllowed_137 rfl 0 rfl ?_
                refine fw_get C (ci := 9) (Cn := RX11) (Tc := TX11) (N := 11) (j := 5) ly_X11_isAllowed_11 rfl (hG _ (List.mem_of_getElem? (i := 0) rfl)) (of0_0 _) (ce0 T ad _ _) (by decide) (cx_ts C _ fl_X11_isAllowed_67) (fun _ h => h) (v := .ref (ad 1 0 0)) rfl dX11_isAllowed_138 ?_
                obtain ⟨r36, q37, h⟩ := bd1_some h
                refine fw_callVi C (ci := 1) (Cn := RX3) (Tc := TX3) (N := 5) (As := []) (c_X3_servingObstacle (gac (hG _ (List.mem_of_getElem? (i := 2) rfl)) (gac (hG _ (List.mem_of_getElem? (i := 1) rfl)) (fun q hq => hG q (List.mem_append_right _ hq)))) q37) (cwV 0 (cx_ts C) gX11_isAllowed_X3_servingObstacle rfl rfl rfl (by decide +kernel) ⟨Nat.le_of_ble_eq_true rfl, Nat.le_of_ble_eq_true rfl⟩) rfl (hG _ (List.mem_of_getElem? (i := 2) rfl)) (of1_0 _) (ce1 T ad _ _) rfl (st := []) rfl (Nat.le_of_ble_eq_true rfl) ⟨Nat.le_refl 0, Nat.le_refl 0⟩ dX11_isAllowed_141 (pp2 ?_)
                refine fw_if_ne C dX11_isAllowed_144 (tgt := 151) rfl (fun c38 => ?_) (fun c38 => ?_)
                · have h := ite_f c38 h
                  refine fw_iconst C dX11_isAllowed_151 (v := 0) rfl ?_
                  exact fw_zret C hrt (by decide) Y ⟨Option.some.inj h, rfl⟩ (fun t ht => ht) dX11_isAllowed_152
                · have h := ite_t c38 h
                  refine fw_iconst C dX11_isAllowed_147 (v := 1) rfl ?_
                  refine fw_goto C dX11_isAllowed_148 (tgt := 152) rfl ?_
                  exact fw_zret C hrt (by decide) Y ⟨Option.some.inj h, rfl⟩ (fun t ht => ht) dX11_isAllowed_152
end
set_option maxRecDepth 100000 in
set_option maxHeartbeats 4000000 in
theorem c_X11_isAllowed {l : Launch} {N0 : Nat} {T : Nat → ClassId} {D : va_G} {gr : List (Nat × Nat)} {ad : Nat → Nat → Nat → Nat} {Y : Mem} {w1 : Nat} {a2 : Int32} {a3 : Int32} {res : Int32} (hG : ∀ q ∈ ([(0, 0), (2, 0), (1, 0)] ++ allG), q ∈ gr) (h : X11_isAllowed Y w1 a2 a3 = some res) : CI l yX11_isAllowed wsX11_isAllowed (Rm 3) N0 T D gr ad Y [.ref (ad 0 0 0), .ref (ad 20 w1 0), .int a2, .int a3] (fun r Y1 => r = res ∧ Y1 = Y) :=
  fw_body (by decide +kernel) rfl (Nat.le_of_ble_eq_true rfl) (fun p e s m below meth c C hrt => w_X11_isAllowed C hrt hG  h)
theorem ly_X11_isHot_11 : ∀ w ∈ u_ws RX11 TX11 11, w ∈ wsX11_isHot := by decide +kernel
theorem fl_X11_isHot_67 : Cond.fieldLink RX11 67 "RecipeScheduler" "now" "LRecipeScheduler$Kitchen;" ∈ wsX11_isHot := by decide +kernel
theorem ly_X11_isHot_3 : ∀ w ∈ u_ws RX3 TX3 5, w ∈ wsX11_isHot := by decide +kernel
theorem ly_X11_isHot_5 : ∀ w ∈ u_ws RX5 TX5 17, w ∈ wsX11_isHot := by decide +kernel
section
variable {p : Program} {l : Launch} {e : Env} {s : State} {m : MethodId} {below : List Frame} {meth : Method} {c : Code} {N0 : Nat} {T : Nat → ClassId} {D : va_G} {gr : List (Nat × Nat)} {ad : Nat → Nat → Nat → Nat}
set_option maxRecDepth 100000 in
set_option maxHeartbeats 4000000 in
theorem w_X11_isHot {Y : Mem} {a1 : Int32} (C : Cx p s m [.ref (ad 0 0 0), .int a1].toArray meth c cX11_isHot 2 wsX11_isHot RX11 N0 T D gr ad) (hrt : meth.sig.returnType = (some .boolean)) (hG : ∀ q ∈ ([(1, 0), (0, 0)] ++ allG), q ∈ gr) (hl : l.stackTraces = false) (hX : ∀ x ∈ c.exceptionTable.toList, False) {res : (Nat × Mem) ⊕ (Int32 × Mem)} (h : X11_isHot Y a1 = some res) : FW p l e (Rx 7 1) s m [.ref (ad 0 0 0), .int a1].toArray below meth c 2 N0 T D gr ad 0 0 (vx_MQ below (va_Qi (fun r Y1 => Sum.inr (r, Y1) = res) (WB T D gr ad) (fun q => N0 ≤ q)) (vx_X (fun u => Sum.inl u = res) (XB T D gr ad) (fun q => N0 ≤ q)) [.ref (ad 0 0 0), .int a1].toArray s 1 6 (fun q => N0 ≤ q)) Y 0 [(0, .ref (ad 0 0 0)), (1, .int a1)] [] := by
  unfold X11_isHot at h
  refine fw_aload_n C dX11_isHot_0 rfl 0 rfl ?_
  refine fw_iload_n C dX11_isHot_1 rfl 1 rfl ?_
  rcases bdxv_some h with ⟨x5, q2, e6⟩ | ⟨Y4, q2, h⟩
  · exact fw_callXVv_l C (ci := 9) (Cn := RX11) (Tc := TX11) (N := 11) (As := [.int a1]) (c_X11_requireStep hl (gac (hG _ (List.mem_of_getElem? (i := 1) rfl)) (gac (hG _ (List.mem_of_getElem? (i := 0) rfl)) (fun q hq => hG q (List.mem_append_right _ hq)))) q2) (cwV 1 (cx_ts C) gX11_isHot_X11_requireStep rfl rfl rfl (by decide +kernel) ⟨Nat.le_of_ble_eq_true rfl, Nat.le_of_ble_eq_true rfl⟩) rfl (hG _ (List.mem_of_getElem? (i := 1) rfl)) (of0_0 _) (ce0 T ad _ _) rfl (st := []) rfl (Nat.le_of_ble_eq_true rfl) ⟨Nat.le_of_ble_eq_true rfl, Nat.le_of_ble_eq_true rfl⟩ dX11_isHot_2 hX e6 (Nat.le_of_ble_eq_true rfl) (Nat.le_of_ble_eq_true rfl)
  refine fw_callXVv_r C (ci := 9) (Cn := RX11) (Tc := TX11) (N := 11) (As := [.int a1]) (c_X11_requireStep hl (gac (hG _ (List.mem_of_getElem? (i := 1) rfl)) (gac (hG _ (List.mem_of_getElem? (i := 0) rfl)) (fun q hq => hG q (List.mem_append_right _ hq)))) q2) (cwV 1 (cx_ts C) gX11_isHot_X11_requireStep rfl rfl rfl (by decide +kernel) ⟨Nat.le_of_ble_eq_true rfl, Nat.le_of_ble_eq_true rfl⟩) rfl (hG _ (List.mem_of_getElem? (i := 1) rfl)) (of0_0 _) (ce0 T ad _ _) rfl (st := []) rfl (Nat.le_of_ble_eq_true rfl) ⟨Nat.le_of_ble_eq_true rfl, Nat.le_of_ble_eq_true rfl⟩ dX11_isHot_2 ?_
  refine fw_aload_n C dX11_isHot_5 rfl 0 rfl ?_
  refine fw_get C (ci := 9) (Cn := RX11) (Tc := TX11) (N := 11) (j := 5) ly_X11_isHot_11 rfl (hG _ (List.mem_of_getElem? (i := 1) rfl)) (of0_0 _) (ce0 T ad _ _) (by decide) (cx_ts C _ fl_X11_isHot_67) (fun _ h => h) (v := .ref (ad 1 0 0)) rfl dX11_isHot_6 ?_
  refine fw_getN C (ci := 1) (Cn := RX3) (Tc := TX3) (N := 5) (j := 0) ly_X11_isHot_3 rfl (hG _ (List.mem_of_getElem? (i := 0) rfl)) (of1_0 _) (ce1 T ad _ _) (by decide) (Nst_use (cx_nst C) (w := .fieldLinkNest RX11 117 "RecipeScheduler$Kitchen" "recipe" "LRecipeScheduler$Recipe;" "RecipeScheduler") 520 (by decide +kernel) rfl) (fun _ h => h) (v := .ref (ad 3 ((Y4 1 0 0 0).toNatClampNeg) 0)) rfl dX11_isHot_9 ?_
  obtain ⟨b7, h⟩ := gd_some h
  have b7 := of_decide_eq_true b7
  refine fw_getN C (ci := 3) (Cn := RX5) (Tc := TX5) (N := 17) (j := 15) ly_X11_isHot_5 rfl ((fun q hq => hG q (List.mem_append_right _ hq)) _ (allG_3 b7)) (of3_0 _) (ce3 T ad _ _) (by decide) (Nst_use (cx_nst C) (w := .fieldLinkNest RX11 205 "RecipeScheduler$Recipe" "hot" "I" "RecipeScheduler") 178 (by decide +kernel) rfl) (fun _ h => h) (v := .int (Y4 3 ((Y4 1 0 0 0).toNatClampNeg) 0 15)) rfl dX11_isHot_12 ?_
  refine fw_iload_n C dX11_isHot_15 rfl 1 rfl ?_
  obtain ⟨r8, q9, h⟩ := bd1_some h
  refine fw_callSi C (As := [.int (Y4 3 ((Y4 1 0 0 0).toNatClampNeg) 0 15), .int a1]) (c_X11_contains ga0 q9) (va_cwS 2 (cx_ts C) gX11_isHot_X11_contains rfl rfl rfl (by decide +kernel) ⟨Nat.le_of_ble_eq_true rfl, Nat.le_of_ble_eq_true rfl⟩) rfl (st := []) rfl (Nat.le_of_ble_eq_true rfl) ⟨Nat.le_of_ble_eq_true rfl, Nat.le_of_ble_eq_true rfl⟩ dX11_isHot_16 (pp2 ?_)
  refine fw_xr (Nat.le_of_ble_eq_true rfl) (Nat.le_of_ble_eq_true rfl) ?_
  obtain ⟨b10, h⟩ := gd_some h
  exact fw_zret C hrt (of_decide_eq_true b10) Y4 (Option.some.inj h) (fun t ht => ht) dX11_isHot_19
end
set_option maxRecDepth 100000 in
set_option maxHeartbeats 4000000 in
theorem c_X11_isHot {l : Launch} {N0 : Nat} {T : Nat → ClassId} {D : va_G} {gr : List (Nat × Nat)} {ad : Nat → Nat → Nat → Nat} {Y : Mem} {a1 : Int32} {res : (Nat × Mem) ⊕ (Int32 × Mem)} (hl : l.stackTraces = false) (hG : ∀ q ∈ ([(1, 0), (0, 0)] ++ allG), q ∈ gr) (h : X11_isHot Y a1 = some res) : CXi l yX11_isHot wsX11_isHot (Rx 7 1) N0 T D gr ad Y [.ref (ad 0 0 0), .int a1] 1 res :=
  fw_xbody (by decide +kernel) rfl (Nat.le_of_ble_eq_true rfl) (fun p e s m below meth c C hrt hX => w_X11_isHot C hrt hG hl hX h)
