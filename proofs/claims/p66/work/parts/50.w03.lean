theorem ly_X10_findName_10 : ∀ w ∈ u_ws RX10 TX10 6, w ∈ wsX10_findName := by decide +kernel
theorem fl_X10_findName_44 : Cond.fieldLink RX10 44 "RecipeScheduler$Tokens" "kind" "I" ∈ wsX10_findName := by decide +kernel
theorem fl_X10_findName_9 : Cond.fieldLink RX10 9 "RecipeScheduler$Tokens" "text" "LRecipeScheduler$Text;" ∈ wsX10_findName := by decide +kernel
theorem fl_X10_findName_28 : Cond.fieldLink RX10 28 "RecipeScheduler$Tokens" "start" "I" ∈ wsX10_findName := by decide +kernel
theorem fl_X10_findName_22 : Cond.fieldLink RX10 22 "RecipeScheduler$Tokens" "end" "I" ∈ wsX10_findName := by decide +kernel
section
variable {p : Program} {l : Launch} {e : Env} {s : State} {m : MethodId} {below : List Frame} {meth : Method} {c : Code} {N0 : Nat} {T : Nat → ClassId} {D : va_G} {gr : List (Nat × Nat)} {ad : Nat → Nat → Nat → Nat}
set_option maxRecDepth 100000 in
set_option maxHeartbeats 4000000 in
theorem w_X10_findName {Y : Mem} {g1 : Nat} (C : Cx p s m [.ref (ad 6 0 0), .ref (ad 4 g1 0)].toArray meth c cX10_findName 3 wsX10_findName RX10 N0 T D gr ad) (hrt : meth.sig.returnType = (some .int)) (hG : ∀ q ∈ [(6, 0), (5, 0), (4, g1)], q ∈ gr) {res : Int32 × Mem} (h : X10_findName Y g1 = some res) : FW p l e (Rm 2) s m [.ref (ad 6 0 0), .ref (ad 4 g1 0)].toArray below meth c 3 N0 T D gr ad 0 0 (MQ below (va_Qi (fun r Y1 => (r, Y1) = res) (WB T D gr ad) (fun q => N0 ≤ q)) [.ref (ad 6 0 0), .ref (ad 4 g1 0)].toArray s 0 0 (fun q => N0 ≤ q)) Y 0 [(0, .ref (ad 6 0 0)), (1, .ref (ad 4 g1 0))] [] := by
  unfold X10_findName at h
  refine fw_aload_n C dX10_findName_0 rfl 0 rfl ?_
  refine fw_get C (ci := 10) (Cn := RX10) (Tc := TX10) (N := 6) (j := 1) ly_X10_findName_10 rfl (hG _ (List.mem_of_getElem? (i := 0) rfl)) (of6_0 _) (ce6 T ad _ _) (by decide) (cx_ts C _ fl_X10_findName_44) (fun _ h => h) (v := .int (Y 6 0 0 1)) rfl dX10_findName_1 ?_
  refine fw_iconst C dX10_findName_4 (v := 1) rfl ?_
  refine fw_icmp_eq C dX10_findName_5 (tgt := 15) rfl (fun c1 => ?_) (fun c1 => ?_)
  · have h := ite_t c1 h
    refine fw_aload_n C dX10_findName_15 rfl 1 rfl ?_
    refine fw_aload_n C dX10_findName_16 rfl 0 rfl ?_
    refine fw_get C (ci := 10) (Cn := RX10) (Tc := TX10) (N := 6) (j := 0) ly_X10_findName_10 rfl (hG _ (List.mem_of_getElem? (i := 0) rfl)) (of6_0 _) (ce6 T ad _ _) (by decide) (cx_ts C _ fl_X10_findName_9) (fun _ h => h) (v := .ref (ad 5 0 0)) rfl dX10_findName_17 ?_
    refine fw_aload_n C dX10_findName_20 rfl 0 rfl ?_
    refine fw_get C (ci := 10) (Cn := RX10) (Tc := TX10) (N := 6) (j := 2) ly_X10_findName_10 rfl (hG _ (List.mem_of_getElem? (i := 0) rfl)) (of6_0 _) (ce6 T ad _ _) (by decide) (cx_ts C _ fl_X10_findName_28) (fun _ h => h) (v := .int (Y 6 0 0 2)) rfl dX10_findName_21 ?_
    refine fw_aload_n C dX10_findName_24 rfl 0 rfl ?_
    refine fw_get C (ci := 10) (Cn := RX10) (Tc := TX10) (N := 6) (j := 3) ly_X10_findName_10 rfl (hG _ (List.mem_of_getElem? (i := 0) rfl)) (of6_0 _) (ce6 T ad _ _) (by decide) (cx_ts C _ fl_X10_findName_22) (fun _ h => h) (v := .int (Y 6 0 0 3)) rfl dX10_findName_25 ?_
    obtain ⟨r2, q3, h⟩ := bd1_some h
    refine fw_callVi C (ci := 4) (Cn := RX4) (Tc := TX4) (N := 3) (As := [.ref (ad 5 0 0), .int (Y 6 0 0 2), .int (Y 6 0 0 3)]) (c_X4_indexOf (gac (hG _ (List.mem_of_getElem? (i := 2) rfl)) (gac (hG _ (List.mem_of_getElem? (i := 1) rfl)) ga0)) q3) (cwV 3 (cx_ts C) gX10_findName_X4_indexOf rfl rfl rfl (by decide +kernel) ⟨Nat.le_of_ble_eq_true rfl, Nat.le_of_ble_eq_true rfl⟩) rfl (hG _ (List.mem_of_getElem? (i := 2) rfl)) (of4_0 _) (ce4 T ad _ _) rfl (st := []) rfl (Nat.le_of_ble_eq_true rfl) ⟨Nat.le_refl 0, Nat.le_refl 0⟩ dX10_findName_28 (pp2 ?_)
    refine fw_istore_n C dX10_findName_31 rfl (by decide) (L' := [(2, .int r2), (0, .ref (ad 6 0 0)), (1, .ref (ad 4 g1 0))]) rfl ?_
    refine fw_iload_n C dX10_findName_32 rfl 0 rfl ?_
    refine fw_iconst C dX10_findName_33 (v := (-1)) rfl ?_
    refine fw_icmp_ne C dX10_findName_34 (tgt := 42) rfl (fun c4 => ?_) (fun c4 => ?_)
    · have h := ite_f c4 h
      refine fw_iload_n C dX10_findName_42 rfl 0 rfl ?_
      exact fw_iret C hrt Y (Option.some.inj h) (fun t ht => ht) dX10_findName_43
    · have h := ite_t c4 h
      refine fw_aload_n C dX10_findName_37 rfl 1 rfl ?_
      refine fw_iconst C dX10_findName_38 (v := 3) rfl ?_
      obtain ⟨Y7, q6, h⟩ := bd1_some h
      refine fw_callVv C (ci := 10) (Cn := RX10) (Tc := TX10) (N := 6) (As := [.int 3]) (c_X10_fail (gac (hG _ (List.mem_of_getElem? (i := 0) rfl)) ga0) q6) (cwV 1 (cx_ts C) gX10_findName_X10_fail rfl rfl rfl (by decide +kernel) ⟨Nat.le_of_ble_eq_true rfl, Nat.le_of_ble_eq_true rfl⟩) rfl (hG _ (List.mem_of_getElem? (i := 0) rfl)) (of6_0 _) (ce6 T ad _ _) rfl (st := []) rfl (Nat.le_of_ble_eq_true rfl) ⟨Nat.le_refl 0, Nat.le_refl 0⟩ dX10_findName_39 (ppv ?_)
      refine fw_iload_n C dX10_findName_42 rfl 0 rfl ?_
      exact fw_iret C hrt Y7 (Option.some.inj h) (fun t ht => ht) dX10_findName_43
  · have h := ite_f c1 h
    refine fw_aload_n C dX10_findName_8 rfl 0 rfl ?_
    refine fw_iconst C dX10_findName_9 (v := 1) rfl ?_
    obtain ⟨Y10, q9, h⟩ := bd1_some h
    refine fw_callVv C (ci := 10) (Cn := RX10) (Tc := TX10) (N := 6) (As := [.int 1]) (c_X10_fail (gac (hG _ (List.mem_of_getElem? (i := 0) rfl)) ga0) q9) (cwV 1 (cx_ts C) gX10_findName_X10_fail rfl rfl rfl (by decide +kernel) ⟨Nat.le_of_ble_eq_true rfl, Nat.le_of_ble_eq_true rfl⟩) rfl (hG _ (List.mem_of_getElem? (i := 0) rfl)) (of6_0 _) (ce6 T ad _ _) rfl (st := []) rfl (Nat.le_of_ble_eq_true rfl) ⟨Nat.le_refl 0, Nat.le_refl 0⟩ dX10_findName_10 (ppv ?_)
    refine fw_iconst C dX10_findName_13 (v := (-1)) rfl ?_
    exact fw_iret C hrt Y10 (Option.some.inj h) (fun t ht => ht) dX10_findName_14
end
set_option maxRecDepth 100000 in
set_option maxHeartbeats 4000000 in
theorem c_X10_findName {l : Launch} {N0 : Nat} {T : Nat → ClassId} {D : va_G} {gr : List (Nat × Nat)} {ad : Nat → Nat → Nat → Nat} {Y : Mem} {g1 : Nat} {res : Int32 × Mem} (hG : ∀ q ∈ [(6, 0), (5, 0), (4, g1)], q ∈ gr) (h : X10_findName Y g1 = some res) : CI l yX10_findName wsX10_findName (Rm 2) N0 T D gr ad Y [.ref (ad 6 0 0), .ref (ad 4 g1 0)] (fun r Y1 => (r, Y1) = res) :=
  fw_body (by decide +kernel) rfl (Nat.le_of_ble_eq_true rfl) (fun p e s m below meth c C hrt => w_X10_findName C hrt hG  h)
theorem ly_X10_isAnyWord_10 : ∀ w ∈ u_ws RX10 TX10 6, w ∈ wsX10_isAnyWord := by decide +kernel
theorem fl_X10_isAnyWord_44 : Cond.fieldLink RX10 44 "RecipeScheduler$Tokens" "kind" "I" ∈ wsX10_isAnyWord := by decide +kernel
section
variable {p : Program} {l : Launch} {e : Env} {s : State} {m : MethodId} {below : List Frame} {meth : Method} {c : Code} {N0 : Nat} {T : Nat → ClassId} {D : va_G} {gr : List (Nat × Nat)} {ad : Nat → Nat → Nat → Nat}
set_option maxRecDepth 100000 in
set_option maxHeartbeats 4000000 in
theorem w_X10_isAnyWord {Y : Mem} (C : Cx p s m [.ref (ad 6 0 0)].toArray meth c cX10_isAnyWord 1 wsX10_isAnyWord RX10 N0 T D gr ad) (hrt : meth.sig.returnType = (some .boolean)) (hG : ∀ q ∈ [(6, 0)], q ∈ gr) {res : Int32} (h : X10_isAnyWord Y = some res) : FW p l e (Rm 0) s m [.ref (ad 6 0 0)].toArray below meth c 1 N0 T D gr ad 0 0 (MQ below (va_Qi (fun r Y1 => r = res ∧ Y1 = Y) (WB T D gr ad) (fun q => N0 ≤ q)) [.ref (ad 6 0 0)].toArray s 0 0 (fun q => N0 ≤ q)) Y 0 [(0, .ref (ad 6 0 0))] [] := by
  unfold X10_isAnyWord at h
  refine fw_aload_n C dX10_isAnyWord_0 rfl 0 rfl ?_
  refine fw_get C (ci := 10) (Cn := RX10) (Tc := TX10) (N := 6) (j := 1) ly_X10_isAnyWord_10 rfl (hG _ (List.mem_of_getElem? (i := 0) rfl)) (of6_0 _) (ce6 T ad _ _) (by decide) (cx_ts C _ fl_X10_isAnyWord_44) (fun _ h => h) (v := .int (Y 6 0 0 1)) rfl dX10_isAnyWord_1 ?_
  refine fw_iconst C dX10_isAnyWord_4 (v := 1) rfl ?_
  refine fw_icmp_ne C dX10_isAnyWord_5 (tgt := 12) rfl (fun c1 => ?_) (fun c1 => ?_)
  · have h := ite_f c1 h
    refine fw_iconst C dX10_isAnyWord_12 (v := 0) rfl ?_
    exact fw_zret C hrt (by decide) Y ⟨Option.some.inj h, rfl⟩ (fun t ht => ht) dX10_isAnyWord_13
  · have h := ite_t c1 h
    refine fw_iconst C dX10_isAnyWord_8 (v := 1) rfl ?_
    refine fw_goto C dX10_isAnyWord_9 (tgt := 13) rfl ?_
    exact fw_zret C hrt (by decide) Y ⟨Option.some.inj h, rfl⟩ (fun t ht => ht) dX10_isAnyWord_13
end
set_option maxRecDepth 100000 in
set_option maxHeartbeats 4000000 in
theorem c_X10_isAnyWord {l : Launch} {N0 : Nat} {T : Nat → ClassId} {D : va_G} {gr : List (Nat × Nat)} {ad : Nat → Nat → Nat → Nat} {Y : Mem} {res : Int32} (hG : ∀ q ∈ [(6, 0)], q ∈ gr) (h : X10_isAnyWord Y = some res) : CI l yX10_isAnyWord wsX10_isAnyWord (Rm 0) N0 T D gr ad Y [.ref (ad 6 0 0)] (fun r Y1 => r = res ∧ Y1 = Y) :=
  fw_body (by decide +kernel) rfl (Nat.le_of_ble_eq_true rfl) (fun p e s m below meth c C hrt => w_X10_isAnyWord C hrt hG  h)
theorem ly_X10_mayGoOn_10 : ∀ w ∈ u_ws RX10 TX10 6, w ∈ wsX10_mayGoOn := by decide +kernel
theorem fl_X10_mayGoOn_44 : Cond.fieldLink RX10 44 "RecipeScheduler$Tokens" "kind" "I" ∈ wsX10_mayGoOn := by decide +kernel
section
variable {p : Program} {l : Launch} {e : Env} {s : State} {m : MethodId} {below : List Frame} {meth : Method} {c : Code} {N0 : Nat} {T : Nat → ClassId} {D : va_G} {gr : List (Nat × Nat)} {ad : Nat → Nat → Nat → Nat}
set_option maxRecDepth 100000 in
set_option maxHeartbeats 4000000 in
theorem w_X10_mayGoOn {Y : Mem} (C : Cx p s m [.ref (ad 6 0 0)].toArray meth c cX10_mayGoOn 1 wsX10_mayGoOn RX10 N0 T D gr ad) (hrt : meth.sig.returnType = (some .boolean)) (hG : ∀ q ∈ [(6, 0)], q ∈ gr) {res : Int32} (h : X10_mayGoOn Y = some res) : FW p l e (Rm 0) s m [.ref (ad 6 0 0)].toArray below meth c 1 N0 T D gr ad 0 0 (MQ below (va_Qi (fun r Y1 => r = res ∧ Y1 = Y) (WB T D gr ad) (fun q => N0 ≤ q)) [.ref (ad 6 0 0)].toArray s 0 0 (fun q => N0 ≤ q)) Y 0 [(0, .ref (ad 6 0 0))] [] := by
  unfold X10_mayGoOn at h
  refine fw_aload_n C dX10_mayGoOn_0 rfl 0 rfl ?_
  refine fw_get C (ci := 10) (Cn := RX10) (Tc := TX10) (N := 6) (j := 1) ly_X10_mayGoOn_10 rfl (hG _ (List.mem_of_getElem? (i := 0) rfl)) (of6_0 _) (ce6 T ad _ _) (by decide) (cx_ts C _ fl_X10_mayGoOn_44) (fun _ h => h) (v := .int (Y 6 0 0 1)) rfl dX10_mayGoOn_1 ?_
  refine fw_if_eq C dX10_mayGoOn_4 (tgt := 19) rfl (fun c1 => ?_) (fun c1 => ?_)
  · have h := ite_t c1 h
    refine fw_iconst C dX10_mayGoOn_19 (v := 0) rfl ?_
    exact fw_zret C hrt (by decide) Y ⟨Option.some.inj h, rfl⟩ (fun t ht => ht) dX10_mayGoOn_20
  · have h := ite_f c1 h
    refine fw_aload_n C dX10_mayGoOn_7 rfl 0 rfl ?_
    refine fw_get C (ci := 10) (Cn := RX10) (Tc := TX10) (N := 6) (j := 1) ly_X10_mayGoOn_10 rfl (hG _ (List.mem_of_getElem? (i := 0) rfl)) (of6_0 _) (ce6 T ad _ _) (by decide) (cx_ts C _ fl_X10_mayGoOn_44) (fun _ h => h) (v := .int (Y 6 0 0 1)) rfl dX10_mayGoOn_8 ?_
    refine fw_iconst C dX10_mayGoOn_11 (v := 5) rfl ?_
    refine fw_icmp_eq C dX10_mayGoOn_12 (tgt := 19) rfl (fun c2 => ?_) (fun c2 => ?_)
    · have h := ite_t c2 h
      refine fw_iconst C dX10_mayGoOn_19 (v := 0) rfl ?_
      exact fw_zret C hrt (by decide) Y ⟨Option.some.inj h, rfl⟩ (fun t ht => ht) dX10_mayGoOn_20
    · have h := ite_f c2 h
      refine fw_iconst C dX10_mayGoOn_15 (v := 1) rfl ?_
      refine fw_goto C dX10_mayGoOn_16 (tgt := 20) rfl ?_
      exact fw_zret C hrt (by decide) Y ⟨Option.some.inj h, rfl⟩ (fun t ht => ht) dX10_mayGoOn_20
end
set_option maxRecDepth 100000 in
set_option maxHeartbeats 4000000 in
theorem c_X10_mayGoOn {l : Launch} {N0 : Nat} {T : Nat → ClassId} {D : va_G} {gr : List (Nat × Nat)} {ad : Nat → Nat → Nat → Nat} {Y : Mem} {res : Int32} (hG : ∀ q ∈ [(6, 0)], q ∈ gr) (h : X10_mayGoOn Y = some res) : CI l yX10_mayGoOn wsX10_mayGoOn (Rm 0) N0 T D gr ad Y [.ref (ad 6 0 0)] (fun r Y1 => r = res ∧ Y1 = Y) :=
  fw_body (by decide +kernel) rfl (Nat.le_of_ble_eq_true rfl) (fun p e s m below meth c C hrt => w_X10_mayGoOn C hrt hG  h)
section
variable {p : Program} {l : Launch} {e : Env} {s : State} {m : MethodId} {below : List Frame} {meth : Method} {c : Code} {N0 : Nat} {T : Nat → ClassId} {D : va_G} {gr : List (Nat × Nat)} {ad : Nat → Nat → Nat → Nat}
set_option maxRecDepth 100000 in
set_option maxHeartbeats 4000000 in
theorem w_X11_isSaltAmount {Y : Mem} {a1 : Int32} (C : Cx p s m [.ref (ad 0 0 0), .int a1].toArray meth c cX11_isSaltAmount 2 wsX11_isSaltAmount RX11 N0 T D gr ad) (hrt : meth.sig.returnType = (some .boolean)) (hG : ∀ q ∈ [], q ∈ gr) {res : Int32} (h : X11_isSaltAmount Y a1 = some res) : FW p l e (Rm 1) s m [.ref (ad 0 0 0), .int a1].toArray below meth c 2 N0 T D gr ad 0 0 (MQ below (va_Qi (fun r Y1 => r = res ∧ Y1 = Y) (WB T D gr ad) (fun q => N0 ≤ q)) [.ref (ad 0 0 0), .int a1].toArray s 0 0 (fun q => N0 ≤ q)) Y 0 [(0, .ref (ad 0 0 0)), (1, .int a1)] [] := by
  unfold X11_isSaltAmount at h
  refine fw_iload_n C dX11_isSaltAmount_0 rfl 1 rfl ?_
  refine fw_if_eq C dX11_isSaltAmount_1 (tgt := 19) rfl (fun c1 => ?_) (fun c1 => ?_)
  · have h := ite_t c1 h
    refine fw_iconst C dX11_isSaltAmount_19 (v := 0) rfl ?_
    exact fw_zret C hrt (by decide) Y ⟨Option.some.inj h, rfl⟩ (fun t ht => ht) dX11_isSaltAmount_20
  · have h := ite_f c1 h
    refine fw_iload_n C dX11_isSaltAmount_4 rfl 1 rfl ?_
    refine fw_bipush C dX11_isSaltAmount_5 (v := (-9)) rfl ?_
    refine fw_bipush C dX11_isSaltAmount_7 (v := 9) rfl ?_
    obtain ⟨r2, q3, h⟩ := bd1_some h
    refine fw_callSi C (As := [.int a1, .int ((-9)), .int 9]) (c_X11_isWithin ga0 q3) (va_cwS 3 (cx_ts C) gX11_isSaltAmount_X11_isWithin rfl rfl rfl (by decide +kernel) ⟨Nat.le_of_ble_eq_true rfl, Nat.le_of_ble_eq_true rfl⟩) rfl (st := []) rfl (Nat.le_of_ble_eq_true rfl) ⟨Nat.le_refl 0, Nat.le_refl 0⟩ dX11_isSaltAmount_9 (pp2 ?_)
    refine fw_if_eq C dX11_isSaltAmount_12 (tgt := 19) rfl (fun c4 => ?_) (fun c4 => ?_)
    · have h := ite_t c4 h
      refine fw_iconst C dX11_isSaltAmount_19 (v := 0) rfl ?_
      exact fw_zret C hrt (by decide) Y ⟨Option.some.inj h, rfl⟩ (fun t ht => ht) dX11_isSaltAmount_20
    · have h := ite_f c4 h
      refine fw_iconst C dX11_isSaltAmount_15 (v := 1) rfl ?_
      refine fw_goto C dX11_isSaltAmount_16 (tgt := 20) rfl ?_
      exact fw_zret C hrt (by decide) Y ⟨Option.some.inj h, rfl⟩ (fun t ht => ht) dX11_isSaltAmount_20
end
set_option maxRecDepth 100000 in
set_option maxHeartbeats 4000000 in
theorem c_X11_isSaltAmount {l : Launch} {N0 : Nat} {T : Nat → ClassId} {D : va_G} {gr : List (Nat × Nat)} {ad : Nat → Nat → Nat → Nat} {Y : Mem} {a1 : Int32} {res : Int32} (hG : ∀ q ∈ [], q ∈ gr) (h : X11_isSaltAmount Y a1 = some res) : CI l yX11_isSaltAmount wsX11_isSaltAmount (Rm 1) N0 T D gr ad Y [.ref (ad 0 0 0), .int a1] (fun r Y1 => r = res ∧ Y1 = Y) :=
  fw_body (by decide +kernel) rfl (Nat.le_of_ble_eq_true rfl) (fun p e s m below meth c C hrt => w_X11_isSaltAmount C hrt hG  h)
theorem ly_X8_copyFrom_8 : ∀ w ∈ u_ws RX8 TX8 15, w ∈ wsX8_copyFrom := by decide +kernel
theorem fl_X8_copyFrom_36 : Cond.fieldLink RX8 36 "RecipeScheduler$State" "cooks" "I" ∈ wsX8_copyFrom := by decide +kernel
theorem fl_X8_copyFrom_37 : Cond.fieldLink RX8 37 "RecipeScheduler$State" "minute" "I" ∈ wsX8_copyFrom := by decide +kernel
theorem fl_X8_copyFrom_40 : Cond.fieldLink RX8 40 "RecipeScheduler$State" "salt" "I" ∈ wsX8_copyFrom := by decide +kernel
theorem fl_X8_copyFrom_43 : Cond.fieldLink RX8 43 "RecipeScheduler$State" "cookMinutes" "I" ∈ wsX8_copyFrom := by decide +kernel
theorem fl_X8_copyFrom_46 : Cond.fieldLink RX8 46 "RecipeScheduler$State" "stops" "I" ∈ wsX8_copyFrom := by decide +kernel
theorem fl_X8_copyFrom_49 : Cond.fieldLink RX8 49 "RecipeScheduler$State" "served" "Z" ∈ wsX8_copyFrom := by decide +kernel
theorem fl_X8_copyFrom_53 : Cond.fieldLink RX8 53 "RecipeScheduler$State" "running" "I" ∈ wsX8_copyFrom := by decide +kernel
theorem fl_X8_copyFrom_56 : Cond.fieldLink RX8 56 "RecipeScheduler$State" "done" "I" ∈ wsX8_copyFrom := by decide +kernel
theorem fl_X8_copyFrom_59 : Cond.fieldLink RX8 59 "RecipeScheduler$State" "burnt" "I" ∈ wsX8_copyFrom := by decide +kernel
theorem fl_X8_copyFrom_9 : Cond.fieldLink RX8 9 "RecipeScheduler$State" "duration" "[I" ∈ wsX8_copyFrom := by decide +kernel
theorem cw_X8_copyFrom_copy : Cond.methodLink RX8 63 arraycopyName ∈ wsX8_copyFrom ∧ Cond.native arraycopyName ∈ wsX8_copyFrom ∧ Cond.static arraycopyName ∈ wsX8_copyFrom ∧ Cond.initialized "java/lang/System" ∈ wsX8_copyFrom := by decide +kernel
theorem fl_X8_copyFrom_15 : Cond.fieldLink RX8 15 "RecipeScheduler$State" "remaining" "[I" ∈ wsX8_copyFrom := by decide +kernel
theorem fl_X8_copyFrom_18 : Cond.fieldLink RX8 18 "RecipeScheduler$State" "age" "[I" ∈ wsX8_copyFrom := by decide +kernel
theorem fl_X8_copyFrom_21 : Cond.fieldLink RX8 21 "RecipeScheduler$State" "starts" "[I" ∈ wsX8_copyFrom := by decide +kernel
theorem fl_X8_copyFrom_24 : Cond.fieldLink RX8 24 "RecipeScheduler$State" "completions" "[I" ∈ wsX8_copyFrom := by decide +kernel
theorem fl_X8_copyFrom_27 : Cond.fieldLink RX8 27 "RecipeScheduler$State" "burns" "[I" ∈ wsX8_copyFrom := by decide +kernel
section
variable {p : Program} {l : Launch} {e : Env} {s : State} {m : MethodId} {below : List Frame} {meth : Method} {c : Code} {N0 : Nat} {T : Nat → ClassId} {D : va_G} {gr : List (Nat × Nat)} {ad : Nat → Nat → Nat → Nat}
set_option maxRecDepth 100000 in
set_option maxHeartbeats 4000000 in
theorem w_X8_copyFrom {Y : Mem} {g0 : Nat} {g1 : Nat} (C : Cx p s m [.ref (ad 2 g0 0), .ref (ad 2 g1 0)].toArray meth c cX8_copyFrom 2 wsX8_copyFrom RX8 N0 T D gr ad) (hrt : meth.sig.returnType = none) (hG : ∀ q ∈ [(2, g1), (2, g0)], q ∈ gr) {res : Mem} (h : X8_copyFrom Y g0 g1 = some res) : FW p l e (Rm 1) s m [.ref (ad 2 g0 0), .ref (ad 2 g1 0)].toArray below meth c 2 N0 T D gr ad 0 0 (MQ below (va_Qv (fun Y1 => Y1 = res) (WB T D gr ad) (fun q => N0 ≤ q)) [.ref (ad 2 g0 0), .ref (ad 2 g1 0)].toArray s 0 0 (fun q => N0 ≤ q)) Y 0 [(0, .ref (ad 2 g0 0)), (1, .ref (ad 2 g1 0))] [] := by
  unfold X8_copyFrom at h
  refine fw_aload_n C dX8_copyFrom_0 rfl 0 rfl ?_
  refine fw_aload_n C dX8_copyFrom_1 rfl 1 rfl ?_
  refine fw_get C (ci := 8) (Cn := RX8) (Tc := TX8) (N := 15) (j := 0) ly_X8_copyFrom_8 rfl (hG _ (List.mem_of_getElem? (i := 0) rfl)) (of2_0 _) (ce2 T ad _ _) (by decide) (cx_ts C _ fl_X8_copyFrom_36) (fun _ h => h) (v := .int (Y 2 g1 0 0)) rfl dX8_copyFrom_2 ?_
  obtain ⟨Y1, e2, h⟩ := lt_some h
  refine fw_put C (ci := 8) (Cn := RX8) (Tc := TX8) (N := 15) (j := 0) (ty := .int) (upd (Y 2 g0 0) 0 (Y 2 g1 0 0)) ly_X8_copyFrom_8 rfl tyX8_ok nmX8 (hG _ (List.mem_of_getElem? (i := 1) rfl)) (of2_0 _) (ce2 T ad _ _) (by decide) (cx_ts C _ fl_X8_copyFrom_36) (fun _ h => h) rfl (by decide +kernel) rfl rfl (Nat.le_of_ble_eq_true rfl) (ce2_put0 T ad _ _ _) dX8_copyFrom_5 ?_
  refine fw_mem ((up_eq _ _ _ _ _ _).symm.trans e2) ?_
  refine fw_aload_n C dX8_copyFrom_8 rfl 0 rfl ?_
  refine fw_aload_n C dX8_copyFrom_9 rfl 1 rfl ?_
  refine fw_get C (ci := 8) (Cn := RX8) (Tc := TX8) (N := 15) (j := 1) ly_X8_copyFrom_8 rfl (hG _ (List.mem_of_getElem? (i := 0) rfl)) (of2_0 _) (ce2 T ad _ _) (by decide) (cx_ts C _ fl_X8_copyFrom_37) (fun _ h => h) (v := .int (Y1 2 g1 0 1)) rfl dX8_copyFrom_10 ?_
  obtain ⟨Y3, e4, h⟩ := lt_some h
  refine fw_put C (ci := 8) (Cn := RX8) (Tc := TX8) (N := 15) (j := 1) (ty := .int) (upd (Y1 2 g0 0) 1 (Y1 2 g1 0 1)) ly_X8_copyFrom_8 rfl tyX8_ok nmX8 (hG _ (List.mem_of_getElem? (i := 1) rfl)) (of2_0 _) (ce2 T ad _ _) (by decide) (cx_ts C _ fl_X8_copyFrom_37) (fun _ h => h) rfl (by decide +kernel) rfl rfl (Nat.le_of_ble_eq_true rfl) (ce2_put1 T ad _ _ _) dX8_copyFrom_13 ?_
  refine fw_mem ((up_eq _ _ _ _ _ _).symm.trans e4) ?_
  refine fw_aload_n C dX8_copyFrom_16 rfl 0 rfl ?_
  refine fw_aload_n C dX8_copyFrom_17 rfl 1 rfl ?_
  refine fw_get C (ci := 8) (Cn := RX8) (Tc := TX8) (N := 15) (j := 2) ly_X8_copyFrom_8 rfl (hG _ (List.mem_of_getElem? (i := 0) rfl)) (of2_0 _) (ce2 T ad _ _) (by decide) (cx_ts C _ fl_X8_copyFrom_40) (fun _ h => h) (v := .int (Y3 2 g1 0 2)) rfl dX8_copyFrom_18 ?_
  obtain ⟨Y5, e6, h⟩ := lt_some h
  refine fw_put C (ci := 8) (Cn := RX8) (Tc := TX8) (N := 15) (j := 2) (ty := .int) (upd (Y3 2 g0 0) 2 (Y3 2 g1 0 2)) ly_X8_copyFrom_8 rfl tyX8_ok nmX8 (hG _ (List.mem_of_getElem? (i := 1) rfl)) (of2_0 _) (ce2 T ad _ _) (by decide) (cx_ts C _ fl_X8_copyFrom_40) (fun _ h => h) rfl (by decide +kernel) rfl rfl (Nat.le_of_ble_eq_true rfl) (ce2_put2 T ad _ _ _) dX8_copyFrom_21 ?_
  refine fw_mem ((up_eq _ _ _ _ _ _).symm.trans e6) ?_
  refine fw_aload_n C dX8_copyFrom_24 rfl 0 rfl ?_
  refine fw_aload_n C dX8_copyFrom_25 rfl 1 rfl ?_
  refine fw_get C (ci := 8) (Cn := RX8) (Tc := TX8) (N := 15) (j := 3) ly_X8_copyFrom_8 rfl (hG _ (List.mem_of_getElem? (i := 0) rfl)) (of2_0 _) (ce2 T ad _ _) (by decide) (cx_ts C _ fl_X8_copyFrom_43) (fun _ h => h) (v := .int (Y5 2 g1 0 3)) rfl dX8_copyFrom_26 ?_
  obtain ⟨Y7, e8, h⟩ := lt_some h
  refine fw_put C (ci := 8) (Cn := RX8) (Tc := TX8) (N := 15) (j := 3) (ty := .int) (upd (Y5 2 g0 0) 3 (Y5 2 g1 0 3)) ly_X8_copyFrom_8 rfl tyX8_ok nmX8 (hG _ (List.mem_of_getElem? (i := 1) rfl)) (of2_0 _) (ce2 T ad _ _) (by decide) (cx_ts C _ fl_X8_copyFrom_43) (fun _ h => h) rfl (by decide +kernel) rfl rfl (Nat.le_of_ble_eq_true rfl) (ce2_put3 T ad _ _ _) dX8_copyFrom_29 ?_
  refine fw_mem ((up_eq _ _ _ _ _ _).symm.trans e8) ?_
  refine fw_aload_n C dX8_copyFrom_32 rfl 0 rfl ?_
  refine fw_aload_n C dX8_copyFrom_33 rfl 1 rfl ?_
  refine fw_get C (ci := 8) (Cn := RX8) (Tc := TX8) (N := 15) (j := 4) ly_X8_copyFrom_8 rfl (hG _ (List.mem_of_getElem? (i := 0) rfl)) (of2_0 _) (ce2 T ad _ _) (by decide) (cx_ts C _ fl_X8_copyFrom_46) (fun _ h => h) (v := .int (Y7 2 g1 0 4)) rfl dX8_copyFrom_34 ?_
  obtain ⟨Y9, e10, h⟩ := lt_some h
  refine fw_put C (ci := 8) (Cn := RX8) (Tc := TX8) (N := 15) (j := 4) (ty := .int) (upd (Y7 2 g0 0) 4 (Y7 2 g1 0 4)) ly_X8_copyFrom_8 rfl tyX8_ok nmX8 (hG _ (List.mem_of_getElem? (i := 1) rfl)) (of2_0 _) (ce2 T ad _ _) (by decide) (cx_ts C _ fl_X8_copyFrom_46) (fun _ h => h) rfl (by decide +kernel) rfl rfl (Nat.le_of_ble_eq_true rfl) (ce2_put4 T ad _ _ _) dX8_copyFrom_37 ?_
  refine fw_mem ((up_eq _ _ _ _ _ _).symm.trans e10) ?_
  refine fw_aload_n C dX8_copyFrom_40 rfl 0 rfl ?_
  refine fw_aload_n C dX8_copyFrom_41 rfl 1 rfl ?_
  refine fw_get C (ci := 8) (Cn := RX8) (Tc := TX8) (N := 15) (j := 5) ly_X8_copyFrom_8 rfl (hG _ (List.mem_of_getElem? (i := 0) rfl)) (of2_0 _) (ce2 T ad _ _) (by decide) (cx_ts C _ fl_X8_copyFrom_49) (fun _ h => h) (v := .int (Y9 2 g1 0 5)) rfl dX8_copyFrom_42 ?_
  obtain ⟨b13, h⟩ := gd_some h
  obtain ⟨Y11, e12, h⟩ := lt_some h
  refine fw_put C (ci := 8) (Cn := RX8) (Tc := TX8) (N := 15) (j := 5) (ty := .boolean) (upd (Y9 2 g0 0) 5 (Y9 2 g1 0 5)) ly_X8_copyFrom_8 rfl tyX8_ok nmX8 (hG _ (List.mem_of_getElem? (i := 1) rfl)) (of2_0 _) (ce2 T ad _ _) (by decide) (cx_ts C _ fl_X8_copyFrom_49) (fun _ h => h) rfl (by decide +kernel) (nz_ok (of_decide_eq_true b13)) (nz_fit (of_decide_eq_true b13)) (Nat.le_of_ble_eq_true rfl) (ce2_put5 T ad _ _ _) dX8_copyFrom_45 ?_
  refine fw_mem ((up_eq _ _ _ _ _ _).symm.trans e12) ?_
  refine fw_aload_n C dX8_copyFrom_48 rfl 0 rfl ?_
  refine fw_aload_n C dX8_copyFrom_49 rfl 1 rfl ?_
  refine fw_get C (ci := 8) (Cn := RX8) (Tc := TX8) (N := 15) (j := 6) ly_X8_copyFrom_8 rfl (hG _ (List.mem_of_getElem? (i := 0) rfl)) (of2_0 _) (ce2 T ad _ _) (by decide) (cx_ts C _ fl_X8_copyFrom_53) (fun _ h => h) (v := .int (Y11 2 g1 0 6)) rfl dX8_copyFrom_50 ?_
  obtain ⟨Y14, e15, h⟩ := lt_some h
  refine fw_put C (ci := 8) (Cn := RX8) (Tc := TX8) (N := 15) (j := 6) (ty := .int) (upd (Y11 2 g0 0) 6 (Y11 2 g1 0 6)) ly_X8_copyFrom_8 rfl tyX8_ok nmX8 (hG _ (List.mem_of_getElem? (i := 1) rfl)) (of2_0 _) (ce2 T ad _ _) (by decide) (cx_ts C _ fl_X8_copyFrom_53) (fun _ h => h) rfl (by decide +kernel) rfl rfl (Nat.le_of_ble_eq_true rfl) (ce2_put6 T ad _ _ _) dX8_copyFrom_53 ?_
  refine fw_mem ((up_eq _ _ _ _ _ _).symm.trans e15) ?_
  refine fw_aload_n C dX8_copyFrom_56 rfl 0 rfl ?_
  refine fw_aload_n C dX8_copyFrom_57 rfl 1 rfl ?_
  refine fw_get C (ci := 8) (Cn := RX8) (Tc := TX8) (N := 15) (j := 7) ly_X8_copyFrom_8 rfl (hG _ (List.mem_of_getElem? (i := 0) rfl)) (of2_0 _) (ce2 T ad _ _) (by decide) (cx_ts C _ fl_X8_copyFrom_56) (fun _ h => h) (v := .int (Y14 2 g1 0 7)) rfl dX8_copyFrom_58 ?_
  obtain ⟨Y16, e17, h⟩ := lt_some h
  refine fw_put C (ci := 8) (Cn := RX8) (Tc := TX8) (N := 15) (j := 7) (ty := .int) (upd (Y14 2 g0 0) 7 (Y14 2 g1 0 7)) ly_X8_copyFrom_8 rfl tyX8_ok nmX8 (hG _ (List.mem_of_getElem? (i := 1) rfl)) (of2_0 _) (ce2 T ad _ _) (by decide) (cx_ts C _ fl_X8_copyFrom_56) (fun _ h => h) rfl (by decide +kernel) rfl rfl (Nat.le_of_ble_eq_true rfl) (ce2_put7 T ad _ _ _) dX8_copyFrom_61 ?_
  refine fw_mem ((up_eq _ _ _ _ _ _).symm.trans e17) ?_
  refine fw_aload_n C dX8_copyFrom_64 rfl 0 rfl ?_
  refine fw_aload_n C dX8_copyFrom_65 rfl 1 rfl ?_
  refine fw_get C (ci := 8) (Cn := RX8) (Tc := TX8) (N := 15) (j := 8) ly_X8_copyFrom_8 rfl (hG _ (List.mem_of_getElem? (i := 0) rfl)) (of2_0 _) (ce2 T ad _ _) (by decide) (cx_ts C _ fl_X8_copyFrom_59) (fun _ h => h) (v := .int (Y16 2 g1 0 8)) rfl dX8_copyFrom_66 ?_
  obtain ⟨Y18, e19, h⟩ := lt_some h
  refine fw_put C (ci := 8) (Cn := RX8) (Tc := TX8) (N := 15) (j := 8) (ty := .int) (upd (Y16 2 g0 0) 8 (Y16 2 g1 0 8)) ly_X8_copyFrom_8 rfl tyX8_ok nmX8 (hG _ (List.mem_of_getElem? (i := 1) rfl)) (of2_0 _) (ce2 T ad _ _) (by decide) (cx_ts C _ fl_X8_copyFrom_59) (fun _ h => h) rfl (by decide +kernel) rfl rfl (Nat.le_of_ble_eq_true rfl) (ce2_put8 T ad _ _ _) dX8_copyFrom_69 ?_
  refine fw_mem ((up_eq _ _ _ _ _ _).symm.trans e19) ?_
  refine fw_aload_n C dX8_copyFrom_72 rfl 1 rfl ?_
  refine fw_get C (ci := 8) (Cn := RX8) (Tc := TX8) (N := 15) (j := 9) ly_X8_copyFrom_8 rfl (hG _ (List.mem_of_getElem? (i := 0) rfl)) (of2_0 _) (ce2 T ad _ _) (by decide) (cx_ts C _ fl_X8_copyFrom_9) (fun _ h => h) (v := .ref (ad 2 g1 1)) rfl dX8_copyFrom_73 ?_
  refine fw_iconst C dX8_copyFrom_76 (v := 0) rfl ?_
  refine fw_aload_n C dX8_copyFrom_77 rfl 0 rfl ?_
  refine fw_get C (ci := 8) (Cn := RX8) (Tc := TX8) (N := 15) (j := 9) ly_X8_copyFrom_8 rfl (hG _ (List.mem_of_getElem? (i := 1) rfl)) (of2_0 _) (ce2 T ad _ _) (by decide) (cx_ts C _ fl_X8_copyFrom_9) (fun _ h => h) (v := .ref (ad 2 g0 1)) rfl dX8_copyFrom_78 ?_
  refine fw_iconst C dX8_copyFrom_81 (v := 0) rfl ?_
  refine fw_bipush C dX8_copyFrom_82 (v := 14) rfl ?_
  obtain ⟨Y20, e21, h⟩ := lt_some h
  refine fw_copyi C (st := []) (hG _ (List.mem_of_getElem? (i := 0) rfl)) (of2_1 _) (hG _ (List.mem_of_getElem? (i := 1) rfl)) (of2_1 _) (ca2_1 T ad _ _) (ca2_1 T ad _) (cx_ts C _ cw_X8_copyFrom_copy.1) (cx_ts C _ cw_X8_copyFrom_copy.2.1) (cx_ts C _ cw_X8_copyFrom_copy.2.2.1) (cx_ts C _ cw_X8_copyFrom_copy.2.2.2) (Nat.le_of_ble_eq_true rfl) (Nat.le_of_ble_eq_true rfl) dX8_copyFrom_84 ?_
  refine fw_mem e21 ?_
  refine fw_aload_n C dX8_copyFrom_87 rfl 1 rfl ?_
  refine fw_get C (ci := 8) (Cn := RX8) (Tc := TX8) (N := 15) (j := 10) ly_X8_copyFrom_8 rfl (hG _ (List.mem_of_getElem? (i := 0) rfl)) (of2_0 _) (ce2 T ad _ _) (by decide) (cx_ts C _ fl_X8_copyFrom_15) (fun _ h => h) (v := .ref (ad 2 g1 2)) rfl dX8_copyFrom_88 ?_
  refine fw_iconst C dX8_copyFrom_91 (v := 0) rfl ?_
  refine fw_aload_n C dX8_copyFrom_92 rfl 0 rfl ?_
  refine fw_get C (ci := 8) (Cn := RX8) (Tc := TX8) (N := 15) (j := 10) ly_X8_copyFrom_8 rfl (hG _ (List.mem_of_getElem? (i := 1) rfl)) (of2_0 _) (ce2 T ad _ _) (by decide) (cx_ts C _ fl_X8_copyFrom_15) (fun _ h => h) (v := .ref (ad 2 g0 2)) rfl dX8_copyFrom_93 ?_
  refine fw_iconst C dX8_copyFrom_96 (v := 0) rfl ?_
  refine fw_bipush C dX8_copyFrom_97 (v := 14) rfl ?_
  obtain ⟨Y22, e23, h⟩ := lt_some h
  refine fw_copyi C (st := []) (hG _ (List.mem_of_getElem? (i := 0) rfl)) (of2_2 _) (hG _ (List.mem_of_getElem? (i := 1) rfl)) (of2_2 _) (ca2_2 T ad _ _) (ca2_2 T ad _) (cx_ts C _ cw_X8_copyFrom_copy.1) (cx_ts C _ cw_X8_copyFrom_copy.2.1) (cx_ts C _ cw_X8_copyFrom_copy.2.2.1) (cx_ts C _ cw_X8_copyFrom_copy.2.2.2) (Nat.le_of_ble_eq_true rfl) (Nat.le_of_ble_eq_true rfl) dX8_copyFrom_99 ?_
  refine fw_mem e23 ?_
  refine fw_aload_n C dX8_copyFrom_102 rfl 1 rfl ?_
  refine fw_get C (ci := 8) (Cn := RX8) (Tc := TX8) (N := 15) (j := 11) ly_X8_copyFrom_8 rfl (hG _ (List.mem_of_getElem? (i := 0) rfl)) (of2_0 _) (ce2 T ad _ _) (by decide) (cx_ts C _ fl_X8_copyFrom_18) (fun _ h => h) (v := .ref (ad 2 g1 3)) rfl dX8_copyFrom_103 ?_
  refine fw_iconst C dX8_copyFrom_106 (v := 0) rfl ?_
  refine fw_aload_n C dX8_copyFrom_107 rfl 0 rfl ?_
  refine fw_get C (ci := 8) (Cn := RX8) (Tc := TX8) (N := 15) (j := 11) ly_X8_copyFrom_8 rfl (hG _ (List.mem_of_getElem? (i := 1) rfl)) (of2_0 _) (ce2 T ad _ _) (by decide) (cx_ts C _ fl_X8_copyFrom_18) (fun _ h => h) (v := .ref (ad 2 g0 3)) rfl dX8_copyFrom_108 ?_
  refine fw_iconst C dX8_copyFrom_111 (v := 0) rfl ?_
  refine fw_bipush C dX8_copyFrom_112 (v := 14) rfl ?_
  obtain ⟨Y24, e25, h⟩ := lt_some h
  refine fw_copyi C (st := []) (hG _ (List.mem_of_getElem? (i := 0) rfl)) (of2_3 _) (hG _ (List.mem_of_getElem? (i := 1) rfl)) (of2_3 _) (ca2_3 T ad _ _) (ca2_3 T ad _) (cx_ts C _ cw_X8_copyFrom_copy.1) (cx_ts C _ cw_X8_copyFrom_copy.2.1) (cx_ts C _ cw_X8_copyFrom_copy.2.2.1) (cx_ts C _ cw_X8_copyFrom_copy.2.2.2) (Nat.le_of_ble_eq_true rfl) (Nat.le_of_ble_eq_true rfl) dX8_copyFrom_114 ?_
  refine fw_mem e25 ?_
  refine fw_aload_n C dX8_copyFrom_117 rfl 1 rfl ?_
  refine fw_get C (ci := 8) (Cn := RX8) (Tc := TX8) (N := 15) (j := 12) ly_X8_copyFrom_8 rfl (hG _ (List.mem_of_getElem? (i := 0) rfl)) (of2_0 _) (ce2 T ad _ _) (by decide) (cx_ts C _ fl_X8_copyFrom_21) (fun _ h => h) (v := .ref (ad 2 g1 4)) rfl dX8_copyFrom_118 ?_
  refine fw_iconst C dX8_copyFrom_121 (v := 0) rfl ?_
  refine fw_aload_n C dX8_copyFrom_122 rfl 0 rfl ?_
  refine fw_get C (ci := 8) (Cn := RX8) (Tc := TX8) (N := 15) (j := 12) ly_X8_copyFrom_8 rfl (hG _ (List.mem_of_getElem? (i := 1) rfl)) (of2_0 _) (ce2 T ad _ _) (by decide) (cx_ts C _ fl_X8_copyFrom_21) (fun _ h => h) (v := .ref (ad 2 g0 4)) rfl dX8_copyFrom_123 ?_
  refine fw_iconst C dX8_copyFrom_126 (v := 0) rfl ?_
  refine fw_bipush C dX8_copyFrom_127 (v := 14) rfl ?_
  obtain ⟨Y26, e27, h⟩ := lt_some h
  refine fw_copyi C (st := []) (hG _ (List.mem_of_getElem? (i := 0) rfl)) (of2_4 _) (hG _ (List.mem_of_getElem? (i := 1) rfl)) (of2_4 _) (ca2_4 T ad _ _) (ca2_4 T ad _) (cx_ts C _ cw_X8_copyFrom_copy.1) (cx_ts C _ cw_X8_copyFrom_copy.2.1) (cx_ts C _ cw_X8_copyFrom_copy.2.2.1) (cx_ts C _ cw_X8_copyFrom_copy.2.2.2) (Nat.le_of_ble_eq_true rfl) (Nat.le_of_ble_eq_true rfl) dX8_copyFrom_129 ?_
  refine fw_mem e27 ?_
  refine fw_aload_n C dX8_copyFrom_132 rfl 1 rfl ?_
  refine fw_get C (ci := 8) (Cn := RX8) (Tc := TX8) (N := 15) (j := 13) ly_X8_copyFrom_8 rfl (hG _ (List.mem_of_getElem? (i := 0) rfl)) (of2_0 _) (ce2 T ad _ _) (by decide) (cx_ts C _ fl_X8_copyFrom_24) (fun _ h => h) (v := .ref (ad 2 g1 5)) rfl dX8_copyFrom_133 ?_
  refine fw_iconst C dX8_copyFrom_136 (v := 0) rfl ?_
  refine fw_aload_n C dX8_copyFrom_137 rfl 0 rfl ?_
  refine fw_get C (ci := 8) (Cn := RX8) (Tc := TX8) (N := 15) (j := 13) ly_X8_copyFrom_8 rfl (hG _ (List.mem_of_getElem? (i := 1) rfl)) (of2_0 _) (ce2 T ad _ _) (by decide) (cx_ts C _ fl_X8_copyFrom_24) (fun _ h => h) (v := .ref (ad 2 g0 5)) rfl dX8_copyFrom_138 ?_
  refine fw_iconst C dX8_copyFrom_141 (v := 0) rfl ?_
  refine fw_bipush C dX8_copyFrom_142 (v := 14) rfl ?_
  obtain ⟨Y28, e29, h⟩ := lt_some h
  refine fw_copyi C (st := []) (hG _ (List.mem_of_getElem? (i := 0) rfl)) (of2_5 _) (hG _ (List.mem_of_getElem? (i := 1) rfl)) (of2_5 _) (ca2_5 T ad _ _) (ca2_5 T ad _) (cx_ts C _ cw_X8_copyFrom_copy.1) (cx_ts C _ cw_X8_copyFrom_copy.2.1) (cx_ts C _ cw_X8_copyFrom_copy.2.2.1) (cx_ts C _ cw_X8_copyFrom_copy.2.2.2) (Nat.le_of_ble_eq_true rfl) (Nat.le_of_ble_eq_true rfl) dX8_copyFrom_144 ?_
  refine fw_mem e29 ?_
  refine fw_aload_n C dX8_copyFrom_147 rfl 1 rfl ?_
  refine fw_get C (ci := 8) (Cn := RX8) (Tc := TX8) (N := 15) (j := 14) ly_X8_copyFrom_8 rfl (hG _ (List.mem_of_getElem? (i := 0) rfl)) (of2_0 _) (ce2 T ad _ _) (by decide) (cx_ts C _ fl_X8_copyFrom_27) (fun _ h => h) (v := .ref (ad 2 g1 6)) rfl dX8_copyFrom_148 ?_
  refine fw_iconst C dX8_copyFrom_151 (v := 0) rfl ?_
  refine fw_aload_n C dX8_copyFrom_152 rfl 0 rfl ?_
  refine fw_get C (ci := 8) (Cn := RX8) (Tc := TX8) (N := 15) (j := 14) ly_X8_copyFrom_8 rfl (hG _ (List.mem_of_getElem? (i := 1) rfl)) (of2_0 _) (ce2 T ad _ _) (by decide) (cx_ts C _ fl_X8_copyFrom_27) (fun _ h => h) (v := .ref (ad 2 g0 6)) rfl dX8_copyFrom_153 ?_
  refine fw_iconst C dX8_copyFrom_156 (v := 0) rfl ?_
  refine fw_bipush C dX8_copyFrom_157 (v := 14) rfl ?_
  obtain ⟨Y30, e31, h⟩ := lt_some h
  refine fw_copyi C (st := []) (hG _ (List.mem_of_getElem? (i := 0) rfl)) (of2_6 _) (hG _ (List.mem_of_getElem? (i := 1) rfl)) (of2_6 _) (ca2_6 T ad _ _) (ca2_6 T ad _) (cx_ts C _ cw_X8_copyFrom_copy.1) (cx_ts C _ cw_X8_copyFrom_copy.2.1) (cx_ts C _ cw_X8_copyFrom_copy.2.2.1) (cx_ts C _ cw_X8_copyFrom_copy.2.2.2) (Nat.le_of_ble_eq_true rfl) (Nat.le_of_ble_eq_true rfl) dX8_copyFrom_159 ?_
  refine fw_mem e31 ?_
  exact fw_vret C hrt Y30 (Option.some.inj h) (fun t ht => ht) dX8_copyFrom_162
end
set_option maxRecDepth 100000 in
set_option maxHeartbeats 4000000 in
theorem c_X8_copyFrom {l : Launch} {N0 : Nat} {T : Nat → ClassId} {D : va_G} {gr : List (Nat × Nat)} {ad : Nat → Nat → Nat → Nat} {Y : Mem} {g0 : Nat} {g1 : Nat} {res : Mem} (hG : ∀ q ∈ [(2, g1), (2, g0)], q ∈ gr) (h : X8_copyFrom Y g0 g1 = some res) : CV l yX8_copyFrom wsX8_copyFrom (Rm 1) N0 T D gr ad Y [.ref (ad 2 g0 0), .ref (ad 2 g1 0)] (fun Y1 => Y1 = res) :=
  fw_body (by decide +kernel) rfl (Nat.le_of_ble_eq_true rfl) (fun p e s m below meth c C hrt => w_X8_copyFrom C hrt hG  h)
theorem ly_X2_push_2 : ∀ w ∈ u_ws RX2 TX2 3, w ∈ wsX2_push := by decide +kernel
theorem fl_X2_push_11 : Cond.fieldLink RX2 11 "RecipeScheduler$History" "states" "[LRecipeScheduler$State;" ∈ wsX2_push := by decide +kernel
theorem fl_X2_push_18 : Cond.fieldLink RX2 18 "RecipeScheduler$History" "next" "I" ∈ wsX2_push := by decide +kernel
theorem fl_X2_push_26 : Cond.fieldLink RX2 26 "RecipeScheduler$History" "count" "I" ∈ wsX2_push := by decide +kernel
theorem cw_X2_push_min : Cond.methodLink RX2 29 Lib.Math.min.name ∈ wsX2_push ∧ Cond.static Lib.Math.min.name ∈ wsX2_push ∧ Cond.initialized "java/lang/Math" ∈ wsX2_push ∧ Cond.code Lib.Math.min.name Lib.Math.min.code 2 (some .int) ∈ wsX2_push := by decide +kernel
section
variable {p : Program} {l : Launch} {e : Env} {s : State} {m : MethodId} {below : List Frame} {meth : Method} {c : Code} {N0 : Nat} {T : Nat → ClassId} {D : va_G} {gr : List (Nat × Nat)} {ad : Nat → Nat → Nat → Nat}
set_option maxRecDepth 100000 in
set_option maxHeartbeats 4000000 in
theorem w_X2_push {Y : Mem} {g1 : Nat} (C : Cx p s m [.ref (ad 9 0 0), .ref (ad 2 g1 0)].toArray meth c cX2_push 2 wsX2_push RX2 N0 T D gr ad) (hrt : meth.sig.returnType = none) (hG : ∀ q ∈ ([(9, 0), (2, g1)] ++ allG), q ∈ gr) {res : Mem} (h : X2_push Y g1 = some res) : FW p l e (Rm 2) s m [.ref (ad 9 0 0), .ref (ad 2 g1 0)].toArray below meth c 2 N0 T D gr ad 0 0 (MQ below (va_Qv (fun Y1 => Y1 = res) (WB T D gr ad) (fun q => N0 ≤ q)) [.ref (ad 9 0 0), .ref (ad 2 g1 0)].toArray s 0 0 (fun q => N0 ≤ q)) Y 0 [(0, .ref (ad 9 0 0)), (1, .ref (ad 2 g1 0))] [] := by
  unfold X2_push at h
  refine fw_aload_n C dX2_push_0 rfl 0 rfl ?_
  refine fw_get C (ci := 2) (Cn := RX2) (Tc := TX2) (N := 3) (j := 0) ly_X2_push_2 rfl (hG _ (List.mem_of_getElem? (i := 0) rfl)) (of9_0 _) (ce9 T ad _ _) (by decide) (cx_ts C _ fl_X2_push_11) (fun _ h => h) (v := .ref (ad 9 0 1)) rfl dX2_push_1 ?_
  refine fw_aload_n C dX2_push_4 rfl 0 rfl ?_
  refine fw_get C (ci := 2) (Cn := RX2) (Tc := TX2) (N := 3) (j := 1) ly_X2_push_2 rfl (hG _ (List.mem_of_getElem? (i := 0) rfl)) (of9_0 _) (ce9 T ad _ _) (by decide) (cx_ts C _ fl_X2_push_18) (fun _ h => h) (v := .int (Y 9 0 0 1)) rfl dX2_push_5 ?_
  obtain ⟨b1, h⟩ := gd_some h
  refine fw_aald2 C 3 (hG _ (List.mem_of_getElem? (i := 0) rfl)) (of9_1 _) (ca9_1 T ad _ _) rfl rfl b1 (Nat.le_of_ble_eq_true rfl) (v := .ref (ad 2 (2+ix (Y 9 0 0 1)) 0)) rfl dX2_push_8 ?_
  refine fw_aload_n C dX2_push_9 rfl 1 rfl ?_
  obtain ⟨Y4, q3, h⟩ := bd1_some h
  refine fw_callVv C (ci := 8) (Cn := RX8) (Tc := TX8) (N := 15) (As := [.ref (ad 2 g1 0)]) (c_X8_copyFrom (gac (hG _ (List.mem_of_getElem? (i := 1) rfl)) (gac ((fun q hq => hG q (List.mem_append_right _ hq)) _ (allG_2 (by have q := inb_lt b1; omega))) ga0)) q3) (cwV 1 (cx_ts C) gX2_push_X8_copyFrom rfl rfl rfl (by decide +kernel) ⟨Nat.le_of_ble_eq_true rfl, Nat.le_of_ble_eq_true rfl⟩) rfl ((fun q hq => hG q (List.mem_append_right _ hq)) _ (allG_2 (by have q := inb_lt b1; omega))) (of2_0 _) (ce2 T ad _ _) rfl (st := []) rfl (Nat.le_of_ble_eq_true rfl) ⟨Nat.le_refl 0, Nat.le_refl 0⟩ dX2_push_10 (ppv ?_)
  refine fw_aload_n C dX2_push_13 rfl 0 rfl ?_
  refine fw_aload_n C dX2_push_14 rfl 0 rfl ?_
  refine fw_get C (ci := 2) (Cn := RX2) (Tc := TX2) (N := 3) (j := 1) ly_X2_push_2 rfl (hG _ (List.mem_of_getElem? (i := 0) rfl)) (of9_0 _) (ce9 T ad _ _) (by decide) (cx_ts C _ fl_X2_push_18) (fun _ h => h) (v := .int (Y4 9 0 0 1)) rfl dX2_push_15 ?_
  refine fw_iconst C dX2_push_18 (v := 1) rfl ?_
  refine fw_iadd C dX2_push_19 ?_
  refine fw_bipush C dX2_push_20 (v := 6) rfl ?_
  refine fw_irem C dX2_push_22 (by decide) ?_
  obtain ⟨Y5, e6, h⟩ := lt_some h
  refine fw_put C (ci := 2) (Cn := RX2) (Tc := TX2) (N := 3) (j := 1) (ty := .int) (upd (Y4 9 0 0) 1 (((Y4 9 0 0 1) + 1) - ((Y4 9 0 0 1) + 1) / 6 * 6)) ly_X2_push_2 rfl tyX2_ok nmX2 (hG _ (List.mem_of_getElem? (i := 0) rfl)) (of9_0 _) (ce9 T ad _ _) (by decide) (cx_ts C _ fl_X2_push_18) (fun _ h => h) rfl (by decide +kernel) rfl rfl (Nat.le_of_ble_eq_true rfl) (ce9_put1 T ad _ _ _) dX2_push_23 ?_
  refine fw_mem ((up_eq _ _ _ _ _ _).symm.trans e6) ?_
  refine fw_aload_n C dX2_push_26 rfl 0 rfl ?_
  refine fw_aload_n C dX2_push_27 rfl 0 rfl ?_
  refine fw_get C (ci := 2) (Cn := RX2) (Tc := TX2) (N := 3) (j := 2) ly_X2_push_2 rfl (hG _ (List.mem_of_getElem? (i := 0) rfl)) (of9_0 _) (ce9 T ad _ _) (by decide) (cx_ts C _ fl_X2_push_26) (fun _ h => h) (v := .int (Y5 9 0 0 2)) rfl dX2_push_28 ?_
  refine fw_iconst C dX2_push_31 (v := 1) rfl ?_
  refine fw_iadd C dX2_push_32 ?_
  refine fw_bipush C dX2_push_33 (v := 6) rfl ?_
  refine fw_mmin C (st := [.ref (ad 9 0 0)]) (cx_ts C _ cw_X2_push_min.1) (cx_ts C _ cw_X2_push_min.2.1) (cx_ts C _ cw_X2_push_min.2.2.1) (cx_ts C _ cw_X2_push_min.2.2.2) (Nat.le_of_ble_eq_true rfl) (Nat.le_of_ble_eq_true rfl) ⟨Nat.zero_le _, Nat.zero_le _⟩ dX2_push_35 ?_
  obtain ⟨Y7, e8, h⟩ := lt_some h
  refine fw_put C (ci := 2) (Cn := RX2) (Tc := TX2) (N := 3) (j := 2) (ty := .int) (upd (Y5 9 0 0) 2 ((if 6 < ((Y5 9 0 0 2) + 1) then 6 else ((Y5 9 0 0 2) + 1)))) ly_X2_push_2 rfl tyX2_ok nmX2 (hG _ (List.mem_of_getElem? (i := 0) rfl)) (of9_0 _) (ce9 T ad _ _) (by decide) (cx_ts C _ fl_X2_push_26) (fun _ h => h) rfl (by decide +kernel) rfl rfl (Nat.le_of_ble_eq_true rfl) (ce9_put2 T ad _ _ _) dX2_push_38 ?_
  refine fw_mem ((up_eq _ _ _ _ _ _).symm.trans e8) ?_
  exact fw_vret C hrt Y7 (Option.some.inj h) (fun t ht => ht) dX2_push_41
end
set_option maxRecDepth 100000 in
set_option maxHeartbeats 4000000 in
theorem c_X2_push {l : Launch} {N0 : Nat} {T : Nat → ClassId} {D : va_G} {gr : List (Nat × Nat)} {ad : Nat → Nat → Nat → Nat} {Y : Mem} {g1 : Nat} {res : Mem} (hG : ∀ q ∈ ([(9, 0), (2, g1)] ++ allG), q ∈ gr) (h : X2_push Y g1 = some res) : CV l yX2_push wsX2_push (Rm 2) N0 T D gr ad Y [.ref (ad 9 0 0), .ref (ad 2 g1 0)] (fun Y1 => Y1 = res) :=
  fw_body (by decide +kernel) rfl (Nat.le_of_ble_eq_true rfl) (fun p e s m below meth c C hrt => w_X2_push C hrt hG  h)
section
variable {p : Program} {l : Launch} {e : Env} {s : State} {m : MethodId} {below : List Frame} {meth : Method} {c : Code} {N0 : Nat} {T : Nat → ClassId} {D : va_G} {gr : List (Nat × Nat)} {ad : Nat → Nat → Nat → Nat}
set_option maxRecDepth 100000 in
set_option maxHeartbeats 4000000 in
theorem w_X11_contains {Y : Mem} {a0 : Int32} {a1 : Int32} (C : Cx p s m [.int a0, .int a1].toArray meth c cX11_contains 2 wsX11_contains RX11 N0 T D gr ad) (hrt : meth.sig.returnType = (some .boolean)) (hG : ∀ q ∈ [], q ∈ gr) {res : Int32} (h : X11_contains Y a0 a1 = some res) : FW p l e (Rm 0) s m [.int a0, .int a1].toArray below meth c 2 N0 T D gr ad 0 0 (MQ below (va_Qi (fun r Y1 => r = res ∧ Y1 = Y) (WB T D gr ad) (fun q => N0 ≤ q)) [.int a0, .int a1].toArray s 0 0 (fun q => N0 ≤ q)) Y 0 [(0, .int a0), (1, .int a1)] [] := by
  unfold X11_contains at h
  refine fw_iload_n C dX11_contains_0 rfl 0 rfl ?_
  refine fw_iload_n C dX11_contains_1 rfl 1 rfl ?_
  refine fw_ishr C dX11_contains_2 ?_
  refine fw_iconst C dX11_contains_3 (v := 1) rfl ?_
  refine fw_iand C dX11_contains_4 ?_
  refine fw_if_eq C dX11_contains_5 (tgt := 12) rfl (fun c1 => ?_) (fun c1 => ?_)
  · have h := ite_t c1 h
    refine fw_iconst C dX11_contains_12 (v := 0) rfl ?_
    exact fw_zret C hrt (by decide) Y ⟨Option.some.inj h, rfl⟩ (fun t ht => ht) dX11_contains_13
  · have h := ite_f c1 h
    refine fw_iconst C dX11_contains_8 (v := 1) rfl ?_
    refine fw_goto C dX11_contains_9 (tgt := 13) rfl ?_
    exact fw_zret C hrt (by decide) Y ⟨Option.some.inj h, rfl⟩ (fun t ht => ht) dX11_contains_13
end
set_option maxRecDepth 100000 in
set_option maxHeartbeats 4000000 in
theorem c_X11_contains {l : Launch} {N0 : Nat} {T : Nat → ClassId} {D : va_G} {gr : List (Nat × Nat)} {ad : Nat → Nat → Nat → Nat} {Y : Mem} {a0 : Int32} {a1 : Int32} {res : Int32} (hG : ∀ q ∈ [], q ∈ gr) (h : X11_contains Y a0 a1 = some res) : CI l yX11_contains wsX11_contains (Rm 0) N0 T D gr ad Y [.int a0, .int a1] (fun r Y1 => r = res ∧ Y1 = Y) :=
  fw_body (by decide +kernel) rfl (Nat.le_of_ble_eq_true rfl) (fun p e s m below meth c C hrt => w_X11_contains C hrt hG  h)
