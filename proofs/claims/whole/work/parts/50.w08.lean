theorem ly_X12_canRedo_12 : ∀ w ∈ u_ws RX12 TX12 19, w ∈ wsX12_canRedo := by decide +kernel
theorem fl_X12_canRedo_13 : Cond.fieldLink RX12 13 "RecipeSchedulerModel" "m" "[I" ∈ wsX12_canRedo := by decide +kernel
section
variable {p : Program} {l : Launch} {e : Env} {s : State} {m : MethodId} {below : List Frame} {meth : Method} {c : Code} {N0 : Nat} {T : Nat → ClassId} {D : va_G} {gr : List (Nat × Nat)} {ad : Nat → Nat → Nat → Nat}
set_option maxRecDepth 100000 in
set_option maxHeartbeats 4000000 in
theorem w_X12_canRedo {Y : Mem} {a1 : Int32} (C : Cx p s m [.ref (ad 10 0 0), .int a1].toArray meth c cX12_canRedo 2 wsX12_canRedo RX12 N0 T D gr ad) (hrt : meth.sig.returnType = (some .boolean)) (hG : ∀ q ∈ [(10, 0)], q ∈ gr) {res : Int32} (h : X12_canRedo Y a1 = some res) : FW p l e (Rm 4) s m [.ref (ad 10 0 0), .int a1].toArray below meth c 2 N0 T D gr ad 0 0 (MQ below (va_Qi (fun r Y1 => r = res ∧ Y1 = Y) (WB T D gr ad) (fun q => N0 ≤ q)) [.ref (ad 10 0 0), .int a1].toArray s 0 0 (fun q => N0 ≤ q)) Y 0 [(0, .ref (ad 10 0 0)), (1, .int a1)] [] := by
  unfold X12_canRedo at h
  refine fw_aload_n C dX12_canRedo_0 rfl 0 rfl ?_
  refine fw_iload_n C dX12_canRedo_1 rfl 1 rfl ?_
  refine fw_bipush C dX12_canRedo_2 (v := 17) rfl ?_
  obtain ⟨r1, q2, h⟩ := bd1_some h
  refine fw_callVi C (ci := 10) (Cn := RX12) (Tc := TX12) (N := 19) (As := [.int a1, .int 17]) (c_X12_of (gac (hG _ (List.mem_of_getElem? (i := 0) rfl)) ga0) q2) (cwV 2 (cx_ts C) gX12_canRedo_X12_of rfl rfl rfl (by decide +kernel) ⟨Nat.le_of_ble_eq_true rfl, Nat.le_of_ble_eq_true rfl⟩) rfl (hG _ (List.mem_of_getElem? (i := 0) rfl)) (of10_0 _) (ce10 T ad _ _) rfl (st := []) rfl (Nat.le_of_ble_eq_true rfl) ⟨Nat.le_refl 0, Nat.le_refl 0⟩ dX12_canRedo_4 (pp2 ?_)
  refine fw_iconst C dX12_canRedo_7 (v := 2) rfl ?_
  refine fw_icmp_ne C dX12_canRedo_8 (tgt := 33) rfl (fun c3 => ?_) (fun c3 => ?_)
  · have h := ite_f c3 h
    refine fw_iconst C dX12_canRedo_33 (v := 0) rfl ?_
    exact fw_zret C hrt (by decide) Y ⟨Option.some.inj h, rfl⟩ (fun t ht => ht) dX12_canRedo_34
  · have h := ite_t c3 h
    refine fw_aload_n C dX12_canRedo_11 rfl 0 rfl ?_
    refine fw_iload_n C dX12_canRedo_12 rfl 1 rfl ?_
    obtain ⟨r4, q5, h⟩ := bd1_some h
    refine fw_callVi C (ci := 10) (Cn := RX12) (Tc := TX12) (N := 19) (As := [.int a1]) (c_X12_isTaken (gac (hG _ (List.mem_of_getElem? (i := 0) rfl)) ga0) q5) (cwV 1 (cx_ts C) gX12_canRedo_X12_isTaken rfl rfl rfl (by decide +kernel) ⟨Nat.le_of_ble_eq_true rfl, Nat.le_of_ble_eq_true rfl⟩) rfl (hG _ (List.mem_of_getElem? (i := 0) rfl)) (of10_0 _) (ce10 T ad _ _) rfl (st := []) rfl (Nat.le_of_ble_eq_true rfl) ⟨Nat.le_refl 0, Nat.le_refl 0⟩ dX12_canRedo_13 (pp2 ?_)
    refine fw_if_ne C dX12_canRedo_16 (tgt := 33) rfl (fun c6 => ?_) (fun c6 => ?_)
    · have h := ite_f c6 h
      refine fw_iconst C dX12_canRedo_33 (v := 0) rfl ?_
      exact fw_zret C hrt (by decide) Y ⟨Option.some.inj h, rfl⟩ (fun t ht => ht) dX12_canRedo_34
    · have h := ite_t c6 h
      refine fw_aload_n C dX12_canRedo_19 rfl 0 rfl ?_
      refine fw_get C (ci := 10) (Cn := RX12) (Tc := TX12) (N := 19) (j := 0) ly_X12_canRedo_12 rfl (hG _ (List.mem_of_getElem? (i := 0) rfl)) (of10_0 _) (ce10 T ad _ _) (by decide) (cx_ts C _ fl_X12_canRedo_13) (fun _ h => h) (v := .ref (ad 10 0 1)) rfl dX12_canRedo_20 ?_
      refine fw_bipush C dX12_canRedo_23 (v := 6) rfl ?_
      obtain ⟨b7, h⟩ := gd_some h
      refine fw_iald2 C (hG _ (List.mem_of_getElem? (i := 0) rfl)) (of10_1 _) (ca10_1 T ad _ _) b7 (Nat.le_of_ble_eq_true rfl) dX12_canRedo_25 ?_
      refine fw_if_ne C dX12_canRedo_26 (tgt := 33) rfl (fun c8 => ?_) (fun c8 => ?_)
      · have h := ite_f c8 h
        refine fw_iconst C dX12_canRedo_33 (v := 0) rfl ?_
        exact fw_zret C hrt (by decide) Y ⟨Option.some.inj h, rfl⟩ (fun t ht => ht) dX12_canRedo_34
      · have h := ite_t c8 h
        refine fw_iconst C dX12_canRedo_29 (v := 1) rfl ?_
        refine fw_goto C dX12_canRedo_30 (tgt := 34) rfl ?_
        exact fw_zret C hrt (by decide) Y ⟨Option.some.inj h, rfl⟩ (fun t ht => ht) dX12_canRedo_34
end
set_option maxRecDepth 100000 in
set_option maxHeartbeats 4000000 in
theorem c_X12_canRedo {l : Launch} {N0 : Nat} {T : Nat → ClassId} {D : va_G} {gr : List (Nat × Nat)} {ad : Nat → Nat → Nat → Nat} {Y : Mem} {a1 : Int32} {res : Int32} (hG : ∀ q ∈ [(10, 0)], q ∈ gr) (h : X12_canRedo Y a1 = some res) : CI l yX12_canRedo wsX12_canRedo (Rm 4) N0 T D gr ad Y [.ref (ad 10 0 0), .int a1] (fun r Y1 => r = res ∧ Y1 = Y) :=
  fw_body (by decide +kernel) rfl (Nat.le_of_ble_eq_true rfl) (fun p e s m below meth c C hrt => w_X12_canRedo C hrt hG  h)
theorem ly_X12_servingReason_12 : ∀ w ∈ u_ws RX12 TX12 19, w ∈ wsX12_servingReason := by decide +kernel
theorem fl_X12_servingReason_13 : Cond.fieldLink RX12 13 "RecipeSchedulerModel" "m" "[I" ∈ wsX12_servingReason := by decide +kernel
section
variable {p : Program} {l : Launch} {e : Env} {s : State} {m : MethodId} {below : List Frame} {meth : Method} {c : Code} {N0 : Nat} {T : Nat → ClassId} {D : va_G} {gr : List (Nat × Nat)} {ad : Nat → Nat → Nat → Nat}
set_option maxRecDepth 100000 in
set_option maxHeartbeats 4000000 in
theorem w_X12_servingReason {Y : Mem} (C : Cx p s m [.ref (ad 10 0 0)].toArray meth c cX12_servingReason 1 wsX12_servingReason RX12 N0 T D gr ad) (hrt : meth.sig.returnType = (some .int)) (hG : ∀ q ∈ [(10, 0)], q ∈ gr) {res : Int32} (h : X12_servingReason Y = some res) : FW p l e (Rm 3) s m [.ref (ad 10 0 0)].toArray below meth c 1 N0 T D gr ad 0 0 (MQ below (va_Qi (fun r Y1 => r = res ∧ Y1 = Y) (WB T D gr ad) (fun q => N0 ≤ q)) [.ref (ad 10 0 0)].toArray s 0 0 (fun q => N0 ≤ q)) Y 0 [(0, .ref (ad 10 0 0))] [] := by
  unfold X12_servingReason at h
  refine fw_aload_n C dX12_servingReason_0 rfl 0 rfl ?_
  refine fw_get C (ci := 10) (Cn := RX12) (Tc := TX12) (N := 19) (j := 0) ly_X12_servingReason_12 rfl (hG _ (List.mem_of_getElem? (i := 0) rfl)) (of10_0 _) (ce10 T ad _ _) (by decide) (cx_ts C _ fl_X12_servingReason_13) (fun _ h => h) (v := .ref (ad 10 0 1)) rfl dX12_servingReason_1 ?_
  refine fw_bipush C dX12_servingReason_4 (v := 6) rfl ?_
  obtain ⟨b1, h⟩ := gd_some h
  refine fw_iald2 C (hG _ (List.mem_of_getElem? (i := 0) rfl)) (of10_1 _) (ca10_1 T ad _ _) b1 (Nat.le_of_ble_eq_true rfl) dX12_servingReason_6 ?_
  refine fw_iconst C dX12_servingReason_7 (v := 1) rfl ?_
  refine fw_icmp_ne C dX12_servingReason_8 (tgt := 13) rfl (fun c2 => ?_) (fun c2 => ?_)
  · have h := ite_f c2 h
    refine fw_aload_n C dX12_servingReason_13 rfl 0 rfl ?_
    refine fw_iconst C dX12_servingReason_14 (v := 3) rfl ?_
    obtain ⟨r3, q4, h⟩ := bd1_some h
    refine fw_callVi C (ci := 10) (Cn := RX12) (Tc := TX12) (N := 19) (As := [.int 3]) (c_X12_withStatus (gac (hG _ (List.mem_of_getElem? (i := 0) rfl)) ga0) q4) (cwV 1 (cx_ts C) gX12_servingReason_X12_withStatus rfl rfl rfl (by decide +kernel) ⟨Nat.le_of_ble_eq_true rfl, Nat.le_of_ble_eq_true rfl⟩) rfl (hG _ (List.mem_of_getElem? (i := 0) rfl)) (of10_0 _) (ce10 T ad _ _) rfl (st := []) rfl (Nat.le_of_ble_eq_true rfl) ⟨Nat.le_refl 0, Nat.le_refl 0⟩ dX12_servingReason_15 (pp2 ?_)
    refine fw_if_le C dX12_servingReason_18 (tgt := 23) rfl (fun c5 => ?_) (fun c5 => ?_)
    · have h := ite_t c5 h
      refine fw_aload_n C dX12_servingReason_23 rfl 0 rfl ?_
      obtain ⟨r6, q7, h⟩ := bd1_some h
      refine fw_callVi C (ci := 10) (Cn := RX12) (Tc := TX12) (N := 19) (As := []) (c_X12_isFinished (gac (hG _ (List.mem_of_getElem? (i := 0) rfl)) ga0) q7) (cwV 0 (cx_ts C) gX12_servingReason_X12_isFinished rfl rfl rfl (by decide +kernel) ⟨Nat.le_of_ble_eq_true rfl, Nat.le_of_ble_eq_true rfl⟩) rfl (hG _ (List.mem_of_getElem? (i := 0) rfl)) (of10_0 _) (ce10 T ad _ _) rfl (st := []) rfl (Nat.le_of_ble_eq_true rfl) ⟨Nat.le_refl 0, Nat.le_refl 0⟩ dX12_servingReason_24 (pp2 ?_)
      refine fw_if_ne C dX12_servingReason_27 (tgt := 32) rfl (fun c8 => ?_) (fun c8 => ?_)
      · have h := ite_f c8 h
        refine fw_aload_n C dX12_servingReason_32 rfl 0 rfl ?_
        obtain ⟨r9, q10, h⟩ := bd1_some h
        refine fw_callVi C (ci := 10) (Cn := RX12) (Tc := TX12) (N := 19) (As := []) (c_X12_tasteNow (gac (hG _ (List.mem_of_getElem? (i := 0) rfl)) ga0) q10) (cwV 0 (cx_ts C) gX12_servingReason_X12_tasteNow rfl rfl rfl (by decide +kernel) ⟨Nat.le_of_ble_eq_true rfl, Nat.le_of_ble_eq_true rfl⟩) rfl (hG _ (List.mem_of_getElem? (i := 0) rfl)) (of10_0 _) (ce10 T ad _ _) rfl (st := []) rfl (Nat.le_of_ble_eq_true rfl) ⟨Nat.le_refl 0, Nat.le_refl 0⟩ dX12_servingReason_33 (pp2 ?_)
        refine fw_aload_n C dX12_servingReason_36 rfl 0 rfl ?_
        refine fw_get C (ci := 10) (Cn := RX12) (Tc := TX12) (N := 19) (j := 0) ly_X12_servingReason_12 rfl (hG _ (List.mem_of_getElem? (i := 0) rfl)) (of10_0 _) (ce10 T ad _ _) (by decide) (cx_ts C _ fl_X12_servingReason_13) (fun _ h => h) (v := .ref (ad 10 0 1)) rfl dX12_servingReason_37 ?_
        refine fw_iconst C dX12_servingReason_40 (v := 2) rfl ?_
        obtain ⟨b11, h⟩ := gd_some h
        refine fw_iald2 C (hG _ (List.mem_of_getElem? (i := 0) rfl)) (of10_1 _) (ca10_1 T ad _ _) b11 (Nat.le_of_ble_eq_true rfl) dX12_servingReason_41 ?_
        refine fw_icmp_ge C dX12_servingReason_42 (tgt := 47) rfl (fun c12 => ?_) (fun c12 => ?_)
        · have h := ite_t c12 h
          refine fw_aload_n C dX12_servingReason_47 rfl 0 rfl ?_
          obtain ⟨r13, q14, h⟩ := bd1_some h
          refine fw_callVi C (ci := 10) (Cn := RX12) (Tc := TX12) (N := 19) (As := []) (c_X12_tasteNow (gac (hG _ (List.mem_of_getElem? (i := 0) rfl)) ga0) q14) (cwV 0 (cx_ts C) gX12_servingReason_X12_tasteNow rfl rfl rfl (by decide +kernel) ⟨Nat.le_of_ble_eq_true rfl, Nat.le_of_ble_eq_true rfl⟩) rfl (hG _ (List.mem_of_getElem? (i := 0) rfl)) (of10_0 _) (ce10 T ad _ _) rfl (st := []) rfl (Nat.le_of_ble_eq_true rfl) ⟨Nat.le_refl 0, Nat.le_refl 0⟩ dX12_servingReason_48 (pp2 ?_)
          refine fw_aload_n C dX12_servingReason_51 rfl 0 rfl ?_
          refine fw_get C (ci := 10) (Cn := RX12) (Tc := TX12) (N := 19) (j := 0) ly_X12_servingReason_12 rfl (hG _ (List.mem_of_getElem? (i := 0) rfl)) (of10_0 _) (ce10 T ad _ _) (by decide) (cx_ts C _ fl_X12_servingReason_13) (fun _ h => h) (v := .ref (ad 10 0 1)) rfl dX12_servingReason_52 ?_
          refine fw_iconst C dX12_servingReason_55 (v := 3) rfl ?_
          obtain ⟨b15, h⟩ := gd_some h
          refine fw_iald2 C (hG _ (List.mem_of_getElem? (i := 0) rfl)) (of10_1 _) (ca10_1 T ad _ _) b15 (Nat.le_of_ble_eq_true rfl) dX12_servingReason_56 ?_
          refine fw_icmp_le C dX12_servingReason_57 (tgt := 64) rfl (fun c16 => ?_) (fun c16 => ?_)
          · have h := ite_t c16 h
            refine fw_iconst C dX12_servingReason_64 (v := 0) rfl ?_
            exact fw_iret C hrt Y ⟨Option.some.inj h, rfl⟩ (fun t ht => ht) dX12_servingReason_65
          · have h := ite_f c16 h
            refine fw_iconst C dX12_servingReason_60 (v := 5) rfl ?_
            refine fw_goto C dX12_servingReason_61 (tgt := 65) rfl ?_
            exact fw_iret C hrt Y ⟨Option.some.inj h, rfl⟩ (fun t ht => ht) dX12_servingReason_65
        · have h := ite_f c12 h
          refine fw_iconst C dX12_servingReason_45 (v := 4) rfl ?_
          exact fw_iret C hrt Y ⟨Option.some.inj h, rfl⟩ (fun t ht => ht) dX12_servingReason_46
      · have h := ite_t c8 h
        refine fw_iconst C dX12_servingReason_30 (v := 3) rfl ?_
        exact fw_iret C hrt Y ⟨Option.some.inj h, rfl⟩ (fun t ht => ht) dX12_servingReason_31
    · have h := ite_f c5 h
      refine fw_iconst C dX12_servingReason_21 (v := 2) rfl ?_
      exact fw_iret C hrt Y ⟨Option.some.inj h, rfl⟩ (fun t ht => ht) dX12_servingReason_22
  · have h := ite_t c2 h
    refine fw_iconst C dX12_servingReason_11 (v := 1) rfl ?_
    exact fw_iret C hrt Y ⟨Option.some.inj h, rfl⟩ (fun t ht => ht) dX12_servingReason_12
end
set_option maxRecDepth 100000 in
set_option maxHeartbeats 4000000 in
theorem c_X12_servingReason {l : Launch} {N0 : Nat} {T : Nat → ClassId} {D : va_G} {gr : List (Nat × Nat)} {ad : Nat → Nat → Nat → Nat} {Y : Mem} {res : Int32} (hG : ∀ q ∈ [(10, 0)], q ∈ gr) (h : X12_servingReason Y = some res) : CI l yX12_servingReason wsX12_servingReason (Rm 3) N0 T D gr ad Y [.ref (ad 10 0 0)] (fun r Y1 => r = res ∧ Y1 = Y) :=
  fw_body (by decide +kernel) rfl (Nat.le_of_ble_eq_true rfl) (fun p e s m below meth c C hrt => w_X12_servingReason C hrt hG  h)
theorem ly_X12_canDo_12 : ∀ w ∈ u_ws RX12 TX12 19, w ∈ wsX12_canDo := by decide +kernel
theorem fl_X12_canDo_13 : Cond.fieldLink RX12 13 "RecipeSchedulerModel" "m" "[I" ∈ wsX12_canDo := by decide +kernel
section
variable {p : Program} {l : Launch} {e : Env} {s : State} {m : MethodId} {below : List Frame} {meth : Method} {c : Code} {N0 : Nat} {T : Nat → ClassId} {D : va_G} {gr : List (Nat × Nat)} {ad : Nat → Nat → Nat → Nat}
set_option maxRecDepth 100000 in
set_option maxHeartbeats 4000000 in
theorem w_X12_canDo {Y : Mem} {a1 : Int32} {a2 : Int32} {a3 : Int32} (C : Cx p s m [.ref (ad 10 0 0), .int a1, .int a2, .int a3].toArray meth c cX12_canDo 4 wsX12_canDo RX12 N0 T D gr ad) (hrt : meth.sig.returnType = (some .boolean)) (hG : ∀ q ∈ [(10, 0)], q ∈ gr) {res : Int32} (h : X12_canDo Y a1 a2 a3 = some res) : FW p l e (Rm 5) s m [.ref (ad 10 0 0), .int a1, .int a2, .int a3].toArray below meth c 4 N0 T D gr ad 0 0 (MQ below (va_Qi (fun r Y1 => r = res ∧ Y1 = Y) (WB T D gr ad) (fun q => N0 ≤ q)) [.ref (ad 10 0 0), .int a1, .int a2, .int a3].toArray s 0 0 (fun q => N0 ≤ q)) Y 0 [(0, .ref (ad 10 0 0)), (1, .int a1), (2, .int a2), (3, .int a3)] [] := by
  unfold X12_canDo at h
  refine fw_iload_n C dX12_canDo_0 rfl 1 rfl ?_
  by_cases c1 : a1 = 0
  · have h := ite_t c1 h
    refine fw_tableIn C dX12_canDo_1 (by rw [c1]; decide +kernel) (by rw [c1]; decide +kernel) (off := 43) (by rw [c1]; decide +kernel) (tgt := 44) rfl ?_
    refine fw_iload_n C dX12_canDo_44 rfl 2 rfl ?_
    refine fw_iconst C dX12_canDo_45 (v := 1) rfl ?_
    refine fw_sipush C dX12_canDo_46 (v := 200) rfl ?_
    obtain ⟨r2, q3, h⟩ := bd1_some h
    refine fw_callSi C (As := [.int a2, .int 1, .int 200]) (c_X12_in ga0 q3) (va_cwS 3 (cx_ts C) gX12_canDo_X12_in rfl rfl rfl (by decide +kernel) ⟨Nat.le_of_ble_eq_true rfl, Nat.le_of_ble_eq_true rfl⟩) rfl (st := []) rfl (Nat.le_of_ble_eq_true rfl) ⟨Nat.le_refl 0, Nat.le_refl 0⟩ dX12_canDo_49 (pp2 ?_)
    refine fw_if_eq C dX12_canDo_52 (tgt := 73) rfl (fun c4 => ?_) (fun c4 => ?_)
    · have h := ite_t c4 h
      refine fw_iconst C dX12_canDo_73 (v := 0) rfl ?_
      exact fw_zret C hrt (by decide) Y ⟨Option.some.inj h, rfl⟩ (fun t ht => ht) dX12_canDo_74
    · have h := ite_f c4 h
      refine fw_aload_n C dX12_canDo_55 rfl 0 rfl ?_
      refine fw_get C (ci := 10) (Cn := RX12) (Tc := TX12) (N := 19) (j := 0) ly_X12_canDo_12 rfl (hG _ (List.mem_of_getElem? (i := 0) rfl)) (of10_0 _) (ce10 T ad _ _) (by decide) (cx_ts C _ fl_X12_canDo_13) (fun _ h => h) (v := .ref (ad 10 0 1)) rfl dX12_canDo_56 ?_
      refine fw_iconst C dX12_canDo_59 (v := 4) rfl ?_
      obtain ⟨b5, h⟩ := gd_some h
      refine fw_iald2 C (hG _ (List.mem_of_getElem? (i := 0) rfl)) (of10_1 _) (ca10_1 T ad _ _) b5 (Nat.le_of_ble_eq_true rfl) dX12_canDo_60 ?_
      refine fw_iload_n C dX12_canDo_61 rfl 2 rfl ?_
      refine fw_iadd C dX12_canDo_62 ?_
      refine fw_sipush C dX12_canDo_63 (v := 9999) rfl ?_
      refine fw_icmp_gt C dX12_canDo_66 (tgt := 73) rfl (fun c6 => ?_) (fun c6 => ?_)
      · have h := ite_t c6 h
        refine fw_iconst C dX12_canDo_73 (v := 0) rfl ?_
        exact fw_zret C hrt (by decide) Y ⟨Option.some.inj h, rfl⟩ (fun t ht => ht) dX12_canDo_74
      · have h := ite_f c6 h
        refine fw_iconst C dX12_canDo_69 (v := 1) rfl ?_
        refine fw_goto C dX12_canDo_70 (tgt := 74) rfl ?_
        exact fw_zret C hrt (by decide) Y ⟨Option.some.inj h, rfl⟩ (fun t ht => ht) dX12_canDo_74
  · have h := ite_f c1 h
    by_cases c7 : a1 = 1
    · have h := ite_t c7 h
      refine fw_tableIn C dX12_canDo_1 (by rw [c7]; decide +kernel) (by rw [c7]; decide +kernel) (off := 74) (by rw [c7]; decide +kernel) (tgt := 75) rfl ?_
      refine fw_iload_n C dX12_canDo_75 rfl 2 rfl ?_
      refine fw_iconst C dX12_canDo_76 (v := 1) rfl ?_
      refine fw_bipush C dX12_canDo_77 (v := 9) rfl ?_
      obtain ⟨r8, q9, h⟩ := bd1_some h
      refine fw_callSi C (As := [.int a2, .int 1, .int 9]) (c_X12_in ga0 q9) (va_cwS 3 (cx_ts C) gX12_canDo_X12_in rfl rfl rfl (by decide +kernel) ⟨Nat.le_of_ble_eq_true rfl, Nat.le_of_ble_eq_true rfl⟩) rfl (st := []) rfl (Nat.le_of_ble_eq_true rfl) ⟨Nat.le_refl 0, Nat.le_refl 0⟩ dX12_canDo_79 (pp2 ?_)
      refine fw_if_eq C dX12_canDo_82 (tgt := 99) rfl (fun c10 => ?_) (fun c10 => ?_)
      · have h := ite_t c10 h
        refine fw_iconst C dX12_canDo_99 (v := 0) rfl ?_
        exact fw_zret C hrt (by decide) Y ⟨Option.some.inj h, rfl⟩ (fun t ht => ht) dX12_canDo_100
      · have h := ite_f c10 h
        refine fw_aload_n C dX12_canDo_85 rfl 0 rfl ?_
        refine fw_get C (ci := 10) (Cn := RX12) (Tc := TX12) (N := 19) (j := 0) ly_X12_canDo_12 rfl (hG _ (List.mem_of_getElem? (i := 0) rfl)) (of10_0 _) (ce10 T ad _ _) (by decide) (cx_ts C _ fl_X12_canDo_13) (fun _ h => h) (v := .ref (ad 10 0 1)) rfl dX12_canDo_86 ?_
        refine fw_bipush C dX12_canDo_89 (v := 6) rfl ?_
        obtain ⟨b11, h⟩ := gd_some h
        refine fw_iald2 C (hG _ (List.mem_of_getElem? (i := 0) rfl)) (of10_1 _) (ca10_1 T ad _ _) b11 (Nat.le_of_ble_eq_true rfl) dX12_canDo_91 ?_
        refine fw_if_ne C dX12_canDo_92 (tgt := 99) rfl (fun c12 => ?_) (fun c12 => ?_)
        · have h := ite_f c12 h
          refine fw_iconst C dX12_canDo_99 (v := 0) rfl ?_
          exact fw_zret C hrt (by decide) Y ⟨Option.some.inj h, rfl⟩ (fun t ht => ht) dX12_canDo_100
        · have h := ite_t c12 h
          refine fw_iconst C dX12_canDo_95 (v := 1) rfl ?_
          refine fw_goto C dX12_canDo_96 (tgt := 100) rfl ?_
          exact fw_zret C hrt (by decide) Y ⟨Option.some.inj h, rfl⟩ (fun t ht => ht) dX12_canDo_100
    · have h := ite_f c7 h
      by_cases c13 : a1 = 2
      · have h := ite_t c13 h
        refine fw_tableIn C dX12_canDo_1 (by rw [c13]; decide +kernel) (by rw [c13]; decide +kernel) (off := 74) (by rw [c13]; decide +kernel) (tgt := 75) rfl ?_
        refine fw_iload_n C dX12_canDo_75 rfl 2 rfl ?_
        refine fw_iconst C dX12_canDo_76 (v := 1) rfl ?_
        refine fw_bipush C dX12_canDo_77 (v := 9) rfl ?_
        obtain ⟨r14, q15, h⟩ := bd1_some h
        refine fw_callSi C (As := [.int a2, .int 1, .int 9]) (c_X12_in ga0 q15) (va_cwS 3 (cx_ts C) gX12_canDo_X12_in rfl rfl rfl (by decide +kernel) ⟨Nat.le_of_ble_eq_true rfl, Nat.le_of_ble_eq_true rfl⟩) rfl (st := []) rfl (Nat.le_of_ble_eq_true rfl) ⟨Nat.le_refl 0, Nat.le_refl 0⟩ dX12_canDo_79 (pp2 ?_)
        refine fw_if_eq C dX12_canDo_82 (tgt := 99) rfl (fun c16 => ?_) (fun c16 => ?_)
        · have h := ite_t c16 h
          refine fw_iconst C dX12_canDo_99 (v := 0) rfl ?_
          exact fw_zret C hrt (by decide) Y ⟨Option.some.inj h, rfl⟩ (fun t ht => ht) dX12_canDo_100
        · have h := ite_f c16 h
          refine fw_aload_n C dX12_canDo_85 rfl 0 rfl ?_
          refine fw_get C (ci := 10) (Cn := RX12) (Tc := TX12) (N := 19) (j := 0) ly_X12_canDo_12 rfl (hG _ (List.mem_of_getElem? (i := 0) rfl)) (of10_0 _) (ce10 T ad _ _) (by decide) (cx_ts C _ fl_X12_canDo_13) (fun _ h => h) (v := .ref (ad 10 0 1)) rfl dX12_canDo_86 ?_
          refine fw_bipush C dX12_canDo_89 (v := 6) rfl ?_
          obtain ⟨b17, h⟩ := gd_some h
          refine fw_iald2 C (hG _ (List.mem_of_getElem? (i := 0) rfl)) (of10_1 _) (ca10_1 T ad _ _) b17 (Nat.le_of_ble_eq_true rfl) dX12_canDo_91 ?_
          refine fw_if_ne C dX12_canDo_92 (tgt := 99) rfl (fun c18 => ?_) (fun c18 => ?_)
          · have h := ite_f c18 h
            refine fw_iconst C dX12_canDo_99 (v := 0) rfl ?_
            exact fw_zret C hrt (by decide) Y ⟨Option.some.inj h, rfl⟩ (fun t ht => ht) dX12_canDo_100
          · have h := ite_t c18 h
            refine fw_iconst C dX12_canDo_95 (v := 1) rfl ?_
            refine fw_goto C dX12_canDo_96 (tgt := 100) rfl ?_
            exact fw_zret C hrt (by decide) Y ⟨Option.some.inj h, rfl⟩ (fun t ht => ht) dX12_canDo_100
      · have h := ite_f c13 h
        by_cases c19 : a1 = 3
        · have h := ite_t c19 h
          refine fw_tableIn C dX12_canDo_1 (by rw [c19]; decide +kernel) (by rw [c19]; decide +kernel) (off := 100) (by rw [c19]; decide +kernel) (tgt := 101) rfl ?_
          refine fw_aload_n C dX12_canDo_101 rfl 0 rfl ?_
          refine fw_iload_n C dX12_canDo_102 rfl 2 rfl ?_
          refine fw_bipush C dX12_canDo_103 (v := 17) rfl ?_
          obtain ⟨r20, q21, h⟩ := bd1_some h
          refine fw_callVi C (ci := 10) (Cn := RX12) (Tc := TX12) (N := 19) (As := [.int a2, .int 17]) (c_X12_of (gac (hG _ (List.mem_of_getElem? (i := 0) rfl)) ga0) q21) (cwV 2 (cx_ts C) gX12_canDo_X12_of rfl rfl rfl (by decide +kernel) ⟨Nat.le_of_ble_eq_true rfl, Nat.le_of_ble_eq_true rfl⟩) rfl (hG _ (List.mem_of_getElem? (i := 0) rfl)) (of10_0 _) (ce10 T ad _ _) rfl (st := []) rfl (Nat.le_of_ble_eq_true rfl) ⟨Nat.le_refl 0, Nat.le_refl 0⟩ dX12_canDo_105 (pp2 ?_)
          refine fw_iconst C dX12_canDo_108 (v := 1) rfl ?_
          refine fw_icmp_ne C dX12_canDo_109 (tgt := 116) rfl (fun c22 => ?_) (fun c22 => ?_)
          · have h := ite_f c22 h
            refine fw_iconst C dX12_canDo_116 (v := 0) rfl ?_
            exact fw_zret C hrt (by decide) Y ⟨Option.some.inj h, rfl⟩ (fun t ht => ht) dX12_canDo_117
          · have h := ite_t c22 h
            refine fw_iconst C dX12_canDo_112 (v := 1) rfl ?_
            refine fw_goto C dX12_canDo_113 (tgt := 117) rfl ?_
            exact fw_zret C hrt (by decide) Y ⟨Option.some.inj h, rfl⟩ (fun t ht => ht) dX12_canDo_117
        · have h := ite_f c19 h
          by_cases c23 : a1 = 4
          · have h := ite_t c23 h
            refine fw_tableIn C dX12_canDo_1 (by rw [c23]; decide +kernel) (by rw [c23]; decide +kernel) (off := 117) (by rw [c23]; decide +kernel) (tgt := 118) rfl ?_
            refine fw_aload_n C dX12_canDo_118 rfl 0 rfl ?_
            refine fw_iload_n C dX12_canDo_119 rfl 2 rfl ?_
            obtain ⟨r24, q25, h⟩ := bd1_some h
            refine fw_callVi C (ci := 10) (Cn := RX12) (Tc := TX12) (N := 19) (As := [.int a2]) (c_X12_canRedo (gac (hG _ (List.mem_of_getElem? (i := 0) rfl)) ga0) q25) (cwV 1 (cx_ts C) gX12_canDo_X12_canRedo rfl rfl rfl (by decide +kernel) ⟨Nat.le_of_ble_eq_true rfl, Nat.le_of_ble_eq_true rfl⟩) rfl (hG _ (List.mem_of_getElem? (i := 0) rfl)) (of10_0 _) (ce10 T ad _ _) rfl (st := []) rfl (Nat.le_of_ble_eq_true rfl) ⟨Nat.le_refl 0, Nat.le_refl 0⟩ dX12_canDo_120 (pp2 ?_)
            obtain ⟨b26, h⟩ := gd_some h
            exact fw_zret C hrt (of_decide_eq_true b26) Y ⟨Option.some.inj h, rfl⟩ (fun t ht => ht) dX12_canDo_123
          · have h := ite_f c23 h
            by_cases c27 : a1 = 5
            · have h := ite_t c27 h
              refine fw_tableIn C dX12_canDo_1 (by rw [c27]; decide +kernel) (by rw [c27]; decide +kernel) (off := 123) (by rw [c27]; decide +kernel) (tgt := 124) rfl ?_
              refine fw_iload_n C dX12_canDo_124 rfl 2 rfl ?_
              refine fw_iconst C dX12_canDo_125 (v := 1) rfl ?_
              refine fw_iconst C dX12_canDo_126 (v := 4) rfl ?_
              obtain ⟨r28, q29, h⟩ := bd1_some h
              refine fw_callSi C (As := [.int a2, .int 1, .int 4]) (c_X12_in ga0 q29) (va_cwS 3 (cx_ts C) gX12_canDo_X12_in rfl rfl rfl (by decide +kernel) ⟨Nat.le_of_ble_eq_true rfl, Nat.le_of_ble_eq_true rfl⟩) rfl (st := []) rfl (Nat.le_of_ble_eq_true rfl) ⟨Nat.le_refl 0, Nat.le_refl 0⟩ dX12_canDo_127 (pp2 ?_)
              obtain ⟨b30, h⟩ := gd_some h
              exact fw_zret C hrt (of_decide_eq_true b30) Y ⟨Option.some.inj h, rfl⟩ (fun t ht => ht) dX12_canDo_130
            · have h := ite_f c27 h
              by_cases c31 : a1 = 6
              · have h := ite_t c31 h
                refine fw_tableIn C dX12_canDo_1 (by rw [c31]; decide +kernel) (by rw [c31]; decide +kernel) (off := 130) (by rw [c31]; decide +kernel) (tgt := 131) rfl ?_
                refine fw_iload_n C dX12_canDo_131 rfl 3 rfl ?_
                refine fw_iconst C dX12_canDo_132 (v := 1) rfl ?_
                refine fw_bipush C dX12_canDo_133 (v := 60) rfl ?_
                obtain ⟨r32, q33, h⟩ := bd1_some h
                refine fw_callSi C (As := [.int a3, .int 1, .int 60]) (c_X12_in ga0 q33) (va_cwS 3 (cx_ts C) gX12_canDo_X12_in rfl rfl rfl (by decide +kernel) ⟨Nat.le_of_ble_eq_true rfl, Nat.le_of_ble_eq_true rfl⟩) rfl (st := []) rfl (Nat.le_of_ble_eq_true rfl) ⟨Nat.le_refl 0, Nat.le_refl 0⟩ dX12_canDo_135 (pp2 ?_)
                obtain ⟨b34, h⟩ := gd_some h
                exact fw_zret C hrt (of_decide_eq_true b34) Y ⟨Option.some.inj h, rfl⟩ (fun t ht => ht) dX12_canDo_138
              · have h := ite_f c31 h
                have c1 : ¬ (a1).toInt = 0 := fun q => c1 (Int32.toInt_inj.mp (by rw [q]; decide +kernel))
                have c7 : ¬ (a1).toInt = 1 := fun q => c7 (Int32.toInt_inj.mp (by rw [q]; decide +kernel))
                have c13 : ¬ (a1).toInt = 2 := fun q => c13 (Int32.toInt_inj.mp (by rw [q]; decide +kernel))
                have c19 : ¬ (a1).toInt = 3 := fun q => c19 (Int32.toInt_inj.mp (by rw [q]; decide +kernel))
                have c23 : ¬ (a1).toInt = 4 := fun q => c23 (Int32.toInt_inj.mp (by rw [q]; decide +kernel))
                have c27 : ¬ (a1).toInt = 5 := fun q => c27 (Int32.toInt_inj.mp (by rw [q]; decide +kernel))
                have c31 : ¬ (a1).toInt = 6 := fun q => c31 (Int32.toInt_inj.mp (by rw [q]; decide +kernel))
                refine fw_tableOut C dX12_canDo_1 (by omega) (tgt := 139) rfl ?_
                refine fw_aload_n C dX12_canDo_139 rfl 0 rfl ?_
                obtain ⟨r35, q36, h⟩ := bd1_some h
                refine fw_callVi C (ci := 10) (Cn := RX12) (Tc := TX12) (N := 19) (As := []) (c_X12_servingReason (gac (hG _ (List.mem_of_getElem? (i := 0) rfl)) ga0) q36) (cwV 0 (cx_ts C) gX12_canDo_X12_servingReason rfl rfl rfl (by decide +kernel) ⟨Nat.le_of_ble_eq_true rfl, Nat.le_of_ble_eq_true rfl⟩) rfl (hG _ (List.mem_of_getElem? (i := 0) rfl)) (of10_0 _) (ce10 T ad _ _) rfl (st := []) rfl (Nat.le_of_ble_eq_true rfl) ⟨Nat.le_refl 0, Nat.le_refl 0⟩ dX12_canDo_140 (pp2 ?_)
                refine fw_if_ne C dX12_canDo_143 (tgt := 150) rfl (fun c37 => ?_) (fun c37 => ?_)
                · have h := ite_f c37 h
                  refine fw_iconst C dX12_canDo_150 (v := 0) rfl ?_
                  exact fw_zret C hrt (by decide) Y ⟨Option.some.inj h, rfl⟩ (fun t ht => ht) dX12_canDo_151
                · have h := ite_t c37 h
                  refine fw_iconst C dX12_canDo_146 (v := 1) rfl ?_
                  refine fw_goto C dX12_canDo_147 (tgt := 151) rfl ?_
                  exact fw_zret C hrt (by decide) Y ⟨Option.some.inj h, rfl⟩ (fun t ht => ht) dX12_canDo_151
end
set_option maxRecDepth 100000 in
set_option maxHeartbeats 4000000 in
theorem c_X12_canDo {l : Launch} {N0 : Nat} {T : Nat → ClassId} {D : va_G} {gr : List (Nat × Nat)} {ad : Nat → Nat → Nat → Nat} {Y : Mem} {a1 : Int32} {a2 : Int32} {a3 : Int32} {res : Int32} (hG : ∀ q ∈ [(10, 0)], q ∈ gr) (h : X12_canDo Y a1 a2 a3 = some res) : CI l yX12_canDo wsX12_canDo (Rm 5) N0 T D gr ad Y [.ref (ad 10 0 0), .int a1, .int a2, .int a3] (fun r Y1 => r = res ∧ Y1 = Y) :=
  fw_body (by decide +kernel) rfl (Nat.le_of_ble_eq_true rfl) (fun p e s m below meth c C hrt => w_X12_canDo C hrt hG  h)
section
variable {p : Program} {l : Launch} {e : Env} {s : State} {m : MethodId} {below : List Frame} {meth : Method} {c : Code} {N0 : Nat} {T : Nat → ClassId} {D : va_G} {gr : List (Nat × Nat)} {ad : Nat → Nat → Nat → Nat}
set_option maxRecDepth 100000 in
set_option maxHeartbeats 4000000 in
theorem w_X12_nameOf {Y : Mem} {a0 : Int32} (C : Cx p s m [.int a0].toArray meth c cX12_nameOf 1 wsX12_nameOf RX12 N0 T D gr ad) (hrt : meth.sig.returnType = (some (.object "java/lang/String"))) (hG : ∀ q ∈ [], q ∈ gr) {res : Nat} (h : X12_nameOf Y a0 = some res) : FW p l e (Rm 0) s m [.int a0].toArray below meth c 1 N0 T D gr ad 0 0 (MQ below (va_Qq (fun r Y1 => r = some (ad 21 res 0) ∧ Y1 = Y) (WB T D gr ad) (fun q => N0 ≤ q)) [.int a0].toArray s 0 0 (fun q => N0 ≤ q)) Y 0 [(0, .int a0)] [] := by
  unfold X12_nameOf at h
  refine fw_iload_n C dX12_nameOf_0 rfl 0 rfl ?_
  by_cases c1 : a0 = 0
  · have h := ite_t c1 h
    refine fw_tableIn C dX12_nameOf_1 (by rw [c1]; decide +kernel) (by rw [c1]; decide +kernel) (off := 43) (by rw [c1]; decide +kernel) (tgt := 44) rfl ?_
    refine fw_ldcS C (sr_38 (cx_st C)) dX12_nameOf_44 ?_
    exact fw_qret C hrt (r := some ((ad 21 8 0))) rfl Y ⟨by rw [← Option.some.inj h] <;> rfl, rfl⟩ (fun t ht => ht) dX12_nameOf_46
  · have h := ite_f c1 h
    by_cases c2 : a0 = 1
    · have h := ite_t c2 h
      refine fw_tableIn C dX12_nameOf_1 (by rw [c2]; decide +kernel) (by rw [c2]; decide +kernel) (off := 46) (by rw [c2]; decide +kernel) (tgt := 47) rfl ?_
      refine fw_ldcS C (sr_39 (cx_st C)) dX12_nameOf_47 ?_
      exact fw_qret C hrt (r := some ((ad 21 9 0))) rfl Y ⟨by rw [← Option.some.inj h] <;> rfl, rfl⟩ (fun t ht => ht) dX12_nameOf_49
    · have h := ite_f c2 h
      by_cases c3 : a0 = 2
      · have h := ite_t c3 h
        refine fw_tableIn C dX12_nameOf_1 (by rw [c3]; decide +kernel) (by rw [c3]; decide +kernel) (off := 49) (by rw [c3]; decide +kernel) (tgt := 50) rfl ?_
        refine fw_ldcS C (sr_40 (cx_st C)) dX12_nameOf_50 ?_
        exact fw_qret C hrt (r := some ((ad 21 10 0))) rfl Y ⟨by rw [← Option.some.inj h] <;> rfl, rfl⟩ (fun t ht => ht) dX12_nameOf_52
      · have h := ite_f c3 h
        by_cases c4 : a0 = 3
        · have h := ite_t c4 h
          refine fw_tableIn C dX12_nameOf_1 (by rw [c4]; decide +kernel) (by rw [c4]; decide +kernel) (off := 52) (by rw [c4]; decide +kernel) (tgt := 53) rfl ?_
          refine fw_ldcS C (sr_41 (cx_st C)) dX12_nameOf_53 ?_
          exact fw_qret C hrt (r := some ((ad 21 11 0))) rfl Y ⟨by rw [← Option.some.inj h] <;> rfl, rfl⟩ (fun t ht => ht) dX12_nameOf_55
        · have h := ite_f c4 h
          by_cases c5 : a0 = 4
          · have h := ite_t c5 h
            refine fw_tableIn C dX12_nameOf_1 (by rw [c5]; decide +kernel) (by rw [c5]; decide +kernel) (off := 55) (by rw [c5]; decide +kernel) (tgt := 56) rfl ?_
            refine fw_ldcS C (sr_42 (cx_st C)) dX12_nameOf_56 ?_
            exact fw_qret C hrt (r := some ((ad 21 12 0))) rfl Y ⟨by rw [← Option.some.inj h] <;> rfl, rfl⟩ (fun t ht => ht) dX12_nameOf_58
          · have h := ite_f c5 h
            by_cases c6 : a0 = 5
            · have h := ite_t c6 h
              refine fw_tableIn C dX12_nameOf_1 (by rw [c6]; decide +kernel) (by rw [c6]; decide +kernel) (off := 58) (by rw [c6]; decide +kernel) (tgt := 59) rfl ?_
              refine fw_ldcS C (sr_43 (cx_st C)) dX12_nameOf_59 ?_
              exact fw_qret C hrt (r := some ((ad 21 13 0))) rfl Y ⟨by rw [← Option.some.inj h] <;> rfl, rfl⟩ (fun t ht => ht) dX12_nameOf_61
            · have h := ite_f c6 h
              by_cases c7 : a0 = 6
              · have h := ite_t c7 h
                refine fw_tableIn C dX12_nameOf_1 (by rw [c7]; decide +kernel) (by rw [c7]; decide +kernel) (off := 61) (by rw [c7]; decide +kernel) (tgt := 62) rfl ?_
                refine fw_ldcS C (sr_44 (cx_st C)) dX12_nameOf_62 ?_
                exact fw_qret C hrt (r := some ((ad 21 14 0))) rfl Y ⟨by rw [← Option.some.inj h] <;> rfl, rfl⟩ (fun t ht => ht) dX12_nameOf_64
              · have h := ite_f c7 h
                have c1 : ¬ (a0).toInt = 0 := fun q => c1 (Int32.toInt_inj.mp (by rw [q]; decide +kernel))
                have c2 : ¬ (a0).toInt = 1 := fun q => c2 (Int32.toInt_inj.mp (by rw [q]; decide +kernel))
                have c3 : ¬ (a0).toInt = 2 := fun q => c3 (Int32.toInt_inj.mp (by rw [q]; decide +kernel))
                have c4 : ¬ (a0).toInt = 3 := fun q => c4 (Int32.toInt_inj.mp (by rw [q]; decide +kernel))
                have c5 : ¬ (a0).toInt = 4 := fun q => c5 (Int32.toInt_inj.mp (by rw [q]; decide +kernel))
                have c6 : ¬ (a0).toInt = 5 := fun q => c6 (Int32.toInt_inj.mp (by rw [q]; decide +kernel))
                have c7 : ¬ (a0).toInt = 6 := fun q => c7 (Int32.toInt_inj.mp (by rw [q]; decide +kernel))
                refine fw_tableOut C dX12_nameOf_1 (by omega) (tgt := 65) rfl ?_
                refine fw_ldcS C (sr_45 (cx_st C)) dX12_nameOf_65 ?_
                exact fw_qret C hrt (r := some ((ad 21 15 0))) rfl Y ⟨by rw [← Option.some.inj h] <;> rfl, rfl⟩ (fun t ht => ht) dX12_nameOf_67
end
set_option maxRecDepth 100000 in
set_option maxHeartbeats 4000000 in
theorem c_X12_nameOf {l : Launch} {N0 : Nat} {T : Nat → ClassId} {D : va_G} {gr : List (Nat × Nat)} {ad : Nat → Nat → Nat → Nat} {Y : Mem} {a0 : Int32} {res : Nat} (hG : ∀ q ∈ [], q ∈ gr) (h : X12_nameOf Y a0 = some res) : CQ l yX12_nameOf wsX12_nameOf (Rm 0) N0 T D gr ad Y [.int a0] (fun r Y1 => r = some (ad 21 res 0) ∧ Y1 = Y) :=
  fw_body (by decide +kernel) rfl (Nat.le_of_ble_eq_true rfl) (fun p e s m below meth c C hrt => w_X12_nameOf C hrt hG  h)
theorem fl_J0_coder_7d493_38 : Cond.fieldLink RJ0 38 "java/lang/String" "COMPACT_STRINGS" "Z" ∈ wsJ0_coder_7d493 := by decide +kernel
theorem fl_J0_coder_7d493_15 : Cond.fieldLink RJ0 15 "java/lang/String" "coder" "B" ∈ wsJ0_coder_7d493 := by decide +kernel
section
variable {p : Program} {l : Launch} {e : Env} {s : State} {m : MethodId} {below : List Frame} {meth : Method} {c : Code} {N0 : Nat} {T : Nat → ClassId} {D : va_G} {gr : List (Nat × Nat)} {ad : Nat → Nat → Nat → Nat}
set_option maxRecDepth 100000 in
set_option maxHeartbeats 4000000 in
theorem w_J0_coder_7d493 {Y : Mem} {w0 : Nat} (C : Cx p s m [.ref (ad 21 w0 0)].toArray meth c cJ0_coder_7d493 1 wsJ0_coder_7d493 RJ0 N0 T D gr ad) (hrt : meth.sig.returnType = (some .byte)) (hG : ∀ q ∈ [], q ∈ gr) {res : Int32} (h : J0_coder_7d493 Y w0 = some res) : FW p l e (Rm 0) s m [.ref (ad 21 w0 0)].toArray below meth c 1 N0 T D gr ad 0 0 (MQ below (va_Qi (fun r Y1 => r = res ∧ Y1 = Y) (WB T D gr ad) (fun q => N0 ≤ q)) [.ref (ad 21 w0 0)].toArray s 0 0 (fun q => N0 ≤ q)) Y 0 [(0, .ref (ad 21 w0 0))] [] := by
  unfold J0_coder_7d493 at h
  refine fw_gets C (v := .int 1) (cx_st C).2.2.2.2.2.1 (cx_ts C _ fl_J0_coder_7d493_38) (fun _ h => h) dJ0_coder_7d493_0 ?_
  refine fw_if_eq C dJ0_coder_7d493_3 (tgt := 13) rfl (fun c1 => ?_) (fun c1 => ?_)
  · exact absurd c1 (by decide)
  · refine fw_aload_n C dJ0_coder_7d493_6 rfl 0 rfl ?_
    obtain ⟨b2, h⟩ := gd_some h
    have b2 := of_decide_eq_true b2
    refine fw_getO C (v := .int 0) ((cx_st C).1 _ b2).2.1 (cx_ts C _ fl_J0_coder_7d493_15) (fun _ h => h) dJ0_coder_7d493_7 ?_
    refine fw_goto C dJ0_coder_7d493_10 (tgt := 14) rfl ?_
    exact fw_bret C hrt rfl Y ⟨Option.some.inj h, rfl⟩ (fun t ht => ht) dJ0_coder_7d493_14
end
set_option maxRecDepth 100000 in
set_option maxHeartbeats 4000000 in
theorem c_J0_coder_7d493 {l : Launch} {N0 : Nat} {T : Nat → ClassId} {D : va_G} {gr : List (Nat × Nat)} {ad : Nat → Nat → Nat → Nat} {Y : Mem} {w0 : Nat} {res : Int32} (hG : ∀ q ∈ [], q ∈ gr) (h : J0_coder_7d493 Y w0 = some res) : CI l yJ0_coder_7d493 wsJ0_coder_7d493 (Rm 0) N0 T D gr ad Y [.ref (ad 21 w0 0)] (fun r Y1 => r = res ∧ Y1 = Y) :=
  fw_body (by decide +kernel) rfl (Nat.le_of_ble_eq_true rfl) (fun p e s m below meth c C hrt => w_J0_coder_7d493 C hrt hG  h)
theorem fl_J0_length_8abf5_9 : Cond.fieldLink RJ0 9 "java/lang/String" "value" "[B" ∈ wsJ0_length_8abf5 := by decide +kernel
section
variable {p : Program} {l : Launch} {e : Env} {s : State} {m : MethodId} {below : List Frame} {meth : Method} {c : Code} {N0 : Nat} {T : Nat → ClassId} {D : va_G} {gr : List (Nat × Nat)} {ad : Nat → Nat → Nat → Nat}
set_option maxRecDepth 100000 in
set_option maxHeartbeats 4000000 in
theorem w_J0_length_8abf5 {Y : Mem} {w0 : Nat} (C : Cx p s m [.ref (ad 21 w0 0)].toArray meth c cJ0_length_8abf5 1 wsJ0_length_8abf5 RJ0 N0 T D gr ad) (hrt : meth.sig.returnType = (some .int)) (hG : ∀ q ∈ [], q ∈ gr) {res : Int32} (h : J0_length_8abf5 Y w0 = some res) : FW p l e (Rm 1) s m [.ref (ad 21 w0 0)].toArray below meth c 1 N0 T D gr ad 0 0 (MQ below (va_Qi (fun r Y1 => r = res ∧ Y1 = Y) (WB T D gr ad) (fun q => N0 ≤ q)) [.ref (ad 21 w0 0)].toArray s 0 0 (fun q => N0 ≤ q)) Y 0 [(0, .ref (ad 21 w0 0))] [] := by
  unfold J0_length_8abf5 at h
  refine fw_aload_n C dJ0_length_8abf5_0 rfl 0 rfl ?_
  obtain ⟨b1, h⟩ := gd_some h
  have b1 := of_decide_eq_true b1
  refine fw_getO C (v := .ref (ad 22 w0 0)) ((cx_st C).1 _ b1).2.2.1 (cx_ts C _ fl_J0_length_8abf5_9) (fun _ h => h) dJ0_length_8abf5_1 ?_
  refine fw_tlen C ((cx_st C).1 _ b1).2.2.2 (v := (Int32.ofNat (sByt w0).length)) rfl dJ0_length_8abf5_4 ?_
  refine fw_aload_n C dJ0_length_8abf5_5 rfl 0 rfl ?_
  obtain ⟨r2, q3, h⟩ := bd1_some h
  refine fw_callOi C (Cn := RJ0) (As := []) (c_J0_coder_7d493 ga0 q3) (cwV 0 (cx_ts C) gJ0_length_8abf5_J0_coder_7d493 rfl rfl rfl (by decide +kernel) ⟨Nat.le_of_ble_eq_true rfl, Nat.le_of_ble_eq_true rfl⟩) ((cx_st C).1 _ b1).1 rfl (st := [.int ((Int32.ofNat (sByt w0).length))]) rfl (Nat.le_of_ble_eq_true rfl) ⟨Nat.le_refl 0, Nat.le_refl 0⟩ dJ0_length_8abf5_6 (pp2 ?_)
  refine fw_ishr C dJ0_length_8abf5_9 ?_
  exact fw_iret C hrt Y ⟨Option.some.inj h, rfl⟩ (fun t ht => ht) dJ0_length_8abf5_10
end
set_option maxRecDepth 100000 in
set_option maxHeartbeats 4000000 in
theorem c_J0_length_8abf5 {l : Launch} {N0 : Nat} {T : Nat → ClassId} {D : va_G} {gr : List (Nat × Nat)} {ad : Nat → Nat → Nat → Nat} {Y : Mem} {w0 : Nat} {res : Int32} (hG : ∀ q ∈ [], q ∈ gr) (h : J0_length_8abf5 Y w0 = some res) : CI l yJ0_length_8abf5 wsJ0_length_8abf5 (Rm 1) N0 T D gr ad Y [.ref (ad 21 w0 0)] (fun r Y1 => r = res ∧ Y1 = Y) :=
  fw_body (by decide +kernel) rfl (Nat.le_of_ble_eq_true rfl) (fun p e s m below meth c C hrt => w_J0_length_8abf5 C hrt hG  h)
theorem fl_J0_isLatin1_aae02_38 : Cond.fieldLink RJ0 38 "java/lang/String" "COMPACT_STRINGS" "Z" ∈ wsJ0_isLatin1_aae02 := by decide +kernel
theorem fl_J0_isLatin1_aae02_15 : Cond.fieldLink RJ0 15 "java/lang/String" "coder" "B" ∈ wsJ0_isLatin1_aae02 := by decide +kernel
section
variable {p : Program} {l : Launch} {e : Env} {s : State} {m : MethodId} {below : List Frame} {meth : Method} {c : Code} {N0 : Nat} {T : Nat → ClassId} {D : va_G} {gr : List (Nat × Nat)} {ad : Nat → Nat → Nat → Nat}
set_option maxRecDepth 100000 in
set_option maxHeartbeats 4000000 in
theorem w_J0_isLatin1_aae02 {Y : Mem} {w0 : Nat} (C : Cx p s m [.ref (ad 21 w0 0)].toArray meth c cJ0_isLatin1_aae02 1 wsJ0_isLatin1_aae02 RJ0 N0 T D gr ad) (hrt : meth.sig.returnType = (some .boolean)) (hG : ∀ q ∈ [], q ∈ gr) {res : Int32} (h : J0_isLatin1_aae02 Y w0 = some res) : FW p l e (Rm 0) s m [.ref (ad 21 w0 0)].toArray below meth c 1 N0 T D gr ad 0 0 (MQ below (va_Qi (fun r Y1 => r = res ∧ Y1 = Y) (WB T D gr ad) (fun q => N0 ≤ q)) [.ref (ad 21 w0 0)].toArray s 0 0 (fun q => N0 ≤ q)) Y 0 [(0, .ref (ad 21 w0 0))] [] := by
  unfold J0_isLatin1_aae02 at h
  refine fw_gets C (v := .int 1) (cx_st C).2.2.2.2.2.1 (cx_ts C _ fl_J0_isLatin1_aae02_38) (fun _ h => h) dJ0_isLatin1_aae02_0 ?_
  refine fw_if_eq C dJ0_isLatin1_aae02_3 (tgt := 17) rfl (fun c1 => ?_) (fun c1 => ?_)
  · exact absurd c1 (by decide)
  · refine fw_aload_n C dJ0_isLatin1_aae02_6 rfl 0 rfl ?_
    obtain ⟨b2, h⟩ := gd_some h
    have b2 := of_decide_eq_true b2
    refine fw_getO C (v := .int 0) ((cx_st C).1 _ b2).2.1 (cx_ts C _ fl_J0_isLatin1_aae02_15) (fun _ h => h) dJ0_isLatin1_aae02_7 ?_
    refine fw_if_ne C dJ0_isLatin1_aae02_10 (tgt := 17) rfl (fun c3 => ?_) (fun c3 => ?_)
    · exact absurd c3 (by decide)
    · refine fw_iconst C dJ0_isLatin1_aae02_13 (v := 1) rfl ?_
      refine fw_goto C dJ0_isLatin1_aae02_14 (tgt := 18) rfl ?_
      exact fw_zret C hrt (by decide) Y ⟨Option.some.inj h, rfl⟩ (fun t ht => ht) dJ0_isLatin1_aae02_18
end
set_option maxRecDepth 100000 in
set_option maxHeartbeats 4000000 in
theorem c_J0_isLatin1_aae02 {l : Launch} {N0 : Nat} {T : Nat → ClassId} {D : va_G} {gr : List (Nat × Nat)} {ad : Nat → Nat → Nat → Nat} {Y : Mem} {w0 : Nat} {res : Int32} (hG : ∀ q ∈ [], q ∈ gr) (h : J0_isLatin1_aae02 Y w0 = some res) : CI l yJ0_isLatin1_aae02 wsJ0_isLatin1_aae02 (Rm 0) N0 T D gr ad Y [.ref (ad 21 w0 0)] (fun r Y1 => r = res ∧ Y1 = Y) :=
  fw_body (by decide +kernel) rfl (Nat.le_of_ble_eq_true rfl) (fun p e s m below meth c C hrt => w_J0_isLatin1_aae02 C hrt hG  h)
section
variable {p : Program} {l : Launch} {e : Env} {s : State} {m : MethodId} {below : List Frame} {meth : Method} {c : Code} {N0 : Nat} {T : Nat → ClassId} {D : va_G} {gr : List (Nat × Nat)} {ad : Nat → Nat → Nat → Nat}
set_option maxRecDepth 100000 in
set_option maxHeartbeats 4000000 in
theorem w_J3_checkIndex_8e157 {Y : Mem} {a0 : Int32} {a1 : Int32} {x2 : Nat} (C : Cx p s m [.int a0, .int a1, .ref x2].toArray meth c cJ3_checkIndex_8e157 3 wsJ3_checkIndex_8e157 RJ3 N0 T D gr ad) (hrt : meth.sig.returnType = (some .int)) (hG : ∀ q ∈ [], q ∈ gr) {res : Int32} (h : J3_checkIndex_8e157 Y a0 a1 = some res) : FW p l e (Rm 0) s m [.int a0, .int a1, .ref x2].toArray below meth c 3 N0 T D gr ad 0 0 (MQ below (va_Qi (fun r Y1 => r = res ∧ Y1 = Y) (WB T D gr ad) (fun q => N0 ≤ q)) [.int a0, .int a1, .ref x2].toArray s 0 0 (fun q => N0 ≤ q)) Y 0 [(0, .int a0), (1, .int a1), (2, .ref x2)] [] := by
  unfold J3_checkIndex_8e157 at h
  refine fw_iload_n C dJ3_checkIndex_8e157_0 rfl 0 rfl ?_
  refine fw_if_lt C dJ3_checkIndex_8e157_1 (tgt := 9) rfl (fun c1 => ?_) (fun c1 => ?_)
  · have h := ite_t c1 h
    cases h
  · have h := ite_f c1 h
    refine fw_iload_n C dJ3_checkIndex_8e157_4 rfl 0 rfl ?_
    refine fw_iload_n C dJ3_checkIndex_8e157_5 rfl 1 rfl ?_
    refine fw_icmp_lt C dJ3_checkIndex_8e157_6 (tgt := 16) rfl (fun c2 => ?_) (fun c2 => ?_)
    · have h := ite_t c2 h
      refine fw_iload_n C dJ3_checkIndex_8e157_16 rfl 0 rfl ?_
      exact fw_iret C hrt Y ⟨Option.some.inj h, rfl⟩ (fun t ht => ht) dJ3_checkIndex_8e157_17
    · have h := ite_f c2 h
      cases h
end
set_option maxRecDepth 100000 in
set_option maxHeartbeats 4000000 in
theorem c_J3_checkIndex_8e157 {l : Launch} {N0 : Nat} {T : Nat → ClassId} {D : va_G} {gr : List (Nat × Nat)} {ad : Nat → Nat → Nat → Nat} {Y : Mem} {a0 : Int32} {a1 : Int32} {x2 : Nat} {res : Int32} (hG : ∀ q ∈ [], q ∈ gr) (h : J3_checkIndex_8e157 Y a0 a1 = some res) : CI l yJ3_checkIndex_8e157 wsJ3_checkIndex_8e157 (Rm 0) N0 T D gr ad Y [.int a0, .int a1, .ref x2] (fun r Y1 => r = res ∧ Y1 = Y) :=
  fw_body (by decide +kernel) rfl (Nat.le_of_ble_eq_true rfl) (fun p e s m below meth c C hrt => w_J3_checkIndex_8e157 C hrt hG  h)
section
variable {p : Program} {l : Launch} {e : Env} {s : State} {m : MethodId} {below : List Frame} {meth : Method} {c : Code} {N0 : Nat} {T : Nat → ClassId} {D : va_G} {gr : List (Nat × Nat)} {ad : Nat → Nat → Nat → Nat}
set_option maxRecDepth 100000 in
set_option maxHeartbeats 4000000 in
theorem w_J3_checkIndex_8e157N {Y : Mem} {a0 : Int32} {a1 : Int32} (C : Cx p s m [.int a0, .int a1, .null].toArray meth c cJ3_checkIndex_8e157 3 wsJ3_checkIndex_8e157 RJ3 N0 T D gr ad) (hrt : meth.sig.returnType = (some .int)) (hG : ∀ q ∈ [], q ∈ gr) {res : Int32} (h : J3_checkIndex_8e157 Y a0 a1 = some res) : FW p l e (Rm 0) s m [.int a0, .int a1, .null].toArray below meth c 3 N0 T D gr ad 0 0 (MQ below (va_Qi (fun r Y1 => r = res ∧ Y1 = Y) (WB T D gr ad) (fun q => N0 ≤ q)) [.int a0, .int a1, .null].toArray s 0 0 (fun q => N0 ≤ q)) Y 0 [(0, .int a0), (1, .int a1), (2, .null)] [] := by
  unfold J3_checkIndex_8e157 at h
  refine fw_iload_n C dJ3_checkIndex_8e157_0 rfl 0 rfl ?_
  refine fw_if_lt C dJ3_checkIndex_8e157_1 (tgt := 9) rfl (fun c1 => ?_) (fun c1 => ?_)
  · have h := ite_t c1 h
    cases h
  · have h := ite_f c1 h
    refine fw_iload_n C dJ3_checkIndex_8e157_4 rfl 0 rfl ?_
    refine fw_iload_n C dJ3_checkIndex_8e157_5 rfl 1 rfl ?_
    refine fw_icmp_lt C dJ3_checkIndex_8e157_6 (tgt := 16) rfl (fun c2 => ?_) (fun c2 => ?_)
    · have h := ite_t c2 h
      refine fw_iload_n C dJ3_checkIndex_8e157_16 rfl 0 rfl ?_
      exact fw_iret C hrt Y ⟨Option.some.inj h, rfl⟩ (fun t ht => ht) dJ3_checkIndex_8e157_17
    · have h := ite_f c2 h
      cases h
end
set_option maxRecDepth 100000 in
set_option maxHeartbeats 4000000 in
theorem c_J3_checkIndex_8e157N {l : Launch} {N0 : Nat} {T : Nat → ClassId} {D : va_G} {gr : List (Nat × Nat)} {ad : Nat → Nat → Nat → Nat} {Y : Mem} {a0 : Int32} {a1 : Int32} {res : Int32} (hG : ∀ q ∈ [], q ∈ gr) (h : J3_checkIndex_8e157 Y a0 a1 = some res) : CI l yJ3_checkIndex_8e157 wsJ3_checkIndex_8e157 (Rm 0) N0 T D gr ad Y [.int a0, .int a1, .null] (fun r Y1 => r = res ∧ Y1 = Y) :=
  fw_body (by decide +kernel) rfl (Nat.le_of_ble_eq_true rfl) (fun p e s m below meth c C hrt => w_J3_checkIndex_8e157N C hrt hG  h)
