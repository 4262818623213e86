theorem ly_X12_parsePanType_12 : ∀ w ∈ u_ws RX12 TX12 19, w ∈ wsX12_parsePanType := by decide +kernel
theorem fl_X12_parsePanType_13 : Cond.fieldLink RX12 13 "RecipeSchedulerModel" "m" "[I" ∈ wsX12_parsePanType := by decide +kernel
theorem fl_X12_parsePanType_60 : Cond.fieldLink RX12 60 "RecipeSchedulerModel" "from" "I" ∈ wsX12_parsePanType := by decide +kernel
theorem fl_X12_parsePanType_54 : Cond.fieldLink RX12 54 "RecipeSchedulerModel" "ahead" "I" ∈ wsX12_parsePanType := by decide +kernel
section
variable {p : Program} {l : Launch} {e : Env} {s : State} {m : MethodId} {below : List Frame} {meth : Method} {c : Code} {N0 : Nat} {T : Nat → ClassId} {D : va_G} {gr : List (Nat × Nat)} {ad : Nat → Nat → Nat → Nat}
set_option maxRecDepth 100000 in
set_option maxHeartbeats 4000000 in
theorem w_X12_parsePanType {Y : Mem} {a1 : Int32} (C : Cx p s m [.ref (ad 10 0 0), .int a1].toArray meth c cX12_parsePanType 2 wsX12_parsePanType RX12 N0 T D gr ad) (hrt : meth.sig.returnType = (some .boolean)) (hG : ∀ q ∈ [(10, 0)], q ∈ gr) {res : Int32 × Mem} (h : X12_parsePanType Y a1 = some res) : FW p l e (Rm 6) s m [.ref (ad 10 0 0), .int a1].toArray below meth c 2 N0 T D gr ad 0 0 (MQ below (va_Qi (fun r Y1 => (r, Y1) = res) (WB T D gr ad) (fun q => N0 ≤ q)) [.ref (ad 10 0 0), .int a1].toArray s 0 0 (fun q => N0 ≤ q)) Y 0 [(0, .ref (ad 10 0 0)), (1, .int a1)] [] := by
  unfold X12_parsePanType at h
  refine fw_aload_n C dX12_parsePanType_0 rfl 0 rfl ?_
  refine fw_get C (ci := 10) (Cn := RX12) (Tc := TX12) (N := 19) (j := 0) ly_X12_parsePanType_12 rfl (hG _ (List.mem_of_getElem? (i := 0) rfl)) (of10_0 _) (ce10 T ad _ _) (by decide) (cx_ts C _ fl_X12_parsePanType_13) (fun _ h => h) (v := .ref (ad 10 0 1)) rfl dX12_parsePanType_1 ?_
  refine fw_iload_n C dX12_parsePanType_4 rfl 1 rfl ?_
  refine fw_bipush C dX12_parsePanType_5 (v := 9) rfl ?_
  refine fw_iadd C dX12_parsePanType_7 ?_
  refine fw_iconst C dX12_parsePanType_8 (v := (-1)) rfl ?_
  obtain ⟨b1, h⟩ := gd_some h
  obtain ⟨Y2, e3, h⟩ := lt_some h
  refine fw_iast2 C (hG _ (List.mem_of_getElem? (i := 0) rfl)) (of10_1 _) (ca10_1 T ad _) b1 (Nat.le_of_ble_eq_true rfl) dX12_parsePanType_9 ?_
  refine fw_mem e3 ?_
  refine fw_aload_n C dX12_parsePanType_10 rfl 0 rfl ?_
  refine fw_ldcS C ((cx_st C).2.1 _ (List.mem_of_getElem? (i := 34) rfl)) dX12_parsePanType_11 ?_
  obtain ⟨r4, Y6, q5, h⟩ := bd2_some h
  refine fw_callVi C (ci := 10) (Cn := RX12) (Tc := TX12) (N := 19) (As := [.ref (ad 21 4 0)]) (c_X12_takes (gac (hG _ (List.mem_of_getElem? (i := 0) rfl)) ga0) q5) (cwV 1 (cx_ts C) gX12_parsePanType_X12_takes rfl rfl rfl (by decide +kernel) ⟨Nat.le_of_ble_eq_true rfl, Nat.le_of_ble_eq_true rfl⟩) rfl (hG _ (List.mem_of_getElem? (i := 0) rfl)) (of10_0 _) (ce10 T ad _ _) rfl (st := []) rfl (Nat.le_of_ble_eq_true rfl) ⟨Nat.le_refl 0, Nat.le_refl 0⟩ dX12_parsePanType_13 (ppw ?_)
  refine fw_if_ne C dX12_parsePanType_16 (tgt := 21) rfl (fun c7 => ?_) (fun c7 => ?_)
  · have h := ite_f c7 h
    refine fw_aload_n C dX12_parsePanType_21 rfl 0 rfl ?_
    obtain ⟨r8, Y10, q9, h⟩ := bd2_some h
    refine fw_callVi C (ci := 10) (Cn := RX12) (Tc := TX12) (N := 19) (As := []) (c_X12_isShortWord (gac (hG _ (List.mem_of_getElem? (i := 0) rfl)) ga0) q9) (cwV 0 (cx_ts C) gX12_parsePanType_X12_isShortWord rfl rfl rfl (by decide +kernel) ⟨Nat.le_of_ble_eq_true rfl, Nat.le_of_ble_eq_true rfl⟩) rfl (hG _ (List.mem_of_getElem? (i := 0) rfl)) (of10_0 _) (ce10 T ad _ _) rfl (st := []) rfl (Nat.le_of_ble_eq_true rfl) ⟨Nat.le_refl 0, Nat.le_refl 0⟩ dX12_parsePanType_22 (ppw ?_)
    refine fw_if_ne C dX12_parsePanType_25 (tgt := 30) rfl (fun c11 => ?_) (fun c11 => ?_)
    · have h := ite_f c11 h
      refine fw_aload_n C dX12_parsePanType_30 rfl 0 rfl ?_
      refine fw_get C (ci := 10) (Cn := RX12) (Tc := TX12) (N := 19) (j := 0) ly_X12_parsePanType_12 rfl (hG _ (List.mem_of_getElem? (i := 0) rfl)) (of10_0 _) (ce10 T ad _ _) (by decide) (cx_ts C _ fl_X12_parsePanType_13) (fun _ h => h) (v := .ref (ad 10 0 1)) rfl dX12_parsePanType_31 ?_
      refine fw_iload_n C dX12_parsePanType_34 rfl 1 rfl ?_
      refine fw_bipush C dX12_parsePanType_35 (v := 9) rfl ?_
      refine fw_iadd C dX12_parsePanType_37 ?_
      refine fw_aload_n C dX12_parsePanType_38 rfl 0 rfl ?_
      refine fw_aload_n C dX12_parsePanType_39 rfl 0 rfl ?_
      refine fw_get C (ci := 10) (Cn := RX12) (Tc := TX12) (N := 19) (j := 16) ly_X12_parsePanType_12 rfl (hG _ (List.mem_of_getElem? (i := 0) rfl)) (of10_0 _) (ce10 T ad _ _) (by decide) (cx_ts C _ fl_X12_parsePanType_60) (fun _ h => h) (v := .int (Y10 10 0 0 16)) rfl dX12_parsePanType_40 ?_
      refine fw_aload_n C dX12_parsePanType_43 rfl 0 rfl ?_
      refine fw_get C (ci := 10) (Cn := RX12) (Tc := TX12) (N := 19) (j := 14) ly_X12_parsePanType_12 rfl (hG _ (List.mem_of_getElem? (i := 0) rfl)) (of10_0 _) (ce10 T ad _ _) (by decide) (cx_ts C _ fl_X12_parsePanType_54) (fun _ h => h) (v := .int (Y10 10 0 0 14)) rfl dX12_parsePanType_44 ?_
      refine fw_aload_n C dX12_parsePanType_47 rfl 0 rfl ?_
      refine fw_get C (ci := 10) (Cn := RX12) (Tc := TX12) (N := 19) (j := 16) ly_X12_parsePanType_12 rfl (hG _ (List.mem_of_getElem? (i := 0) rfl)) (of10_0 _) (ce10 T ad _ _) (by decide) (cx_ts C _ fl_X12_parsePanType_60) (fun _ h => h) (v := .int (Y10 10 0 0 16)) rfl dX12_parsePanType_48 ?_
      refine fw_isub C dX12_parsePanType_51 ?_
      obtain ⟨r12, q13, h⟩ := bd1_some h
      refine fw_callVi C (ci := 10) (Cn := RX12) (Tc := TX12) (N := 19) (As := [.int (Y10 10 0 0 16), .int ((Y10 10 0 0 14) - (Y10 10 0 0 16))]) (c_X12_panNamed (gac (hG _ (List.mem_of_getElem? (i := 0) rfl)) ga0) q13) (cwV 2 (cx_ts C) gX12_parsePanType_X12_panNamed rfl rfl rfl (by decide +kernel) ⟨Nat.le_of_ble_eq_true rfl, Nat.le_of_ble_eq_true rfl⟩) rfl (hG _ (List.mem_of_getElem? (i := 0) rfl)) (of10_0 _) (ce10 T ad _ _) rfl (st := [.int (a1 + 9), .ref (ad 10 0 1)]) rfl (Nat.le_of_ble_eq_true rfl) ⟨Nat.le_refl 0, Nat.le_refl 0⟩ dX12_parsePanType_52 (pp2 ?_)
      obtain ⟨Y14, e15, h⟩ := lt_some h
      refine fw_iast2 C (hG _ (List.mem_of_getElem? (i := 0) rfl)) (of10_1 _) (ca10_1 T ad _) b1 (Nat.le_of_ble_eq_true rfl) dX12_parsePanType_55 ?_
      refine fw_mem e15 ?_
      refine fw_aload_n C dX12_parsePanType_56 rfl 0 rfl ?_
      refine fw_get C (ci := 10) (Cn := RX12) (Tc := TX12) (N := 19) (j := 0) ly_X12_parsePanType_12 rfl (hG _ (List.mem_of_getElem? (i := 0) rfl)) (of10_0 _) (ce10 T ad _ _) (by decide) (cx_ts C _ fl_X12_parsePanType_13) (fun _ h => h) (v := .ref (ad 10 0 1)) rfl dX12_parsePanType_57 ?_
      refine fw_iload_n C dX12_parsePanType_60 rfl 1 rfl ?_
      refine fw_bipush C dX12_parsePanType_61 (v := 9) rfl ?_
      refine fw_iadd C dX12_parsePanType_63 ?_
      refine fw_iald2 C (hG _ (List.mem_of_getElem? (i := 0) rfl)) (of10_1 _) (ca10_1 T ad _ _) b1 (Nat.le_of_ble_eq_true rfl) dX12_parsePanType_64 ?_
      refine fw_iconst C dX12_parsePanType_65 (v := (-1)) rfl ?_
      refine fw_icmp_ne C dX12_parsePanType_66 (tgt := 75) rfl (fun c16 => ?_) (fun c16 => ?_)
      · have h := ite_f c16 h
        refine fw_aload_n C dX12_parsePanType_75 rfl 0 rfl ?_
        obtain ⟨Y19, q18, h⟩ := bd1_some h
        refine fw_callVv C (ci := 10) (Cn := RX12) (Tc := TX12) (N := 19) (As := []) (c_X12_token (gac (hG _ (List.mem_of_getElem? (i := 0) rfl)) ga0) q18) (cwV 0 (cx_ts C) gX12_parsePanType_X12_token rfl rfl rfl (by decide +kernel) ⟨Nat.le_of_ble_eq_true rfl, Nat.le_of_ble_eq_true rfl⟩) rfl (hG _ (List.mem_of_getElem? (i := 0) rfl)) (of10_0 _) (ce10 T ad _ _) rfl (st := []) rfl (Nat.le_of_ble_eq_true rfl) ⟨Nat.le_refl 0, Nat.le_refl 0⟩ dX12_parsePanType_76 (ppv ?_)
        refine fw_iconst C dX12_parsePanType_79 (v := 1) rfl ?_
        exact fw_zret C hrt (by decide) Y19 (Option.some.inj h) (fun t ht => ht) dX12_parsePanType_80
      · have h := ite_t c16 h
        refine fw_aload_n C dX12_parsePanType_69 rfl 0 rfl ?_
        refine fw_iconst C dX12_parsePanType_70 (v := 3) rfl ?_
        obtain ⟨r20, Y22, q21, h⟩ := bd2_some h
        refine fw_callVi C (ci := 10) (Cn := RX12) (Tc := TX12) (N := 19) (As := [.int 3]) (c_X12_wrong (gac (hG _ (List.mem_of_getElem? (i := 0) rfl)) ga0) q21) (cwV 1 (cx_ts C) gX12_parsePanType_X12_wrong rfl rfl rfl (by decide +kernel) ⟨Nat.le_of_ble_eq_true rfl, Nat.le_of_ble_eq_true rfl⟩) rfl (hG _ (List.mem_of_getElem? (i := 0) rfl)) (of10_0 _) (ce10 T ad _ _) rfl (st := []) rfl (Nat.le_of_ble_eq_true rfl) ⟨Nat.le_refl 0, Nat.le_refl 0⟩ dX12_parsePanType_71 (ppw ?_)
        obtain ⟨b23, h⟩ := gd_some h
        exact fw_zret C hrt (of_decide_eq_true b23) Y22 (Option.some.inj h) (fun t ht => ht) dX12_parsePanType_74
    · have h := ite_t c11 h
      refine fw_iconst C dX12_parsePanType_28 (v := 0) rfl ?_
      exact fw_zret C hrt (by decide) Y10 (Option.some.inj h) (fun t ht => ht) dX12_parsePanType_29
  · have h := ite_t c7 h
    refine fw_iconst C dX12_parsePanType_19 (v := 1) rfl ?_
    exact fw_zret C hrt (by decide) Y6 (Option.some.inj h) (fun t ht => ht) dX12_parsePanType_20
end
set_option maxRecDepth 100000 in
set_option maxHeartbeats 4000000 in
theorem c_X12_parsePanType {l : Launch} {N0 : Nat} {T : Nat → ClassId} {D : va_G} {gr : List (Nat × Nat)} {ad : Nat → Nat → Nat → Nat} {Y : Mem} {a1 : Int32} {res : Int32 × Mem} (hG : ∀ q ∈ [(10, 0)], q ∈ gr) (h : X12_parsePanType Y a1 = some res) : CI l yX12_parsePanType wsX12_parsePanType (Rm 6) N0 T D gr ad Y [.ref (ad 10 0 0), .int a1] (fun r Y1 => (r, Y1) = res) :=
  fw_body (by decide +kernel) rfl (Nat.le_of_ble_eq_true rfl) (fun p e s m below meth c C hrt => w_X12_parsePanType C hrt hG  h)
theorem ly_X12_parsePredecessor_12 : ∀ w ∈ u_ws RX12 TX12 19, w ∈ wsX12_parsePredecessor := by decide +kernel
theorem fl_X12_parsePredecessor_60 : Cond.fieldLink RX12 60 "RecipeSchedulerModel" "from" "I" ∈ wsX12_parsePredecessor := by decide +kernel
theorem fl_X12_parsePredecessor_54 : Cond.fieldLink RX12 54 "RecipeSchedulerModel" "ahead" "I" ∈ wsX12_parsePredecessor := by decide +kernel
theorem fl_X12_parsePredecessor_13 : Cond.fieldLink RX12 13 "RecipeSchedulerModel" "m" "[I" ∈ wsX12_parsePredecessor := by decide +kernel
section
variable {p : Program} {l : Launch} {e : Env} {s : State} {m : MethodId} {below : List Frame} {meth : Method} {c : Code} {N0 : Nat} {T : Nat → ClassId} {D : va_G} {gr : List (Nat × Nat)} {ad : Nat → Nat → Nat → Nat}
set_option maxRecDepth 100000 in
set_option maxHeartbeats 4000000 in
theorem w_X12_parsePredecessor_b40 {a1 : Int32} (C : Cx p s m [.ref (ad 10 0 0), .int a1].toArray meth c cX12_parsePredecessor 4 wsX12_parsePredecessor RX12 N0 T D gr ad) (hrt : meth.sig.returnType = (some .boolean)) (hG : ∀ q ∈ [(10, 0)], q ∈ gr) {res : Int32 × Mem} : ∀ (n : Nat) (Y : Mem) (l3 : Int32) (l2 : Int32), X12_parsePredecessor_b40 a1  n Y l3 l2 = some res → FW p l e (Rm 2) s m [.ref (ad 10 0 0), .int a1].toArray below meth c 4 N0 T D gr ad 0 0 (MQ below (va_Qi (fun r Y1 => (r, Y1) = res) (WB T D gr ad) (fun q => N0 ≤ q)) [.ref (ad 10 0 0), .int a1].toArray s 0 0 (fun q => N0 ≤ q)) Y 40 [(3, .int l3), (2, .int l2), (0, .ref (ad 10 0 0)), (1, .int a1)] [] := by
  intro n
  induction n with
  | zero =>
    intro Y l3 l2 h
    unfold X12_parsePredecessor_b40 at h
    cases h
  | succ n ih =>
    intro Y l3 l2 h
    unfold X12_parsePredecessor_b40 at h
    refine fw_iload_n C dX12_parsePredecessor_40 rfl 0 rfl ?_
    refine fw_aload_n C dX12_parsePredecessor_41 rfl 2 rfl ?_
    refine fw_get C (ci := 10) (Cn := RX12) (Tc := TX12) (N := 19) (j := 0) ly_X12_parsePredecessor_12 rfl (hG _ (List.mem_of_getElem? (i := 0) rfl)) (of10_0 _) (ce10 T ad _ _) (by decide) (cx_ts C _ fl_X12_parsePredecessor_13) (fun _ h => h) (v := .ref (ad 10 0 1)) rfl dX12_parsePredecessor_42 ?_
    refine fw_iload_n C dX12_parsePredecessor_45 rfl 3 rfl ?_
    refine fw_bipush C dX12_parsePredecessor_46 (v := 12) rfl ?_
    refine fw_iadd C dX12_parsePredecessor_48 ?_
    obtain ⟨b8, h⟩ := gd_some h
    refine fw_iald2 C (hG _ (List.mem_of_getElem? (i := 0) rfl)) (of10_1 _) (ca10_1 T ad _ _) b8 (Nat.le_of_ble_eq_true rfl) dX12_parsePredecessor_49 ?_
    refine fw_icmp_ge C dX12_parsePredecessor_50 (tgt := 80) rfl (fun c9 => ?_) (fun c9 => ?_)
    · have h := ite_t c9 h
      refine fw_aload_n C dX12_parsePredecessor_80 rfl 2 rfl ?_
      refine fw_get C (ci := 10) (Cn := RX12) (Tc := TX12) (N := 19) (j := 0) ly_X12_parsePredecessor_12 rfl (hG _ (List.mem_of_getElem? (i := 0) rfl)) (of10_0 _) (ce10 T ad _ _) (by decide) (cx_ts C _ fl_X12_parsePredecessor_13) (fun _ h => h) (v := .ref (ad 10 0 1)) rfl dX12_parsePredecessor_81 ?_
      refine fw_iload_n C dX12_parsePredecessor_84 rfl 3 rfl ?_
      refine fw_bipush C dX12_parsePredecessor_85 (v := 12) rfl ?_
      refine fw_iadd C dX12_parsePredecessor_87 ?_
      refine fw_iald2 C (hG _ (List.mem_of_getElem? (i := 0) rfl)) (of10_1 _) (ca10_1 T ad _ _) b8 (Nat.le_of_ble_eq_true rfl) dX12_parsePredecessor_88 ?_
      refine fw_iconst C dX12_parsePredecessor_89 (v := 4) rfl ?_
      refine fw_icmp_ne C dX12_parsePredecessor_90 (tgt := 99) rfl (fun c10 => ?_) (fun c10 => ?_)
      · have h := ite_f c10 h
        refine fw_aload_n C dX12_parsePredecessor_99 rfl 2 rfl ?_
        refine fw_get C (ci := 10) (Cn := RX12) (Tc := TX12) (N := 19) (j := 0) ly_X12_parsePredecessor_12 rfl (hG _ (List.mem_of_getElem? (i := 0) rfl)) (of10_0 _) (ce10 T ad _ _) (by decide) (cx_ts C _ fl_X12_parsePredecessor_13) (fun _ h => h) (v := .ref (ad 10 0 1)) rfl dX12_parsePredecessor_100 ?_
        refine fw_iload_n C dX12_parsePredecessor_103 rfl 3 rfl ?_
        refine fw_bipush C dX12_parsePredecessor_104 (v := 13) rfl ?_
        refine fw_iadd C dX12_parsePredecessor_106 ?_
        refine fw_aload_n C dX12_parsePredecessor_107 rfl 2 rfl ?_
        refine fw_get C (ci := 10) (Cn := RX12) (Tc := TX12) (N := 19) (j := 0) ly_X12_parsePredecessor_12 rfl (hG _ (List.mem_of_getElem? (i := 0) rfl)) (of10_0 _) (ce10 T ad _ _) (by decide) (cx_ts C _ fl_X12_parsePredecessor_13) (fun _ h => h) (v := .ref (ad 10 0 1)) rfl dX12_parsePredecessor_108 ?_
        refine fw_iload_n C dX12_parsePredecessor_111 rfl 3 rfl ?_
        refine fw_bipush C dX12_parsePredecessor_112 (v := 12) rfl ?_
        refine fw_iadd C dX12_parsePredecessor_114 ?_
        refine fw_iald2 C (hG _ (List.mem_of_getElem? (i := 0) rfl)) (of10_1 _) (ca10_1 T ad _ _) b8 (Nat.le_of_ble_eq_true rfl) dX12_parsePredecessor_115 ?_
        refine fw_iadd C dX12_parsePredecessor_116 ?_
        refine fw_iload_n C dX12_parsePredecessor_117 rfl 1 rfl ?_
        obtain ⟨b11, h⟩ := gd_some h
        obtain ⟨Y12, e13, h⟩ := lt_some h
        refine fw_iast2 C (hG _ (List.mem_of_getElem? (i := 0) rfl)) (of10_1 _) (ca10_1 T ad _) b11 (Nat.le_of_ble_eq_true rfl) dX12_parsePredecessor_118 ?_
        refine fw_mem e13 ?_
        refine fw_aload_n C dX12_parsePredecessor_119 rfl 2 rfl ?_
        refine fw_get C (ci := 10) (Cn := RX12) (Tc := TX12) (N := 19) (j := 0) ly_X12_parsePredecessor_12 rfl (hG _ (List.mem_of_getElem? (i := 0) rfl)) (of10_0 _) (ce10 T ad _ _) (by decide) (cx_ts C _ fl_X12_parsePredecessor_13) (fun _ h => h) (v := .ref (ad 10 0 1)) rfl dX12_parsePredecessor_120 ?_
        refine fw_iload_n C dX12_parsePredecessor_123 rfl 3 rfl ?_
        refine fw_bipush C dX12_parsePredecessor_124 (v := 12) rfl ?_
        refine fw_iadd C dX12_parsePredecessor_126 ?_
        refine fw_dup2 C dX12_parsePredecessor_127 rfl rfl ?_
        refine fw_iald2 C (hG _ (List.mem_of_getElem? (i := 0) rfl)) (of10_1 _) (ca10_1 T ad _ _) b8 (Nat.le_of_ble_eq_true rfl) dX12_parsePredecessor_128 ?_
        refine fw_iconst C dX12_parsePredecessor_129 (v := 1) rfl ?_
        refine fw_iadd C dX12_parsePredecessor_130 ?_
        obtain ⟨Y14, e15, h⟩ := lt_some h
        refine fw_iast2 C (hG _ (List.mem_of_getElem? (i := 0) rfl)) (of10_1 _) (ca10_1 T ad _) b8 (Nat.le_of_ble_eq_true rfl) dX12_parsePredecessor_131 ?_
        refine fw_mem e15 ?_
        refine fw_aload_n C dX12_parsePredecessor_132 rfl 2 rfl ?_
        obtain ⟨Y18, q17, h⟩ := bd1_some h
        refine fw_callVv C (ci := 10) (Cn := RX12) (Tc := TX12) (N := 19) (As := []) (c_X12_token (gac (hG _ (List.mem_of_getElem? (i := 0) rfl)) ga0) q17) (cwV 0 (cx_ts C) gX12_parsePredecessor_X12_token rfl rfl rfl (by decide +kernel) ⟨Nat.le_of_ble_eq_true rfl, Nat.le_of_ble_eq_true rfl⟩) rfl (hG _ (List.mem_of_getElem? (i := 0) rfl)) (of10_0 _) (ce10 T ad _ _) rfl (st := []) rfl (Nat.le_of_ble_eq_true rfl) ⟨Nat.le_refl 0, Nat.le_refl 0⟩ dX12_parsePredecessor_133 (ppv ?_)
        refine fw_iconst C dX12_parsePredecessor_136 (v := 1) rfl ?_
        exact fw_zret C hrt (by decide) Y18 (Option.some.inj h) (fun t ht => ht) dX12_parsePredecessor_137
      · have h := ite_t c10 h
        refine fw_aload_n C dX12_parsePredecessor_93 rfl 2 rfl ?_
        refine fw_iconst C dX12_parsePredecessor_94 (v := 5) rfl ?_
        obtain ⟨r19, Y21, q20, h⟩ := bd2_some h
        refine fw_callVi C (ci := 10) (Cn := RX12) (Tc := TX12) (N := 19) (As := [.int 5]) (c_X12_wrong (gac (hG _ (List.mem_of_getElem? (i := 0) rfl)) ga0) q20) (cwV 1 (cx_ts C) gX12_parsePredecessor_X12_wrong rfl rfl rfl (by decide +kernel) ⟨Nat.le_of_ble_eq_true rfl, Nat.le_of_ble_eq_true rfl⟩) rfl (hG _ (List.mem_of_getElem? (i := 0) rfl)) (of10_0 _) (ce10 T ad _ _) rfl (st := []) rfl (Nat.le_of_ble_eq_true rfl) ⟨Nat.le_refl 0, Nat.le_refl 0⟩ dX12_parsePredecessor_95 (ppw ?_)
        obtain ⟨b22, h⟩ := gd_some h
        exact fw_zret C hrt (of_decide_eq_true b22) Y21 (Option.some.inj h) (fun t ht => ht) dX12_parsePredecessor_98
    · have h := ite_f c9 h
      refine fw_aload_n C dX12_parsePredecessor_53 rfl 2 rfl ?_
      refine fw_get C (ci := 10) (Cn := RX12) (Tc := TX12) (N := 19) (j := 0) ly_X12_parsePredecessor_12 rfl (hG _ (List.mem_of_getElem? (i := 0) rfl)) (of10_0 _) (ce10 T ad _ _) (by decide) (cx_ts C _ fl_X12_parsePredecessor_13) (fun _ h => h) (v := .ref (ad 10 0 1)) rfl dX12_parsePredecessor_54 ?_
      refine fw_iload_n C dX12_parsePredecessor_57 rfl 3 rfl ?_
      refine fw_bipush C dX12_parsePredecessor_58 (v := 13) rfl ?_
      refine fw_iadd C dX12_parsePredecessor_60 ?_
      refine fw_iload_n C dX12_parsePredecessor_61 rfl 0 rfl ?_
      refine fw_iadd C dX12_parsePredecessor_62 ?_
      obtain ⟨b23, h⟩ := gd_some h
      refine fw_iald2 C (hG _ (List.mem_of_getElem? (i := 0) rfl)) (of10_1 _) (ca10_1 T ad _ _) b23 (Nat.le_of_ble_eq_true rfl) dX12_parsePredecessor_63 ?_
      refine fw_iload_n C dX12_parsePredecessor_64 rfl 1 rfl ?_
      refine fw_icmp_ne C dX12_parsePredecessor_65 (tgt := 74) rfl (fun c24 => ?_) (fun c24 => ?_)
      · have h := ite_f c24 h
        refine fw_iinc C dX12_parsePredecessor_74 (kk := 0) (v := l3 + 1) rfl rfl (by decide) (L' := [(3, .int (l3 + 1)), (2, .int l2), (0, .ref (ad 10 0 0)), (1, .int a1)]) rfl ?_
        refine fw_goto C dX12_parsePredecessor_77 (tgt := 40) rfl ?_
        exact ih _ _ _ h
      · have h := ite_t c24 h
        refine fw_aload_n C dX12_parsePredecessor_68 rfl 2 rfl ?_
        refine fw_iconst C dX12_parsePredecessor_69 (v := 4) rfl ?_
        obtain ⟨r25, Y27, q26, h⟩ := bd2_some h
        refine fw_callVi C (ci := 10) (Cn := RX12) (Tc := TX12) (N := 19) (As := [.int 4]) (c_X12_wrong (gac (hG _ (List.mem_of_getElem? (i := 0) rfl)) ga0) q26) (cwV 1 (cx_ts C) gX12_parsePredecessor_X12_wrong rfl rfl rfl (by decide +kernel) ⟨Nat.le_of_ble_eq_true rfl, Nat.le_of_ble_eq_true rfl⟩) rfl (hG _ (List.mem_of_getElem? (i := 0) rfl)) (of10_0 _) (ce10 T ad _ _) rfl (st := []) rfl (Nat.le_of_ble_eq_true rfl) ⟨Nat.le_refl 0, Nat.le_refl 0⟩ dX12_parsePredecessor_70 (ppw ?_)
        obtain ⟨b28, h⟩ := gd_some h
        exact fw_zret C hrt (of_decide_eq_true b28) Y27 (Option.some.inj h) (fun t ht => ht) dX12_parsePredecessor_73
set_option maxRecDepth 100000 in
set_option maxHeartbeats 4000000 in
theorem w_X12_parsePredecessor {Y : Mem} {a1 : Int32} (C : Cx p s m [.ref (ad 10 0 0), .int a1].toArray meth c cX12_parsePredecessor 4 wsX12_parsePredecessor RX12 N0 T D gr ad) (hrt : meth.sig.returnType = (some .boolean)) (hG : ∀ q ∈ [(10, 0)], q ∈ gr) {res : Int32 × Mem} (h : X12_parsePredecessor Y a1 = some res) : FW p l e (Rm 2) s m [.ref (ad 10 0 0), .int a1].toArray below meth c 4 N0 T D gr ad 0 0 (MQ below (va_Qi (fun r Y1 => (r, Y1) = res) (WB T D gr ad) (fun q => N0 ≤ q)) [.ref (ad 10 0 0), .int a1].toArray s 0 0 (fun q => N0 ≤ q)) Y 0 [(0, .ref (ad 10 0 0)), (1, .int a1)] [] := by
  unfold X12_parsePredecessor at h
  refine fw_aload_n C dX12_parsePredecessor_0 rfl 0 rfl ?_
  obtain ⟨r1, Y3, q2, h⟩ := bd2_some h
  refine fw_callVi C (ci := 10) (Cn := RX12) (Tc := TX12) (N := 19) (As := []) (c_X12_isShortWord (gac (hG _ (List.mem_of_getElem? (i := 0) rfl)) ga0) q2) (cwV 0 (cx_ts C) gX12_parsePredecessor_X12_isShortWord rfl rfl rfl (by decide +kernel) ⟨Nat.le_of_ble_eq_true rfl, Nat.le_of_ble_eq_true rfl⟩) rfl (hG _ (List.mem_of_getElem? (i := 0) rfl)) (of10_0 _) (ce10 T ad _ _) rfl (st := []) rfl (Nat.le_of_ble_eq_true rfl) ⟨Nat.le_refl 0, Nat.le_refl 0⟩ dX12_parsePredecessor_1 (ppw ?_)
  refine fw_if_ne C dX12_parsePredecessor_4 (tgt := 9) rfl (fun c4 => ?_) (fun c4 => ?_)
  · have h := ite_f c4 h
    refine fw_aload_n C dX12_parsePredecessor_9 rfl 0 rfl ?_
    refine fw_aload_n C dX12_parsePredecessor_10 rfl 0 rfl ?_
    refine fw_get C (ci := 10) (Cn := RX12) (Tc := TX12) (N := 19) (j := 16) ly_X12_parsePredecessor_12 rfl (hG _ (List.mem_of_getElem? (i := 0) rfl)) (of10_0 _) (ce10 T ad _ _) (by decide) (cx_ts C _ fl_X12_parsePredecessor_60) (fun _ h => h) (v := .int (Y3 10 0 0 16)) rfl dX12_parsePredecessor_11 ?_
    refine fw_aload_n C dX12_parsePredecessor_14 rfl 0 rfl ?_
    refine fw_get C (ci := 10) (Cn := RX12) (Tc := TX12) (N := 19) (j := 14) ly_X12_parsePredecessor_12 rfl (hG _ (List.mem_of_getElem? (i := 0) rfl)) (of10_0 _) (ce10 T ad _ _) (by decide) (cx_ts C _ fl_X12_parsePredecessor_54) (fun _ h => h) (v := .int (Y3 10 0 0 14)) rfl dX12_parsePredecessor_15 ?_
    refine fw_aload_n C dX12_parsePredecessor_18 rfl 0 rfl ?_
    refine fw_get C (ci := 10) (Cn := RX12) (Tc := TX12) (N := 19) (j := 16) ly_X12_parsePredecessor_12 rfl (hG _ (List.mem_of_getElem? (i := 0) rfl)) (of10_0 _) (ce10 T ad _ _) (by decide) (cx_ts C _ fl_X12_parsePredecessor_60) (fun _ h => h) (v := .int (Y3 10 0 0 16)) rfl dX12_parsePredecessor_19 ?_
    refine fw_isub C dX12_parsePredecessor_22 ?_
    obtain ⟨r5, q6, h⟩ := bd1_some h
    refine fw_callVi C (ci := 10) (Cn := RX12) (Tc := TX12) (N := 19) (As := [.int (Y3 10 0 0 16), .int ((Y3 10 0 0 14) - (Y3 10 0 0 16))]) (c_X12_stepNamed (gac (hG _ (List.mem_of_getElem? (i := 0) rfl)) ga0) q6) (cwV 2 (cx_ts C) gX12_parsePredecessor_X12_stepNamed rfl rfl rfl (by decide +kernel) ⟨Nat.le_of_ble_eq_true rfl, Nat.le_of_ble_eq_true rfl⟩) rfl (hG _ (List.mem_of_getElem? (i := 0) rfl)) (of10_0 _) (ce10 T ad _ _) rfl (st := []) rfl (Nat.le_of_ble_eq_true rfl) ⟨Nat.le_refl 0, Nat.le_refl 0⟩ dX12_parsePredecessor_23 (pp2 ?_)
    refine fw_istore_n C dX12_parsePredecessor_26 rfl (by decide) (L' := [(2, .int r5), (0, .ref (ad 10 0 0)), (1, .int a1)]) rfl ?_
    refine fw_iload_n C dX12_parsePredecessor_27 rfl 0 rfl ?_
    refine fw_iconst C dX12_parsePredecessor_28 (v := (-1)) rfl ?_
    refine fw_icmp_ne C dX12_parsePredecessor_29 (tgt := 38) rfl (fun c7 => ?_) (fun c7 => ?_)
    · have h := ite_f c7 h
      refine fw_iconst C dX12_parsePredecessor_38 (v := 0) rfl ?_
      refine fw_istore_n C dX12_parsePredecessor_39 rfl (by decide) (L' := [(3, .int 0), (2, .int r5), (0, .ref (ad 10 0 0)), (1, .int a1)]) rfl ?_
      exact w_X12_parsePredecessor_b40 C hrt hG   _ _ _ _ h
    · have h := ite_t c7 h
      refine fw_aload_n C dX12_parsePredecessor_32 rfl 1 rfl ?_
      refine fw_iconst C dX12_parsePredecessor_33 (v := 3) rfl ?_
      obtain ⟨r29, Y31, q30, h⟩ := bd2_some h
      refine fw_callVi C (ci := 10) (Cn := RX12) (Tc := TX12) (N := 19) (As := [.int 3]) (c_X12_wrong (gac (hG _ (List.mem_of_getElem? (i := 0) rfl)) ga0) q30) (cwV 1 (cx_ts C) gX12_parsePredecessor_X12_wrong rfl rfl rfl (by decide +kernel) ⟨Nat.le_of_ble_eq_true rfl, Nat.le_of_ble_eq_true rfl⟩) rfl (hG _ (List.mem_of_getElem? (i := 0) rfl)) (of10_0 _) (ce10 T ad _ _) rfl (st := []) rfl (Nat.le_of_ble_eq_true rfl) ⟨Nat.le_refl 0, Nat.le_refl 0⟩ dX12_parsePredecessor_34 (ppw ?_)
      obtain ⟨b32, h⟩ := gd_some h
      exact fw_zret C hrt (of_decide_eq_true b32) Y31 (Option.some.inj h) (fun t ht => ht) dX12_parsePredecessor_37
  · have h := ite_t c4 h
    refine fw_iconst C dX12_parsePredecessor_7 (v := 0) rfl ?_
    exact fw_zret C hrt (by decide) Y3 (Option.some.inj h) (fun t ht => ht) dX12_parsePredecessor_8
end
set_option maxRecDepth 100000 in
set_option maxHeartbeats 4000000 in
theorem c_X12_parsePredecessor {l : Launch} {N0 : Nat} {T : Nat → ClassId} {D : va_G} {gr : List (Nat × Nat)} {ad : Nat → Nat → Nat → Nat} {Y : Mem} {a1 : Int32} {res : Int32 × Mem} (hG : ∀ q ∈ [(10, 0)], q ∈ gr) (h : X12_parsePredecessor Y a1 = some res) : CI l yX12_parsePredecessor wsX12_parsePredecessor (Rm 2) N0 T D gr ad Y [.ref (ad 10 0 0), .int a1] (fun r Y1 => (r, Y1) = res) :=
  fw_body (by decide +kernel) rfl (Nat.le_of_ble_eq_true rfl) (fun p e s m below meth c C hrt => w_X12_parsePredecessor C hrt hG  h)
theorem ly_X12_parseStep_12 : ∀ w ∈ u_ws RX12 TX12 19, w ∈ wsX12_parseStep := by decide +kernel
theorem fl_X12_parseStep_13 : Cond.fieldLink RX12 13 "RecipeSchedulerModel" "m" "[I" ∈ wsX12_parseStep := by decide +kernel
theorem fl_X12_parseStep_60 : Cond.fieldLink RX12 60 "RecipeSchedulerModel" "from" "I" ∈ wsX12_parseStep := by decide +kernel
theorem fl_X12_parseStep_54 : Cond.fieldLink RX12 54 "RecipeSchedulerModel" "ahead" "I" ∈ wsX12_parseStep := by decide +kernel
theorem fl_X12_parseStep_57 : Cond.fieldLink RX12 57 "RecipeSchedulerModel" "type" "I" ∈ wsX12_parseStep := by decide +kernel
section
variable {p : Program} {l : Launch} {e : Env} {s : State} {m : MethodId} {below : List Frame} {meth : Method} {c : Code} {N0 : Nat} {T : Nat → ClassId} {D : va_G} {gr : List (Nat × Nat)} {ad : Nat → Nat → Nat → Nat}
set_option maxRecDepth 100000 in
set_option maxHeartbeats 4000000 in
theorem w_X12_parseStep_b221  (C : Cx p s m [.ref (ad 10 0 0)].toArray meth c cX12_parseStep 3 wsX12_parseStep RX12 N0 T D gr ad) (hrt : meth.sig.returnType = (some .boolean)) (hG : ∀ q ∈ [(10, 0)], q ∈ gr) {res : Int32 × Mem} (Y : Mem) (h : X12_parseStep_b221   Y = some res) : FW p l e (Rm 7) s m [.ref (ad 10 0 0)].toArray below meth c 3 N0 T D gr ad 0 0 (MQ below (va_Qi (fun r Y1 => (r, Y1) = res) (WB T D gr ad) (fun q => N0 ≤ q)) [.ref (ad 10 0 0)].toArray s 0 0 (fun q => N0 ≤ q)) Y 221 [(0, .ref (ad 10 0 0))] [] := by
  unfold X12_parseStep_b221 at h
  refine fw_aload_n C dX12_parseStep_221 rfl 0 rfl ?_
  obtain ⟨r49, Y51, q50, h⟩ := bd2_some h
  refine fw_callVi C (ci := 10) (Cn := RX12) (Tc := TX12) (N := 19) (As := []) (c_X12_semicolon (gac (hG _ (List.mem_of_getElem? (i := 0) rfl)) ga0) q50) (cwV 0 (cx_ts C) gX12_parseStep_X12_semicolon rfl rfl rfl (by decide +kernel) ⟨Nat.le_of_ble_eq_true rfl, Nat.le_of_ble_eq_true rfl⟩) rfl (hG _ (List.mem_of_getElem? (i := 0) rfl)) (of10_0 _) (ce10 T ad _ _) rfl (st := []) rfl (Nat.le_of_ble_eq_true rfl) ⟨Nat.le_refl 0, Nat.le_refl 0⟩ dX12_parseStep_222 (ppw ?_)
  refine fw_if_ne C dX12_parseStep_225 (tgt := 230) rfl (fun c52 => ?_) (fun c52 => ?_)
  · have h := ite_f c52 h
    refine fw_aload_n C dX12_parseStep_230 rfl 0 rfl ?_
    refine fw_get C (ci := 10) (Cn := RX12) (Tc := TX12) (N := 19) (j := 0) ly_X12_parseStep_12 rfl (hG _ (List.mem_of_getElem? (i := 0) rfl)) (of10_0 _) (ce10 T ad _ _) (by decide) (cx_ts C _ fl_X12_parseStep_13) (fun _ h => h) (v := .ref (ad 10 0 1)) rfl dX12_parseStep_231 ?_
    refine fw_bipush C dX12_parseStep_234 (v := 13) rfl ?_
    refine fw_dup2 C dX12_parseStep_236 rfl rfl ?_
    obtain ⟨b53, h⟩ := gd_some h
    refine fw_iald2 C (hG _ (List.mem_of_getElem? (i := 0) rfl)) (of10_1 _) (ca10_1 T ad _ _) b53 (Nat.le_of_ble_eq_true rfl) dX12_parseStep_237 ?_
    refine fw_iconst C dX12_parseStep_238 (v := 1) rfl ?_
    refine fw_iadd C dX12_parseStep_239 ?_
    obtain ⟨Y54, e55, h⟩ := lt_some h
    refine fw_iast2 C (hG _ (List.mem_of_getElem? (i := 0) rfl)) (of10_1 _) (ca10_1 T ad _) b53 (Nat.le_of_ble_eq_true rfl) dX12_parseStep_240 ?_
    refine fw_mem e55 ?_
    refine fw_iconst C dX12_parseStep_241 (v := 1) rfl ?_
    exact fw_zret C hrt (by decide) Y54 (Option.some.inj h) (fun t ht => ht) dX12_parseStep_242
  · have h := ite_t c52 h
    refine fw_iconst C dX12_parseStep_228 (v := 0) rfl ?_
    exact fw_zret C hrt (by decide) Y51 (Option.some.inj h) (fun t ht => ht) dX12_parseStep_229
set_option maxRecDepth 100000 in
set_option maxHeartbeats 4000000 in
theorem w_X12_parseStep_b203  (C : Cx p s m [.ref (ad 10 0 0)].toArray meth c cX12_parseStep 3 wsX12_parseStep RX12 N0 T D gr ad) (hrt : meth.sig.returnType = (some .boolean)) (hG : ∀ q ∈ [(10, 0)], q ∈ gr) {res : Int32 × Mem} : ∀ (n : Nat) (Y : Mem) (l1 : Int32), X12_parseStep_b203   n Y l1 = some res → FW p l e (Rm 7) s m [.ref (ad 10 0 0)].toArray below meth c 3 N0 T D gr ad 0 0 (MQ below (va_Qi (fun r Y1 => (r, Y1) = res) (WB T D gr ad) (fun q => N0 ≤ q)) [.ref (ad 10 0 0)].toArray s 0 0 (fun q => N0 ≤ q)) Y 203 [(1, .int l1), (0, .ref (ad 10 0 0))] [] := by
  intro n
  induction n with
  | zero =>
    intro Y l1 h
    unfold X12_parseStep_b203 at h
    cases h
  | succ n ih =>
    intro Y l1 h
    unfold X12_parseStep_b203 at h
    refine fw_aload_n C dX12_parseStep_203 rfl 1 rfl ?_
    refine fw_get C (ci := 10) (Cn := RX12) (Tc := TX12) (N := 19) (j := 15) ly_X12_parseStep_12 rfl (hG _ (List.mem_of_getElem? (i := 0) rfl)) (of10_0 _) (ce10 T ad _ _) (by decide) (cx_ts C _ fl_X12_parseStep_57) (fun _ h => h) (v := .int (Y 10 0 0 15)) rfl dX12_parseStep_204 ?_
    refine fw_iconst C dX12_parseStep_207 (v := 1) rfl ?_
    refine fw_icmp_ne C dX12_parseStep_208 (tgt := 221) rfl (fun c60 => ?_) (fun c60 => ?_)
    · have h := ite_f c60 h
      refine fw_sub [1] (L' := [(0, .ref (ad 10 0 0))]) rfl ?_
      exact w_X12_parseStep_b221 C hrt hG   _ h
    · have h := ite_t c60 h
      refine fw_aload_n C dX12_parseStep_211 rfl 1 rfl ?_
      refine fw_iload_n C dX12_parseStep_212 rfl 0 rfl ?_
      obtain ⟨r61, Y63, q62, h⟩ := bd2_some h
      refine fw_callVi C (ci := 10) (Cn := RX12) (Tc := TX12) (N := 19) (As := [.int l1]) (c_X12_parsePredecessor (gac (hG _ (List.mem_of_getElem? (i := 0) rfl)) ga0) q62) (cwV 1 (cx_ts C) gX12_parseStep_X12_parsePredecessor rfl rfl rfl (by decide +kernel) ⟨Nat.le_of_ble_eq_true rfl, Nat.le_of_ble_eq_true rfl⟩) rfl (hG _ (List.mem_of_getElem? (i := 0) rfl)) (of10_0 _) (ce10 T ad _ _) rfl (st := []) rfl (Nat.le_of_ble_eq_true rfl) ⟨Nat.le_refl 0, Nat.le_refl 0⟩ dX12_parseStep_213 (ppw ?_)
      refine fw_if_ne C dX12_parseStep_216 (tgt := 203) rfl (fun c64 => ?_) (fun c64 => ?_)
      · have h := ite_f c64 h
        exact ih _ _ h
      · have h := ite_t c64 h
        refine fw_iconst C dX12_parseStep_219 (v := 0) rfl ?_
        exact fw_zret C hrt (by decide) Y63 (Option.some.inj h) (fun t ht => ht) dX12_parseStep_220
set_option maxRecDepth 100000 in
set_option maxHeartbeats 4000000 in
theorem w_X12_parseStep_b183  (C : Cx p s m [.ref (ad 10 0 0)].toArray meth c cX12_parseStep 3 wsX12_parseStep RX12 N0 T D gr ad) (hrt : meth.sig.returnType = (some .boolean)) (hG : ∀ q ∈ [(10, 0)], q ∈ gr) {res : Int32 × Mem} (Y : Mem) (l1 : Int32) (s0 : Int32) (s1 : Int32) (h : X12_parseStep_b183   Y l1 s0 s1 = some res) : FW p l e (Rm 7) s m [.ref (ad 10 0 0)].toArray below meth c 3 N0 T D gr ad 0 0 (MQ below (va_Qi (fun r Y1 => (r, Y1) = res) (WB T D gr ad) (fun q => N0 ≤ q)) [.ref (ad 10 0 0)].toArray s 0 0 (fun q => N0 ≤ q)) Y 183 [(1, .int l1), (0, .ref (ad 10 0 0))] [.int s0, .int s1, .ref (ad 10 0 1)] := by
  unfold X12_parseStep_b183 at h
  obtain ⟨b42, h⟩ := gd_some h
  obtain ⟨Y43, e44, h⟩ := lt_some h
  refine fw_iast2 C (hG _ (List.mem_of_getElem? (i := 0) rfl)) (of10_1 _) (ca10_1 T ad _) b42 (Nat.le_of_ble_eq_true rfl) dX12_parseStep_183 ?_
  refine fw_mem e44 ?_
  refine fw_aload_n C dX12_parseStep_184 rfl 1 rfl ?_
  refine fw_ldcS C ((cx_st C).2.1 _ (List.mem_of_getElem? (i := 37) rfl)) dX12_parseStep_185 ?_
  obtain ⟨r45, Y47, q46, h⟩ := bd2_some h
  refine fw_callVi C (ci := 10) (Cn := RX12) (Tc := TX12) (N := 19) (As := [.ref (ad 21 7 0)]) (c_X12_takes (gac (hG _ (List.mem_of_getElem? (i := 0) rfl)) ga0) q46) (cwV 1 (cx_ts C) gX12_parseStep_X12_takes rfl rfl rfl (by decide +kernel) ⟨Nat.le_of_ble_eq_true rfl, Nat.le_of_ble_eq_true rfl⟩) rfl (hG _ (List.mem_of_getElem? (i := 0) rfl)) (of10_0 _) (ce10 T ad _ _) rfl (st := []) rfl (Nat.le_of_ble_eq_true rfl) ⟨Nat.le_refl 0, Nat.le_refl 0⟩ dX12_parseStep_187 (ppw ?_)
  refine fw_if_eq C dX12_parseStep_190 (tgt := 221) rfl (fun c48 => ?_) (fun c48 => ?_)
  · have h := ite_t c48 h
    refine fw_sub [1] (L' := [(0, .ref (ad 10 0 0))]) rfl ?_
    exact w_X12_parseStep_b221 C hrt hG   _ h
  · have h := ite_f c48 h
    refine fw_aload_n C dX12_parseStep_193 rfl 1 rfl ?_
    refine fw_iload_n C dX12_parseStep_194 rfl 0 rfl ?_
    obtain ⟨r56, Y58, q57, h⟩ := bd2_some h
    refine fw_callVi C (ci := 10) (Cn := RX12) (Tc := TX12) (N := 19) (As := [.int l1]) (c_X12_parsePredecessor (gac (hG _ (List.mem_of_getElem? (i := 0) rfl)) ga0) q57) (cwV 1 (cx_ts C) gX12_parseStep_X12_parsePredecessor rfl rfl rfl (by decide +kernel) ⟨Nat.le_of_ble_eq_true rfl, Nat.le_of_ble_eq_true rfl⟩) rfl (hG _ (List.mem_of_getElem? (i := 0) rfl)) (of10_0 _) (ce10 T ad _ _) rfl (st := []) rfl (Nat.le_of_ble_eq_true rfl) ⟨Nat.le_refl 0, Nat.le_refl 0⟩ dX12_parseStep_195 (ppw ?_)
    refine fw_if_ne C dX12_parseStep_198 (tgt := 203) rfl (fun c59 => ?_) (fun c59 => ?_)
    · have h := ite_f c59 h
      exact w_X12_parseStep_b203 C hrt hG   _ _ _ h
    · have h := ite_t c59 h
      refine fw_iconst C dX12_parseStep_201 (v := 0) rfl ?_
      exact fw_zret C hrt (by decide) Y58 (Option.some.inj h) (fun t ht => ht) dX12_parseStep_202
set_option maxRecDepth 100000 in
set_option maxHeartbeats 4000000 in
theorem w_X12_parseStep_b160  (C : Cx p s m [.ref (ad 10 0 0)].toArray meth c cX12_parseStep 3 wsX12_parseStep RX12 N0 T D gr ad) (hrt : meth.sig.returnType = (some .boolean)) (hG : ∀ q ∈ [(10, 0)], q ∈ gr) {res : Int32 × Mem} (Y : Mem) (l1 : Int32) (s0 : Int32) (s1 : Int32) (h : X12_parseStep_b160   Y l1 s0 s1 = some res) : FW p l e (Rm 7) s m [.ref (ad 10 0 0)].toArray below meth c 3 N0 T D gr ad 0 0 (MQ below (va_Qi (fun r Y1 => (r, Y1) = res) (WB T D gr ad) (fun q => N0 ≤ q)) [.ref (ad 10 0 0)].toArray s 0 0 (fun q => N0 ≤ q)) Y 160 [(1, .int l1), (0, .ref (ad 10 0 0))] [.int s0, .int s1, .ref (ad 10 0 1)] := by
  unfold X12_parseStep_b160 at h
  obtain ⟨b35, h⟩ := gd_some h
  obtain ⟨Y36, e37, h⟩ := lt_some h
  refine fw_iast2 C (hG _ (List.mem_of_getElem? (i := 0) rfl)) (of10_1 _) (ca10_1 T ad _) b35 (Nat.le_of_ble_eq_true rfl) dX12_parseStep_160 ?_
  refine fw_mem e37 ?_
  refine fw_aload_n C dX12_parseStep_161 rfl 1 rfl ?_
  refine fw_get C (ci := 10) (Cn := RX12) (Tc := TX12) (N := 19) (j := 0) ly_X12_parseStep_12 rfl (hG _ (List.mem_of_getElem? (i := 0) rfl)) (of10_0 _) (ce10 T ad _ _) (by decide) (cx_ts C _ fl_X12_parseStep_13) (fun _ h => h) (v := .ref (ad 10 0 1)) rfl dX12_parseStep_162 ?_
  refine fw_iload_n C dX12_parseStep_165 rfl 0 rfl ?_
  refine fw_bipush C dX12_parseStep_166 (v := 11) rfl ?_
  refine fw_iadd C dX12_parseStep_168 ?_
  refine fw_aload_n C dX12_parseStep_169 rfl 1 rfl ?_
  refine fw_ldcS C ((cx_st C).2.1 _ (List.mem_of_getElem? (i := 36) rfl)) dX12_parseStep_170 ?_
  obtain ⟨r38, Y40, q39, h⟩ := bd2_some h
  refine fw_callVi C (ci := 10) (Cn := RX12) (Tc := TX12) (N := 19) (As := [.ref (ad 21 6 0)]) (c_X12_takes (gac (hG _ (List.mem_of_getElem? (i := 0) rfl)) ga0) q39) (cwV 1 (cx_ts C) gX12_parseStep_X12_takes rfl rfl rfl (by decide +kernel) ⟨Nat.le_of_ble_eq_true rfl, Nat.le_of_ble_eq_true rfl⟩) rfl (hG _ (List.mem_of_getElem? (i := 0) rfl)) (of10_0 _) (ce10 T ad _ _) rfl (st := [.int (l1 + 11), .ref (ad 10 0 1)]) rfl (Nat.le_of_ble_eq_true rfl) ⟨Nat.le_refl 0, Nat.le_refl 0⟩ dX12_parseStep_172 (ppw ?_)
  refine fw_if_eq C dX12_parseStep_175 (tgt := 182) rfl (fun c41 => ?_) (fun c41 => ?_)
  · have h := ite_t c41 h
    refine fw_iconst C dX12_parseStep_182 (v := 0) rfl ?_
    exact w_X12_parseStep_b183 C hrt hG   _ _ _ _ h
  · have h := ite_f c41 h
    refine fw_iconst C dX12_parseStep_178 (v := 1) rfl ?_
    refine fw_goto C dX12_parseStep_179 (tgt := 183) rfl ?_
    exact w_X12_parseStep_b183 C hrt hG   _ _ _ _ h
set_option maxRecDepth 100000 in
set_option maxHeartbeats 4000000 in
theorem w_X12_parseStep_b74  (C : Cx p s m [.ref (ad 10 0 0)].toArray meth c cX12_parseStep 3 wsX12_parseStep RX12 N0 T D gr ad) (hrt : meth.sig.returnType = (some .boolean)) (hG : ∀ q ∈ [(10, 0)], q ∈ gr) {res : Int32 × Mem} : ∀ (n : Nat) (Y : Mem) (l2 : Int32) (l1 : Int32), X12_parseStep_b74   n Y l2 l1 = some res → FW p l e (Rm 7) s m [.ref (ad 10 0 0)].toArray below meth c 3 N0 T D gr ad 0 0 (MQ below (va_Qi (fun r Y1 => (r, Y1) = res) (WB T D gr ad) (fun q => N0 ≤ q)) [.ref (ad 10 0 0)].toArray s 0 0 (fun q => N0 ≤ q)) Y 74 [(2, .int l2), (1, .int l1), (0, .ref (ad 10 0 0))] [] := by
  intro n
  induction n with
  | zero =>
    intro Y l2 l1 h
    unfold X12_parseStep_b74 at h
    cases h
  | succ n ih =>
    intro Y l2 l1 h
    unfold X12_parseStep_b74 at h
    refine fw_iload_n C dX12_parseStep_74 rfl 0 rfl ?_
    refine fw_bipush C dX12_parseStep_75 (v := 24) rfl ?_
    refine fw_icmp_ge C dX12_parseStep_77 (tgt := 95) rfl (fun c15 => ?_) (fun c15 => ?_)
    · have h := ite_t c15 h
      refine fw_aload_n C dX12_parseStep_95 rfl 2 rfl ?_
      refine fw_iload_n C dX12_parseStep_96 rfl 1 rfl ?_
      obtain ⟨Y18, q17, h⟩ := bd1_some h
      refine fw_callVv C (ci := 10) (Cn := RX12) (Tc := TX12) (N := 19) (As := [.int l1]) (c_X12_putName (gac (hG _ (List.mem_of_getElem? (i := 0) rfl)) ga0) q17) (cwV 1 (cx_ts C) gX12_parseStep_X12_putName rfl rfl rfl (by decide +kernel) ⟨Nat.le_of_ble_eq_true rfl, Nat.le_of_ble_eq_true rfl⟩) rfl (hG _ (List.mem_of_getElem? (i := 0) rfl)) (of10_0 _) (ce10 T ad _ _) rfl (st := []) rfl (Nat.le_of_ble_eq_true rfl) ⟨Nat.le_refl 0, Nat.le_refl 0⟩ dX12_parseStep_97 (ppv ?_)
      refine fw_aload_n C dX12_parseStep_100 rfl 2 rfl ?_
      refine fw_iload_n C dX12_parseStep_101 rfl 1 rfl ?_
      refine fw_bipush C dX12_parseStep_102 (v := 7) rfl ?_
      refine fw_iadd C dX12_parseStep_104 ?_
      refine fw_iconst C dX12_parseStep_105 (v := 1) rfl ?_
      refine fw_bipush C dX12_parseStep_106 (v := 60) rfl ?_
      obtain ⟨r19, Y21, q20, h⟩ := bd2_some h
      refine fw_callVi C (ci := 10) (Cn := RX12) (Tc := TX12) (N := 19) (As := [.int (l1 + 7), .int 1, .int 60]) (c_X12_parseRanged (gac (hG _ (List.mem_of_getElem? (i := 0) rfl)) ga0) q20) (cwV 3 (cx_ts C) gX12_parseStep_X12_parseRanged rfl rfl rfl (by decide +kernel) ⟨Nat.le_of_ble_eq_true rfl, Nat.le_of_ble_eq_true rfl⟩) rfl (hG _ (List.mem_of_getElem? (i := 0) rfl)) (of10_0 _) (ce10 T ad _ _) rfl (st := []) rfl (Nat.le_of_ble_eq_true rfl) ⟨Nat.le_refl 0, Nat.le_refl 0⟩ dX12_parseStep_108 (ppw ?_)
      refine fw_if_eq C dX12_parseStep_111 (tgt := 136) rfl (fun c22 => ?_) (fun c22 => ?_)
      · have h := ite_t c22 h
        refine fw_iconst C dX12_parseStep_136 (v := 0) rfl ?_
        exact fw_zret C hrt (by decide) Y21 (Option.some.inj h) (fun t ht => ht) dX12_parseStep_137
      · have h := ite_f c22 h
        refine fw_aload_n C dX12_parseStep_114 rfl 2 rfl ?_
        refine fw_iload_n C dX12_parseStep_115 rfl 1 rfl ?_
        refine fw_bipush C dX12_parseStep_116 (v := 8) rfl ?_
        refine fw_iadd C dX12_parseStep_118 ?_
        refine fw_iconst C dX12_parseStep_119 (v := 0) rfl ?_
        refine fw_bipush C dX12_parseStep_120 (v := 9) rfl ?_
        obtain ⟨r23, Y25, q24, h⟩ := bd2_some h
        refine fw_callVi C (ci := 10) (Cn := RX12) (Tc := TX12) (N := 19) (As := [.int (l1 + 8), .int 0, .int 9]) (c_X12_parseRanged (gac (hG _ (List.mem_of_getElem? (i := 0) rfl)) ga0) q24) (cwV 3 (cx_ts C) gX12_parseStep_X12_parseRanged rfl rfl rfl (by decide +kernel) ⟨Nat.le_of_ble_eq_true rfl, Nat.le_of_ble_eq_true rfl⟩) rfl (hG _ (List.mem_of_getElem? (i := 0) rfl)) (of10_0 _) (ce10 T ad _ _) rfl (st := []) rfl (Nat.le_of_ble_eq_true rfl) ⟨Nat.le_refl 0, Nat.le_refl 0⟩ dX12_parseStep_122 (ppw ?_)
        refine fw_if_eq C dX12_parseStep_125 (tgt := 136) rfl (fun c26 => ?_) (fun c26 => ?_)
        · have h := ite_t c26 h
          refine fw_iconst C dX12_parseStep_136 (v := 0) rfl ?_
          exact fw_zret C hrt (by decide) Y25 (Option.some.inj h) (fun t ht => ht) dX12_parseStep_137
        · have h := ite_f c26 h
          refine fw_aload_n C dX12_parseStep_128 rfl 2 rfl ?_
          refine fw_iload_n C dX12_parseStep_129 rfl 1 rfl ?_
          obtain ⟨r27, Y29, q28, h⟩ := bd2_some h
          refine fw_callVi C (ci := 10) (Cn := RX12) (Tc := TX12) (N := 19) (As := [.int l1]) (c_X12_parsePanType (gac (hG _ (List.mem_of_getElem? (i := 0) rfl)) ga0) q28) (cwV 1 (cx_ts C) gX12_parseStep_X12_parsePanType rfl rfl rfl (by decide +kernel) ⟨Nat.le_of_ble_eq_true rfl, Nat.le_of_ble_eq_true rfl⟩) rfl (hG _ (List.mem_of_getElem? (i := 0) rfl)) (of10_0 _) (ce10 T ad _ _) rfl (st := []) rfl (Nat.le_of_ble_eq_true rfl) ⟨Nat.le_refl 0, Nat.le_refl 0⟩ dX12_parseStep_130 (ppw ?_)
          refine fw_if_ne C dX12_parseStep_133 (tgt := 138) rfl (fun c30 => ?_) (fun c30 => ?_)
          · have h := ite_f c30 h
            refine fw_aload_n C dX12_parseStep_138 rfl 2 rfl ?_
            refine fw_get C (ci := 10) (Cn := RX12) (Tc := TX12) (N := 19) (j := 0) ly_X12_parseStep_12 rfl (hG _ (List.mem_of_getElem? (i := 0) rfl)) (of10_0 _) (ce10 T ad _ _) (by decide) (cx_ts C _ fl_X12_parseStep_13) (fun _ h => h) (v := .ref (ad 10 0 1)) rfl dX12_parseStep_139 ?_
            refine fw_iload_n C dX12_parseStep_142 rfl 1 rfl ?_
            refine fw_bipush C dX12_parseStep_143 (v := 10) rfl ?_
            refine fw_iadd C dX12_parseStep_145 ?_
            refine fw_aload_n C dX12_parseStep_146 rfl 2 rfl ?_
            refine fw_ldcS C ((cx_st C).2.1 _ (List.mem_of_getElem? (i := 35) rfl)) dX12_parseStep_147 ?_
            obtain ⟨r31, Y33, q32, h⟩ := bd2_some h
            refine fw_callVi C (ci := 10) (Cn := RX12) (Tc := TX12) (N := 19) (As := [.ref (ad 21 5 0)]) (c_X12_takes (gac (hG _ (List.mem_of_getElem? (i := 0) rfl)) ga0) q32) (cwV 1 (cx_ts C) gX12_parseStep_X12_takes rfl rfl rfl (by decide +kernel) ⟨Nat.le_of_ble_eq_true rfl, Nat.le_of_ble_eq_true rfl⟩) rfl (hG _ (List.mem_of_getElem? (i := 0) rfl)) (of10_0 _) (ce10 T ad _ _) rfl (st := [.int (l1 + 10), .ref (ad 10 0 1)]) rfl (Nat.le_of_ble_eq_true rfl) ⟨Nat.le_refl 0, Nat.le_refl 0⟩ dX12_parseStep_149 (ppw ?_)
            refine fw_if_eq C dX12_parseStep_152 (tgt := 159) rfl (fun c34 => ?_) (fun c34 => ?_)
            · have h := ite_t c34 h
              refine fw_iconst C dX12_parseStep_159 (v := 0) rfl ?_
              refine fw_sub [1, 2] (L' := [(1, .int l1), (0, .ref (ad 10 0 0))]) rfl ?_
              exact w_X12_parseStep_b160 C hrt hG   _ _ _ _ h
            · have h := ite_f c34 h
              refine fw_iconst C dX12_parseStep_155 (v := 1) rfl ?_
              refine fw_goto C dX12_parseStep_156 (tgt := 160) rfl ?_
              refine fw_sub [1, 2] (L' := [(1, .int l1), (0, .ref (ad 10 0 0))]) rfl ?_
              exact w_X12_parseStep_b160 C hrt hG   _ _ _ _ h
          · have h := ite_t c30 h
            refine fw_iconst C dX12_parseStep_136 (v := 0) rfl ?_
            exact fw_zret C hrt (by decide) Y29 (Option.some.inj h) (fun t ht => ht) dX12_parseStep_137
    · have h := ite_f c15 h
      refine fw_aload_n C dX12_parseStep_80 rfl 2 rfl ?_
      refine fw_get C (ci := 10) (Cn := RX12) (Tc := TX12) (N := 19) (j := 0) ly_X12_parseStep_12 rfl (hG _ (List.mem_of_getElem? (i := 0) rfl)) (of10_0 _) (ce10 T ad _ _) (by decide) (cx_ts C _ fl_X12_parseStep_13) (fun _ h => h) (v := .ref (ad 10 0 1)) rfl dX12_parseStep_81 ?_
      refine fw_iload_n C dX12_parseStep_84 rfl 1 rfl ?_
      refine fw_iload_n C dX12_parseStep_85 rfl 0 rfl ?_
      refine fw_iadd C dX12_parseStep_86 ?_
      refine fw_iconst C dX12_parseStep_87 (v := 0) rfl ?_
      obtain ⟨b65, h⟩ := gd_some h
      obtain ⟨Y66, e67, h⟩ := lt_some h
      refine fw_iast2 C (hG _ (List.mem_of_getElem? (i := 0) rfl)) (of10_1 _) (ca10_1 T ad _) b65 (Nat.le_of_ble_eq_true rfl) dX12_parseStep_88 ?_
      refine fw_mem e67 ?_
      refine fw_iinc C dX12_parseStep_89 (kk := 0) (v := l2 + 1) rfl rfl (by decide) (L' := [(2, .int (l2 + 1)), (1, .int l1), (0, .ref (ad 10 0 0))]) rfl ?_
      refine fw_goto C dX12_parseStep_92 (tgt := 74) rfl ?_
      exact ih _ _ _ h
set_option maxRecDepth 100000 in
set_option maxHeartbeats 4000000 in
theorem w_X12_parseStep {Y : Mem} (C : Cx p s m [.ref (ad 10 0 0)].toArray meth c cX12_parseStep 3 wsX12_parseStep RX12 N0 T D gr ad) (hrt : meth.sig.returnType = (some .boolean)) (hG : ∀ q ∈ [(10, 0)], q ∈ gr) {res : Int32 × Mem} (h : X12_parseStep Y = some res) : FW p l e (Rm 7) s m [.ref (ad 10 0 0)].toArray below meth c 3 N0 T D gr ad 0 0 (MQ below (va_Qi (fun r Y1 => (r, Y1) = res) (WB T D gr ad) (fun q => N0 ≤ q)) [.ref (ad 10 0 0)].toArray s 0 0 (fun q => N0 ≤ q)) Y 0 [(0, .ref (ad 10 0 0))] [] := by
  unfold X12_parseStep at h
  refine fw_aload_n C dX12_parseStep_0 rfl 0 rfl ?_
  refine fw_get C (ci := 10) (Cn := RX12) (Tc := TX12) (N := 19) (j := 0) ly_X12_parseStep_12 rfl (hG _ (List.mem_of_getElem? (i := 0) rfl)) (of10_0 _) (ce10 T ad _ _) (by decide) (cx_ts C _ fl_X12_parseStep_13) (fun _ h => h) (v := .ref (ad 10 0 1)) rfl dX12_parseStep_1 ?_
  refine fw_bipush C dX12_parseStep_4 (v := 13) rfl ?_
  obtain ⟨b1, h⟩ := gd_some h
  refine fw_iald2 C (hG _ (List.mem_of_getElem? (i := 0) rfl)) (of10_1 _) (ca10_1 T ad _ _) b1 (Nat.le_of_ble_eq_true rfl) dX12_parseStep_6 ?_
  refine fw_bipush C dX12_parseStep_7 (v := 14) rfl ?_
  refine fw_icmp_ne C dX12_parseStep_9 (tgt := 18) rfl (fun c2 => ?_) (fun c2 => ?_)
  · have h := ite_f c2 h
    refine fw_aload_n C dX12_parseStep_18 rfl 0 rfl ?_
    obtain ⟨Y5, q4, h⟩ := bd1_some h
    refine fw_callVv C (ci := 10) (Cn := RX12) (Tc := TX12) (N := 19) (As := []) (c_X12_token (gac (hG _ (List.mem_of_getElem? (i := 0) rfl)) ga0) q4) (cwV 0 (cx_ts C) gX12_parseStep_X12_token rfl rfl rfl (by decide +kernel) ⟨Nat.le_of_ble_eq_true rfl, Nat.le_of_ble_eq_true rfl⟩) rfl (hG _ (List.mem_of_getElem? (i := 0) rfl)) (of10_0 _) (ce10 T ad _ _) rfl (st := []) rfl (Nat.le_of_ble_eq_true rfl) ⟨Nat.le_refl 0, Nat.le_refl 0⟩ dX12_parseStep_19 (ppv ?_)
    refine fw_aload_n C dX12_parseStep_22 rfl 0 rfl ?_
    obtain ⟨r6, Y8, q7, h⟩ := bd2_some h
    refine fw_callVi C (ci := 10) (Cn := RX12) (Tc := TX12) (N := 19) (As := []) (c_X12_isShortWord (gac (hG _ (List.mem_of_getElem? (i := 0) rfl)) ga0) q7) (cwV 0 (cx_ts C) gX12_parseStep_X12_isShortWord rfl rfl rfl (by decide +kernel) ⟨Nat.le_of_ble_eq_true rfl, Nat.le_of_ble_eq_true rfl⟩) rfl (hG _ (List.mem_of_getElem? (i := 0) rfl)) (of10_0 _) (ce10 T ad _ _) rfl (st := []) rfl (Nat.le_of_ble_eq_true rfl) ⟨Nat.le_refl 0, Nat.le_refl 0⟩ dX12_parseStep_23 (ppw ?_)
    refine fw_if_ne C dX12_parseStep_26 (tgt := 31) rfl (fun c9 => ?_) (fun c9 => ?_)
    · have h := ite_f c9 h
      refine fw_aload_n C dX12_parseStep_31 rfl 0 rfl ?_
      refine fw_aload_n C dX12_parseStep_32 rfl 0 rfl ?_
      refine fw_get C (ci := 10) (Cn := RX12) (Tc := TX12) (N := 19) (j := 16) ly_X12_parseStep_12 rfl (hG _ (List.mem_of_getElem? (i := 0) rfl)) (of10_0 _) (ce10 T ad _ _) (by decide) (cx_ts C _ fl_X12_parseStep_60) (fun _ h => h) (v := .int (Y8 10 0 0 16)) rfl dX12_parseStep_33 ?_
      refine fw_aload_n C dX12_parseStep_36 rfl 0 rfl ?_
      refine fw_get C (ci := 10) (Cn := RX12) (Tc := TX12) (N := 19) (j := 14) ly_X12_parseStep_12 rfl (hG _ (List.mem_of_getElem? (i := 0) rfl)) (of10_0 _) (ce10 T ad _ _) (by decide) (cx_ts C _ fl_X12_parseStep_54) (fun _ h => h) (v := .int (Y8 10 0 0 14)) rfl dX12_parseStep_37 ?_
      refine fw_aload_n C dX12_parseStep_40 rfl 0 rfl ?_
      refine fw_get C (ci := 10) (Cn := RX12) (Tc := TX12) (N := 19) (j := 16) ly_X12_parseStep_12 rfl (hG _ (List.mem_of_getElem? (i := 0) rfl)) (of10_0 _) (ce10 T ad _ _) (by decide) (cx_ts C _ fl_X12_parseStep_60) (fun _ h => h) (v := .int (Y8 10 0 0 16)) rfl dX12_parseStep_41 ?_
      refine fw_isub C dX12_parseStep_44 ?_
      obtain ⟨r10, q11, h⟩ := bd1_some h
      refine fw_callVi C (ci := 10) (Cn := RX12) (Tc := TX12) (N := 19) (As := [.int (Y8 10 0 0 16), .int ((Y8 10 0 0 14) - (Y8 10 0 0 16))]) (c_X12_stepNamed (gac (hG _ (List.mem_of_getElem? (i := 0) rfl)) ga0) q11) (cwV 2 (cx_ts C) gX12_parseStep_X12_stepNamed rfl rfl rfl (by decide +kernel) ⟨Nat.le_of_ble_eq_true rfl, Nat.le_of_ble_eq_true rfl⟩) rfl (hG _ (List.mem_of_getElem? (i := 0) rfl)) (of10_0 _) (ce10 T ad _ _) rfl (st := []) rfl (Nat.le_of_ble_eq_true rfl) ⟨Nat.le_refl 0, Nat.le_refl 0⟩ dX12_parseStep_45 (pp2 ?_)
      refine fw_iconst C dX12_parseStep_48 (v := (-1)) rfl ?_
      refine fw_icmp_eq C dX12_parseStep_49 (tgt := 58) rfl (fun c12 => ?_) (fun c12 => ?_)
      · have h := ite_t c12 h
        refine fw_bipush C dX12_parseStep_58 (v := 46) rfl ?_
        refine fw_aload_n C dX12_parseStep_60 rfl 0 rfl ?_
        refine fw_get C (ci := 10) (Cn := RX12) (Tc := TX12) (N := 19) (j := 0) ly_X12_parseStep_12 rfl (hG _ (List.mem_of_getElem? (i := 0) rfl)) (of10_0 _) (ce10 T ad _ _) (by decide) (cx_ts C _ fl_X12_parseStep_13) (fun _ h => h) (v := .ref (ad 10 0 1)) rfl dX12_parseStep_61 ?_
        refine fw_bipush C dX12_parseStep_64 (v := 13) rfl ?_
        refine fw_iald2 C (hG _ (List.mem_of_getElem? (i := 0) rfl)) (of10_1 _) (ca10_1 T ad _ _) b1 (Nat.le_of_ble_eq_true rfl) dX12_parseStep_66 ?_
        refine fw_bipush C dX12_parseStep_67 (v := 24) rfl ?_
        refine fw_imul C dX12_parseStep_69 ?_
        refine fw_iadd C dX12_parseStep_70 ?_
        obtain ⟨v13, e14, h⟩ := lt_some h
        refine fw_top (v' := .int v13) (by rw [e14]) ?_
        refine fw_istore_n C dX12_parseStep_71 rfl (by decide) (L' := [(1, .int v13), (0, .ref (ad 10 0 0))]) rfl ?_
        refine fw_iconst C dX12_parseStep_72 (v := 0) rfl ?_
        refine fw_istore_n C dX12_parseStep_73 rfl (by decide) (L' := [(2, .int 0), (1, .int v13), (0, .ref (ad 10 0 0))]) rfl ?_
        exact w_X12_parseStep_b74 C hrt hG   _ _ _ _ h
      · have h := ite_f c12 h
        refine fw_aload_n C dX12_parseStep_52 rfl 0 rfl ?_
        refine fw_iconst C dX12_parseStep_53 (v := 3) rfl ?_
        obtain ⟨r68, Y70, q69, h⟩ := bd2_some h
        refine fw_callVi C (ci := 10) (Cn := RX12) (Tc := TX12) (N := 19) (As := [.int 3]) (c_X12_wrong (gac (hG _ (List.mem_of_getElem? (i := 0) rfl)) ga0) q69) (cwV 1 (cx_ts C) gX12_parseStep_X12_wrong rfl rfl rfl (by decide +kernel) ⟨Nat.le_of_ble_eq_true rfl, Nat.le_of_ble_eq_true rfl⟩) rfl (hG _ (List.mem_of_getElem? (i := 0) rfl)) (of10_0 _) (ce10 T ad _ _) rfl (st := []) rfl (Nat.le_of_ble_eq_true rfl) ⟨Nat.le_refl 0, Nat.le_refl 0⟩ dX12_parseStep_54 (ppw ?_)
        obtain ⟨b71, h⟩ := gd_some h
        exact fw_zret C hrt (of_decide_eq_true b71) Y70 (Option.some.inj h) (fun t ht => ht) dX12_parseStep_57
    · have h := ite_t c9 h
      refine fw_iconst C dX12_parseStep_29 (v := 0) rfl ?_
      exact fw_zret C hrt (by decide) Y8 (Option.some.inj h) (fun t ht => ht) dX12_parseStep_30
  · have h := ite_t c2 h
    refine fw_aload_n C dX12_parseStep_12 rfl 0 rfl ?_
    refine fw_iconst C dX12_parseStep_13 (v := 5) rfl ?_
    obtain ⟨r72, Y74, q73, h⟩ := bd2_some h
    refine fw_callVi C (ci := 10) (Cn := RX12) (Tc := TX12) (N := 19) (As := [.int 5]) (c_X12_wrong (gac (hG _ (List.mem_of_getElem? (i := 0) rfl)) ga0) q73) (cwV 1 (cx_ts C) gX12_parseStep_X12_wrong rfl rfl rfl (by decide +kernel) ⟨Nat.le_of_ble_eq_true rfl, Nat.le_of_ble_eq_true rfl⟩) rfl (hG _ (List.mem_of_getElem? (i := 0) rfl)) (of10_0 _) (ce10 T ad _ _) rfl (st := []) rfl (Nat.le_of_ble_eq_true rfl) ⟨Nat.le_refl 0, Nat.le_refl 0⟩ dX12_parseStep_14 (ppw ?_)
    obtain ⟨b75, h⟩ := gd_some h
    exact fw_zret C hrt (of_decide_eq_true b75) Y74 (Option.some.inj h) (fun t ht => ht) dX12_parseStep_17
end
set_option maxRecDepth 100000 in
set_option maxHeartbeats 4000000 in
theorem c_X12_parseStep {l : Launch} {N0 : Nat} {T : Nat → ClassId} {D : va_G} {gr : List (Nat × Nat)} {ad : Nat → Nat → Nat → Nat} {Y : Mem} {res : Int32 × Mem} (hG : ∀ q ∈ [(10, 0)], q ∈ gr) (h : X12_parseStep Y = some res) : CI l yX12_parseStep wsX12_parseStep (Rm 7) N0 T D gr ad Y [.ref (ad 10 0 0)] (fun r Y1 => (r, Y1) = res) :=
  fw_body (by decide +kernel) rfl (Nat.le_of_ble_eq_true rfl) (fun p e s m below meth c C hrt => w_X12_parseStep C hrt hG  h)
theorem ly_X12_parseSetup_12 : ∀ w ∈ u_ws RX12 TX12 19, w ∈ wsX12_parseSetup := by decide +kernel
theorem fl_X12_parseSetup_13 : Cond.fieldLink RX12 13 "RecipeSchedulerModel" "m" "[I" ∈ wsX12_parseSetup := by decide +kernel
theorem fl_X12_parseSetup_57 : Cond.fieldLink RX12 57 "RecipeSchedulerModel" "type" "I" ∈ wsX12_parseSetup := by decide +kernel
section
variable {p : Program} {l : Launch} {e : Env} {s : State} {m : MethodId} {below : List Frame} {meth : Method} {c : Code} {N0 : Nat} {T : Nat → ClassId} {D : va_G} {gr : List (Nat × Nat)} {ad : Nat → Nat → Nat → Nat}
set_option maxRecDepth 100000 in
set_option maxHeartbeats 4000000 in
theorem w_X12_parseSetup_b164  (C : Cx p s m [.ref (ad 10 0 0)].toArray meth c cX12_parseSetup 2 wsX12_parseSetup RX12 N0 T D gr ad) (hrt : meth.sig.returnType = (some .boolean)) (hG : ∀ q ∈ [(10, 0)], q ∈ gr) {res : Int32 × Mem} (Y : Mem) (h : X12_parseSetup_b164   Y = some res) : FW p l e (Rm 8) s m [.ref (ad 10 0 0)].toArray below meth c 2 N0 T D gr ad 0 0 (MQ below (va_Qi (fun r Y1 => (r, Y1) = res) (WB T D gr ad) (fun q => N0 ≤ q)) [.ref (ad 10 0 0)].toArray s 0 0 (fun q => N0 ≤ q)) Y 164 [] [] := by
  unfold X12_parseSetup_b164 at h
  refine fw_iconst C dX12_parseSetup_164 (v := 1) rfl ?_
  refine fw_goto C dX12_parseSetup_165 (tgt := 169) rfl ?_
  exact fw_zret C hrt (by decide) Y (Option.some.inj h) (fun t ht => ht) dX12_parseSetup_169
set_option maxRecDepth 100000 in
set_option maxHeartbeats 4000000 in
theorem w_X12_parseSetup_b131  (C : Cx p s m [.ref (ad 10 0 0)].toArray meth c cX12_parseSetup 2 wsX12_parseSetup RX12 N0 T D gr ad) (hrt : meth.sig.returnType = (some .boolean)) (hG : ∀ q ∈ [(10, 0)], q ∈ gr) {res : Int32 × Mem} : ∀ (n : Nat) (Y : Mem), X12_parseSetup_b131   n Y = some res → FW p l e (Rm 8) s m [.ref (ad 10 0 0)].toArray below meth c 2 N0 T D gr ad 0 0 (MQ below (va_Qi (fun r Y1 => (r, Y1) = res) (WB T D gr ad) (fun q => N0 ≤ q)) [.ref (ad 10 0 0)].toArray s 0 0 (fun q => N0 ≤ q)) Y 131 [(0, .ref (ad 10 0 0))] [] := by
  intro n
  induction n with
  | zero =>
    intro Y h
    unfold X12_parseSetup_b131 at h
    cases h
  | succ n ih =>
    intro Y h
    unfold X12_parseSetup_b131 at h
    refine fw_aload_n C dX12_parseSetup_131 rfl 0 rfl ?_
    refine fw_ldcS C ((cx_st C).2.1 _ (List.mem_of_getElem? (i := 33) rfl)) dX12_parseSetup_132 ?_
    obtain ⟨r35, q36, h⟩ := bd1_some h
    refine fw_callVi C (ci := 10) (Cn := RX12) (Tc := TX12) (N := 19) (As := [.ref (ad 21 3 0)]) (c_X12_isWord (gac (hG _ (List.mem_of_getElem? (i := 0) rfl)) ga0) q36) (cwV 1 (cx_ts C) gX12_parseSetup_X12_isWord rfl rfl rfl (by decide +kernel) ⟨Nat.le_of_ble_eq_true rfl, Nat.le_of_ble_eq_true rfl⟩) rfl (hG _ (List.mem_of_getElem? (i := 0) rfl)) (of10_0 _) (ce10 T ad _ _) rfl (st := []) rfl (Nat.le_of_ble_eq_true rfl) ⟨Nat.le_refl 0, Nat.le_refl 0⟩ dX12_parseSetup_134 (pp2 ?_)
    refine fw_if_eq C dX12_parseSetup_137 (tgt := 149) rfl (fun c37 => ?_) (fun c37 => ?_)
    · have h := ite_t c37 h
      refine fw_aload_n C dX12_parseSetup_149 rfl 0 rfl ?_
      refine fw_get C (ci := 10) (Cn := RX12) (Tc := TX12) (N := 19) (j := 15) ly_X12_parseSetup_12 rfl (hG _ (List.mem_of_getElem? (i := 0) rfl)) (of10_0 _) (ce10 T ad _ _) (by decide) (cx_ts C _ fl_X12_parseSetup_57) (fun _ h => h) (v := .int (Y 10 0 0 15)) rfl dX12_parseSetup_150 ?_
      refine fw_if_eq C dX12_parseSetup_153 (tgt := 164) rfl (fun c38 => ?_) (fun c38 => ?_)
      · have h := ite_t c38 h
        refine fw_sub [] (L' := []) rfl ?_
        exact w_X12_parseSetup_b164 C hrt hG   _ h
      · have h := ite_f c38 h
        refine fw_aload_n C dX12_parseSetup_156 rfl 0 rfl ?_
        refine fw_iconst C dX12_parseSetup_157 (v := 1) rfl ?_
        obtain ⟨r39, Y41, q40, h⟩ := bd2_some h
        refine fw_callVi C (ci := 10) (Cn := RX12) (Tc := TX12) (N := 19) (As := [.int 1]) (c_X12_wrong (gac (hG _ (List.mem_of_getElem? (i := 0) rfl)) ga0) q40) (cwV 1 (cx_ts C) gX12_parseSetup_X12_wrong rfl rfl rfl (by decide +kernel) ⟨Nat.le_of_ble_eq_true rfl, Nat.le_of_ble_eq_true rfl⟩) rfl (hG _ (List.mem_of_getElem? (i := 0) rfl)) (of10_0 _) (ce10 T ad _ _) rfl (st := []) rfl (Nat.le_of_ble_eq_true rfl) ⟨Nat.le_refl 0, Nat.le_refl 0⟩ dX12_parseSetup_158 (ppw ?_)
        refine fw_if_eq C dX12_parseSetup_161 (tgt := 168) rfl (fun c42 => ?_) (fun c42 => ?_)
        · have h := ite_t c42 h
          refine fw_iconst C dX12_parseSetup_168 (v := 0) rfl ?_
          exact fw_zret C hrt (by decide) Y41 (Option.some.inj h) (fun t ht => ht) dX12_parseSetup_169
        · have h := ite_f c42 h
          refine fw_sub [] (L' := []) rfl ?_
          exact w_X12_parseSetup_b164 C hrt hG   _ h
    · have h := ite_f c37 h
      refine fw_aload_n C dX12_parseSetup_140 rfl 0 rfl ?_
      obtain ⟨r43, Y45, q44, h⟩ := bd2_some h
      refine fw_callVi C (ci := 10) (Cn := RX12) (Tc := TX12) (N := 19) (As := []) (c_X12_parseStep (gac (hG _ (List.mem_of_getElem? (i := 0) rfl)) ga0) q44) (cwV 0 (cx_ts C) gX12_parseSetup_X12_parseStep rfl rfl rfl (by decide +kernel) ⟨Nat.le_of_ble_eq_true rfl, Nat.le_of_ble_eq_true rfl⟩) rfl (hG _ (List.mem_of_getElem? (i := 0) rfl)) (of10_0 _) (ce10 T ad _ _) rfl (st := []) rfl (Nat.le_of_ble_eq_true rfl) ⟨Nat.le_refl 0, Nat.le_refl 0⟩ dX12_parseSetup_141 (ppw ?_)
      refine fw_if_ne C dX12_parseSetup_144 (tgt := 131) rfl (fun c46 => ?_) (fun c46 => ?_)
      · have h := ite_f c46 h
        exact ih _ h
      · have h := ite_t c46 h
        refine fw_iconst C dX12_parseSetup_147 (v := 0) rfl ?_
        exact fw_zret C hrt (by decide) Y45 (Option.some.inj h) (fun t ht => ht) dX12_parseSetup_148
set_option maxRecDepth 100000 in
set_option maxHeartbeats 4000000 in
theorem w_X12_parseSetup_b98  (C : Cx p s m [.ref (ad 10 0 0)].toArray meth c cX12_parseSetup 2 wsX12_parseSetup RX12 N0 T D gr ad) (hrt : meth.sig.returnType = (some .boolean)) (hG : ∀ q ∈ [(10, 0)], q ∈ gr) {res : Int32 × Mem} : ∀ (n : Nat) (Y : Mem), X12_parseSetup_b98   n Y = some res → FW p l e (Rm 8) s m [.ref (ad 10 0 0)].toArray below meth c 2 N0 T D gr ad 0 0 (MQ below (va_Qi (fun r Y1 => (r, Y1) = res) (WB T D gr ad) (fun q => N0 ≤ q)) [.ref (ad 10 0 0)].toArray s 0 0 (fun q => N0 ≤ q)) Y 98 [(0, .ref (ad 10 0 0))] [] := by
  intro n
  induction n with
  | zero =>
    intro Y h
    unfold X12_parseSetup_b98 at h
    cases h
  | succ n ih =>
    intro Y h
    unfold X12_parseSetup_b98 at h
    refine fw_aload_n C dX12_parseSetup_98 rfl 0 rfl ?_
    refine fw_ldcS C ((cx_st C).2.1 _ (List.mem_of_getElem? (i := 32) rfl)) dX12_parseSetup_99 ?_
    obtain ⟨r29, q30, h⟩ := bd1_some h
    refine fw_callVi C (ci := 10) (Cn := RX12) (Tc := TX12) (N := 19) (As := [.ref (ad 21 2 0)]) (c_X12_isWord (gac (hG _ (List.mem_of_getElem? (i := 0) rfl)) ga0) q30) (cwV 1 (cx_ts C) gX12_parseSetup_X12_isWord rfl rfl rfl (by decide +kernel) ⟨Nat.le_of_ble_eq_true rfl, Nat.le_of_ble_eq_true rfl⟩) rfl (hG _ (List.mem_of_getElem? (i := 0) rfl)) (of10_0 _) (ce10 T ad _ _) rfl (st := []) rfl (Nat.le_of_ble_eq_true rfl) ⟨Nat.le_refl 0, Nat.le_refl 0⟩ dX12_parseSetup_101 (pp2 ?_)
    refine fw_if_eq C dX12_parseSetup_104 (tgt := 116) rfl (fun c31 => ?_) (fun c31 => ?_)
    · have h := ite_t c31 h
      refine fw_aload_n C dX12_parseSetup_116 rfl 0 rfl ?_
      refine fw_ldcS C ((cx_st C).2.1 _ (List.mem_of_getElem? (i := 33) rfl)) dX12_parseSetup_117 ?_
      obtain ⟨r32, q33, h⟩ := bd1_some h
      refine fw_callVi C (ci := 10) (Cn := RX12) (Tc := TX12) (N := 19) (As := [.ref (ad 21 3 0)]) (c_X12_isWord (gac (hG _ (List.mem_of_getElem? (i := 0) rfl)) ga0) q33) (cwV 1 (cx_ts C) gX12_parseSetup_X12_isWord rfl rfl rfl (by decide +kernel) ⟨Nat.le_of_ble_eq_true rfl, Nat.le_of_ble_eq_true rfl⟩) rfl (hG _ (List.mem_of_getElem? (i := 0) rfl)) (of10_0 _) (ce10 T ad _ _) rfl (st := []) rfl (Nat.le_of_ble_eq_true rfl) ⟨Nat.le_refl 0, Nat.le_refl 0⟩ dX12_parseSetup_119 (pp2 ?_)
      refine fw_if_ne C dX12_parseSetup_122 (tgt := 131) rfl (fun c34 => ?_) (fun c34 => ?_)
      · have h := ite_f c34 h
        exact w_X12_parseSetup_b131 C hrt hG   _ _ h
      · have h := ite_t c34 h
        refine fw_aload_n C dX12_parseSetup_125 rfl 0 rfl ?_
        refine fw_iconst C dX12_parseSetup_126 (v := 1) rfl ?_
        obtain ⟨r47, Y49, q48, h⟩ := bd2_some h
        refine fw_callVi C (ci := 10) (Cn := RX12) (Tc := TX12) (N := 19) (As := [.int 1]) (c_X12_wrong (gac (hG _ (List.mem_of_getElem? (i := 0) rfl)) ga0) q48) (cwV 1 (cx_ts C) gX12_parseSetup_X12_wrong rfl rfl rfl (by decide +kernel) ⟨Nat.le_of_ble_eq_true rfl, Nat.le_of_ble_eq_true rfl⟩) rfl (hG _ (List.mem_of_getElem? (i := 0) rfl)) (of10_0 _) (ce10 T ad _ _) rfl (st := []) rfl (Nat.le_of_ble_eq_true rfl) ⟨Nat.le_refl 0, Nat.le_refl 0⟩ dX12_parseSetup_127 (ppw ?_)
        obtain ⟨b50, h⟩ := gd_some h
        exact fw_zret C hrt (of_decide_eq_true b50) Y49 (Option.some.inj h) (fun t ht => ht) dX12_parseSetup_130
    · have h := ite_f c31 h
      refine fw_aload_n C dX12_parseSetup_107 rfl 0 rfl ?_
      obtain ⟨r51, Y53, q52, h⟩ := bd2_some h
      refine fw_callVi C (ci := 10) (Cn := RX12) (Tc := TX12) (N := 19) (As := []) (c_X12_parsePan (gac (hG _ (List.mem_of_getElem? (i := 0) rfl)) ga0) q52) (cwV 0 (cx_ts C) gX12_parseSetup_X12_parsePan rfl rfl rfl (by decide +kernel) ⟨Nat.le_of_ble_eq_true rfl, Nat.le_of_ble_eq_true rfl⟩) rfl (hG _ (List.mem_of_getElem? (i := 0) rfl)) (of10_0 _) (ce10 T ad _ _) rfl (st := []) rfl (Nat.le_of_ble_eq_true rfl) ⟨Nat.le_refl 0, Nat.le_refl 0⟩ dX12_parseSetup_108 (ppw ?_)
      refine fw_if_ne C dX12_parseSetup_111 (tgt := 98) rfl (fun c54 => ?_) (fun c54 => ?_)
      · have h := ite_f c54 h
        exact ih _ h
      · have h := ite_t c54 h
        refine fw_iconst C dX12_parseSetup_114 (v := 0) rfl ?_
        exact fw_zret C hrt (by decide) Y53 (Option.some.inj h) (fun t ht => ht) dX12_parseSetup_115
set_option maxRecDepth 100000 in
set_option maxHeartbeats 4000000 in
theorem w_X12_parseSetup_b2  (C : Cx p s m [.ref (ad 10 0 0)].toArray meth c cX12_parseSetup 2 wsX12_parseSetup RX12 N0 T D gr ad) (hrt : meth.sig.returnType = (some .boolean)) (hG : ∀ q ∈ [(10, 0)], q ∈ gr) {res : Int32 × Mem} : ∀ (n : Nat) (Y : Mem) (l1 : Int32), X12_parseSetup_b2   n Y l1 = some res → FW p l e (Rm 8) s m [.ref (ad 10 0 0)].toArray below meth c 2 N0 T D gr ad 0 0 (MQ below (va_Qi (fun r Y1 => (r, Y1) = res) (WB T D gr ad) (fun q => N0 ≤ q)) [.ref (ad 10 0 0)].toArray s 0 0 (fun q => N0 ≤ q)) Y 2 [(1, .int l1), (0, .ref (ad 10 0 0))] [] := by
  intro n
  induction n with
  | zero =>
    intro Y l1 h
    unfold X12_parseSetup_b2 at h
    cases h
  | succ n ih =>
    intro Y l1 h
    unfold X12_parseSetup_b2 at h
    refine fw_iload_n C dX12_parseSetup_2 rfl 0 rfl ?_
    refine fw_sipush C dX12_parseSetup_3 (v := 382) rfl ?_
    refine fw_icmp_ge C dX12_parseSetup_6 (tgt := 22) rfl (fun c1 => ?_) (fun c1 => ?_)
    · have h := ite_t c1 h
      refine fw_aload_n C dX12_parseSetup_22 rfl 1 rfl ?_
      refine fw_ldcS C ((cx_st C).2.1 _ (List.mem_of_getElem? (i := 31) rfl)) dX12_parseSetup_23 ?_
      obtain ⟨r2, q3, h⟩ := bd1_some h
      refine fw_callVi C (ci := 10) (Cn := RX12) (Tc := TX12) (N := 19) (As := [.ref (ad 21 1 0)]) (c_X12_isWord (gac (hG _ (List.mem_of_getElem? (i := 0) rfl)) ga0) q3) (cwV 1 (cx_ts C) gX12_parseSetup_X12_isWord rfl rfl rfl (by decide +kernel) ⟨Nat.le_of_ble_eq_true rfl, Nat.le_of_ble_eq_true rfl⟩) rfl (hG _ (List.mem_of_getElem? (i := 0) rfl)) (of10_0 _) (ce10 T ad _ _) rfl (st := []) rfl (Nat.le_of_ble_eq_true rfl) ⟨Nat.le_refl 0, Nat.le_refl 0⟩ dX12_parseSetup_25 (pp2 ?_)
      refine fw_if_ne C dX12_parseSetup_28 (tgt := 37) rfl (fun c4 => ?_) (fun c4 => ?_)
      · have h := ite_f c4 h
        refine fw_aload_n C dX12_parseSetup_37 rfl 1 rfl ?_
        obtain ⟨Y7, q6, h⟩ := bd1_some h
        refine fw_callVv C (ci := 10) (Cn := RX12) (Tc := TX12) (N := 19) (As := []) (c_X12_token (gac (hG _ (List.mem_of_getElem? (i := 0) rfl)) ga0) q6) (cwV 0 (cx_ts C) gX12_parseSetup_X12_token rfl rfl rfl (by decide +kernel) ⟨Nat.le_of_ble_eq_true rfl, Nat.le_of_ble_eq_true rfl⟩) rfl (hG _ (List.mem_of_getElem? (i := 0) rfl)) (of10_0 _) (ce10 T ad _ _) rfl (st := []) rfl (Nat.le_of_ble_eq_true rfl) ⟨Nat.le_refl 0, Nat.le_refl 0⟩ dX12_parseSetup_38 (ppv ?_)
        refine fw_aload_n C dX12_parseSetup_41 rfl 1 rfl ?_
        refine fw_iconst C dX12_parseSetup_42 (v := 0) rfl ?_
        refine fw_iconst C dX12_parseSetup_43 (v := 1) rfl ?_
        refine fw_iconst C dX12_parseSetup_44 (v := 4) rfl ?_
        obtain ⟨r8, Y10, q9, h⟩ := bd2_some h
        refine fw_callVi C (ci := 10) (Cn := RX12) (Tc := TX12) (N := 19) (As := [.int 0, .int 1, .int 4]) (c_X12_parseRanged (gac (hG _ (List.mem_of_getElem? (i := 0) rfl)) ga0) q9) (cwV 3 (cx_ts C) gX12_parseSetup_X12_parseRanged rfl rfl rfl (by decide +kernel) ⟨Nat.le_of_ble_eq_true rfl, Nat.le_of_ble_eq_true rfl⟩) rfl (hG _ (List.mem_of_getElem? (i := 0) rfl)) (of10_0 _) (ce10 T ad _ _) rfl (st := []) rfl (Nat.le_of_ble_eq_true rfl) ⟨Nat.le_refl 0, Nat.le_refl 0⟩ dX12_parseSetup_45 (ppw ?_)
        refine fw_if_eq C dX12_parseSetup_48 (tgt := 96) rfl (fun c11 => ?_) (fun c11 => ?_)
        · have h := ite_t c11 h
          refine fw_iconst C dX12_parseSetup_96 (v := 0) rfl ?_
          exact fw_zret C hrt (by decide) Y10 (Option.some.inj h) (fun t ht => ht) dX12_parseSetup_97
        · have h := ite_f c11 h
          refine fw_aload_n C dX12_parseSetup_51 rfl 1 rfl ?_
          refine fw_iconst C dX12_parseSetup_52 (v := 1) rfl ?_
          refine fw_iconst C dX12_parseSetup_53 (v := 0) rfl ?_
          refine fw_bipush C dX12_parseSetup_54 (v := 30) rfl ?_
          obtain ⟨r12, Y14, q13, h⟩ := bd2_some h
          refine fw_callVi C (ci := 10) (Cn := RX12) (Tc := TX12) (N := 19) (As := [.int 1, .int 0, .int 30]) (c_X12_parseRanged (gac (hG _ (List.mem_of_getElem? (i := 0) rfl)) ga0) q13) (cwV 3 (cx_ts C) gX12_parseSetup_X12_parseRanged rfl rfl rfl (by decide +kernel) ⟨Nat.le_of_ble_eq_true rfl, Nat.le_of_ble_eq_true rfl⟩) rfl (hG _ (List.mem_of_getElem? (i := 0) rfl)) (of10_0 _) (ce10 T ad _ _) rfl (st := []) rfl (Nat.le_of_ble_eq_true rfl) ⟨Nat.le_refl 0, Nat.le_refl 0⟩ dX12_parseSetup_56 (ppw ?_)
          refine fw_if_eq C dX12_parseSetup_59 (tgt := 96) rfl (fun c15 => ?_) (fun c15 => ?_)
          · have h := ite_t c15 h
            refine fw_iconst C dX12_parseSetup_96 (v := 0) rfl ?_
            exact fw_zret C hrt (by decide) Y14 (Option.some.inj h) (fun t ht => ht) dX12_parseSetup_97
          · have h := ite_f c15 h
            refine fw_aload_n C dX12_parseSetup_62 rfl 1 rfl ?_
            refine fw_iconst C dX12_parseSetup_63 (v := 2) rfl ?_
            refine fw_iconst C dX12_parseSetup_64 (v := 0) rfl ?_
            refine fw_bipush C dX12_parseSetup_65 (v := 99) rfl ?_
            obtain ⟨r16, Y18, q17, h⟩ := bd2_some h
            refine fw_callVi C (ci := 10) (Cn := RX12) (Tc := TX12) (N := 19) (As := [.int 2, .int 0, .int 99]) (c_X12_parseRanged (gac (hG _ (List.mem_of_getElem? (i := 0) rfl)) ga0) q17) (cwV 3 (cx_ts C) gX12_parseSetup_X12_parseRanged rfl rfl rfl (by decide +kernel) ⟨Nat.le_of_ble_eq_true rfl, Nat.le_of_ble_eq_true rfl⟩) rfl (hG _ (List.mem_of_getElem? (i := 0) rfl)) (of10_0 _) (ce10 T ad _ _) rfl (st := []) rfl (Nat.le_of_ble_eq_true rfl) ⟨Nat.le_refl 0, Nat.le_refl 0⟩ dX12_parseSetup_67 (ppw ?_)
            refine fw_if_eq C dX12_parseSetup_70 (tgt := 96) rfl (fun c19 => ?_) (fun c19 => ?_)
            · have h := ite_t c19 h
              refine fw_iconst C dX12_parseSetup_96 (v := 0) rfl ?_
              exact fw_zret C hrt (by decide) Y18 (Option.some.inj h) (fun t ht => ht) dX12_parseSetup_97
            · have h := ite_f c19 h
              refine fw_aload_n C dX12_parseSetup_73 rfl 1 rfl ?_
              refine fw_iconst C dX12_parseSetup_74 (v := 3) rfl ?_
              refine fw_aload_n C dX12_parseSetup_75 rfl 1 rfl ?_
              refine fw_get C (ci := 10) (Cn := RX12) (Tc := TX12) (N := 19) (j := 0) ly_X12_parseSetup_12 rfl (hG _ (List.mem_of_getElem? (i := 0) rfl)) (of10_0 _) (ce10 T ad _ _) (by decide) (cx_ts C _ fl_X12_parseSetup_13) (fun _ h => h) (v := .ref (ad 10 0 1)) rfl dX12_parseSetup_76 ?_
              refine fw_iconst C dX12_parseSetup_79 (v := 2) rfl ?_
              obtain ⟨b20, h⟩ := gd_some h
              refine fw_iald2 C (hG _ (List.mem_of_getElem? (i := 0) rfl)) (of10_1 _) (ca10_1 T ad _ _) b20 (Nat.le_of_ble_eq_true rfl) dX12_parseSetup_80 ?_
              refine fw_bipush C dX12_parseSetup_81 (v := 99) rfl ?_
              obtain ⟨r21, Y23, q22, h⟩ := bd2_some h
              refine fw_callVi C (ci := 10) (Cn := RX12) (Tc := TX12) (N := 19) (As := [.int 3, .int (Y18 10 0 1 (ix 2)), .int 99]) (c_X12_parseRanged (gac (hG _ (List.mem_of_getElem? (i := 0) rfl)) ga0) q22) (cwV 3 (cx_ts C) gX12_parseSetup_X12_parseRanged rfl rfl rfl (by decide +kernel) ⟨Nat.le_of_ble_eq_true rfl, Nat.le_of_ble_eq_true rfl⟩) rfl (hG _ (List.mem_of_getElem? (i := 0) rfl)) (of10_0 _) (ce10 T ad _ _) rfl (st := []) rfl (Nat.le_of_ble_eq_true rfl) ⟨Nat.le_refl 0, Nat.le_refl 0⟩ dX12_parseSetup_83 (ppw ?_)
              refine fw_if_eq C dX12_parseSetup_86 (tgt := 96) rfl (fun c24 => ?_) (fun c24 => ?_)
              · have h := ite_t c24 h
                refine fw_iconst C dX12_parseSetup_96 (v := 0) rfl ?_
                exact fw_zret C hrt (by decide) Y23 (Option.some.inj h) (fun t ht => ht) dX12_parseSetup_97
              · have h := ite_f c24 h
                refine fw_aload_n C dX12_parseSetup_89 rfl 1 rfl ?_
                obtain ⟨r25, Y27, q26, h⟩ := bd2_some h
                refine fw_callVi C (ci := 10) (Cn := RX12) (Tc := TX12) (N := 19) (As := []) (c_X12_semicolon (gac (hG _ (List.mem_of_getElem? (i := 0) rfl)) ga0) q26) (cwV 0 (cx_ts C) gX12_parseSetup_X12_semicolon rfl rfl rfl (by decide +kernel) ⟨Nat.le_of_ble_eq_true rfl, Nat.le_of_ble_eq_true rfl⟩) rfl (hG _ (List.mem_of_getElem? (i := 0) rfl)) (of10_0 _) (ce10 T ad _ _) rfl (st := []) rfl (Nat.le_of_ble_eq_true rfl) ⟨Nat.le_refl 0, Nat.le_refl 0⟩ dX12_parseSetup_90 (ppw ?_)
                refine fw_if_ne C dX12_parseSetup_93 (tgt := 98) rfl (fun c28 => ?_) (fun c28 => ?_)
                · have h := ite_f c28 h
                  refine fw_sub [1] (L' := [(0, .ref (ad 10 0 0))]) rfl ?_
                  exact w_X12_parseSetup_b98 C hrt hG   _ _ h
                · have h := ite_t c28 h
                  refine fw_iconst C dX12_parseSetup_96 (v := 0) rfl ?_
                  exact fw_zret C hrt (by decide) Y27 (Option.some.inj h) (fun t ht => ht) dX12_parseSetup_97
      · have h := ite_t c4 h
        refine fw_aload_n C dX12_parseSetup_31 rfl 1 rfl ?_
        refine fw_iconst C dX12_parseSetup_32 (v := 1) rfl ?_
        obtain ⟨r55, Y57, q56, h⟩ := bd2_some h
        refine fw_callVi C (ci := 10) (Cn := RX12) (Tc := TX12) (N := 19) (As := [.int 1]) (c_X12_wrong (gac (hG _ (List.mem_of_getElem? (i := 0) rfl)) ga0) q56) (cwV 1 (cx_ts C) gX12_parseSetup_X12_wrong rfl rfl rfl (by decide +kernel) ⟨Nat.le_of_ble_eq_true rfl, Nat.le_of_ble_eq_true rfl⟩) rfl (hG _ (List.mem_of_getElem? (i := 0) rfl)) (of10_0 _) (ce10 T ad _ _) rfl (st := []) rfl (Nat.le_of_ble_eq_true rfl) ⟨Nat.le_refl 0, Nat.le_refl 0⟩ dX12_parseSetup_33 (ppw ?_)
        obtain ⟨b58, h⟩ := gd_some h
        exact fw_zret C hrt (of_decide_eq_true b58) Y57 (Option.some.inj h) (fun t ht => ht) dX12_parseSetup_36
    · have h := ite_f c1 h
      refine fw_aload_n C dX12_parseSetup_9 rfl 1 rfl ?_
      refine fw_get C (ci := 10) (Cn := RX12) (Tc := TX12) (N := 19) (j := 0) ly_X12_parseSetup_12 rfl (hG _ (List.mem_of_getElem? (i := 0) rfl)) (of10_0 _) (ce10 T ad _ _) (by decide) (cx_ts C _ fl_X12_parseSetup_13) (fun _ h => h) (v := .ref (ad 10 0 1)) rfl dX12_parseSetup_10 ?_
      refine fw_iload_n C dX12_parseSetup_13 rfl 0 rfl ?_
      refine fw_iconst C dX12_parseSetup_14 (v := 0) rfl ?_
      obtain ⟨b59, h⟩ := gd_some h
      obtain ⟨Y60, e61, h⟩ := lt_some h
      refine fw_iast2 C (hG _ (List.mem_of_getElem? (i := 0) rfl)) (of10_1 _) (ca10_1 T ad _) b59 (Nat.le_of_ble_eq_true rfl) dX12_parseSetup_15 ?_
      refine fw_mem e61 ?_
      refine fw_iinc C dX12_parseSetup_16 (kk := 0) (v := l1 + 1) rfl rfl (by decide) (L' := [(1, .int (l1 + 1)), (0, .ref (ad 10 0 0))]) rfl ?_
      refine fw_goto C dX12_parseSetup_19 (tgt := 2) rfl ?_
      exact ih _ _ h
set_option maxRecDepth 100000 in
set_option maxHeartbeats 4000000 in
theorem w_X12_parseSetup {Y : Mem} (C : Cx p s m [.ref (ad 10 0 0)].toArray meth c cX12_parseSetup 2 wsX12_parseSetup RX12 N0 T D gr ad) (hrt : meth.sig.returnType = (some .boolean)) (hG : ∀ q ∈ [(10, 0)], q ∈ gr) {res : Int32 × Mem} (h : X12_parseSetup Y = some res) : FW p l e (Rm 8) s m [.ref (ad 10 0 0)].toArray below meth c 2 N0 T D gr ad 0 0 (MQ below (va_Qi (fun r Y1 => (r, Y1) = res) (WB T D gr ad) (fun q => N0 ≤ q)) [.ref (ad 10 0 0)].toArray s 0 0 (fun q => N0 ≤ q)) Y 0 [(0, .ref (ad 10 0 0))] [] := by
  unfold X12_parseSetup at h
  refine fw_iconst C dX12_parseSetup_0 (v := 0) rfl ?_
  refine fw_istore_n C dX12_parseSetup_1 rfl (by decide) (L' := [(1, .int 0), (0, .ref (ad 10 0 0))]) rfl ?_
  exact w_X12_parseSetup_b2 C hrt hG   _ _ _ h
end
set_option maxRecDepth 100000 in
set_option maxHeartbeats 4000000 in
theorem c_X12_parseSetup {l : Launch} {N0 : Nat} {T : Nat → ClassId} {D : va_G} {gr : List (Nat × Nat)} {ad : Nat → Nat → Nat → Nat} {Y : Mem} {res : Int32 × Mem} (hG : ∀ q ∈ [(10, 0)], q ∈ gr) (h : X12_parseSetup Y = some res) : CI l yX12_parseSetup wsX12_parseSetup (Rm 8) N0 T D gr ad Y [.ref (ad 10 0 0)] (fun r Y1 => (r, Y1) = res) :=
  fw_body (by decide +kernel) rfl (Nat.le_of_ble_eq_true rfl) (fun p e s m below meth c C hrt => w_X12_parseSetup C hrt hG  h)
theorem ly_X12_load_12 : ∀ w ∈ u_ws RX12 TX12 19, w ∈ wsX12_load := by decide +kernel
theorem fl_X12_load_27 : Cond.fieldLink RX12 27 "RecipeSchedulerModel" "length" "I" ∈ wsX12_load := by decide +kernel
theorem fl_X12_load_21 : Cond.fieldLink RX12 21 "RecipeSchedulerModel" "undoable" "I" ∈ wsX12_load := by decide +kernel
theorem fl_X12_load_17 : Cond.fieldLink RX12 17 "RecipeSchedulerModel" "isSaved" "[Z" ∈ wsX12_load := by decide +kernel
theorem fl_X12_load_13 : Cond.fieldLink RX12 13 "RecipeSchedulerModel" "m" "[I" ∈ wsX12_load := by decide +kernel
section
variable {p : Program} {l : Launch} {e : Env} {s : State} {m : MethodId} {below : List Frame} {meth : Method} {c : Code} {N0 : Nat} {T : Nat → ClassId} {D : va_G} {gr : List (Nat × Nat)} {ad : Nat → Nat → Nat → Nat}
set_option maxRecDepth 100000 in
set_option maxHeartbeats 4000000 in
theorem w_X12_load_b42  (C : Cx p s m [.ref (ad 10 0 0)].toArray meth c cX12_load 2 wsX12_load RX12 N0 T D gr ad) (hrt : meth.sig.returnType = (some .int)) (hG : ∀ q ∈ [(10, 0)], q ∈ gr) {res : Int32 × Mem} (Y : Mem) (s0 : Int32) (h : X12_load_b42   Y s0 = some res) : FW p l e (Rm 9) s m [.ref (ad 10 0 0)].toArray below meth c 2 N0 T D gr ad 0 0 (MQ below (va_Qi (fun r Y1 => (r, Y1) = res) (WB T D gr ad) (fun q => N0 ≤ q)) [.ref (ad 10 0 0)].toArray s 0 0 (fun q => N0 ≤ q)) Y 42 [(0, .ref (ad 10 0 0))] [.int s0, .ref (ad 10 0 0)] := by
  unfold X12_load_b42 at h
  refine fw_iconst C dX12_load_42 (v := 0) rfl ?_
  refine fw_iconst C dX12_load_43 (v := 0) rfl ?_
  obtain ⟨r14, Y16, q15, h⟩ := bd2_some h
  refine fw_callVi C (ci := 10) (Cn := RX12) (Tc := TX12) (N := 19) (As := [.int s0, .int 0, .int 0]) (c_X12_fails (gac (hG _ (List.mem_of_getElem? (i := 0) rfl)) ga0) q15) (cwV 3 (cx_ts C) gX12_load_X12_fails rfl rfl rfl (by decide +kernel) ⟨Nat.le_of_ble_eq_true rfl, Nat.le_of_ble_eq_true rfl⟩) rfl (hG _ (List.mem_of_getElem? (i := 0) rfl)) (of10_0 _) (ce10 T ad _ _) rfl (st := []) rfl (Nat.le_of_ble_eq_true rfl) ⟨Nat.le_refl 0, Nat.le_refl 0⟩ dX12_load_44 (ppw ?_)
  refine fw_if_eq C dX12_load_47 (tgt := 52) rfl (fun c17 => ?_) (fun c17 => ?_)
  · have h := ite_t c17 h
    refine fw_aload_n C dX12_load_52 rfl 0 rfl ?_
    refine fw_iconst C dX12_load_53 (v := 0) rfl ?_
    obtain ⟨Y18, e19, h⟩ := lt_some h
    refine fw_put C (ci := 10) (Cn := RX12) (Tc := TX12) (N := 19) (j := 2) (ty := .int) (upd (Y16 10 0 0) 2 0) ly_X12_load_12 rfl tyX12_ok nmX12 (hG _ (List.mem_of_getElem? (i := 0) rfl)) (of10_0 _) (ce10 T ad _ _) (by decide) (cx_ts C _ fl_X12_load_21) (fun _ h => h) rfl (by decide +kernel) rfl rfl (Nat.le_of_ble_eq_true rfl) (ce10_put2 T ad _ _ _) dX12_load_54 ?_
    refine fw_mem ((up_eq _ _ _ _ _ _).symm.trans e19) ?_
    refine fw_aload_n C dX12_load_57 rfl 0 rfl ?_
    refine fw_get C (ci := 10) (Cn := RX12) (Tc := TX12) (N := 19) (j := 1) ly_X12_load_12 rfl (hG _ (List.mem_of_getElem? (i := 0) rfl)) (of10_0 _) (ce10 T ad _ _) (by decide) (cx_ts C _ fl_X12_load_17) (fun _ h => h) (v := .ref (ad 10 0 2)) rfl dX12_load_58 ?_
    refine fw_iconst C dX12_load_61 (v := 0) rfl ?_
    refine fw_iconst C dX12_load_62 (v := 0) rfl ?_
    obtain ⟨b20, h⟩ := gd_some h
    obtain ⟨Y21, e22, h⟩ := lt_some h
    refine fw_zast2 C (hG _ (List.mem_of_getElem? (i := 0) rfl)) (of10_2 _) (ca10_2 T ad _) b20 (Nat.le_of_ble_eq_true rfl) dX12_load_63 ?_
    refine fw_mem e22 ?_
    refine fw_aload_n C dX12_load_64 rfl 0 rfl ?_
    refine fw_get C (ci := 10) (Cn := RX12) (Tc := TX12) (N := 19) (j := 1) ly_X12_load_12 rfl (hG _ (List.mem_of_getElem? (i := 0) rfl)) (of10_0 _) (ce10 T ad _ _) (by decide) (cx_ts C _ fl_X12_load_17) (fun _ h => h) (v := .ref (ad 10 0 2)) rfl dX12_load_65 ?_
    refine fw_iconst C dX12_load_68 (v := 1) rfl ?_
    refine fw_iconst C dX12_load_69 (v := 0) rfl ?_
    obtain ⟨b23, h⟩ := gd_some h
    obtain ⟨Y24, e25, h⟩ := lt_some h
    refine fw_zast2 C (hG _ (List.mem_of_getElem? (i := 0) rfl)) (of10_2 _) (ca10_2 T ad _) b23 (Nat.le_of_ble_eq_true rfl) dX12_load_70 ?_
    refine fw_mem e25 ?_
    refine fw_aload_n C dX12_load_71 rfl 0 rfl ?_
    refine fw_get C (ci := 10) (Cn := RX12) (Tc := TX12) (N := 19) (j := 0) ly_X12_load_12 rfl (hG _ (List.mem_of_getElem? (i := 0) rfl)) (of10_0 _) (ce10 T ad _ _) (by decide) (cx_ts C _ fl_X12_load_13) (fun _ h => h) (v := .ref (ad 10 0 1)) rfl dX12_load_72 ?_
    refine fw_bipush C dX12_load_75 (v := 13) rfl ?_
    obtain ⟨b26, h⟩ := gd_some h
    refine fw_iald2 C (hG _ (List.mem_of_getElem? (i := 0) rfl)) (of10_1 _) (ca10_1 T ad _ _) b26 (Nat.le_of_ble_eq_true rfl) dX12_load_77 ?_
    exact fw_iret C hrt Y24 (Option.some.inj h) (fun t ht => ht) dX12_load_78
  · have h := ite_f c17 h
    refine fw_iconst C dX12_load_50 (v := 0) rfl ?_
    exact fw_iret C hrt Y16 (Option.some.inj h) (fun t ht => ht) dX12_load_51
set_option maxRecDepth 100000 in
set_option maxHeartbeats 4000000 in
theorem w_X12_load_b32  (C : Cx p s m [.ref (ad 10 0 0)].toArray meth c cX12_load 2 wsX12_load RX12 N0 T D gr ad) (hrt : meth.sig.returnType = (some .int)) (hG : ∀ q ∈ [(10, 0)], q ∈ gr) {res : Int32 × Mem} (Y : Mem) (l1 : Int32) (h : X12_load_b32   Y l1 = some res) : FW p l e (Rm 9) s m [.ref (ad 10 0 0)].toArray below meth c 2 N0 T D gr ad 0 0 (MQ below (va_Qi (fun r Y1 => (r, Y1) = res) (WB T D gr ad) (fun q => N0 ≤ q)) [.ref (ad 10 0 0)].toArray s 0 0 (fun q => N0 ≤ q)) Y 32 [(1, .int l1), (0, .ref (ad 10 0 0))] [] := by
  unfold X12_load_b32 at h
  refine fw_aload_n C dX12_load_32 rfl 1 rfl ?_
  refine fw_iload_n C dX12_load_33 rfl 0 rfl ?_
  refine fw_if_ne C dX12_load_34 (tgt := 41) rfl (fun c13 => ?_) (fun c13 => ?_)
  · have h := ite_f c13 h
    refine fw_iconst C dX12_load_41 (v := 0) rfl ?_
    refine fw_sub [1] (L' := [(0, .ref (ad 10 0 0))]) rfl ?_
    exact w_X12_load_b42 C hrt hG   _ _ h
  · have h := ite_t c13 h
    refine fw_iconst C dX12_load_37 (v := 1) rfl ?_
    refine fw_goto C dX12_load_38 (tgt := 42) rfl ?_
    refine fw_sub [1] (L' := [(0, .ref (ad 10 0 0))]) rfl ?_
    exact w_X12_load_b42 C hrt hG   _ _ h
set_option maxRecDepth 100000 in
set_option maxHeartbeats 4000000 in
theorem w_X12_load {Y : Mem} (C : Cx p s m [.ref (ad 10 0 0)].toArray meth c cX12_load 2 wsX12_load RX12 N0 T D gr ad) (hrt : meth.sig.returnType = (some .int)) (hG : ∀ q ∈ [(10, 0)], q ∈ gr) {res : Int32 × Mem} (h : X12_load Y = some res) : FW p l e (Rm 9) s m [.ref (ad 10 0 0)].toArray below meth c 2 N0 T D gr ad 0 0 (MQ below (va_Qi (fun r Y1 => (r, Y1) = res) (WB T D gr ad) (fun q => N0 ≤ q)) [.ref (ad 10 0 0)].toArray s 0 0 (fun q => N0 ≤ q)) Y 0 [(0, .ref (ad 10 0 0))] [] := by
  unfold X12_load at h
  refine fw_aload_n C dX12_load_0 rfl 0 rfl ?_
  refine fw_iconst C dX12_load_1 (v := 0) rfl ?_
  refine fw_bipush C dX12_load_2 (v := 9) rfl ?_
  obtain ⟨Y3, q2, h⟩ := bd1_some h
  refine fw_callVv C (ci := 10) (Cn := RX12) (Tc := TX12) (N := 19) (As := [.int 0, .int 9]) (c_X12_copyBlock (gac (hG _ (List.mem_of_getElem? (i := 0) rfl)) ga0) q2) (cwV 2 (cx_ts C) gX12_load_X12_copyBlock rfl rfl rfl (by decide +kernel) ⟨Nat.le_of_ble_eq_true rfl, Nat.le_of_ble_eq_true rfl⟩) rfl (hG _ (List.mem_of_getElem? (i := 0) rfl)) (of10_0 _) (ce10 T ad _ _) rfl (st := []) rfl (Nat.le_of_ble_eq_true rfl) ⟨Nat.le_refl 0, Nat.le_refl 0⟩ dX12_load_4 (ppv ?_)
  refine fw_aload_n C dX12_load_7 rfl 0 rfl ?_
  obtain ⟨Y6, q5, h⟩ := bd1_some h
  refine fw_callVv C (ci := 10) (Cn := RX12) (Tc := TX12) (N := 19) (As := []) (c_X12_begin (gac (hG _ (List.mem_of_getElem? (i := 0) rfl)) ga0) q5) (cwV 0 (cx_ts C) gX12_load_X12_begin rfl rfl rfl (by decide +kernel) ⟨Nat.le_of_ble_eq_true rfl, Nat.le_of_ble_eq_true rfl⟩) rfl (hG _ (List.mem_of_getElem? (i := 0) rfl)) (of10_0 _) (ce10 T ad _ _) rfl (st := []) rfl (Nat.le_of_ble_eq_true rfl) ⟨Nat.le_refl 0, Nat.le_refl 0⟩ dX12_load_8 (ppv ?_)
  refine fw_aload_n C dX12_load_11 rfl 0 rfl ?_
  obtain ⟨r7, Y9, q8, h⟩ := bd2_some h
  refine fw_callVi C (ci := 10) (Cn := RX12) (Tc := TX12) (N := 19) (As := []) (c_X12_parseSetup (gac (hG _ (List.mem_of_getElem? (i := 0) rfl)) ga0) q8) (cwV 0 (cx_ts C) gX12_load_X12_parseSetup rfl rfl rfl (by decide +kernel) ⟨Nat.le_of_ble_eq_true rfl, Nat.le_of_ble_eq_true rfl⟩) rfl (hG _ (List.mem_of_getElem? (i := 0) rfl)) (of10_0 _) (ce10 T ad _ _) rfl (st := []) rfl (Nat.le_of_ble_eq_true rfl) ⟨Nat.le_refl 0, Nat.le_refl 0⟩ dX12_load_12 (ppw ?_)
  refine fw_istore_n C dX12_load_15 rfl (by decide) (L' := [(1, .int r7), (0, .ref (ad 10 0 0))]) rfl ?_
  refine fw_aload_n C dX12_load_16 rfl 1 rfl ?_
  refine fw_iconst C dX12_load_17 (v := 0) rfl ?_
  obtain ⟨Y10, e11, h⟩ := lt_some h
  refine fw_put C (ci := 10) (Cn := RX12) (Tc := TX12) (N := 19) (j := 4) (ty := .int) (upd (Y9 10 0 0) 4 0) ly_X12_load_12 rfl tyX12_ok nmX12 (hG _ (List.mem_of_getElem? (i := 0) rfl)) (of10_0 _) (ce10 T ad _ _) (by decide) (cx_ts C _ fl_X12_load_27) (fun _ h => h) rfl (by decide +kernel) rfl rfl (Nat.le_of_ble_eq_true rfl) (ce10_put4 T ad _ _ _) dX12_load_18 ?_
  refine fw_mem ((up_eq _ _ _ _ _ _).symm.trans e11) ?_
  refine fw_iload_n C dX12_load_21 rfl 0 rfl ?_
  refine fw_if_ne C dX12_load_22 (tgt := 32) rfl (fun c12 => ?_) (fun c12 => ?_)
  · have h := ite_f c12 h
    exact w_X12_load_b32 C hrt hG   _ _ h
  · have h := ite_t c12 h
    refine fw_aload_n C dX12_load_25 rfl 1 rfl ?_
    refine fw_bipush C dX12_load_26 (v := 9) rfl ?_
    refine fw_iconst C dX12_load_28 (v := 0) rfl ?_
    obtain ⟨Y29, q28, h⟩ := bd1_some h
    refine fw_callVv C (ci := 10) (Cn := RX12) (Tc := TX12) (N := 19) (As := [.int 9, .int 0]) (c_X12_copyBlock (gac (hG _ (List.mem_of_getElem? (i := 0) rfl)) ga0) q28) (cwV 2 (cx_ts C) gX12_load_X12_copyBlock rfl rfl rfl (by decide +kernel) ⟨Nat.le_of_ble_eq_true rfl, Nat.le_of_ble_eq_true rfl⟩) rfl (hG _ (List.mem_of_getElem? (i := 0) rfl)) (of10_0 _) (ce10 T ad _ _) rfl (st := []) rfl (Nat.le_of_ble_eq_true rfl) ⟨Nat.le_refl 0, Nat.le_refl 0⟩ dX12_load_29 (ppv ?_)
    exact w_X12_load_b32 C hrt hG   _ _ h
end
set_option maxRecDepth 100000 in
set_option maxHeartbeats 4000000 in
theorem c_X12_load {l : Launch} {N0 : Nat} {T : Nat → ClassId} {D : va_G} {gr : List (Nat × Nat)} {ad : Nat → Nat → Nat → Nat} {Y : Mem} {res : Int32 × Mem} (hG : ∀ q ∈ [(10, 0)], q ∈ gr) (h : X12_load Y = some res) : CI l yX12_load wsX12_load (Rm 9) N0 T D gr ad Y [.ref (ad 10 0 0)] (fun r Y1 => (r, Y1) = res) :=
  fw_body (by decide +kernel) rfl (Nat.le_of_ble_eq_true rfl) (fun p e s m below meth c C hrt => w_X12_load C hrt hG  h)
theorem ly_X12_longestPath_12 : ∀ w ∈ u_ws RX12 TX12 19, w ∈ wsX12_longestPath := by decide +kernel
theorem fl_X12_longestPath_13 : Cond.fieldLink RX12 13 "RecipeSchedulerModel" "m" "[I" ∈ wsX12_longestPath := by decide +kernel
theorem fl_X12_longestPath_42 : Cond.fieldLink RX12 42 "RecipeSchedulerModel" "paths" "[I" ∈ wsX12_longestPath := by decide +kernel
section
variable {p : Program} {l : Launch} {e : Env} {s : State} {m : MethodId} {below : List Frame} {meth : Method} {c : Code} {N0 : Nat} {T : Nat → ClassId} {D : va_G} {gr : List (Nat × Nat)} {ad : Nat → Nat → Nat → Nat}
set_option maxRecDepth 100000 in
set_option maxHeartbeats 4000000 in
theorem w_X12_longestPath_b35 {Y : Mem} (C : Cx p s m [.ref (ad 10 0 0)].toArray meth c cX12_longestPath 3 wsX12_longestPath RX12 N0 T D gr ad) (hrt : meth.sig.returnType = (some .int)) (hG : ∀ q ∈ [(10, 0)], q ∈ gr) {res : Int32} {k4 : Int32 → Int32 → Option (Int32)} (hk4 : ∀ (l2 : Int32) (l1 : Int32), k4 l2 l1 = some res → FW p l e (Rm 0) s m [.ref (ad 10 0 0)].toArray below meth c 3 N0 T D gr ad 0 0 (MQ below (va_Qi (fun r Y1 => r = res ∧ Y1 = Y) (WB T D gr ad) (fun q => N0 ≤ q)) [.ref (ad 10 0 0)].toArray s 0 0 (fun q => N0 ≤ q)) Y 4 [(2, .int l2), (1, .int l1), (0, .ref (ad 10 0 0))] []) (l2 : Int32) (s0 : Int32) (h : X12_longestPath_b35 Y k4 l2 s0 = some res) : FW p l e (Rm 0) s m [.ref (ad 10 0 0)].toArray below meth c 3 N0 T D gr ad 0 0 (MQ below (va_Qi (fun r Y1 => r = res ∧ Y1 = Y) (WB T D gr ad) (fun q => N0 ≤ q)) [.ref (ad 10 0 0)].toArray s 0 0 (fun q => N0 ≤ q)) Y 35 [(2, .int l2), (0, .ref (ad 10 0 0))] [.int s0] := by
  unfold X12_longestPath_b35 at h
  refine fw_istore_n C dX12_longestPath_35 rfl (by decide) (L' := [(1, .int s0), (2, .int l2), (0, .ref (ad 10 0 0))]) rfl ?_
  refine fw_iinc C dX12_longestPath_36 (kk := 1) (v := l2 + 1) rfl rfl (by decide) (L' := [(2, .int (l2 + 1)), (1, .int s0), (0, .ref (ad 10 0 0))]) rfl ?_
  refine fw_goto C dX12_longestPath_39 (tgt := 4) rfl ?_
  exact hk4 _ _ h
set_option maxRecDepth 100000 in
set_option maxHeartbeats 4000000 in
theorem w_X12_longestPath_b4 {Y : Mem} (C : Cx p s m [.ref (ad 10 0 0)].toArray meth c cX12_longestPath 3 wsX12_longestPath RX12 N0 T D gr ad) (hrt : meth.sig.returnType = (some .int)) (hG : ∀ q ∈ [(10, 0)], q ∈ gr) {res : Int32} : ∀ (n : Nat) (l2 : Int32) (l1 : Int32), X12_longestPath_b4 Y  n l2 l1 = some res → FW p l e (Rm 0) s m [.ref (ad 10 0 0)].toArray below meth c 3 N0 T D gr ad 0 0 (MQ below (va_Qi (fun r Y1 => r = res ∧ Y1 = Y) (WB T D gr ad) (fun q => N0 ≤ q)) [.ref (ad 10 0 0)].toArray s 0 0 (fun q => N0 ≤ q)) Y 4 [(2, .int l2), (1, .int l1), (0, .ref (ad 10 0 0))] [] := by
  intro n
  induction n with
  | zero =>
    intro l2 l1 h
    unfold X12_longestPath_b4 at h
    cases h
  | succ n ih =>
    intro l2 l1 h
    unfold X12_longestPath_b4 at h
    refine fw_iload_n C dX12_longestPath_4 rfl 0 rfl ?_
    refine fw_aload_n C dX12_longestPath_5 rfl 2 rfl ?_
    refine fw_get C (ci := 10) (Cn := RX12) (Tc := TX12) (N := 19) (j := 0) ly_X12_longestPath_12 rfl (hG _ (List.mem_of_getElem? (i := 0) rfl)) (of10_0 _) (ce10 T ad _ _) (by decide) (cx_ts C _ fl_X12_longestPath_13) (fun _ h => h) (v := .ref (ad 10 0 1)) rfl dX12_longestPath_6 ?_
    refine fw_bipush C dX12_longestPath_9 (v := 13) rfl ?_
    obtain ⟨b1, h⟩ := gd_some h
    refine fw_iald2 C (hG _ (List.mem_of_getElem? (i := 0) rfl)) (of10_1 _) (ca10_1 T ad _ _) b1 (Nat.le_of_ble_eq_true rfl) dX12_longestPath_11 ?_
    refine fw_icmp_ge C dX12_longestPath_12 (tgt := 42) rfl (fun c2 => ?_) (fun c2 => ?_)
    · have h := ite_t c2 h
      refine fw_iload_n C dX12_longestPath_42 rfl 1 rfl ?_
      exact fw_iret C hrt Y ⟨Option.some.inj h, rfl⟩ (fun t ht => ht) dX12_longestPath_43
    · have h := ite_f c2 h
      refine fw_aload_n C dX12_longestPath_15 rfl 2 rfl ?_
      refine fw_get C (ci := 10) (Cn := RX12) (Tc := TX12) (N := 19) (j := 10) ly_X12_longestPath_12 rfl (hG _ (List.mem_of_getElem? (i := 0) rfl)) (of10_0 _) (ce10 T ad _ _) (by decide) (cx_ts C _ fl_X12_longestPath_42) (fun _ h => h) (v := .ref (ad 10 0 5)) rfl dX12_longestPath_16 ?_
      refine fw_iload_n C dX12_longestPath_19 rfl 0 rfl ?_
      obtain ⟨b3, h⟩ := gd_some h
      refine fw_iald2 C (hG _ (List.mem_of_getElem? (i := 0) rfl)) (of10_5 _) (ca10_5 T ad _ _) b3 (Nat.le_of_ble_eq_true rfl) dX12_longestPath_20 ?_
      refine fw_iload_n C dX12_longestPath_21 rfl 1 rfl ?_
      refine fw_icmp_le C dX12_longestPath_22 (tgt := 34) rfl (fun c4 => ?_) (fun c4 => ?_)
      · have h := ite_t c4 h
        refine fw_iload_n C dX12_longestPath_34 rfl 1 rfl ?_
        refine fw_sub [0, 2] (L' := [(2, .int l2), (0, .ref (ad 10 0 0))]) rfl ?_
        exact w_X12_longestPath_b35 C hrt hG  ih _ _ h
      · have h := ite_f c4 h
        refine fw_aload_n C dX12_longestPath_25 rfl 2 rfl ?_
        refine fw_get C (ci := 10) (Cn := RX12) (Tc := TX12) (N := 19) (j := 10) ly_X12_longestPath_12 rfl (hG _ (List.mem_of_getElem? (i := 0) rfl)) (of10_0 _) (ce10 T ad _ _) (by decide) (cx_ts C _ fl_X12_longestPath_42) (fun _ h => h) (v := .ref (ad 10 0 5)) rfl dX12_longestPath_26 ?_
        refine fw_iload_n C dX12_longestPath_29 rfl 0 rfl ?_
        refine fw_iald2 C (hG _ (List.mem_of_getElem? (i := 0) rfl)) (of10_5 _) (ca10_5 T ad _ _) b3 (Nat.le_of_ble_eq_true rfl) dX12_longestPath_30 ?_
        refine fw_goto C dX12_longestPath_31 (tgt := 35) rfl ?_
        refine fw_sub [0, 2] (L' := [(2, .int l2), (0, .ref (ad 10 0 0))]) rfl ?_
        exact w_X12_longestPath_b35 C hrt hG  ih _ _ h
set_option maxRecDepth 100000 in
set_option maxHeartbeats 4000000 in
theorem w_X12_longestPath {Y : Mem} (C : Cx p s m [.ref (ad 10 0 0)].toArray meth c cX12_longestPath 3 wsX12_longestPath RX12 N0 T D gr ad) (hrt : meth.sig.returnType = (some .int)) (hG : ∀ q ∈ [(10, 0)], q ∈ gr) {res : Int32} (h : X12_longestPath Y = some res) : FW p l e (Rm 0) s m [.ref (ad 10 0 0)].toArray below meth c 3 N0 T D gr ad 0 0 (MQ below (va_Qi (fun r Y1 => r = res ∧ Y1 = Y) (WB T D gr ad) (fun q => N0 ≤ q)) [.ref (ad 10 0 0)].toArray s 0 0 (fun q => N0 ≤ q)) Y 0 [(0, .ref (ad 10 0 0))] [] := by
  unfold X12_longestPath at h
  refine fw_iconst C dX12_longestPath_0 (v := 0) rfl ?_
  refine fw_istore_n C dX12_longestPath_1 rfl (by decide) (L' := [(1, .int 0), (0, .ref (ad 10 0 0))]) rfl ?_
  refine fw_iconst C dX12_longestPath_2 (v := 0) rfl ?_
  refine fw_istore_n C dX12_longestPath_3 rfl (by decide) (L' := [(2, .int 0), (1, .int 0), (0, .ref (ad 10 0 0))]) rfl ?_
  exact w_X12_longestPath_b4 C hrt hG   _ _ _ h
end
set_option maxRecDepth 100000 in
set_option maxHeartbeats 4000000 in
theorem c_X12_longestPath {l : Launch} {N0 : Nat} {T : Nat → ClassId} {D : va_G} {gr : List (Nat × Nat)} {ad : Nat → Nat → Nat → Nat} {Y : Mem} {res : Int32} (hG : ∀ q ∈ [(10, 0)], q ∈ gr) (h : X12_longestPath Y = some res) : CI l yX12_longestPath wsX12_longestPath (Rm 0) N0 T D gr ad Y [.ref (ad 10 0 0)] (fun r Y1 => r = res ∧ Y1 = Y) :=
  fw_body (by decide +kernel) rfl (Nat.le_of_ble_eq_true rfl) (fun p e s m below meth c C hrt => w_X12_longestPath C hrt hG  h)
theorem ly_X12_meanDuration_12 : ∀ w ∈ u_ws RX12 TX12 19, w ∈ wsX12_meanDuration := by decide +kernel
theorem fl_X12_meanDuration_1 : Cond.fieldLink RX12 1 "RecipeSchedulerModel" "thrown" "I" ∈ wsX12_meanDuration := by decide +kernel
theorem fl_X12_meanDuration_13 : Cond.fieldLink RX12 13 "RecipeSchedulerModel" "m" "[I" ∈ wsX12_meanDuration := by decide +kernel
section
variable {p : Program} {l : Launch} {e : Env} {s : State} {m : MethodId} {below : List Frame} {meth : Method} {c : Code} {N0 : Nat} {T : Nat → ClassId} {D : va_G} {gr : List (Nat × Nat)} {ad : Nat → Nat → Nat → Nat}
set_option maxRecDepth 100000 in
set_option maxHeartbeats 4000000 in
theorem w_X12_meanDuration_b9  (C : Cx p s m [.ref (ad 10 0 0)].toArray meth c cX12_meanDuration 3 wsX12_meanDuration RX12 N0 T D gr ad) (hrt : meth.sig.returnType = (some .double)) (hG : ∀ q ∈ [(10, 0)], q ∈ gr) {res : UInt64 × Mem} : ∀ (n : Nat) (Y : Mem) (l2 : Int32) (l1 : Int32), X12_meanDuration_b9   n Y l2 l1 = some res → FW p l e (Rm 1) s m [.ref (ad 10 0 0)].toArray below meth c 3 N0 T D gr ad 0 0 (MQ below (va_Qd (fun r Y1 => (r, Y1) = res) (WB T D gr ad) (fun q => N0 ≤ q)) [.ref (ad 10 0 0)].toArray s 0 0 (fun q => N0 ≤ q)) Y 9 [(2, .int l2), (1, .int l1), (0, .ref (ad 10 0 0))] [] := by
  intro n
  induction n with
  | zero =>
    intro Y l2 l1 h
    unfold X12_meanDuration_b9 at h
    cases h
  | succ n ih =>
    intro Y l2 l1 h
    unfold X12_meanDuration_b9 at h
    refine fw_iload_n C dX12_meanDuration_9 rfl 0 rfl ?_
    refine fw_aload_n C dX12_meanDuration_10 rfl 2 rfl ?_
    refine fw_get C (ci := 10) (Cn := RX12) (Tc := TX12) (N := 19) (j := 0) ly_X12_meanDuration_12 rfl (hG _ (List.mem_of_getElem? (i := 0) rfl)) (of10_0 _) (ce10 T ad _ _) (by decide) (cx_ts C _ fl_X12_meanDuration_13) (fun _ h => h) (v := .ref (ad 10 0 1)) rfl dX12_meanDuration_11 ?_
    refine fw_bipush C dX12_meanDuration_14 (v := 13) rfl ?_
    obtain ⟨b3, h⟩ := gd_some h
    refine fw_iald2 C (hG _ (List.mem_of_getElem? (i := 0) rfl)) (of10_1 _) (ca10_1 T ad _ _) b3 (Nat.le_of_ble_eq_true rfl) dX12_meanDuration_16 ?_
    refine fw_icmp_ge C dX12_meanDuration_17 (tgt := 36) rfl (fun c4 => ?_) (fun c4 => ?_)
    · have h := ite_t c4 h
      refine fw_iload_n C dX12_meanDuration_36 rfl 1 rfl ?_
      refine fw_i2d C dX12_meanDuration_37 ?_
      refine fw_aload_n C dX12_meanDuration_38 rfl 2 rfl ?_
      refine fw_get C (ci := 10) (Cn := RX12) (Tc := TX12) (N := 19) (j := 0) ly_X12_meanDuration_12 rfl (hG _ (List.mem_of_getElem? (i := 0) rfl)) (of10_0 _) (ce10 T ad _ _) (by decide) (cx_ts C _ fl_X12_meanDuration_13) (fun _ h => h) (v := .ref (ad 10 0 1)) rfl dX12_meanDuration_39 ?_
      refine fw_bipush C dX12_meanDuration_42 (v := 13) rfl ?_
      refine fw_iald2 C (hG _ (List.mem_of_getElem? (i := 0) rfl)) (of10_1 _) (ca10_1 T ad _ _) b3 (Nat.le_of_ble_eq_true rfl) dX12_meanDuration_44 ?_
      refine fw_i2d C dX12_meanDuration_45 ?_
      obtain ⟨b5, h⟩ := gd_some h
      refine fw_ddiv C (of_decide_eq_true b5) dX12_meanDuration_46 ?_
      exact fw_dret C hrt Y (Option.some.inj h) (fun t ht => ht) dX12_meanDuration_47
    · have h := ite_f c4 h
      refine fw_iload_n C dX12_meanDuration_20 rfl 1 rfl ?_
      refine fw_aload_n C dX12_meanDuration_21 rfl 2 rfl ?_
      refine fw_iload_n C dX12_meanDuration_22 rfl 0 rfl ?_
      refine fw_bipush C dX12_meanDuration_23 (v := 7) rfl ?_
      obtain ⟨r6, q7, h⟩ := bd1_some h
      refine fw_callVi C (ci := 10) (Cn := RX12) (Tc := TX12) (N := 19) (As := [.int l2, .int 7]) (c_X12_of (gac (hG _ (List.mem_of_getElem? (i := 0) rfl)) ga0) q7) (cwV 2 (cx_ts C) gX12_meanDuration_X12_of rfl rfl rfl (by decide +kernel) ⟨Nat.le_of_ble_eq_true rfl, Nat.le_of_ble_eq_true rfl⟩) rfl (hG _ (List.mem_of_getElem? (i := 0) rfl)) (of10_0 _) (ce10 T ad _ _) rfl (st := [.int l1]) rfl (Nat.le_of_ble_eq_true rfl) ⟨Nat.le_refl 0, Nat.le_refl 0⟩ dX12_meanDuration_25 (pp2 ?_)
      refine fw_iadd C dX12_meanDuration_28 ?_
      obtain ⟨v8, e9, h⟩ := lt_some h
      refine fw_top (v' := .int v8) (by rw [e9]) ?_
      refine fw_istore_n C dX12_meanDuration_29 rfl (by decide) (L' := [(1, .int v8), (2, .int l2), (0, .ref (ad 10 0 0))]) rfl ?_
      refine fw_iinc C dX12_meanDuration_30 (kk := 1) (v := l2 + 1) rfl rfl (by decide) (L' := [(2, .int (l2 + 1)), (1, .int v8), (0, .ref (ad 10 0 0))]) rfl ?_
      refine fw_goto C dX12_meanDuration_33 (tgt := 9) rfl ?_
      exact ih _ _ _ h
set_option maxRecDepth 100000 in
set_option maxHeartbeats 4000000 in
theorem w_X12_meanDuration {Y : Mem} (C : Cx p s m [.ref (ad 10 0 0)].toArray meth c cX12_meanDuration 3 wsX12_meanDuration RX12 N0 T D gr ad) (hrt : meth.sig.returnType = (some .double)) (hG : ∀ q ∈ [(10, 0)], q ∈ gr) {res : UInt64 × Mem} (h : X12_meanDuration Y = some res) : FW p l e (Rm 1) s m [.ref (ad 10 0 0)].toArray below meth c 3 N0 T D gr ad 0 0 (MQ below (va_Qd (fun r Y1 => (r, Y1) = res) (WB T D gr ad) (fun q => N0 ≤ q)) [.ref (ad 10 0 0)].toArray s 0 0 (fun q => N0 ≤ q)) Y 0 [(0, .ref (ad 10 0 0))] [] := by
  unfold X12_meanDuration at h
  refine fw_aload_n C dX12_meanDuration_0 rfl 0 rfl ?_
  refine fw_iconst C dX12_meanDuration_1 (v := 0) rfl ?_
  obtain ⟨Y1, e2, h⟩ := lt_some h
  refine fw_put C (ci := 10) (Cn := RX12) (Tc := TX12) (N := 19) (j := 9) (ty := .int) (upd (Y 10 0 0) 9 0) ly_X12_meanDuration_12 rfl tyX12_ok nmX12 (hG _ (List.mem_of_getElem? (i := 0) rfl)) (of10_0 _) (ce10 T ad _ _) (by decide) (cx_ts C _ fl_X12_meanDuration_1) (fun _ h => h) rfl (by decide +kernel) rfl rfl (Nat.le_of_ble_eq_true rfl) (ce10_put9 T ad _ _ _) dX12_meanDuration_2 ?_
  refine fw_mem ((up_eq _ _ _ _ _ _).symm.trans e2) ?_
  refine fw_iconst C dX12_meanDuration_5 (v := 0) rfl ?_
  refine fw_istore_n C dX12_meanDuration_6 rfl (by decide) (L' := [(1, .int 0), (0, .ref (ad 10 0 0))]) rfl ?_
  refine fw_iconst C dX12_meanDuration_7 (v := 0) rfl ?_
  refine fw_istore_n C dX12_meanDuration_8 rfl (by decide) (L' := [(2, .int 0), (1, .int 0), (0, .ref (ad 10 0 0))]) rfl ?_
  exact w_X12_meanDuration_b9 C hrt hG   _ _ _ _ h
end
set_option maxRecDepth 100000 in
set_option maxHeartbeats 4000000 in
theorem c_X12_meanDuration {l : Launch} {N0 : Nat} {T : Nat → ClassId} {D : va_G} {gr : List (Nat × Nat)} {ad : Nat → Nat → Nat → Nat} {Y : Mem} {res : UInt64 × Mem} (hG : ∀ q ∈ [(10, 0)], q ∈ gr) (h : X12_meanDuration Y = some res) : CD l yX12_meanDuration wsX12_meanDuration (Rm 1) N0 T D gr ad Y [.ref (ad 10 0 0)] (fun r Y1 => (r, Y1) = res) :=
  fw_body (by decide +kernel) rfl (Nat.le_of_ble_eq_true rfl) (fun p e s m below meth c C hrt => w_X12_meanDuration C hrt hG  h)
theorem ly_X12_minute_12 : ∀ w ∈ u_ws RX12 TX12 19, w ∈ wsX12_minute := by decide +kernel
theorem fl_X12_minute_13 : Cond.fieldLink RX12 13 "RecipeSchedulerModel" "m" "[I" ∈ wsX12_minute := by decide +kernel
section
variable {p : Program} {l : Launch} {e : Env} {s : State} {m : MethodId} {below : List Frame} {meth : Method} {c : Code} {N0 : Nat} {T : Nat → ClassId} {D : va_G} {gr : List (Nat × Nat)} {ad : Nat → Nat → Nat → Nat}
set_option maxRecDepth 100000 in
set_option maxHeartbeats 4000000 in
theorem w_X12_minute {Y : Mem} (C : Cx p s m [.ref (ad 10 0 0)].toArray meth c cX12_minute 1 wsX12_minute RX12 N0 T D gr ad) (hrt : meth.sig.returnType = (some .int)) (hG : ∀ q ∈ [(10, 0)], q ∈ gr) {res : Int32 × Mem} (h : X12_minute Y = some res) : FW p l e (Rm 1) s m [.ref (ad 10 0 0)].toArray below meth c 1 N0 T D gr ad 0 0 (MQ below (va_Qi (fun r Y1 => (r, Y1) = res) (WB T D gr ad) (fun q => N0 ≤ q)) [.ref (ad 10 0 0)].toArray s 0 0 (fun q => N0 ≤ q)) Y 0 [(0, .ref (ad 10 0 0))] [] := by
  unfold X12_minute at h
  refine fw_aload_n C dX12_minute_0 rfl 0 rfl ?_
  refine fw_aload_n C dX12_minute_1 rfl 0 rfl ?_
  refine fw_get C (ci := 10) (Cn := RX12) (Tc := TX12) (N := 19) (j := 0) ly_X12_minute_12 rfl (hG _ (List.mem_of_getElem? (i := 0) rfl)) (of10_0 _) (ce10 T ad _ _) (by decide) (cx_ts C _ fl_X12_minute_13) (fun _ h => h) (v := .ref (ad 10 0 1)) rfl dX12_minute_2 ?_
  refine fw_iconst C dX12_minute_5 (v := 4) rfl ?_
  obtain ⟨b1, h⟩ := gd_some h
  refine fw_iald2 C (hG _ (List.mem_of_getElem? (i := 0) rfl)) (of10_1 _) (ca10_1 T ad _ _) b1 (Nat.le_of_ble_eq_true rfl) dX12_minute_6 ?_
  obtain ⟨r2, Y4, q3, h⟩ := bd2_some h
  refine fw_callVi C (ci := 10) (Cn := RX12) (Tc := TX12) (N := 19) (As := [.int (Y 10 0 1 (ix 4))]) (c_X12_plain (gac (hG _ (List.mem_of_getElem? (i := 0) rfl)) ga0) q3) (cwV 1 (cx_ts C) gX12_minute_X12_plain rfl rfl rfl (by decide +kernel) ⟨Nat.le_of_ble_eq_true rfl, Nat.le_of_ble_eq_true rfl⟩) rfl (hG _ (List.mem_of_getElem? (i := 0) rfl)) (of10_0 _) (ce10 T ad _ _) rfl (st := []) rfl (Nat.le_of_ble_eq_true rfl) ⟨Nat.le_refl 0, Nat.le_refl 0⟩ dX12_minute_7 (ppw ?_)
  exact fw_iret C hrt Y4 (Option.some.inj h) (fun t ht => ht) dX12_minute_10
end
set_option maxRecDepth 100000 in
set_option maxHeartbeats 4000000 in
theorem c_X12_minute {l : Launch} {N0 : Nat} {T : Nat → ClassId} {D : va_G} {gr : List (Nat × Nat)} {ad : Nat → Nat → Nat → Nat} {Y : Mem} {res : Int32 × Mem} (hG : ∀ q ∈ [(10, 0)], q ∈ gr) (h : X12_minute Y = some res) : CI l yX12_minute wsX12_minute (Rm 1) N0 T D gr ad Y [.ref (ad 10 0 0)] (fun r Y1 => (r, Y1) = res) :=
  fw_body (by decide +kernel) rfl (Nat.le_of_ble_eq_true rfl) (fun p e s m below meth c C hrt => w_X12_minute C hrt hG  h)
section
variable {p : Program} {l : Launch} {e : Env} {s : State} {m : MethodId} {below : List Frame} {meth : Method} {c : Code} {N0 : Nat} {T : Nat → ClassId} {D : va_G} {gr : List (Nat × Nat)} {ad : Nat → Nat → Nat → Nat}
set_option maxRecDepth 100000 in
set_option maxHeartbeats 4000000 in
theorem w_X12_minutesToBurn_b85 {a1 : Int32} (C : Cx p s m [.ref (ad 10 0 0), .int a1].toArray meth c cX12_minutesToBurn 5 wsX12_minutesToBurn RX12 N0 T D gr ad) (hrt : meth.sig.returnType = (some .int)) (hG : ∀ q ∈ [(10, 0)], q ∈ gr) {res : Int32 × Mem} (Y : Mem) (l3 : Int32) (s0 : Int32) (h : X12_minutesToBurn_b85 a1  Y l3 s0 = some res) : FW p l e (Rm 8) s m [.ref (ad 10 0 0), .int a1].toArray below meth c 5 N0 T D gr ad 0 0 (MQ below (va_Qi (fun r Y1 => (r, Y1) = res) (WB T D gr ad) (fun q => N0 ≤ q)) [.ref (ad 10 0 0), .int a1].toArray s 0 0 (fun q => N0 ≤ q)) Y 85 [(3, .int l3), (0, .ref (ad 10 0 0))] [.int s0] := by
  unfold X12_minutesToBurn_b85 at h
  refine fw_istore C dX12_minutesToBurn_85 (by decide) (L' := [(4, .int s0), (3, .int l3), (0, .ref (ad 10 0 0))]) rfl ?_
  refine fw_aload_n C dX12_minutesToBurn_87 rfl 2 rfl ?_
  refine fw_bipush C dX12_minutesToBurn_88 (v := 9) rfl ?_
  refine fw_iconst C dX12_minutesToBurn_90 (v := 0) rfl ?_
  obtain ⟨Y19, q18, h⟩ := bd1_some h
  refine fw_callVv C (ci := 10) (Cn := RX12) (Tc := TX12) (N := 19) (As := [.int 9, .int 0]) (c_X12_copyBlock (gac (hG _ (List.mem_of_getElem? (i := 0) rfl)) ga0) q18) (cwV 2 (cx_ts C) gX12_minutesToBurn_X12_copyBlock rfl rfl rfl (by decide +kernel) ⟨Nat.le_of_ble_eq_true rfl, Nat.le_of_ble_eq_true rfl⟩) rfl (hG _ (List.mem_of_getElem? (i := 0) rfl)) (of10_0 _) (ce10 T ad _ _) rfl (st := []) rfl (Nat.le_of_ble_eq_true rfl) ⟨Nat.le_refl 0, Nat.le_refl 0⟩ dX12_minutesToBurn_91 (ppv ?_)
  refine fw_iload C dX12_minutesToBurn_94 0 rfl ?_
  refine fw_if_eq C dX12_minutesToBurn_96 (tgt := 103) rfl (fun c20 => ?_) (fun c20 => ?_)
  · have h := ite_t c20 h
    refine fw_iconst C dX12_minutesToBurn_103 (v := (-1)) rfl ?_
    exact fw_iret C hrt Y19 (Option.some.inj h) (fun t ht => ht) dX12_minutesToBurn_104
  · have h := ite_f c20 h
    refine fw_iload_n C dX12_minutesToBurn_99 rfl 1 rfl ?_
    refine fw_goto C dX12_minutesToBurn_100 (tgt := 104) rfl ?_
    exact fw_iret C hrt Y19 (Option.some.inj h) (fun t ht => ht) dX12_minutesToBurn_104
set_option maxRecDepth 100000 in
set_option maxHeartbeats 4000000 in
theorem w_X12_minutesToBurn_b69 {a1 : Int32} (C : Cx p s m [.ref (ad 10 0 0), .int a1].toArray meth c cX12_minutesToBurn 5 wsX12_minutesToBurn RX12 N0 T D gr ad) (hrt : meth.sig.returnType = (some .int)) (hG : ∀ q ∈ [(10, 0)], q ∈ gr) {res : Int32 × Mem} (Y : Mem) (l3 : Int32) (l2 : Int32) (h : X12_minutesToBurn_b69 a1  Y l3 l2 = some res) : FW p l e (Rm 8) s m [.ref (ad 10 0 0), .int a1].toArray below meth c 5 N0 T D gr ad 0 0 (MQ below (va_Qi (fun r Y1 => (r, Y1) = res) (WB T D gr ad) (fun q => N0 ≤ q)) [.ref (ad 10 0 0), .int a1].toArray s 0 0 (fun q => N0 ≤ q)) Y 69 [(3, .int l3), (2, .int l2), (0, .ref (ad 10 0 0)), (1, .int a1)] [] := by
  unfold X12_minutesToBurn_b69 at h
  refine fw_aload_n C dX12_minutesToBurn_69 rfl 2 rfl ?_
  refine fw_iload_n C dX12_minutesToBurn_70 rfl 3 rfl ?_
  refine fw_bipush C dX12_minutesToBurn_71 (v := 22) rfl ?_
  obtain ⟨r14, q15, h⟩ := bd1_some h
  refine fw_callVi C (ci := 10) (Cn := RX12) (Tc := TX12) (N := 19) (As := [.int a1, .int 22]) (c_X12_of (gac (hG _ (List.mem_of_getElem? (i := 0) rfl)) ga0) q15) (cwV 2 (cx_ts C) gX12_minutesToBurn_X12_of rfl rfl rfl (by decide +kernel) ⟨Nat.le_of_ble_eq_true rfl, Nat.le_of_ble_eq_true rfl⟩) rfl (hG _ (List.mem_of_getElem? (i := 0) rfl)) (of10_0 _) (ce10 T ad _ _) rfl (st := []) rfl (Nat.le_of_ble_eq_true rfl) ⟨Nat.le_refl 0, Nat.le_refl 0⟩ dX12_minutesToBurn_73 (pp2 ?_)
  refine fw_iload_n C dX12_minutesToBurn_76 rfl 1 rfl ?_
  refine fw_icmp_le C dX12_minutesToBurn_77 (tgt := 84) rfl (fun c16 => ?_) (fun c16 => ?_)
  · have h := ite_t c16 h
    refine fw_iconst C dX12_minutesToBurn_84 (v := 0) rfl ?_
    refine fw_sub [0, 2] (L' := [(3, .int l3), (0, .ref (ad 10 0 0))]) rfl ?_
    exact w_X12_minutesToBurn_b85 C hrt hG   _ _ _ h
  · have h := ite_f c16 h
    refine fw_iconst C dX12_minutesToBurn_80 (v := 1) rfl ?_
    refine fw_goto C dX12_minutesToBurn_81 (tgt := 85) rfl ?_
    refine fw_sub [0, 2] (L' := [(3, .int l3), (0, .ref (ad 10 0 0))]) rfl ?_
    exact w_X12_minutesToBurn_b85 C hrt hG   _ _ _ h
set_option maxRecDepth 100000 in
set_option maxHeartbeats 4000000 in
theorem w_X12_minutesToBurn_b41 {a1 : Int32} (C : Cx p s m [.ref (ad 10 0 0), .int a1].toArray meth c cX12_minutesToBurn 5 wsX12_minutesToBurn RX12 N0 T D gr ad) (hrt : meth.sig.returnType = (some .int)) (hG : ∀ q ∈ [(10, 0)], q ∈ gr) {res : Int32 × Mem} : ∀ (n : Nat) (Y : Mem) (l3 : Int32) (l2 : Int32), X12_minutesToBurn_b41 a1  n Y l3 l2 = some res → FW p l e (Rm 8) s m [.ref (ad 10 0 0), .int a1].toArray below meth c 5 N0 T D gr ad 0 0 (MQ below (va_Qi (fun r Y1 => (r, Y1) = res) (WB T D gr ad) (fun q => N0 ≤ q)) [.ref (ad 10 0 0), .int a1].toArray s 0 0 (fun q => N0 ≤ q)) Y 41 [(3, .int l3), (2, .int l2), (0, .ref (ad 10 0 0)), (1, .int a1)] [] := by
  intro n
  induction n with
  | zero =>
    intro Y l3 l2 h
    unfold X12_minutesToBurn_b41 at h
    cases h
  | succ n ih =>
    intro Y l3 l2 h
    unfold X12_minutesToBurn_b41 at h
    refine fw_iload_n C dX12_minutesToBurn_41 rfl 0 rfl ?_
    refine fw_sipush C dX12_minutesToBurn_42 (v := 500) rfl ?_
    refine fw_icmp_ge C dX12_minutesToBurn_45 (tgt := 69) rfl (fun c13 => ?_) (fun c13 => ?_)
    · have h := ite_t c13 h
      exact w_X12_minutesToBurn_b69 C hrt hG   _ _ _ h
    · have h := ite_f c13 h
      refine fw_aload_n C dX12_minutesToBurn_48 rfl 2 rfl ?_
      refine fw_iload_n C dX12_minutesToBurn_49 rfl 3 rfl ?_
      refine fw_bipush C dX12_minutesToBurn_50 (v := 22) rfl ?_
      obtain ⟨r21, q22, h⟩ := bd1_some h
      refine fw_callVi C (ci := 10) (Cn := RX12) (Tc := TX12) (N := 19) (As := [.int a1, .int 22]) (c_X12_of (gac (hG _ (List.mem_of_getElem? (i := 0) rfl)) ga0) q22) (cwV 2 (cx_ts C) gX12_minutesToBurn_X12_of rfl rfl rfl (by decide +kernel) ⟨Nat.le_of_ble_eq_true rfl, Nat.le_of_ble_eq_true rfl⟩) rfl (hG _ (List.mem_of_getElem? (i := 0) rfl)) (of10_0 _) (ce10 T ad _ _) rfl (st := []) rfl (Nat.le_of_ble_eq_true rfl) ⟨Nat.le_refl 0, Nat.le_refl 0⟩ dX12_minutesToBurn_52 (pp2 ?_)
      refine fw_iload_n C dX12_minutesToBurn_55 rfl 1 rfl ?_
      refine fw_icmp_ne C dX12_minutesToBurn_56 (tgt := 69) rfl (fun c23 => ?_) (fun c23 => ?_)
      · have h := ite_f c23 h
        exact w_X12_minutesToBurn_b69 C hrt hG   _ _ _ h
      · have h := ite_t c23 h
        refine fw_aload_n C dX12_minutesToBurn_59 rfl 2 rfl ?_
        obtain ⟨Y26, q25, h⟩ := bd1_some h
        refine fw_callVv C (ci := 10) (Cn := RX12) (Tc := TX12) (N := 19) (As := []) (c_X12_passMinute (gac (hG _ (List.mem_of_getElem? (i := 0) rfl)) ga0) q25) (cwV 0 (cx_ts C) gX12_minutesToBurn_X12_passMinute rfl rfl rfl (by decide +kernel) ⟨Nat.le_of_ble_eq_true rfl, Nat.le_of_ble_eq_true rfl⟩) rfl (hG _ (List.mem_of_getElem? (i := 0) rfl)) (of10_0 _) (ce10 T ad _ _) rfl (st := []) rfl (Nat.le_of_ble_eq_true rfl) ⟨Nat.le_refl 0, Nat.le_refl 0⟩ dX12_minutesToBurn_60 (ppv ?_)
        refine fw_iinc C dX12_minutesToBurn_63 (kk := 0) (v := l3 + 1) rfl rfl (by decide) (L' := [(3, .int (l3 + 1)), (2, .int l2), (0, .ref (ad 10 0 0)), (1, .int a1)]) rfl ?_
        refine fw_goto C dX12_minutesToBurn_66 (tgt := 41) rfl ?_
        exact ih _ _ _ h
set_option maxRecDepth 100000 in
set_option maxHeartbeats 4000000 in
theorem w_X12_minutesToBurn_b14 {a1 : Int32} (C : Cx p s m [.ref (ad 10 0 0), .int a1].toArray meth c cX12_minutesToBurn 5 wsX12_minutesToBurn RX12 N0 T D gr ad) (hrt : meth.sig.returnType = (some .int)) (hG : ∀ q ∈ [(10, 0)], q ∈ gr) {res : Int32 × Mem} (Y : Mem) (s0 : Int32) (h : X12_minutesToBurn_b14 a1  Y s0 = some res) : FW p l e (Rm 8) s m [.ref (ad 10 0 0), .int a1].toArray below meth c 5 N0 T D gr ad 0 0 (MQ below (va_Qi (fun r Y1 => (r, Y1) = res) (WB T D gr ad) (fun q => N0 ≤ q)) [.ref (ad 10 0 0), .int a1].toArray s 0 0 (fun q => N0 ≤ q)) Y 14 [(0, .ref (ad 10 0 0)), (1, .int a1)] [.int s0, .ref (ad 10 0 0)] := by
  unfold X12_minutesToBurn_b14 at h
  refine fw_iconst C dX12_minutesToBurn_14 (v := 0) rfl ?_
  refine fw_iconst C dX12_minutesToBurn_15 (v := 0) rfl ?_
  obtain ⟨r4, Y6, q5, h⟩ := bd2_some h
  refine fw_callVi C (ci := 10) (Cn := RX12) (Tc := TX12) (N := 19) (As := [.int s0, .int 0, .int 0]) (c_X12_fails (gac (hG _ (List.mem_of_getElem? (i := 0) rfl)) ga0) q5) (cwV 3 (cx_ts C) gX12_minutesToBurn_X12_fails rfl rfl rfl (by decide +kernel) ⟨Nat.le_of_ble_eq_true rfl, Nat.le_of_ble_eq_true rfl⟩) rfl (hG _ (List.mem_of_getElem? (i := 0) rfl)) (of10_0 _) (ce10 T ad _ _) rfl (st := []) rfl (Nat.le_of_ble_eq_true rfl) ⟨Nat.le_refl 0, Nat.le_refl 0⟩ dX12_minutesToBurn_16 (ppw ?_)
  refine fw_if_eq C dX12_minutesToBurn_19 (tgt := 24) rfl (fun c7 => ?_) (fun c7 => ?_)
  · have h := ite_t c7 h
    refine fw_aload_n C dX12_minutesToBurn_24 rfl 0 rfl ?_
    refine fw_iconst C dX12_minutesToBurn_25 (v := 0) rfl ?_
    refine fw_bipush C dX12_minutesToBurn_26 (v := 9) rfl ?_
    obtain ⟨Y10, q9, h⟩ := bd1_some h
    refine fw_callVv C (ci := 10) (Cn := RX12) (Tc := TX12) (N := 19) (As := [.int 0, .int 9]) (c_X12_copyBlock (gac (hG _ (List.mem_of_getElem? (i := 0) rfl)) ga0) q9) (cwV 2 (cx_ts C) gX12_minutesToBurn_X12_copyBlock rfl rfl rfl (by decide +kernel) ⟨Nat.le_of_ble_eq_true rfl, Nat.le_of_ble_eq_true rfl⟩) rfl (hG _ (List.mem_of_getElem? (i := 0) rfl)) (of10_0 _) (ce10 T ad _ _) rfl (st := []) rfl (Nat.le_of_ble_eq_true rfl) ⟨Nat.le_refl 0, Nat.le_refl 0⟩ dX12_minutesToBurn_28 (ppv ?_)
    refine fw_aload_n C dX12_minutesToBurn_31 rfl 0 rfl ?_
    refine fw_iload_n C dX12_minutesToBurn_32 rfl 1 rfl ?_
    refine fw_bipush C dX12_minutesToBurn_33 (v := 22) rfl ?_
    obtain ⟨r11, q12, h⟩ := bd1_some h
    refine fw_callVi C (ci := 10) (Cn := RX12) (Tc := TX12) (N := 19) (As := [.int a1, .int 22]) (c_X12_of (gac (hG _ (List.mem_of_getElem? (i := 0) rfl)) ga0) q12) (cwV 2 (cx_ts C) gX12_minutesToBurn_X12_of rfl rfl rfl (by decide +kernel) ⟨Nat.le_of_ble_eq_true rfl, Nat.le_of_ble_eq_true rfl⟩) rfl (hG _ (List.mem_of_getElem? (i := 0) rfl)) (of10_0 _) (ce10 T ad _ _) rfl (st := []) rfl (Nat.le_of_ble_eq_true rfl) ⟨Nat.le_refl 0, Nat.le_refl 0⟩ dX12_minutesToBurn_35 (pp2 ?_)
    refine fw_istore_n C dX12_minutesToBurn_38 rfl (by decide) (L' := [(2, .int r11), (0, .ref (ad 10 0 0)), (1, .int a1)]) rfl ?_
    refine fw_iconst C dX12_minutesToBurn_39 (v := 0) rfl ?_
    refine fw_istore_n C dX12_minutesToBurn_40 rfl (by decide) (L' := [(3, .int 0), (2, .int r11), (0, .ref (ad 10 0 0)), (1, .int a1)]) rfl ?_
    exact w_X12_minutesToBurn_b41 C hrt hG   _ _ _ _ h
  · have h := ite_f c7 h
    refine fw_iconst C dX12_minutesToBurn_22 (v := 0) rfl ?_
    exact fw_iret C hrt Y6 (Option.some.inj h) (fun t ht => ht) dX12_minutesToBurn_23
set_option maxRecDepth 100000 in
set_option maxHeartbeats 4000000 in
theorem w_X12_minutesToBurn {Y : Mem} {a1 : Int32} (C : Cx p s m [.ref (ad 10 0 0), .int a1].toArray meth c cX12_minutesToBurn 5 wsX12_minutesToBurn RX12 N0 T D gr ad) (hrt : meth.sig.returnType = (some .int)) (hG : ∀ q ∈ [(10, 0)], q ∈ gr) {res : Int32 × Mem} (h : X12_minutesToBurn Y a1 = some res) : FW p l e (Rm 8) s m [.ref (ad 10 0 0), .int a1].toArray below meth c 5 N0 T D gr ad 0 0 (MQ below (va_Qi (fun r Y1 => (r, Y1) = res) (WB T D gr ad) (fun q => N0 ≤ q)) [.ref (ad 10 0 0), .int a1].toArray s 0 0 (fun q => N0 ≤ q)) Y 0 [(0, .ref (ad 10 0 0)), (1, .int a1)] [] := by
  unfold X12_minutesToBurn at h
  refine fw_aload_n C dX12_minutesToBurn_0 rfl 0 rfl ?_
  refine fw_aload_n C dX12_minutesToBurn_1 rfl 0 rfl ?_
  refine fw_iload_n C dX12_minutesToBurn_2 rfl 1 rfl ?_
  obtain ⟨r1, q2, h⟩ := bd1_some h
  refine fw_callVi C (ci := 10) (Cn := RX12) (Tc := TX12) (N := 19) (As := [.int a1]) (c_X12_isStep (gac (hG _ (List.mem_of_getElem? (i := 0) rfl)) ga0) q2) (cwV 1 (cx_ts C) gX12_minutesToBurn_X12_isStep rfl rfl rfl (by decide +kernel) ⟨Nat.le_of_ble_eq_true rfl, Nat.le_of_ble_eq_true rfl⟩) rfl (hG _ (List.mem_of_getElem? (i := 0) rfl)) (of10_0 _) (ce10 T ad _ _) rfl (st := [.ref (ad 10 0 0)]) rfl (Nat.le_of_ble_eq_true rfl) ⟨Nat.le_refl 0, Nat.le_refl 0⟩ dX12_minutesToBurn_3 (pp2 ?_)
  refine fw_if_ne C dX12_minutesToBurn_6 (tgt := 13) rfl (fun c3 => ?_) (fun c3 => ?_)
  · have h := ite_f c3 h
    refine fw_iconst C dX12_minutesToBurn_13 (v := 0) rfl ?_
    exact w_X12_minutesToBurn_b14 C hrt hG   _ _ h
  · have h := ite_t c3 h
    refine fw_iconst C dX12_minutesToBurn_9 (v := 1) rfl ?_
    refine fw_goto C dX12_minutesToBurn_10 (tgt := 14) rfl ?_
    exact w_X12_minutesToBurn_b14 C hrt hG   _ _ h
end
set_option maxRecDepth 100000 in
set_option maxHeartbeats 4000000 in
theorem c_X12_minutesToBurn {l : Launch} {N0 : Nat} {T : Nat → ClassId} {D : va_G} {gr : List (Nat × Nat)} {ad : Nat → Nat → Nat → Nat} {Y : Mem} {a1 : Int32} {res : Int32 × Mem} (hG : ∀ q ∈ [(10, 0)], q ∈ gr) (h : X12_minutesToBurn Y a1 = some res) : CI l yX12_minutesToBurn wsX12_minutesToBurn (Rm 8) N0 T D gr ad Y [.ref (ad 10 0 0), .int a1] (fun r Y1 => (r, Y1) = res) :=
  fw_body (by decide +kernel) rfl (Nat.le_of_ble_eq_true rfl) (fun p e s m below meth c C hrt => w_X12_minutesToBurn C hrt hG  h)
theorem ly_X12_minutesToFinish_12 : ∀ w ∈ u_ws RX12 TX12 19, w ∈ wsX12_minutesToFinish := by decide +kernel
theorem fl_X12_minutesToFinish_1 : Cond.fieldLink RX12 1 "RecipeSchedulerModel" "thrown" "I" ∈ wsX12_minutesToFinish := by decide +kernel
section
variable {p : Program} {l : Launch} {e : Env} {s : State} {m : MethodId} {below : List Frame} {meth : Method} {c : Code} {N0 : Nat} {T : Nat → ClassId} {D : va_G} {gr : List (Nat × Nat)} {ad : Nat → Nat → Nat → Nat}
set_option maxRecDepth 100000 in
set_option maxHeartbeats 4000000 in
theorem w_X12_minutesToFinish {Y : Mem} (C : Cx p s m [.ref (ad 10 0 0)].toArray meth c cX12_minutesToFinish 2 wsX12_minutesToFinish RX12 N0 T D gr ad) (hrt : meth.sig.returnType = (some .int)) (hG : ∀ q ∈ [(10, 0)], q ∈ gr) {res : Int32 × Mem} (h : X12_minutesToFinish Y = some res) : FW p l e (Rm 9) s m [.ref (ad 10 0 0)].toArray below meth c 2 N0 T D gr ad 0 0 (MQ below (va_Qi (fun r Y1 => (r, Y1) = res) (WB T D gr ad) (fun q => N0 ≤ q)) [.ref (ad 10 0 0)].toArray s 0 0 (fun q => N0 ≤ q)) Y 0 [(0, .ref (ad 10 0 0))] [] := by
  unfold X12_minutesToFinish at h
  refine fw_aload_n C dX12_minutesToFinish_0 rfl 0 rfl ?_
  refine fw_iconst C dX12_minutesToFinish_1 (v := 0) rfl ?_
  obtain ⟨Y1, e2, h⟩ := lt_some h
  refine fw_put C (ci := 10) (Cn := RX12) (Tc := TX12) (N := 19) (j := 9) (ty := .int) (upd (Y 10 0 0) 9 0) ly_X12_minutesToFinish_12 rfl tyX12_ok nmX12 (hG _ (List.mem_of_getElem? (i := 0) rfl)) (of10_0 _) (ce10 T ad _ _) (by decide) (cx_ts C _ fl_X12_minutesToFinish_1) (fun _ h => h) rfl (by decide +kernel) rfl rfl (Nat.le_of_ble_eq_true rfl) (ce10_put9 T ad _ _ _) dX12_minutesToFinish_2 ?_
  refine fw_mem ((up_eq _ _ _ _ _ _).symm.trans e2) ?_
  refine fw_aload_n C dX12_minutesToFinish_5 rfl 0 rfl ?_
  refine fw_iconst C dX12_minutesToFinish_6 (v := 0) rfl ?_
  refine fw_bipush C dX12_minutesToFinish_7 (v := 9) rfl ?_
  obtain ⟨Y5, q4, h⟩ := bd1_some h
  refine fw_callVv C (ci := 10) (Cn := RX12) (Tc := TX12) (N := 19) (As := [.int 0, .int 9]) (c_X12_copyBlock (gac (hG _ (List.mem_of_getElem? (i := 0) rfl)) ga0) q4) (cwV 2 (cx_ts C) gX12_minutesToFinish_X12_copyBlock rfl rfl rfl (by decide +kernel) ⟨Nat.le_of_ble_eq_true rfl, Nat.le_of_ble_eq_true rfl⟩) rfl (hG _ (List.mem_of_getElem? (i := 0) rfl)) (of10_0 _) (ce10 T ad _ _) rfl (st := []) rfl (Nat.le_of_ble_eq_true rfl) ⟨Nat.le_refl 0, Nat.le_refl 0⟩ dX12_minutesToFinish_9 (ppv ?_)
  refine fw_aload_n C dX12_minutesToFinish_12 rfl 0 rfl ?_
  obtain ⟨r6, Y8, q7, h⟩ := bd2_some h
  refine fw_callVi C (ci := 10) (Cn := RX12) (Tc := TX12) (N := 19) (As := []) (c_X12_simulate (gac (hG _ (List.mem_of_getElem? (i := 0) rfl)) ga0) q7) (cwV 0 (cx_ts C) gX12_minutesToFinish_X12_simulate rfl rfl rfl (by decide +kernel) ⟨Nat.le_of_ble_eq_true rfl, Nat.le_of_ble_eq_true rfl⟩) rfl (hG _ (List.mem_of_getElem? (i := 0) rfl)) (of10_0 _) (ce10 T ad _ _) rfl (st := []) rfl (Nat.le_of_ble_eq_true rfl) ⟨Nat.le_refl 0, Nat.le_refl 0⟩ dX12_minutesToFinish_13 (ppw ?_)
  refine fw_istore_n C dX12_minutesToFinish_16 rfl (by decide) (L' := [(1, .int r6), (0, .ref (ad 10 0 0))]) rfl ?_
  refine fw_aload_n C dX12_minutesToFinish_17 rfl 1 rfl ?_
  refine fw_bipush C dX12_minutesToFinish_18 (v := 9) rfl ?_
  refine fw_iconst C dX12_minutesToFinish_20 (v := 0) rfl ?_
  obtain ⟨Y11, q10, h⟩ := bd1_some h
  refine fw_callVv C (ci := 10) (Cn := RX12) (Tc := TX12) (N := 19) (As := [.int 9, .int 0]) (c_X12_copyBlock (gac (hG _ (List.mem_of_getElem? (i := 0) rfl)) ga0) q10) (cwV 2 (cx_ts C) gX12_minutesToFinish_X12_copyBlock rfl rfl rfl (by decide +kernel) ⟨Nat.le_of_ble_eq_true rfl, Nat.le_of_ble_eq_true rfl⟩) rfl (hG _ (List.mem_of_getElem? (i := 0) rfl)) (of10_0 _) (ce10 T ad _ _) rfl (st := []) rfl (Nat.le_of_ble_eq_true rfl) ⟨Nat.le_refl 0, Nat.le_refl 0⟩ dX12_minutesToFinish_21 (ppv ?_)
  refine fw_iload_n C dX12_minutesToFinish_24 rfl 0 rfl ?_
  exact fw_iret C hrt Y11 (Option.some.inj h) (fun t ht => ht) dX12_minutesToFinish_25
end
set_option maxRecDepth 100000 in
set_option maxHeartbeats 4000000 in
theorem c_X12_minutesToFinish {l : Launch} {N0 : Nat} {T : Nat → ClassId} {D : va_G} {gr : List (Nat × Nat)} {ad : Nat → Nat → Nat → Nat} {Y : Mem} {res : Int32 × Mem} (hG : ∀ q ∈ [(10, 0)], q ∈ gr) (h : X12_minutesToFinish Y = some res) : CI l yX12_minutesToFinish wsX12_minutesToFinish (Rm 9) N0 T D gr ad Y [.ref (ad 10 0 0)] (fun r Y1 => (r, Y1) = res) :=
  fw_body (by decide +kernel) rfl (Nat.le_of_ble_eq_true rfl) (fun p e s m below meth c C hrt => w_X12_minutesToFinish C hrt hG  h)
