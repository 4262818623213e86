theorem ly_X12_parsePan_12 : ∀ w ∈ u_ws RX12 TX12 19, w ∈ wsX12_parsePan := by decide +kernel
theorem fl_X12_parsePan_13 : Cond.fieldLink RX12 13 "RecipeSchedulerModel" "m" "[I" ∈ wsX12_parsePan := by decide +kernel
theorem fl_X12_parsePan_60 : Cond.fieldLink RX12 60 "RecipeSchedulerModel" "from" "I" ∈ wsX12_parsePan := by decide +kernel
theorem fl_X12_parsePan_54 : Cond.fieldLink RX12 54 "RecipeSchedulerModel" "ahead" "I" ∈ wsX12_parsePan := by decide +kernel
section
variable {p : Program} {l : Launch} {e : Env} {s : State} {m : MethodId} {below : List Frame} {meth : Method} {c : Code} {N0 : Nat} {T : Nat → ClassId} {D : va_G} {gr : List (Nat × Nat)} {ad : Nat → Nat → Nat → Nat}
set_option maxRecDepth 100000 in
set_option maxHeartbeats 4000000 in
theorem w_X12_parsePan {Y : Mem} (C : Cx p s m [.ref (ad 10 0 0)].toArray meth c cX12_parsePan 2 wsX12_parsePan RX12 N0 T D gr ad) (hrt : meth.sig.returnType = (some .boolean)) (hG : ∀ q ∈ [(10, 0)], q ∈ gr) {res : Int32 × Mem} (h : X12_parsePan Y = some res) : FW p l e (Rm 3) s m [.ref (ad 10 0 0)].toArray below meth c 2 N0 T D gr ad 0 0 (MQ below (va_Qi (fun r Y1 => (r, Y1) = res) (WB T D gr ad) (fun q => N0 ≤ q)) [.ref (ad 10 0 0)].toArray s 0 0 (fun q => N0 ≤ q)) Y 0 [(0, .ref (ad 10 0 0))] [] := by
  unfold X12_parsePan at h
  refine fw_aload_n C dX12_parsePan_0 rfl 0 rfl ?_
  refine fw_get C (ci := 10) (Cn := RX12) (Tc := TX12) (N := 19) (j := 0) ly_X12_parsePan_12 rfl (hG _ (List.mem_of_getElem? (i := 0) rfl)) (of10_0 _) (ce10 T ad _ _) (by decide) (cx_ts C _ fl_X12_parsePan_13) (fun _ h => h) (v := .ref (ad 10 0 1)) rfl dX12_parsePan_1 ?_
  refine fw_bipush C dX12_parsePan_4 (v := 12) rfl ?_
  obtain ⟨b1, h⟩ := gd_some h
  refine fw_iald2 C (hG _ (List.mem_of_getElem? (i := 0) rfl)) (of10_1 _) (ca10_1 T ad _ _) b1 (Nat.le_of_ble_eq_true rfl) dX12_parsePan_6 ?_
  refine fw_iconst C dX12_parsePan_7 (v := 4) rfl ?_
  refine fw_icmp_ne C dX12_parsePan_8 (tgt := 17) rfl (fun c2 => ?_) (fun c2 => ?_)
  · have h := ite_f c2 h
    refine fw_aload_n C dX12_parsePan_17 rfl 0 rfl ?_
    obtain ⟨Y5, q4, h⟩ := bd1_some h
    refine fw_callVv C (ci := 10) (Cn := RX12) (Tc := TX12) (N := 19) (As := []) (c_X12_token (gac (hG _ (List.mem_of_getElem? (i := 0) rfl)) ga0) q4) (cwV 0 (cx_ts C) gX12_parsePan_X12_token rfl rfl rfl (by decide +kernel) ⟨Nat.le_of_ble_eq_true rfl, Nat.le_of_ble_eq_true rfl⟩) rfl (hG _ (List.mem_of_getElem? (i := 0) rfl)) (of10_0 _) (ce10 T ad _ _) rfl (st := []) rfl (Nat.le_of_ble_eq_true rfl) ⟨Nat.le_refl 0, Nat.le_refl 0⟩ dX12_parsePan_18 (ppv ?_)
    refine fw_aload_n C dX12_parsePan_21 rfl 0 rfl ?_
    obtain ⟨r6, Y8, q7, h⟩ := bd2_some h
    refine fw_callVi C (ci := 10) (Cn := RX12) (Tc := TX12) (N := 19) (As := []) (c_X12_isShortWord (gac (hG _ (List.mem_of_getElem? (i := 0) rfl)) ga0) q7) (cwV 0 (cx_ts C) gX12_parsePan_X12_isShortWord rfl rfl rfl (by decide +kernel) ⟨Nat.le_of_ble_eq_true rfl, Nat.le_of_ble_eq_true rfl⟩) rfl (hG _ (List.mem_of_getElem? (i := 0) rfl)) (of10_0 _) (ce10 T ad _ _) rfl (st := []) rfl (Nat.le_of_ble_eq_true rfl) ⟨Nat.le_refl 0, Nat.le_refl 0⟩ dX12_parsePan_22 (ppw ?_)
    refine fw_if_ne C dX12_parsePan_25 (tgt := 30) rfl (fun c9 => ?_) (fun c9 => ?_)
    · have h := ite_f c9 h
      refine fw_aload_n C dX12_parsePan_30 rfl 0 rfl ?_
      refine fw_aload_n C dX12_parsePan_31 rfl 0 rfl ?_
      refine fw_get C (ci := 10) (Cn := RX12) (Tc := TX12) (N := 19) (j := 16) ly_X12_parsePan_12 rfl (hG _ (List.mem_of_getElem? (i := 0) rfl)) (of10_0 _) (ce10 T ad _ _) (by decide) (cx_ts C _ fl_X12_parsePan_60) (fun _ h => h) (v := .int (Y8 10 0 0 16)) rfl dX12_parsePan_32 ?_
      refine fw_aload_n C dX12_parsePan_35 rfl 0 rfl ?_
      refine fw_get C (ci := 10) (Cn := RX12) (Tc := TX12) (N := 19) (j := 14) ly_X12_parsePan_12 rfl (hG _ (List.mem_of_getElem? (i := 0) rfl)) (of10_0 _) (ce10 T ad _ _) (by decide) (cx_ts C _ fl_X12_parsePan_54) (fun _ h => h) (v := .int (Y8 10 0 0 14)) rfl dX12_parsePan_36 ?_
      refine fw_aload_n C dX12_parsePan_39 rfl 0 rfl ?_
      refine fw_get C (ci := 10) (Cn := RX12) (Tc := TX12) (N := 19) (j := 16) ly_X12_parsePan_12 rfl (hG _ (List.mem_of_getElem? (i := 0) rfl)) (of10_0 _) (ce10 T ad _ _) (by decide) (cx_ts C _ fl_X12_parsePan_60) (fun _ h => h) (v := .int (Y8 10 0 0 16)) rfl dX12_parsePan_40 ?_
      refine fw_isub C dX12_parsePan_43 ?_
      obtain ⟨r10, q11, h⟩ := bd1_some h
      refine fw_callVi C (ci := 10) (Cn := RX12) (Tc := TX12) (N := 19) (As := [.int (Y8 10 0 0 16), .int ((Y8 10 0 0 14) - (Y8 10 0 0 16))]) (c_X12_panNamed (gac (hG _ (List.mem_of_getElem? (i := 0) rfl)) ga0) q11) (cwV 2 (cx_ts C) gX12_parsePan_X12_panNamed rfl rfl rfl (by decide +kernel) ⟨Nat.le_of_ble_eq_true rfl, Nat.le_of_ble_eq_true rfl⟩) rfl (hG _ (List.mem_of_getElem? (i := 0) rfl)) (of10_0 _) (ce10 T ad _ _) rfl (st := []) rfl (Nat.le_of_ble_eq_true rfl) ⟨Nat.le_refl 0, Nat.le_refl 0⟩ dX12_parsePan_44 (pp2 ?_)
      refine fw_iconst C dX12_parsePan_47 (v := (-1)) rfl ?_
      refine fw_icmp_eq C dX12_parsePan_48 (tgt := 57) rfl (fun c12 => ?_) (fun c12 => ?_)
      · have h := ite_t c12 h
        refine fw_bipush C dX12_parsePan_57 (v := 14) rfl ?_
        refine fw_aload_n C dX12_parsePan_59 rfl 0 rfl ?_
        refine fw_get C (ci := 10) (Cn := RX12) (Tc := TX12) (N := 19) (j := 0) ly_X12_parsePan_12 rfl (hG _ (List.mem_of_getElem? (i := 0) rfl)) (of10_0 _) (ce10 T ad _ _) (by decide) (cx_ts C _ fl_X12_parsePan_13) (fun _ h => h) (v := .ref (ad 10 0 1)) rfl dX12_parsePan_60 ?_
        refine fw_bipush C dX12_parsePan_63 (v := 12) rfl ?_
        refine fw_iald2 C (hG _ (List.mem_of_getElem? (i := 0) rfl)) (of10_1 _) (ca10_1 T ad _ _) b1 (Nat.le_of_ble_eq_true rfl) dX12_parsePan_65 ?_
        refine fw_bipush C dX12_parsePan_66 (v := 8) rfl ?_
        refine fw_imul C dX12_parsePan_68 ?_
        refine fw_iadd C dX12_parsePan_69 ?_
        obtain ⟨v13, e14, h⟩ := lt_some h
        refine fw_top (v' := .int v13) (by rw [e14]) ?_
        refine fw_istore_n C dX12_parsePan_70 rfl (by decide) (L' := [(1, .int v13), (0, .ref (ad 10 0 0))]) rfl ?_
        refine fw_aload_n C dX12_parsePan_71 rfl 1 rfl ?_
        refine fw_iload_n C dX12_parsePan_72 rfl 0 rfl ?_
        obtain ⟨Y17, q16, h⟩ := bd1_some h
        refine fw_callVv C (ci := 10) (Cn := RX12) (Tc := TX12) (N := 19) (As := [.int v13]) (c_X12_putName (gac (hG _ (List.mem_of_getElem? (i := 0) rfl)) ga0) q16) (cwV 1 (cx_ts C) gX12_parsePan_X12_putName rfl rfl rfl (by decide +kernel) ⟨Nat.le_of_ble_eq_true rfl, Nat.le_of_ble_eq_true rfl⟩) rfl (hG _ (List.mem_of_getElem? (i := 0) rfl)) (of10_0 _) (ce10 T ad _ _) rfl (st := []) rfl (Nat.le_of_ble_eq_true rfl) ⟨Nat.le_refl 0, Nat.le_refl 0⟩ dX12_parsePan_73 (ppv ?_)
        refine fw_aload_n C dX12_parsePan_76 rfl 1 rfl ?_
        refine fw_iload_n C dX12_parsePan_77 rfl 0 rfl ?_
        refine fw_bipush C dX12_parsePan_78 (v := 7) rfl ?_
        refine fw_iadd C dX12_parsePan_80 ?_
        refine fw_iconst C dX12_parsePan_81 (v := 1) rfl ?_
        refine fw_iconst C dX12_parsePan_82 (v := 5) rfl ?_
        obtain ⟨r18, Y20, q19, h⟩ := bd2_some h
        refine fw_callVi C (ci := 10) (Cn := RX12) (Tc := TX12) (N := 19) (As := [.int (v13 + 7), .int 1, .int 5]) (c_X12_parseRanged (gac (hG _ (List.mem_of_getElem? (i := 0) rfl)) ga0) q19) (cwV 3 (cx_ts C) gX12_parsePan_X12_parseRanged rfl rfl rfl (by decide +kernel) ⟨Nat.le_of_ble_eq_true rfl, Nat.le_of_ble_eq_true rfl⟩) rfl (hG _ (List.mem_of_getElem? (i := 0) rfl)) (of10_0 _) (ce10 T ad _ _) rfl (st := []) rfl (Nat.le_of_ble_eq_true rfl) ⟨Nat.le_refl 0, Nat.le_refl 0⟩ dX12_parsePan_83 (ppw ?_)
        refine fw_if_eq C dX12_parsePan_86 (tgt := 96) rfl (fun c21 => ?_) (fun c21 => ?_)
        · have h := ite_t c21 h
          refine fw_iconst C dX12_parsePan_96 (v := 0) rfl ?_
          exact fw_zret C hrt (by decide) Y20 (Option.some.inj h) (fun t ht => ht) dX12_parsePan_97
        · have h := ite_f c21 h
          refine fw_aload_n C dX12_parsePan_89 rfl 1 rfl ?_
          obtain ⟨r22, Y24, q23, h⟩ := bd2_some h
          refine fw_callVi C (ci := 10) (Cn := RX12) (Tc := TX12) (N := 19) (As := []) (c_X12_semicolon (gac (hG _ (List.mem_of_getElem? (i := 0) rfl)) ga0) q23) (cwV 0 (cx_ts C) gX12_parsePan_X12_semicolon rfl rfl rfl (by decide +kernel) ⟨Nat.le_of_ble_eq_true rfl, Nat.le_of_ble_eq_true rfl⟩) rfl (hG _ (List.mem_of_getElem? (i := 0) rfl)) (of10_0 _) (ce10 T ad _ _) rfl (st := []) rfl (Nat.le_of_ble_eq_true rfl) ⟨Nat.le_refl 0, Nat.le_refl 0⟩ dX12_parsePan_90 (ppw ?_)
          refine fw_if_ne C dX12_parsePan_93 (tgt := 98) rfl (fun c25 => ?_) (fun c25 => ?_)
          · have h := ite_f c25 h
            refine fw_aload_n C dX12_parsePan_98 rfl 1 rfl ?_
            refine fw_get C (ci := 10) (Cn := RX12) (Tc := TX12) (N := 19) (j := 0) ly_X12_parsePan_12 rfl (hG _ (List.mem_of_getElem? (i := 0) rfl)) (of10_0 _) (ce10 T ad _ _) (by decide) (cx_ts C _ fl_X12_parsePan_13) (fun _ h => h) (v := .ref (ad 10 0 1)) rfl dX12_parsePan_99 ?_
            refine fw_bipush C dX12_parsePan_102 (v := 12) rfl ?_
            refine fw_dup2 C dX12_parsePan_104 rfl rfl ?_
            refine fw_iald2 C (hG _ (List.mem_of_getElem? (i := 0) rfl)) (of10_1 _) (ca10_1 T ad _ _) b1 (Nat.le_of_ble_eq_true rfl) dX12_parsePan_105 ?_
            refine fw_iconst C dX12_parsePan_106 (v := 1) rfl ?_
            refine fw_iadd C dX12_parsePan_107 ?_
            obtain ⟨Y26, e27, h⟩ := lt_some h
            refine fw_iast2 C (hG _ (List.mem_of_getElem? (i := 0) rfl)) (of10_1 _) (ca10_1 T ad _) b1 (Nat.le_of_ble_eq_true rfl) dX12_parsePan_108 ?_
            refine fw_mem e27 ?_
            refine fw_iconst C dX12_parsePan_109 (v := 1) rfl ?_
            exact fw_zret C hrt (by decide) Y26 (Option.some.inj h) (fun t ht => ht) dX12_parsePan_110
          · have h := ite_t c25 h
            refine fw_iconst C dX12_parsePan_96 (v := 0) rfl ?_
            exact fw_zret C hrt (by decide) Y24 (Option.some.inj h) (fun t ht => ht) dX12_parsePan_97
      · have h := ite_f c12 h
        refine fw_aload_n C dX12_parsePan_51 rfl 0 rfl ?_
        refine fw_iconst C dX12_parsePan_52 (v := 3) rfl ?_
        obtain ⟨r28, Y30, q29, h⟩ := bd2_some h
        refine fw_callVi C (ci := 10) (Cn := RX12) (Tc := TX12) (N := 19) (As := [.int 3]) (c_X12_wrong (gac (hG _ (List.mem_of_getElem? (i := 0) rfl)) ga0) q29) (cwV 1 (cx_ts C) gX12_parsePan_X12_wrong rfl rfl rfl (by decide +kernel) ⟨Nat.le_of_ble_eq_true rfl, Nat.le_of_ble_eq_true rfl⟩) rfl (hG _ (List.mem_of_getElem? (i := 0) rfl)) (of10_0 _) (ce10 T ad _ _) rfl (st := []) rfl (Nat.le_of_ble_eq_true rfl) ⟨Nat.le_refl 0, Nat.le_refl 0⟩ dX12_parsePan_53 (ppw ?_)
        obtain ⟨b31, h⟩ := gd_some h
        exact fw_zret C hrt (of_decide_eq_true b31) Y30 (Option.some.inj h) (fun t ht => ht) dX12_parsePan_56
    · have h := ite_t c9 h
      refine fw_iconst C dX12_parsePan_28 (v := 0) rfl ?_
      exact fw_zret C hrt (by decide) Y8 (Option.some.inj h) (fun t ht => ht) dX12_parsePan_29
  · have h := ite_t c2 h
    refine fw_aload_n C dX12_parsePan_11 rfl 0 rfl ?_
    refine fw_iconst C dX12_parsePan_12 (v := 5) rfl ?_
    obtain ⟨r32, Y34, q33, h⟩ := bd2_some h
    refine fw_callVi C (ci := 10) (Cn := RX12) (Tc := TX12) (N := 19) (As := [.int 5]) (c_X12_wrong (gac (hG _ (List.mem_of_getElem? (i := 0) rfl)) ga0) q33) (cwV 1 (cx_ts C) gX12_parsePan_X12_wrong rfl rfl rfl (by decide +kernel) ⟨Nat.le_of_ble_eq_true rfl, Nat.le_of_ble_eq_true rfl⟩) rfl (hG _ (List.mem_of_getElem? (i := 0) rfl)) (of10_0 _) (ce10 T ad _ _) rfl (st := []) rfl (Nat.le_of_ble_eq_true rfl) ⟨Nat.le_refl 0, Nat.le_refl 0⟩ dX12_parsePan_13 (ppw ?_)
    obtain ⟨b35, h⟩ := gd_some h
    exact fw_zret C hrt (of_decide_eq_true b35) Y34 (Option.some.inj h) (fun t ht => ht) dX12_parsePan_16
end
set_option maxRecDepth 100000 in
set_option maxHeartbeats 4000000 in
theorem c_X12_parsePan {l : Launch} {N0 : Nat} {T : Nat → ClassId} {D : va_G} {gr : List (Nat × Nat)} {ad : Nat → Nat → Nat → Nat} {Y : Mem} {res : Int32 × Mem} (hG : ∀ q ∈ [(10, 0)], q ∈ gr) (h : X12_parsePan Y = some res) : CI l yX12_parsePan wsX12_parsePan (Rm 3) N0 T D gr ad Y [.ref (ad 10 0 0)] (fun r Y1 => (r, Y1) = res) :=
  fw_body (by decide +kernel) rfl (Nat.le_of_ble_eq_true rfl) (fun p e s m below meth c C hrt => w_X12_parsePan C hrt hG  h)
section
variable {p : Program} {l : Launch} {e : Env} {s : State} {m : MethodId} {below : List Frame} {meth : Method} {c : Code} {N0 : Nat} {T : Nat → ClassId} {D : va_G} {gr : List (Nat × Nat)} {ad : Nat → Nat → Nat → Nat}
set_option maxRecDepth 100000 in
set_option maxHeartbeats 4000000 in
theorem w_X12_takes {Y : Mem} {w1 : Nat} (C : Cx p s m [.ref (ad 10 0 0), .ref (ad 21 w1 0)].toArray meth c cX12_takes 2 wsX12_takes RX12 N0 T D gr ad) (hrt : meth.sig.returnType = (some .boolean)) (hG : ∀ q ∈ [(10, 0)], q ∈ gr) {res : Int32 × Mem} (h : X12_takes Y w1 = some res) : FW p l e (Rm 5) s m [.ref (ad 10 0 0), .ref (ad 21 w1 0)].toArray below meth c 2 N0 T D gr ad 0 0 (MQ below (va_Qi (fun r Y1 => (r, Y1) = res) (WB T D gr ad) (fun q => N0 ≤ q)) [.ref (ad 10 0 0), .ref (ad 21 w1 0)].toArray s 0 0 (fun q => N0 ≤ q)) Y 0 [(0, .ref (ad 10 0 0)), (1, .ref (ad 21 w1 0))] [] := by
  unfold X12_takes at h
  refine fw_aload_n C dX12_takes_0 rfl 0 rfl ?_
  refine fw_aload_n C dX12_takes_1 rfl 1 rfl ?_
  obtain ⟨r1, q2, h⟩ := bd1_some h
  refine fw_callVi C (ci := 10) (Cn := RX12) (Tc := TX12) (N := 19) (As := [.ref (ad 21 w1 0)]) (c_X12_isWord (gac (hG _ (List.mem_of_getElem? (i := 0) rfl)) ga0) q2) (cwV 1 (cx_ts C) gX12_takes_X12_isWord rfl rfl rfl (by decide +kernel) ⟨Nat.le_of_ble_eq_true rfl, Nat.le_of_ble_eq_true rfl⟩) rfl (hG _ (List.mem_of_getElem? (i := 0) rfl)) (of10_0 _) (ce10 T ad _ _) rfl (st := []) rfl (Nat.le_of_ble_eq_true rfl) ⟨Nat.le_refl 0, Nat.le_refl 0⟩ dX12_takes_2 (pp2 ?_)
  refine fw_if_ne C dX12_takes_5 (tgt := 10) rfl (fun c3 => ?_) (fun c3 => ?_)
  · have h := ite_f c3 h
    refine fw_aload_n C dX12_takes_10 rfl 0 rfl ?_
    obtain ⟨Y6, q5, h⟩ := bd1_some h
    refine fw_callVv C (ci := 10) (Cn := RX12) (Tc := TX12) (N := 19) (As := []) (c_X12_token (gac (hG _ (List.mem_of_getElem? (i := 0) rfl)) ga0) q5) (cwV 0 (cx_ts C) gX12_takes_X12_token rfl rfl rfl (by decide +kernel) ⟨Nat.le_of_ble_eq_true rfl, Nat.le_of_ble_eq_true rfl⟩) rfl (hG _ (List.mem_of_getElem? (i := 0) rfl)) (of10_0 _) (ce10 T ad _ _) rfl (st := []) rfl (Nat.le_of_ble_eq_true rfl) ⟨Nat.le_refl 0, Nat.le_refl 0⟩ dX12_takes_11 (ppv ?_)
    refine fw_iconst C dX12_takes_14 (v := 1) rfl ?_
    exact fw_zret C hrt (by decide) Y6 (Option.some.inj h) (fun t ht => ht) dX12_takes_15
  · have h := ite_t c3 h
    refine fw_iconst C dX12_takes_8 (v := 0) rfl ?_
    exact fw_zret C hrt (by decide) Y (Option.some.inj h) (fun t ht => ht) dX12_takes_9
end
set_option maxRecDepth 100000 in
set_option maxHeartbeats 4000000 in
theorem c_X12_takes {l : Launch} {N0 : Nat} {T : Nat → ClassId} {D : va_G} {gr : List (Nat × Nat)} {ad : Nat → Nat → Nat → Nat} {Y : Mem} {w1 : Nat} {res : Int32 × Mem} (hG : ∀ q ∈ [(10, 0)], q ∈ gr) (h : X12_takes Y w1 = some res) : CI l yX12_takes wsX12_takes (Rm 5) N0 T D gr ad Y [.ref (ad 10 0 0), .ref (ad 21 w1 0)] (fun r Y1 => (r, Y1) = res) :=
  fw_body (by decide +kernel) rfl (Nat.le_of_ble_eq_true rfl) (fun p e s m below meth c C hrt => w_X12_takes C hrt hG  h)
theorem ly_X12_parsePanType_12 : ∀ w ∈ u_ws RX12 TX12 19, w ∈ wsX12_parsePanType := by decide +kernel
theorem fl_X12_parsePanType_13 : Cond.fieldLink RX12 13 "RecipeSchedulerModel" "m" "[I" ∈ wsX12_parsePanType := by decide +kernel
theorem fl_X12_parsePanType_60 : Cond.fieldLink RX12 60 "RecipeSchedulerModel" "from" "I" ∈ wsX12_parsePanType := by decide +kernel
theorem fl_X12_parsePanType_54 : Cond.fieldLink RX12 54 "RecipeSchedulerModel" "ahead" "I" ∈ wsX12_parsePanType := by decide +kernel
section
variable {p : Program} {l : Launch} {e : Env} {s : State} {m : MethodId} {below : List Frame} {meth : Method} {c : Code} {N0 : Nat} {T : Nat → ClassId} {D : va_G} {gr : List (Nat × Nat)} {ad : Nat → Nat → Nat → Nat}
set_option maxRecDepth 100000 in
set_option maxHeartbeats 4000000 in
theorem w_X12_parsePanType {Y : Mem} {a1 : Int32} (C : Cx p s m [.ref (ad 10 0 0), .int a1].toArray meth c cX12_parsePanType 2 wsX12_parsePanType RX12 N0 T D gr ad) (hrt : meth.sig.returnType = (some .boolean)) (hG : ∀ q ∈ [(10, 0)], q ∈ gr) {res : Int32 × Mem} (h : X12_parsePanType Y a1 = some res) : FW p l e (Rm 6) s m [.ref (ad 10 0 0), .int a1].toArray below meth c 2 N0 T D gr ad 0 0 (MQ below (va_Qi (fun r Y1 => (r, Y1) = res) (WB T D gr ad) (fun q => N0 ≤ q)) [.ref (ad 10 0 0), .int a1].toArray s 0 0 (fun q => N0 ≤ q)) Y 0 [(0, .ref (ad 10 0 0)), (1, .int a1)] [] := by
  unfold X12_parsePanType at h
  refine fw_aload_n C dX12_parsePanType_0 rfl 0 rfl ?_
  refine fw_get C (ci := 10) (Cn := RX12) (Tc := TX12) (N := 19) (j := 0) ly_X12_parsePanType_12 rfl (hG _ (List.mem_of_getElem? (i := 0) rfl)) (of10_0 _) (ce10 T ad _ _) (by decide) (cx_ts C _ fl_X12_parsePanType_13) (fun _ h => h) (v := .ref (ad 10 0 1)) rfl dX12_parsePanType_1 ?_
  refine fw_iload_n C dX12_parsePanType_4 rfl 1 rfl ?_
  refine fw_bipush C dX12_parsePanType_5 (v := 9) rfl ?_
  refine fw_iadd C dX12_parsePanType_7 ?_
  refine fw_iconst C dX12_parsePanType_8 (v := (-1)) rfl ?_
  obtain ⟨b1, h⟩ := gd_some h
  obtain ⟨Y2, e3, h⟩ := lt_some h
  refine fw_iast2 C (hG _ (List.mem_of_getElem? (i := 0) rfl)) (of10_1 _) (ca10_1 T ad _) b1 (Nat.le_of_ble_eq_true rfl) dX12_parsePanType_9 ?_
  refine fw_mem e3 ?_
  refine fw_aload_n C dX12_parsePanType_10 rfl 0 rfl ?_
  refine fw_ldcS C (sr_34 (cx_st C)) dX12_parsePanType_11 ?_
  obtain ⟨r4, Y6, q5, h⟩ := bd2_some h
  refine fw_callVi C (ci := 10) (Cn := RX12) (Tc := TX12) (N := 19) (As := [.ref (ad 21 4 0)]) (c_X12_takes (gac (hG _ (List.mem_of_getElem? (i := 0) rfl)) ga0) q5) (cwV 1 (cx_ts C) gX12_parsePanType_X12_takes rfl rfl rfl (by decide +kernel) ⟨Nat.le_of_ble_eq_true rfl, Nat.le_of_ble_eq_true rfl⟩) rfl (hG _ (List.mem_of_getElem? (i := 0) rfl)) (of10_0 _) (ce10 T ad _ _) rfl (st := []) rfl (Nat.le_of_ble_eq_true rfl) ⟨Nat.le_refl 0, Nat.le_refl 0⟩ dX12_parsePanType_13 (ppw ?_)
  refine fw_if_ne C dX12_parsePanType_16 (tgt := 21) rfl (fun c7 => ?_) (fun c7 => ?_)
  · have h := ite_f c7 h
    refine fw_aload_n C dX12_parsePanType_21 rfl 0 rfl ?_
    obtain ⟨r8, Y10, q9, h⟩ := bd2_some h
    refine fw_callVi C (ci := 10) (Cn := RX12) (Tc := TX12) (N := 19) (As := []) (c_X12_isShortWord (gac (hG _ (List.mem_of_getElem? (i := 0) rfl)) ga0) q9) (cwV 0 (cx_ts C) gX12_parsePanType_X12_isShortWord rfl rfl rfl (by decide +kernel) ⟨Nat.le_of_ble_eq_true rfl, Nat.le_of_ble_eq_true rfl⟩) rfl (hG _ (List.mem_of_getElem? (i := 0) rfl)) (of10_0 _) (ce10 T ad _ _) rfl (st := []) rfl (Nat.le_of_ble_eq_true rfl) ⟨Nat.le_refl 0, Nat.le_refl 0⟩ dX12_parsePanType_22 (ppw ?_)
    refine fw_if_ne C dX12_parsePanType_25 (tgt := 30) rfl (fun c11 => ?_) (fun c11 => ?_)
    · have h := ite_f c11 h
      refine fw_aload_n C dX12_parsePanType_30 rfl 0 rfl ?_
      refine fw_get C (ci := 10) (Cn := RX12) (Tc := TX12) (N := 19) (j := 0) ly_X12_parsePanType_12 rfl (hG _ (List.mem_of_getElem? (i := 0) rfl)) (of10_0 _) (ce10 T ad _ _) (by decide) (cx_ts C _ fl_X12_parsePanType_13) (fun _ h => h) (v := .ref (ad 10 0 1)) rfl dX12_parsePanType_31 ?_
      refine fw_iload_n C dX12_parsePanType_34 rfl 1 rfl ?_
      refine fw_bipush C dX12_parsePanType_35 (v := 9) rfl ?_
      refine fw_iadd C dX12_parsePanType_37 ?_
      refine fw_aload_n C dX12_parsePanType_38 rfl 0 rfl ?_
      refine fw_aload_n C dX12_parsePanType_39 rfl 0 rfl ?_
      refine fw_get C (ci := 10) (Cn := RX12) (Tc := TX12) (N := 19) (j := 16) ly_X12_parsePanType_12 rfl (hG _ (List.mem_of_getElem? (i := 0) rfl)) (of10_0 _) (ce10 T ad _ _) (by decide) (cx_ts C _ fl_X12_parsePanType_60) (fun _ h => h) (v := .int (Y10 10 0 0 16)) rfl dX12_parsePanType_40 ?_
      refine fw_aload_n C dX12_parsePanType_43 rfl 0 rfl ?_
      refine fw_get C (ci := 10) (Cn := RX12) (Tc := TX12) (N := 19) (j := 14) ly_X12_parsePanType_12 rfl (hG _ (List.mem_of_getElem? (i := 0) rfl)) (of10_0 _) (ce10 T ad _ _) (by decide) (cx_ts C _ fl_X12_parsePanType_54) (fun _ h => h) (v := .int (Y10 10 0 0 14)) rfl dX12_parsePanType_44 ?_
      refine fw_aload_n C dX12_parsePanType_47 rfl 0 rfl ?_
      refine fw_get C (ci := 10) (Cn := RX12) (Tc := TX12) (N := 19) (j := 16) ly_X12_parsePanType_12 rfl (hG _ (List.mem_of_getElem? (i := 0) rfl)) (of10_0 _) (ce10 T ad _ _) (by decide) (cx_ts C _ fl_X12_parsePanType_60) (fun _ h => h) (v := .int (Y10 10 0 0 16)) rfl dX12_parsePanType_48 ?_
      refine fw_isub C dX12_parsePanType_51 ?_
      obtain ⟨r12, q13, h⟩ := bd1_some h
      refine fw_callVi C (ci := 10) (Cn := RX12) (Tc := TX12) (N := 19) (As := [.int (Y10 10 0 0 16), .int ((Y10 10 0 0 14) - (Y10 10 0 0 16))]) (c_X12_panNamed (gac (hG _ (List.mem_of_getElem? (i := 0) rfl)) ga0) q13) (cwV 2 (cx_ts C) gX12_parsePanType_X12_panNamed rfl rfl rfl (by decide +kernel) ⟨Nat.le_of_ble_eq_true rfl, Nat.le_of_ble_eq_true rfl⟩) rfl (hG _ (List.mem_of_getElem? (i := 0) rfl)) (of10_0 _) (ce10 T ad _ _) rfl (st := [.int (a1 + 9), .ref (ad 10 0 1)]) rfl (Nat.le_of_ble_eq_true rfl) ⟨Nat.le_refl 0, Nat.le_refl 0⟩ dX12_parsePanType_52 (pp2 ?_)
      obtain ⟨Y14, e15, h⟩ := lt_some h
      refine fw_iast2 C (hG _ (List.mem_of_getElem? (i := 0) rfl)) (of10_1 _) (ca10_1 T ad _) b1 (Nat.le_of_ble_eq_true rfl) dX12_parsePanType_55 ?_
      refine fw_mem e15 ?_
      refine fw_aload_n C dX12_parsePanType_56 rfl 0 rfl ?_
      refine fw_get C (ci := 10) (Cn := RX12) (Tc := TX12) (N := 19) (j := 0) ly_X12_parsePanType_12 rfl (hG _ (List.mem_of_getElem? (i := 0) rfl)) (of10_0 _) (ce10 T ad _ _) (by decide) (cx_ts C _ fl_X12_parsePanType_13) (fun _ h => h) (v := .ref (ad 10 0 1)) rfl dX12_parsePanType_57 ?_
      refine fw_iload_n C dX12_parsePanType_60 rfl 1 rfl ?_
      refine fw_bipush C dX12_parsePanType_61 (v := 9) rfl ?_
      refine fw_iadd C dX12_parsePanType_63 ?_
      refine fw_iald2 C (hG _ (List.mem_of_getElem? (i := 0) rfl)) (of10_1 _) (ca10_1 T ad _ _) b1 (Nat.le_of_ble_eq_true rfl) dX12_parsePanType_64 ?_
      refine fw_iconst C dX12_parsePanType_65 (v := (-1)) rfl ?_
      refine fw_icmp_ne C dX12_parsePanType_66 (tgt := 75) rfl (fun c16 => ?_) (fun c16 => ?_)
      · have h := ite_f c16 h
        refine fw_aload_n C dX12_parsePanType_75 rfl 0 rfl ?_
        obtain ⟨Y19, q18, h⟩ := bd1_some h
        refine fw_callVv C (ci := 10) (Cn := RX12) (Tc := TX12) (N := 19) (As := []) (c_X12_token (gac (hG _ (List.mem_of_getElem? (i := 0) rfl)) ga0) q18) (cwV 0 (cx_ts C) gX12_parsePanType_X12_token rfl rfl rfl (by decide +kernel) ⟨Nat.le_of_ble_eq_true rfl, Nat.le_of_ble_eq_true rfl⟩) rfl (hG _ (List.mem_of_getElem? (i := 0) rfl)) (of10_0 _) (ce10 T ad _ _) rfl (st := []) rfl (Nat.le_of_ble_eq_true rfl) ⟨Nat.le_refl 0, Nat.le_refl 0⟩ dX12_parsePanType_76 (ppv ?_)
        refine fw_iconst C dX12_parsePanType_79 (v := 1) rfl ?_
        exact fw_zret C hrt (by decide) Y19 (Option.some.inj h) (fun t ht => ht) dX12_parsePanType_80
      · have h := ite_t c16 h
        refine fw_aload_n C dX12_parsePanType_69 rfl 0 rfl ?_
        refine fw_iconst C dX12_parsePanType_70 (v := 3) rfl ?_
        obtain ⟨r20, Y22, q21, h⟩ := bd2_some h
        refine fw_callVi C (ci := 10) (Cn := RX12) (Tc := TX12) (N := 19) (As := [.int 3]) (c_X12_wrong (gac (hG _ (List.mem_of_getElem? (i := 0) rfl)) ga0) q21) (cwV 1 (cx_ts C) gX12_parsePanType_X12_wrong rfl rfl rfl (by decide +kernel) ⟨Nat.le_of_ble_eq_true rfl, Nat.le_of_ble_eq_true rfl⟩) rfl (hG _ (List.mem_of_getElem? (i := 0) rfl)) (of10_0 _) (ce10 T ad _ _) rfl (st := []) rfl (Nat.le_of_ble_eq_true rfl) ⟨Nat.le_refl 0, Nat.le_refl 0⟩ dX12_parsePanType_71 (ppw ?_)
        obtain ⟨b23, h⟩ := gd_some h
        exact fw_zret C hrt (of_decide_eq_true b23) Y22 (Option.some.inj h) (fun t ht => ht) dX12_parsePanType_74
    · have h := ite_t c11 h
      refine fw_iconst C dX12_parsePanType_28 (v := 0) rfl ?_
      exact fw_zret C hrt (by decide) Y10 (Option.some.inj h) (fun t ht => ht) dX12_parsePanType_29
  · have h := ite_t c7 h
    refine fw_iconst C dX12_parsePanType_19 (v := 1) rfl ?_
    exact fw_zret C hrt (by decide) Y6 (Option.some.inj h) (fun t ht => ht) dX12_parsePanType_20
end
set_option maxRecDepth 100000 in
set_option maxHeartbeats 4000000 in
theorem c_X12_parsePanType {l : Launch} {N0 : Nat} {T : Nat → ClassId} {D : va_G} {gr : List (Nat × Nat)} {ad : Nat → Nat → Nat → Nat} {Y : Mem} {a1 : Int32} {res : Int32 × Mem} (hG : ∀ q ∈ [(10, 0)], q ∈ gr) (h : X12_parsePanType Y a1 = some res) : CI l yX12_parsePanType wsX12_parsePanType (Rm 6) N0 T D gr ad Y [.ref (ad 10 0 0), .int a1] (fun r Y1 => (r, Y1) = res) :=
  fw_body (by decide +kernel) rfl (Nat.le_of_ble_eq_true rfl) (fun p e s m below meth c C hrt => w_X12_parsePanType C hrt hG  h)
theorem ly_X12_parsePredecessor_12 : ∀ w ∈ u_ws RX12 TX12 19, w ∈ wsX12_parsePredecessor := by decide +kernel
theorem fl_X12_parsePredecessor_60 : Cond.fieldLink RX12 60 "RecipeSchedulerModel" "from" "I" ∈ wsX12_parsePredecessor := by decide +kernel
theorem fl_X12_parsePredecessor_54 : Cond.fieldLink RX12 54 "RecipeSchedulerModel" "ahead" "I" ∈ wsX12_parsePredecessor := by decide +kernel
theorem fl_X12_parsePredecessor_13 : Cond.fieldLink RX12 13 "RecipeSchedulerModel" "m" "[I" ∈ wsX12_parsePredecessor := by decide +kernel
section
variable {p : Program} {l : Launch} {e : Env} {s : State} {m : MethodId} {below : List Frame} {meth : Method} {c : Code} {N0 : Nat} {T : Nat → ClassId} {D : va_G} {gr : List (Nat × Nat)} {ad : Nat → Nat → Nat → Nat}
set_option maxRecDepth 100000 in
set_option maxHeartbeats 4000000 in
theorem w_X12_parsePredecessor_b40 {a1 : Int32} (C : Cx p s m [.ref (ad 10 0 0), .int a1].toArray meth c cX12_parsePredecessor 4 wsX12_parsePredecessor RX12 N0 T D gr ad) (hrt : meth.sig.returnType = (some .boolean)) (hG : ∀ q ∈ [(10, 0)], q ∈ gr) {res : Int32 × Mem} : ∀ (n : Nat) (Y : Mem) (l3 : Int32) (l2 : Int32), X12_parsePredecessor_b40 a1  n Y l3 l2 = some res → FW p l e (Rm 2) s m [.ref (ad 10 0 0), .int a1].toArray below meth c 4 N0 T D gr ad 0 0 (MQ below (va_Qi (fun r Y1 => (r, Y1) = res) (WB T D gr ad) (fun q => N0 ≤ q)) [.ref (ad 10 0 0), .int a1].toArray s 0 0 (fun q => N0 ≤ q)) Y 40 [(3, .int l3), (2, .int l2), (0, .ref (ad 10 0 0)), (1, .int a1)] [] := by
  intro n
  induction n with
  | zero =>
    intro Y l3 l2 h
    unfold X12_parsePredecessor_b40 at h
    cases h
  | succ n ih =>
    intro Y l3 l2 h
    unfold X12_parsePredecessor_b40 at h
    refine fw_iload_n C dX12_parsePredecessor_40 rfl 0 rfl ?_
    refine fw_aload_n C dX12_parsePredecessor_41 rfl 2 rfl ?_
    refine fw_get C (ci := 10) (Cn := RX12) (Tc := TX12) (N := 19) (j := 0) ly_X12_parsePredecessor_12 rfl (hG _ (List.mem_of_getElem? (i := 0) rfl)) (of10_0 _) (ce10 T ad _ _) (by decide) (cx_ts C _ fl_X12_parsePredecessor_13) (fun _ h => h) (v := .ref (ad 10 0 1)) rfl dX12_parsePredecessor_42 ?_
    refine fw_iload_n C dX12_parsePredecessor_45 rfl 3 rfl ?_
    refine fw_bipush C dX12_parsePredecessor_46 (v := 12) rfl ?_
    refine fw_iadd C dX12_parsePredecessor_48 ?_
    obtain ⟨b8, h⟩ := gd_some h
    refine fw_iald2 C (hG _ (List.mem_of_getElem? (i := 0) rfl)) (of10_1 _) (ca10_1 T ad _ _) b8 (Nat.le_of_ble_eq_true rfl) dX12_parsePredecessor_49 ?_
    refine fw_icmp_ge C dX12_parsePredecessor_50 (tgt := 80) rfl (fun c9 => ?_) (fun c9 => ?_)
    · have h := ite_t c9 h
      refine fw_aload_n C dX12_parsePredecessor_80 rfl 2 rfl ?_
      refine fw_get C (ci := 10) (Cn := RX12) (Tc := TX12) (N := 19) (j := 0) ly_X12_parsePredecessor_12 rfl (hG _ (List.mem_of_getElem? (i := 0) rfl)) (of10_0 _) (ce10 T ad _ _) (by decide) (cx_ts C _ fl_X12_parsePredecessor_13) (fun _ h => h) (v := .ref (ad 10 0 1)) rfl dX12_parsePredecessor_81 ?_
      refine fw_iload_n C dX12_parsePredecessor_84 rfl 3 rfl ?_
      refine fw_bipush C dX12_parsePredecessor_85 (v := 12) rfl ?_
      refine fw_iadd C dX12_parsePredecessor_87 ?_
      refine fw_iald2 C (hG _ (List.mem_of_getElem? (i := 0) rfl)) (of10_1 _) (ca10_1 T ad _ _) b8 (Nat.le_of_ble_eq_true rfl) dX12_parsePredecessor_88 ?_
      refine fw_iconst C dX12_parsePredecessor_89 (v := 4) rfl ?_
      refine fw_icmp_ne C dX12_parsePredecessor_90 (tgt := 99) rfl (fun c10 => ?_) (fun c10 => ?_)
      · have h := ite_f c10 h
        refine fw_aload_n C dX12_parsePredecessor_99 rfl 2 rfl ?_
        refine fw_get C (ci := 10) (Cn := RX12) (Tc := TX12) (N := 19) (j := 0) ly_X12_parsePredecessor_12 rfl (hG _ (List.mem_of_getElem? (i := 0) rfl)) (of10_0 _) (ce10 T ad _ _) (by decide) (cx_ts C _ fl_X12_parsePredecessor_13) (fun _ h => h) (v := .ref (ad 10 0 1)) rfl dX12_parsePredecessor_100 ?_
        refine fw_iload_n C dX12_parsePredecessor_103 rfl 3 rfl ?_
        refine fw_bipush C dX12_parsePredecessor_104 (v := 13) rfl ?_
        refine fw_iadd C dX12_parsePredecessor_106 ?_
        refine fw_aload_n C dX12_parsePredecessor_107 rfl 2 rfl ?_
        refine fw_get C (ci := 10) (Cn := RX12) (Tc := TX12) (N := 19) (j := 0) ly_X12_parsePredecessor_12 rfl (hG _ (List.mem_of_getElem? (i := 0) rfl)) (of10_0 _) (ce10 T ad _ _) (by decide) (cx_ts C _ fl_X12_parsePredecessor_13) (fun _ h => h) (v := .ref (ad 10 0 1)) rfl dX12_parsePredecessor_108 ?_
        refine fw_iload_n C dX12_parsePredecessor_111 rfl 3 rfl ?_
        refine fw_bipush C dX12_parsePredecessor_112 (v := 12) rfl ?_
        refine fw_iadd C dX12_parsePredecessor_114 ?_
        refine fw_iald2 C (hG _ (List.mem_of_getElem? (i := 0) rfl)) (of10_1 _) (ca10_1 T ad _ _) b8 (Nat.le_of_ble_eq_true rfl) dX12_parsePredecessor_115 ?_
        refine fw_iadd C dX12_parsePredecessor_116 ?_
        refine fw_iload_n C dX12_parsePredecessor_117 rfl 1 rfl ?_
        obtain ⟨b11, h⟩ := gd_some h
        obtain ⟨Y12, e13, h⟩ := lt_some h
        refine fw_iast2 C (hG _ (List.mem_of_getElem? (i := 0) rfl)) (of10_1 _) (ca10_1 T ad _) b11 (Nat.le_of_ble_eq_true rfl) dX12_parsePredecessor_118 ?_
        refine fw_mem e13 ?_
        refine fw_aload_n C dX12_parsePredecessor_119 rfl 2 rfl ?_
        refine fw_get C (ci := 10) (Cn := RX12) (Tc := TX12) (N := 19) (j := 0) ly_X12_parsePredecessor_12 rfl (hG _ (List.mem_of_getElem? (i := 0) rfl)) (of10_0 _) (ce10 T ad _ _) (by decide) (cx_ts C _ fl_X12_parsePredecessor_13) (fun _ h => h) (v := .ref (ad 10 0 1)) rfl dX12_parsePredecessor_120 ?_
        refine fw_iload_n C dX12_parsePredecessor_123 rfl 3 rfl ?_
        refine fw_bipush C dX12_parsePredecessor_124 (v := 12) rfl ?_
        refine fw_iadd C dX12_parsePredecessor_126 ?_
        refine fw_dup2 C dX12_parsePredecessor_127 rfl rfl ?_
        refine fw_iald2 C (hG _ (List.mem_of_getElem? (i := 0) rfl)) (of10_1 _) (ca10_1 T ad _ _) b8 (Nat.le_of_ble_eq_true rfl) dX12_parsePredecessor_128 ?_
        refine fw_iconst C dX12_parsePredecessor_129 (v := 1) rfl ?_
        refine fw_iadd C dX12_parsePredecessor_130 ?_
        obtain ⟨Y14, e15, h⟩ := lt_some h
        refine fw_iast2 C (hG _ (List.mem_of_getElem? (i := 0) rfl)) (of10_1 _) (ca10_1 T ad _) b8 (Nat.le_of_ble_eq_true rfl) dX12_parsePredecessor_131 ?_
        refine fw_mem e15 ?_
        refine fw_aload_n C dX12_parsePredecessor_132 rfl 2 rfl ?_
        obtain ⟨Y18, q17, h⟩ := bd1_some h
        refine fw_callVv C (ci := 10) (Cn := RX12) (Tc := TX12) (N := 19) (As := []) (c_X12_token (gac (hG _ (List.mem_of_getElem? (i := 0) rfl)) ga0) q17) (cwV 0 (cx_ts C) gX12_parsePredecessor_X12_token rfl rfl rfl (by decide +kernel) ⟨Nat.le_of_ble_eq_true rfl, Nat.le_of_ble_eq_true rfl⟩) rfl (hG _ (List.mem_of_getElem? (i := 0) rfl)) (of10_0 _) (ce10 T ad _ _) rfl (st := []) rfl (Nat.le_of_ble_eq_true rfl) ⟨Nat.le_refl 0, Nat.le_refl 0⟩ dX12_parsePredecessor_133 (ppv ?_)
        refine fw_iconst C dX12_parsePredecessor_136 (v := 1) rfl ?_
        exact fw_zret C hrt (by decide) Y18 (Option.some.inj h) (fun t ht => ht) dX12_parsePredecessor_137
      · have h := ite_t c10 h
        refine fw_aload_n C dX12_parsePredecessor_93 rfl 2 rfl ?_
        refine fw_iconst C dX12_parsePredecessor_94 (v := 5) rfl ?_
        obtain ⟨r19, Y21, q20, h⟩ := bd2_some h
        refine fw_callVi C (ci := 10) (Cn := RX12) (Tc := TX12) (N := 19) (As := [.int 5]) (c_X12_wrong (gac (hG _ (List.mem_of_getElem? (i := 0) rfl)) ga0) q20) (cwV 1 (cx_ts C) gX12_parsePredecessor_X12_wrong rfl rfl rfl (by decide +kernel) ⟨Nat.le_of_ble_eq_true rfl, Nat.le_of_ble_eq_true rfl⟩) rfl (hG _ (List.mem_of_getElem? (i := 0) rfl)) (of10_0 _) (ce10 T ad _ _) rfl (st := []) rfl (Nat.le_of_ble_eq_true rfl) ⟨Nat.le_refl 0, Nat.le_refl 0⟩ dX12_parsePredecessor_95 (ppw ?_)
        obtain ⟨b22, h⟩ := gd_some h
        exact fw_zret C hrt (of_decide_eq_true b22) Y21 (Option.some.inj h) (fun t ht => ht) dX12_parsePredecessor_98
    · have h := ite_f c9 h
      refine fw_aload_n C dX12_parsePredecessor_53 rfl 2 rfl ?_
      refine fw_get C (ci := 10) (Cn := RX12) (Tc := TX12) (N := 19) (j := 0) ly_X12_parsePredecessor_12 rfl (hG _ (List.mem_of_getElem? (i := 0) rfl)) (of10_0 _) (ce10 T ad _ _) (by decide) (cx_ts C _ fl_X12_parsePredecessor_13) (fun _ h => h) (v := .ref (ad 10 0 1)) rfl dX12_parsePredecessor_54 ?_
      refine fw_iload_n C dX12_parsePredecessor_57 rfl 3 rfl ?_
      refine fw_bipush C dX12_parsePredecessor_58 (v := 13) rfl ?_
      refine fw_iadd C dX12_parsePredecessor_60 ?_
      refine fw_iload_n C dX12_parsePredecessor_61 rfl 0 rfl ?_
      refine fw_iadd C dX12_parsePredecessor_62 ?_
      obtain ⟨b23, h⟩ := gd_some h
      refine fw_iald2 C (hG _ (List.mem_of_getElem? (i := 0) rfl)) (of10_1 _) (ca10_1 T ad _ _) b23 (Nat.le_of_ble_eq_true rfl) dX12_parsePredecessor_63 ?_
      refine fw_iload_n C dX12_parsePredecessor_64 rfl 1 rfl ?_
      refine fw_icmp_ne C dX12_parsePredecessor_65 (tgt := 74) rfl (fun c24 => ?_) (fun c24 => ?_)
      · have h := ite_f c24 h
        refine fw_iinc C dX12_parsePredecessor_74 (kk := 0) (v := l3 + 1) rfl rfl (by decide) (L' := [(3, .int (l3 + 1)), (2, .int l2), (0, .ref (ad 10 0 0)), (1, .int a1)]) rfl ?_
        refine fw_goto C dX12_parsePredecessor_77 (tgt := 40) rfl ?_
        exact ih _ _ _ h
      · have h := ite_t c24 h
        refine fw_aload_n C dX12_parsePredecessor_68 rfl 2 rfl ?_
        refine fw_iconst C dX12_parsePredecessor_69 (v := 4) rfl ?_
        obtain ⟨r25, Y27, q26, h⟩ := bd2_some h
        refine fw_callVi C (ci := 10) (Cn := RX12) (Tc := TX12) (N := 19) (As := [.int 4]) (c_X12_wrong (gac (hG _ (List.mem_of_getElem? (i := 0) rfl)) ga0) q26) (cwV 1 (cx_ts C) gX12_parsePredecessor_X12_wrong rfl rfl rfl (by decide +kernel) ⟨Nat.le_of_ble_eq_true rfl, Nat.le_of_ble_eq_true rfl⟩) rfl (hG _ (List.mem_of_getElem? (i := 0) rfl)) (of10_0 _) (ce10 T ad _ _) rfl (st := []) rfl (Nat.le_of_ble_eq_true rfl) ⟨Nat.le_refl 0, Nat.le_refl 0⟩ dX12_parsePredecessor_70 (ppw ?_)
        obtain ⟨b28, h⟩ := gd_some h
        exact fw_zret C hrt (of_decide_eq_true b28) Y27 (Option.some.inj h) (fun t ht => ht) dX12_parsePredecessor_73
set_option maxRecDepth 100000 in
set_option maxHeartbeats 4000000 in
theorem w_X12_parsePredecessor {Y : Mem} {a1 : Int32} (C : Cx p s m [.ref (ad 10 0 0), .int a1].toArray meth c cX12_parsePredecessor 4 wsX12_parsePredecessor RX12 N0 T D gr ad) (hrt : meth.sig.returnType = (some .boolean)) (hG : ∀ q ∈ [(10, 0)], q ∈ gr) {res : Int32 × Mem} (h : X12_parsePredecessor Y a1 = some res) : FW p l e (Rm 2) s m [.ref (ad 10 0 0), .int a1].toArray below meth c 4 N0 T D gr ad 0 0 (MQ below (va_Qi (fun r Y1 => (r, Y1) = res) (WB T D gr ad) (fun q => N0 ≤ q)) [.ref (ad 10 0 0), .int a1].toArray s 0 0 (fun q => N0 ≤ q)) Y 0 [(0, .ref (ad 10 0 0)), (1, .int a1)] [] := by
  unfold X12_parsePredecessor at h
  refine fw_aload_n C dX12_parsePredecessor_0 rfl 0 rfl ?_
  obtain ⟨r1, Y3, q2, h⟩ := bd2_some h
  refine fw_callVi C (ci := 10) (Cn := RX12) (Tc := TX12) (N := 19) (As := []) (c_X12_isShortWord (gac (hG _ (List.mem_of_getElem? (i := 0) rfl)) ga0) q2) (cwV 0 (cx_ts C) gX12_parsePredecessor_X12_isShortWord rfl rfl rfl (by decide +kernel) ⟨Nat.le_of_ble_eq_true rfl, Nat.le_of_ble_eq_true rfl⟩) rfl (hG _ (List.mem_of_getElem? (i := 0) rfl)) (of10_0 _) (ce10 T ad _ _) rfl (st := []) rfl (Nat.le_of_ble_eq_true rfl) ⟨Nat.le_refl 0, Nat.le_refl 0⟩ dX12_parsePredecessor_1 (ppw ?_)
  refine fw_if_ne C dX12_parsePredecessor_4 (tgt := 9) rfl (fun c4 => ?_) (fun c4 => ?_)
  · have h := ite_f c4 h
    refine fw_aload_n C dX12_parsePredecessor_9 rfl 0 rfl ?_
    refine fw_aload_n C dX12_parsePredecessor_10 rfl 0 rfl ?_
    refine fw_get C (ci := 10) (Cn := RX12) (Tc := TX12) (N := 19) (j := 16) ly_X12_parsePredecessor_12 rfl (hG _ (List.mem_of_getElem? (i := 0) rfl)) (of10_0 _) (ce10 T ad _ _) (by decide) (cx_ts C _ fl_X12_parsePredecessor_60) (fun _ h => h) (v := .int (Y3 10 0 0 16)) rfl dX12_parsePredecessor_11 ?_
    refine fw_aload_n C dX12_parsePredecessor_14 rfl 0 rfl ?_
    refine fw_get C (ci := 10) (Cn := RX12) (Tc := TX12) (N := 19) (j := 14) ly_X12_parsePredecessor_12 rfl (hG _ (List.mem_of_getElem? (i := 0) rfl)) (of10_0 _) (ce10 T ad _ _) (by decide) (cx_ts C _ fl_X12_parsePredecessor_54) (fun _ h => h) (v := .int (Y3 10 0 0 14)) rfl dX12_parsePredecessor_15 ?_
    refine fw_aload_n C dX12_parsePredecessor_18 rfl 0 rfl ?_
    refine fw_get C (ci := 10) (Cn := RX12) (Tc := TX12) (N := 19) (j := 16) ly_X12_parsePredecessor_12 rfl (hG _ (List.mem_of_getElem? (i := 0) rfl)) (of10_0 _) (ce10 T ad _ _) (by decide) (cx_ts C _ fl_X12_parsePredecessor_60) (fun _ h => h) (v := .int (Y3 10 0 0 16)) rfl dX12_parsePredecessor_19 ?_
    refine fw_isub C dX12_parsePredecessor_22 ?_
    obtain ⟨r5, q6, h⟩ := bd1_some h
    refine fw_callVi C (ci := 10) (Cn := RX12) (Tc := TX12) (N := 19) (As := [.int (Y3 10 0 0 16), .int ((Y3 10 0 0 14) - (Y3 10 0 0 16))]) (c_X12_stepNamed (gac (hG _ (List.mem_of_getElem? (i := 0) rfl)) ga0) q6) (cwV 2 (cx_ts C) gX12_parsePredecessor_X12_stepNamed rfl rfl rfl (by decide +kernel) ⟨Nat.le_of_ble_eq_true rfl, Nat.le_of_ble_eq_true rfl⟩) rfl (hG _ (List.mem_of_getElem? (i := 0) rfl)) (of10_0 _) (ce10 T ad _ _) rfl (st := []) rfl (Nat.le_of_ble_eq_true rfl) ⟨Nat.le_refl 0, Nat.le_refl 0⟩ dX12_parsePredecessor_23 (pp2 ?_)
    refine fw_istore_n C dX12_parsePredecessor_26 rfl (by decide) (L' := [(2, .int r5), (0, .ref (ad 10 0 0)), (1, .int a1)]) rfl ?_
    refine fw_iload_n C dX12_parsePredecessor_27 rfl 0 rfl ?_
    refine fw_iconst C dX12_parsePredecessor_28 (v := (-1)) rfl ?_
    refine fw_icmp_ne C dX12_parsePredecessor_29 (tgt := 38) rfl (fun c7 => ?_) (fun c7 => ?_)
    · have h := ite_f c7 h
      refine fw_iconst C dX12_parsePredecessor_38 (v := 0) rfl ?_
      refine fw_istore_n C dX12_parsePredecessor_39 rfl (by decide) (L' := [(3, .int 0), (2, .int r5), (0, .ref (ad 10 0 0)), (1, .int a1)]) rfl ?_
      exact w_X12_parsePredecessor_b40 C hrt hG   _ _ _ _ h
    · have h := ite_t c7 h
      refine fw_aload_n C dX12_parsePredecessor_32 rfl 1 rfl ?_
      refine fw_iconst C dX12_parsePredecessor_33 (v := 3) rfl ?_
      obtain ⟨r29, Y31, q30, h⟩ := bd2_some h
      refine fw_callVi C (ci := 10) (Cn := RX12) (Tc := TX12) (N := 19) (As := [.int 3]) (c_X12_wrong (gac (hG _ (List.mem_of_getElem? (i := 0) rfl)) ga0) q30) (cwV 1 (cx_ts C) gX12_parsePredecessor_X12_wrong rfl rfl rfl (by decide +kernel) ⟨Nat.le_of_ble_eq_true rfl, Nat.le_of_ble_eq_true rfl⟩) rfl (hG _ (List.mem_of_getElem? (i := 0) rfl)) (of10_0 _) (ce10 T ad _ _) rfl (st := []) rfl (Nat.le_of_ble_eq_true rfl) ⟨Nat.le_refl 0, Nat.le_refl 0⟩ dX12_parsePredecessor_34 (ppw ?_)
      obtain ⟨b32, h⟩ := gd_some h
      exact fw_zret C hrt (of_decide_eq_true b32) Y31 (Option.some.inj h) (fun t ht => ht) dX12_parsePredecessor_37
  · have h := ite_t c4 h
    refine fw_iconst C dX12_parsePredecessor_7 (v := 0) rfl ?_
    exact fw_zret C hrt (by decide) Y3 (Option.some.inj h) (fun t ht => ht) dX12_parsePredecessor_8
end
set_option maxRecDepth 100000 in
set_option maxHeartbeats 4000000 in
theorem c_X12_parsePredecessor {l : Launch} {N0 : Nat} {T : Nat → ClassId} {D : va_G} {gr : List (Nat × Nat)} {ad : Nat → Nat → Nat → Nat} {Y : Mem} {a1 : Int32} {res : Int32 × Mem} (hG : ∀ q ∈ [(10, 0)], q ∈ gr) (h : X12_parsePredecessor Y a1 = some res) : CI l yX12_parsePredecessor wsX12_parsePredecessor (Rm 2) N0 T D gr ad Y [.ref (ad 10 0 0), .int a1] (fun r Y1 => (r, Y1) = res) :=
  fw_body (by decide +kernel) rfl (Nat.le_of_ble_eq_true rfl) (fun p e s m below meth c C hrt => w_X12_parsePredecessor C hrt hG  h)
