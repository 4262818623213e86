theorem ly_X12_canDo_12 : ∀ w ∈ u_ws RX12 TX12 19, w ∈ wsX12_canDo := by decide +kernel
theorem fl_X12_canDo_13 : Cond.fieldLink RX12 13 "RecipeSchedulerModel" "m" "[I" ∈ wsX12_canDo := by decide +kernel
noncomputable def X12_canDo (Y : Mem) (a1 : Int32) (a2 : Int32) (a3 : Int32) : Option (Int32) :=
  if a1 = 0 then (bd1 (X12_in Y a2 1 200) <| fun r2 => if r2 = 0 then (some 0) else (gd (inb 4 4202) <| if 9999 < ((Y 10 0 1 (ix 4)) + a2) then (some 0) else (some 1))) else (if a1 = 1 then (bd1 (X12_in Y a2 1 9) <| fun r8 => if r8 = 0 then (some 0) else (gd (inb 6 4202) <| if (Y 10 0 1 (ix 6)) = 0 then (some 1) else (some 0))) else (if a1 = 2 then (bd1 (X12_in Y a2 1 9) <| fun r14 => if r14 = 0 then (some 0) else (gd (inb 6 4202) <| if (Y 10 0 1 (ix 6)) = 0 then (some 1) else (some 0))) else (if a1 = 3 then (bd1 (X12_of Y a2 17) <| fun r20 => if r20 = 1 then (some 1) else (some 0)) else (if a1 = 4 then (bd1 (X12_canRedo Y a2) <| fun r24 => gd (decide (r24 = 0 ∨ r24 = 1)) <| some r24) else (if a1 = 5 then (bd1 (X12_in Y a2 1 4) <| fun r28 => gd (decide (r28 = 0 ∨ r28 = 1)) <| some r28) else (if a1 = 6 then (bd1 (X12_in Y a3 1 60) <| fun r32 => gd (decide (r32 = 0 ∨ r32 = 1)) <| some r32) else (bd1 (X12_servingReason Y) <| fun r35 => if r35 = 0 then (some 1) else (some 0))))))))
section
variable {p : Program} {l : Launch} {e : Env} {s : State} {m : MethodId} {below : List Frame} {meth : Method} {c : Code} {N0 : Nat} {T : Nat → ClassId} {D : va_G} {gr : List (Nat × Nat)} {ad : Nat → Nat → Nat → Nat}
set_option maxRecDepth 100000 in
set_option maxHeartbeats 4000000 in
theorem w_X12_canDo {Y : Mem} {a1 : Int32} {a2 : Int32} {a3 : Int32} (C : Cx p s m [.ref (ad 10 0 0), .int a1, .int a2, .int a3].toArray meth c cX12_canDo 4 wsX12_canDo RX12 N0 T D gr ad) (hrt : meth.sig.returnType = (some .boolean)) (hG : ∀ q ∈ [(10, 0)], q ∈ gr) {res : Int32} (h : X12_canDo Y a1 a2 a3 = some res) : FW p l e (Rm 5) s m [.ref (ad 10 0 0), .int a1, .int a2, .int a3].toArray below meth c 4 N0 T D gr ad 0 0 (MQ below (va_Qi (fun r Y1 => r = res ∧ Y1 = Y) (WB T D gr ad) (fun q => N0 ≤ q)) [.ref (ad 10 0 0), .int a1, .int a2, .int a3].toArray s 0 0 (fun q => N0 ≤ q)) Y 0 [(0, .ref (ad 10 0 0)), (1, .int a1), (2, .int a2), (3, .int a3)] [] := by
  unfold X12_canDo at h
  refine fw_iload_n C dX12_canDo_0 rfl 1 rfl ?_
  by_cases c1 : a1 = 0
  · have h := ite_t c1 h
    refine fw_tableIn C dX12_canDo_1 (by rw [c1]; decide) (by rw [c1]; decide) (off := 43) (by rw [c1]; rfl) (tgt := 44) rfl ?_
    refine fw_iload_n C dX12_canDo_44 rfl 2 rfl ?_
    refine fw_iconst C dX12_canDo_45 (v := 1) rfl ?_
    refine fw_sipush C dX12_canDo_46 (v := 200) rfl ?_
    obtain ⟨r2, q3, h⟩ := bd1_some h
    refine fw_callSi C (As := [.int a2, .int 1, .int 200]) (c_X12_in ga0 q3) (va_cwS 3 (cx_ts C) gX12_canDo_X12_in rfl rfl rfl (by decide +kernel) ⟨Nat.le_of_ble_eq_true rfl, Nat.le_of_ble_eq_true rfl⟩) rfl (st := []) rfl (Nat.le_of_ble_eq_true rfl) ⟨Nat.le_refl 0, Nat.le_refl 0⟩ dX12_canDo_49 ?_
    rintro _ _ ⟨rfl, rfl⟩
    refine fw_if_eq C dX12_canDo_52 (tgt := 73) rfl (fun c4 => ?_) (fun c4 => ?_)
    · have h := ite_t c4 h
      refine fw_iconst C dX12_canDo_73 (v := 0) rfl ?_
      exact fw_zret C hrt (by decide) Y ⟨Option.some.inj h, rfl⟩ (fun t ht => ht) dX12_canDo_74
    · have h := ite_f c4 h
      refine fw_aload_n C dX12_canDo_55 rfl 0 rfl ?_
      refine fw_get C (ci := 10) (Cn := RX12) (Tc := TX12) (N := 19) (j := 0) ly_X12_canDo_12 rfl (hG _ (List.mem_of_getElem? (i := 0) rfl)) (of10_0 _) (ce10 T ad _ _) (by decide) (cx_ts C _ fl_X12_canDo_13) (fun _ h => h) (v := .ref (ad 10 0 1)) rfl dX12_canDo_56 ?_
      refine fw_iconst C dX12_canDo_59 (v := 4) rfl ?_
      obtain ⟨b5, h⟩ := gd_some h
      refine fw_iald2 C (hG _ (List.mem_of_getElem? (i := 0) rfl)) (of10_1 _) (ca10_1 T ad _ _) b5 (Nat.le_of_ble_eq_true rfl) dX12_canDo_60 ?_
      refine fw_iload_n C dX12_canDo_61 rfl 2 rfl ?_
      refine fw_iadd C dX12_canDo_62 ?_
      refine fw_sipush C dX12_canDo_63 (v := 9999) rfl ?_
      refine fw_icmp_gt C dX12_canDo_66 (tgt := 73) rfl (fun c6 => ?_) (fun c6 => ?_)
      · have h := ite_t c6 h
        refine fw_iconst C dX12_canDo_73 (v := 0) rfl ?_
        exact fw_zret C hrt (by decide) Y ⟨Option.some.inj h, rfl⟩ (fun t ht => ht) dX12_canDo_74
      · have h := ite_f c6 h
        refine fw_iconst C dX12_canDo_69 (v := 1) rfl ?_
        refine fw_goto C dX12_canDo_70 (tgt := 74) rfl ?_
        exact fw_zret C hrt (by decide) Y ⟨Option.some.inj h, rfl⟩ (fun t ht => ht) dX12_canDo_74
  · have h := ite_f c1 h
    by_cases c7 : a1 = 1
    · have h := ite_t c7 h
      refine fw_tableIn C dX12_canDo_1 (by rw [c7]; decide) (by rw [c7]; decide) (off := 74) (by rw [c7]; rfl) (tgt := 75) rfl ?_
      refine fw_iload_n C dX12_canDo_75 rfl 2 rfl ?_
      refine fw_iconst C dX12_canDo_76 (v := 1) rfl ?_
      refine fw_bipush C dX12_canDo_77 (v := 9) rfl ?_
      obtain ⟨r8, q9, h⟩ := bd1_some h
      refine fw_callSi C (As := [.int a2, .int 1, .int 9]) (c_X12_in ga0 q9) (va_cwS 3 (cx_ts C) gX12_canDo_X12_in rfl rfl rfl (by decide +kernel) ⟨Nat.le_of_ble_eq_true rfl, Nat.le_of_ble_eq_true rfl⟩) rfl (st := []) rfl (Nat.le_of_ble_eq_true rfl) ⟨Nat.le_refl 0, Nat.le_refl 0⟩ dX12_canDo_79 ?_
      rintro _ _ ⟨rfl, rfl⟩
      refine fw_if_eq C dX12_canDo_82 (tgt := 99) rfl (fun c10 => ?_) (fun c10 => ?_)
      · have h := ite_t c10 h
        refine fw_iconst C dX12_canDo_99 (v := 0) rfl ?_
        exact fw_zret C hrt (by decide) Y ⟨Option.some.inj h, rfl⟩ (fun t ht => ht) dX12_canDo_100
      · have h := ite_f c10 h
        refine fw_aload_n C dX12_canDo_85 rfl 0 rfl ?_
        refine fw_get C (ci := 10) (Cn := RX12) (Tc := TX12) (N := 19) (j := 0) ly_X12_canDo_12 rfl (hG _ (List.mem_of_getElem? (i := 0) rfl)) (of10_0 _) (ce10 T ad _ _) (by decide) (cx_ts C _ fl_X12_canDo_13) (fun _ h => h) (v := .ref (ad 10 0 1)) rfl dX12_canDo_86 ?_
        refine fw_bipush C dX12_canDo_89 (v := 6) rfl ?_
        obtain ⟨b11, h⟩ := gd_some h
        refine fw_iald2 C (hG _ (List.mem_of_getElem? (i := 0) rfl)) (of10_1 _) (ca10_1 T ad _ _) b11 (Nat.le_of_ble_eq_true rfl) dX12_canDo_91 ?_
        refine fw_if_ne C dX12_canDo_92 (tgt := 99) rfl (fun c12 => ?_) (fun c12 => ?_)
        · have h := ite_f c12 h
          refine fw_iconst C dX12_canDo_99 (v := 0) rfl ?_
          exact fw_zret C hrt (by decide) Y ⟨Option.some.inj h, rfl⟩ (fun t ht => ht) dX12_canDo_100
        · have h := ite_t c12 h
          refine fw_iconst C dX12_canDo_95 (v := 1) rfl ?_
          refine fw_goto C dX12_canDo_96 (tgt := 100) rfl ?_
          exact fw_zret C hrt (by decide) Y ⟨Option.some.inj h, rfl⟩ (fun t ht => ht) dX12_canDo_100
    · have h := ite_f c7 h
      by_cases c13 : a1 = 2
      · have h := ite_t c13 h
        refine fw_tableIn C dX12_canDo_1 (by rw [c13]; decide) (by rw [c13]; decide) (off := 74) (by rw [c13]; rfl) (tgt := 75) rfl ?_
        refine fw_iload_n C dX12_canDo_75 rfl 2 rfl ?_
        refine fw_iconst C dX12_canDo_76 (v := 1) rfl ?_
        refine fw_bipush C dX12_canDo_77 (v := 9) rfl ?_
        obtain ⟨r14, q15, h⟩ := bd1_some h
        refine fw_callSi C (As := [.int a2, .int 1, .int 9]) (c_X12_in ga0 q15) (va_cwS 3 (cx_ts C) gX12_canDo_X12_in rfl rfl rfl (by decide +kernel) ⟨Nat.le_of_ble_eq_true rfl, Nat.le_of_ble_eq_true rfl⟩) rfl (st := []) rfl (Nat.le_of_ble_eq_true rfl) ⟨Nat.le_refl 0, Nat.le_refl 0⟩ dX12_canDo_79 ?_
        rintro _ _ ⟨rfl, rfl⟩
        refine fw_if_eq C dX12_canDo_82 (tgt := 99) rfl (fun c16 => ?_) (fun c16 => ?_)
        · have h := ite_t c16 h
          refine fw_iconst C dX12_canDo_99 (v := 0) rfl ?_
          exact fw_zret C hrt (by decide) Y ⟨Option.some.inj h, rfl⟩ (fun t ht => ht) dX12_canDo_100
        · have h := ite_f c16 h
          refine fw_aload_n C dX12_canDo_85 rfl 0 rfl ?_
          refine fw_get C (ci := 10) (Cn := RX12) (Tc := TX12) (N := 19) (j := 0) ly_X12_canDo_12 rfl (hG _ (List.mem_of_getElem? (i := 0) rfl)) (of10_0 _) (ce10 T ad _ _) (by decide) (cx_ts C _ fl_X12_canDo_13) (fun _ h => h) (v := .ref (ad 10 0 1)) rfl dX12_canDo_86 ?_
          refine fw_bipush C dX12_canDo_89 (v := 6) rfl ?_
          obtain ⟨b17, h⟩ := gd_some h
          refine fw_iald2 C (hG _ (List.mem_of_getElem? (i := 0) rfl)) (of10_1 _) (ca10_1 T ad _ _) b17 (Nat.le_of_ble_eq_true rfl) dX12_canDo_91 ?_
          refine fw_if_ne C dX12_canDo_92 (tgt := 99) rfl (fun c18 => ?_) (fun c18 => ?_)
          · have h := ite_f c18 h
            refine fw_iconst C dX12_canDo_99 (v := 0) rfl ?_
            exact fw_zret C hrt (by decide) Y ⟨Option.some.inj h, rfl⟩ (fun t ht => ht) dX12_canDo_100
          · have h := ite_t c18 h
            refine fw_iconst C dX12_canDo_95 (v := 1) rfl ?_
            refine fw_goto C dX12_canDo_96 (tgt := 100) rfl ?_
            exact fw_zret C hrt (by decide) Y ⟨Option.some.inj h, rfl⟩ (fun t ht => ht) dX12_canDo_100
      · have h := ite_f c13 h
        by_cases c19 : a1 = 3
        · have h := ite_t c19 h
          refine fw_tableIn C dX12_canDo_1 (by rw [c19]; decide) (by rw [c19]; decide) (off := 100) (by rw [c19]; rfl) (tgt := 101) rfl ?_
          refine fw_aload_n C dX12_canDo_101 rfl 0 rfl ?_
          refine fw_iload_n C dX12_canDo_102 rfl 2 rfl ?_
          refine fw_bipush C dX12_canDo_103 (v := 17) rfl ?_
          obtain ⟨r20, q21, h⟩ := bd1_some h
          refine fw_callVi C (ci := 10) (Cn := RX12) (Tc := TX12) (N := 19) (As := [.int a2, .int 17]) (c_X12_of (gac (hG _ (List.mem_of_getElem? (i := 0) rfl)) ga0) q21) (cwV 2 (cx_ts C) gX12_canDo_X12_of rfl rfl rfl (by decide +kernel) ⟨Nat.le_of_ble_eq_true rfl, Nat.le_of_ble_eq_true rfl⟩) rfl (hG _ (List.mem_of_getElem? (i := 0) rfl)) (of10_0 _) (ce10 T ad _ _) rfl (st := []) rfl (Nat.le_of_ble_eq_true rfl) ⟨Nat.le_refl 0, Nat.le_refl 0⟩ dX12_canDo_105 ?_
          rintro _ _ ⟨rfl, rfl⟩
          refine fw_iconst C dX12_canDo_108 (v := 1) rfl ?_
          refine fw_icmp_ne C dX12_canDo_109 (tgt := 116) rfl (fun c22 => ?_) (fun c22 => ?_)
          · have h := ite_f c22 h
            refine fw_iconst C dX12_canDo_116 (v := 0) rfl ?_
            exact fw_zret C hrt (by decide) Y ⟨Option.some.inj h, rfl⟩ (fun t ht => ht) dX12_canDo_117
          · have h := ite_t c22 h
            refine fw_iconst C dX12_canDo_112 (v := 1) rfl ?_
            refine fw_goto C dX12_canDo_113 (tgt := 117) rfl ?_
            exact fw_zret C hrt (by decide) Y ⟨Option.some.inj h, rfl⟩ (fun t ht => ht) dX12_canDo_117
        · have h := ite_f c19 h
          by_cases c23 : a1 = 4
          · have h := ite_t c23 h
            refine fw_tableIn C dX12_canDo_1 (by rw [c23]; decide) (by rw [c23]; decide) (off := 117) (by rw [c23]; rfl) (tgt := 118) rfl ?_
            refine fw_aload_n C dX12_canDo_118 rfl 0 rfl ?_
            refine fw_iload_n C dX12_canDo_119 rfl 2 rfl ?_
            obtain ⟨r24, q25, h⟩ := bd1_some h
            refine fw_callVi C (ci := 10) (Cn := RX12) (Tc := TX12) (N := 19) (As := [.int a2]) (c_X12_canRedo (gac (hG _ (List.mem_of_getElem? (i := 0) rfl)) ga0) q25) (cwV 1 (cx_ts C) gX12_canDo_X12_canRedo rfl rfl rfl (by decide +kernel) ⟨Nat.le_of_ble_eq_true rfl, Nat.le_of_ble_eq_true rfl⟩) rfl (hG _ (List.mem_of_getElem? (i := 0) rfl)) (of10_0 _) (ce10 T ad _ _) rfl (st := []) rfl (Nat.le_of_ble_eq_true rfl) ⟨Nat.le_refl 0, Nat.le_refl 0⟩ dX12_canDo_120 ?_
            rintro _ _ ⟨rfl, rfl⟩
            obtain ⟨b26, h⟩ := gd_some h
            exact fw_zret C hrt (of_decide_eq_true b26) Y ⟨Option.some.inj h, rfl⟩ (fun t ht => ht) dX12_canDo_123
          · have h := ite_f c23 h
            by_cases c27 : a1 = 5
            · have h := ite_t c27 h
              refine fw_tableIn C dX12_canDo_1 (by rw [c27]; decide) (by rw [c27]; decide) (off := 123) (by rw [c27]; rfl) (tgt := 124) rfl ?_
              refine fw_iload_n C dX12_canDo_124 rfl 2 rfl ?_
              refine fw_iconst C dX12_canDo_125 (v := 1) rfl ?_
              refine fw_iconst C dX12_canDo_126 (v := 4) rfl ?_
              obtain ⟨r28, q29, h⟩ := bd1_some h
              refine fw_callSi C (As := [.int a2, .int 1, .int 4]) (c_X12_in ga0 q29) (va_cwS 3 (cx_ts C) gX12_canDo_X12_in rfl rfl rfl (by decide +kernel) ⟨Nat.le_of_ble_eq_true rfl, Nat.le_of_ble_eq_true rfl⟩) rfl (st := []) rfl (Nat.le_of_ble_eq_true rfl) ⟨Nat.le_refl 0, Nat.le_refl 0⟩ dX12_canDo_127 ?_
              rintro _ _ ⟨rfl, rfl⟩
              obtain ⟨b30, h⟩ := gd_some h
              exact fw_zret C hrt (of_decide_eq_true b30) Y ⟨Option.some.inj h, rfl⟩ (fun t ht => ht) dX12_canDo_130
            · have h := ite_f c27 h
              by_cases c31 : a1 = 6
              · have h := ite_t c31 h
                refine fw_tableIn C dX12_canDo_1 (by rw [c31]; decide) (by rw [c31]; decide) (off := 130) (by rw [c31]; rfl) (tgt := 131) rfl ?_
                refine fw_iload_n C dX12_canDo_131 rfl 3 rfl ?_
                refine fw_iconst C dX12_canDo_132 (v := 1) rfl ?_
                refine fw_bipush C dX12_canDo_133 (v := 60) rfl ?_
                obtain ⟨r32, q33, h⟩ := bd1_some h
                refine fw_callSi C (As := [.int a3, .int 1, .int 60]) (c_X12_in ga0 q33) (va_cwS 3 (cx_ts C) gX12_canDo_X12_in rfl rfl rfl (by decide +kernel) ⟨Nat.le_of_ble_eq_true rfl, Nat.le_of_ble_eq_true rfl⟩) rfl (st := []) rfl (Nat.le_of_ble_eq_true rfl) ⟨Nat.le_refl 0, Nat.le_refl 0⟩ dX12_canDo_135 ?_
                rintro _ _ ⟨rfl, rfl⟩
                obtain ⟨b34, h⟩ := gd_some h
                exact fw_zret C hrt (of_decide_eq_true b34) Y ⟨Option.some.inj h, rfl⟩ (fun t ht => ht) dX12_canDo_138
              · have h := ite_f c31 h
                have c1 : ¬ (a1).toInt = 0 := fun q => c1 (Int32.toInt_inj.mp (by rw [q]; rfl))
                have c7 : ¬ (a1).toInt = 1 := fun q => c7 (Int32.toInt_inj.mp (by rw [q]; rfl))
                have c13 : ¬ (a1).toInt = 2 := fun q => c13 (Int32.toInt_inj.mp (by rw [q]; rfl))
                have c19 : ¬ (a1).toInt = 3 := fun q => c19 (Int32.toInt_inj.mp (by rw [q]; rfl))
                have c23 : ¬ (a1).toInt = 4 := fun q => c23 (Int32.toInt_inj.mp (by rw [q]; rfl))
                have c27 : ¬ (a1).toInt = 5 := fun q => c27 (Int32.toInt_inj.mp (by rw [q]; rfl))
                have c31 : ¬ (a1).toInt = 6 := fun q => c31 (Int32.toInt_inj.mp (by rw [q]; rfl))
                refine fw_tableOut C dX12_canDo_1 (by omega) (tgt := 139) rfl ?_
                refine fw_aload_n C dX12_canDo_139 rfl 0 rfl ?_
                obtain ⟨r35, q36, h⟩ := bd1_some h
                refine fw_callVi C (ci := 10) (Cn := RX12) (Tc := TX12) (N := 19) (As := []) (c_X12_servingReason (gac (hG _ (List.mem_of_getElem? (i := 0) rfl)) ga0) q36) (cwV 0 (cx_ts C) gX12_canDo_X12_servingReason rfl rfl rfl (by decide +kernel) ⟨Nat.le_of_ble_eq_true rfl, Nat.le_of_ble_eq_true rfl⟩) rfl (hG _ (List.mem_of_getElem? (i := 0) rfl)) (of10_0 _) (ce10 T ad _ _) rfl (st := []) rfl (Nat.le_of_ble_eq_true rfl) ⟨Nat.le_refl 0, Nat.le_refl 0⟩ dX12_canDo_140 ?_
                rintro _ _ ⟨rfl, rfl⟩
                refine fw_if_ne C dX12_canDo_143 (tgt := 150) rfl (fun c37 => ?_) (fun c37 => ?_)
                · have h := ite_f c37 h
                  refine fw_iconst C dX12_canDo_150 (v := 0) rfl ?_
                  exact fw_zret C hrt (by decide) Y ⟨Option.some.inj h, rfl⟩ (fun t ht => ht) dX12_canDo_151
                · have h := ite_t c37 h
                  refine fw_iconst C dX12_canDo_146 (v := 1) rfl ?_
                  refine fw_goto C dX12_canDo_147 (tgt := 151) rfl ?_
                  exact fw_zret C hrt (by decide) Y ⟨Option.some.inj h, rfl⟩ (fun t ht => ht) dX12_canDo_151
end
set_option maxRecDepth 100000 in
set_option maxHeartbeats 4000000 in
theorem c_X12_canDo {l : Launch} {N0 : Nat} {T : Nat → ClassId} {D : va_G} {gr : List (Nat × Nat)} {ad : Nat → Nat → Nat → Nat} {Y : Mem} {a1 : Int32} {a2 : Int32} {a3 : Int32} {res : Int32} (hG : ∀ q ∈ [(10, 0)], q ∈ gr) (h : X12_canDo Y a1 a2 a3 = some res) : CI l yX12_canDo wsX12_canDo (Rm 5) N0 T D gr ad Y [.ref (ad 10 0 0), .int a1, .int a2, .int a3] (fun r Y1 => r = res ∧ Y1 = Y) :=
  fw_body (by decide +kernel) rfl (Nat.le_of_ble_eq_true rfl) (fun p e s m below meth c C hrt => w_X12_canDo C hrt hG  h)
noncomputable def X12_nameOf (Y : Mem) (a0 : Int32) : Option (Nat) :=
  if a0 = 0 then (some 8) else (if a0 = 1 then (some 9) else (if a0 = 2 then (some 10) else (if a0 = 3 then (some 11) else (if a0 = 4 then (some 12) else (if a0 = 5 then (some 13) else (if a0 = 6 then (some 14) else (some 15)))))))
section
variable {p : Program} {l : Launch} {e : Env} {s : State} {m : MethodId} {below : List Frame} {meth : Method} {c : Code} {N0 : Nat} {T : Nat → ClassId} {D : va_G} {gr : List (Nat × Nat)} {ad : Nat → Nat → Nat → Nat}
set_option maxRecDepth 100000 in
set_option maxHeartbeats 4000000 in
theorem w_X12_nameOf {Y : Mem} {a0 : Int32} (C : Cx p s m [.int a0].toArray meth c cX12_nameOf 1 wsX12_nameOf RX12 N0 T D gr ad) (hrt : meth.sig.returnType = (some (.object "java/lang/String"))) (hG : ∀ q ∈ [], q ∈ gr) {res : Nat} (h : X12_nameOf Y a0 = some res) : FW p l e (Rm 0) s m [.int a0].toArray below meth c 1 N0 T D gr ad 0 0 (MQ below (va_Qq (fun r Y1 => r = some (ad 21 res 0) ∧ Y1 = Y) (WB T D gr ad) (fun q => N0 ≤ q)) [.int a0].toArray s 0 0 (fun q => N0 ≤ q)) Y 0 [(0, .int a0)] [] := by
  unfold X12_nameOf at h
  refine fw_iload_n C dX12_nameOf_0 rfl 0 rfl ?_
  by_cases c1 : a0 = 0
  · have h := ite_t c1 h
    refine fw_tableIn C dX12_nameOf_1 (by rw [c1]; decide) (by rw [c1]; decide) (off := 43) (by rw [c1]; rfl) (tgt := 44) rfl ?_
    refine fw_ldcS C ((cx_st C).2.1 _ (List.mem_of_getElem? (i := 38) rfl)) dX12_nameOf_44 ?_
    exact fw_qret C hrt (r := some ((ad 21 8 0))) rfl Y ⟨by rw [← Option.some.inj h]; rfl, rfl⟩ (fun t ht => ht) dX12_nameOf_46
  · have h := ite_f c1 h
    by_cases c2 : a0 = 1
    · have h := ite_t c2 h
      refine fw_tableIn C dX12_nameOf_1 (by rw [c2]; decide) (by rw [c2]; decide) (off := 46) (by rw [c2]; rfl) (tgt := 47) rfl ?_
      refine fw_ldcS C ((cx_st C).2.1 _ (List.mem_of_getElem? (i := 39) rfl)) dX12_nameOf_47 ?_
      exact fw_qret C hrt (r := some ((ad 21 9 0))) rfl Y ⟨by rw [← Option.some.inj h]; rfl, rfl⟩ (fun t ht => ht) dX12_nameOf_49
    · have h := ite_f c2 h
      by_cases c3 : a0 = 2
      · have h := ite_t c3 h
        refine fw_tableIn C dX12_nameOf_1 (by rw [c3]; decide) (by rw [c3]; decide) (off := 49) (by rw [c3]; rfl) (tgt := 50) rfl ?_
        refine fw_ldcS C ((cx_st C).2.1 _ (List.mem_of_getElem? (i := 40) rfl)) dX12_nameOf_50 ?_
        exact fw_qret C hrt (r := some ((ad 21 10 0))) rfl Y ⟨by rw [← Option.some.inj h]; rfl, rfl⟩ (fun t ht => ht) dX12_nameOf_52
      · have h := ite_f c3 h
        by_cases c4 : a0 = 3
        · have h := ite_t c4 h
          refine fw_tableIn C dX12_nameOf_1 (by rw [c4]; decide) (by rw [c4]; decide) (off := 52) (by rw [c4]; rfl) (tgt := 53) rfl ?_
          refine fw_ldcS C ((cx_st C).2.1 _ (List.mem_of_getElem? (i := 41) rfl)) dX12_nameOf_53 ?_
          exact fw_qret C hrt (r := some ((ad 21 11 0))) rfl Y ⟨by rw [← Option.some.inj h]; rfl, rfl⟩ (fun t ht => ht) dX12_nameOf_55
        · have h := ite_f c4 h
          by_cases c5 : a0 = 4
          · have h := ite_t c5 h
            refine fw_tableIn C dX12_nameOf_1 (by rw [c5]; decide) (by rw [c5]; decide) (off := 55) (by rw [c5]; rfl) (tgt := 56) rfl ?_
            refine fw_ldcS C ((cx_st C).2.1 _ (List.mem_of_getElem? (i := 42) rfl)) dX12_nameOf_56 ?_
            exact fw_qret C hrt (r := some ((ad 21 12 0))) rfl Y ⟨by rw [← Option.some.inj h]; rfl, rfl⟩ (fun t ht => ht) dX12_nameOf_58
          · have h := ite_f c5 h
            by_cases c6 : a0 = 5
            · have h := ite_t c6 h
              refine fw_tableIn C dX12_nameOf_1 (by rw [c6]; decide) (by rw [c6]; decide) (off := 58) (by rw [c6]; rfl) (tgt := 59) rfl ?_
              refine fw_ldcS C ((cx_st C).2.1 _ (List.mem_of_getElem? (i := 43) rfl)) dX12_nameOf_59 ?_
              exact fw_qret C hrt (r := some ((ad 21 13 0))) rfl Y ⟨by rw [← Option.some.inj h]; rfl, rfl⟩ (fun t ht => ht) dX12_nameOf_61
            · have h := ite_f c6 h
              by_cases c7 : a0 = 6
              · have h := ite_t c7 h
                refine fw_tableIn C dX12_nameOf_1 (by rw [c7]; decide) (by rw [c7]; decide) (off := 61) (by rw [c7]; rfl) (tgt := 62) rfl ?_
                refine fw_ldcS C ((cx_st C).2.1 _ (List.mem_of_getElem? (i := 44) rfl)) dX12_nameOf_62 ?_
                exact fw_qret C hrt (r := some ((ad 21 14 0))) rfl Y ⟨by rw [← Option.some.inj h]; rfl, rfl⟩ (fun t ht => ht) dX12_nameOf_64
              · have h := ite_f c7 h
                have c1 : ¬ (a0).toInt = 0 := fun q => c1 (Int32.toInt_inj.mp (by rw [q]; rfl))
                have c2 : ¬ (a0).toInt = 1 := fun q => c2 (Int32.toInt_inj.mp (by rw [q]; rfl))
                have c3 : ¬ (a0).toInt = 2 := fun q => c3 (Int32.toInt_inj.mp (by rw [q]; rfl))
                have c4 : ¬ (a0).toInt = 3 := fun q => c4 (Int32.toInt_inj.mp (by rw [q]; rfl))
                have c5 : ¬ (a0).toInt = 4 := fun q => c5 (Int32.toInt_inj.mp (by rw [q]; rfl))
                have c6 : ¬ (a0).toInt = 5 := fun q => c6 (Int32.toInt_inj.mp (by rw [q]; rfl))
                have c7 : ¬ (a0).toInt = 6 := fun q => c7 (Int32.toInt_inj.mp (by rw [q]; rfl))
                refine fw_tableOut C dX12_nameOf_1 (by omega) (tgt := 65) rfl ?_
                refine fw_ldcS C ((cx_st C).2.1 _ (List.mem_of_getElem? (i := 45) rfl)) dX12_nameOf_65 ?_
                exact fw_qret C hrt (r := some ((ad 21 15 0))) rfl Y ⟨by rw [← Option.some.inj h]; rfl, rfl⟩ (fun t ht => ht) dX12_nameOf_67
end
set_option maxRecDepth 100000 in
set_option maxHeartbeats 4000000 in
theorem c_X12_nameOf {l : Launch} {N0 : Nat} {T : Nat → ClassId} {D : va_G} {gr : List (Nat × Nat)} {ad : Nat → Nat → Nat → Nat} {Y : Mem} {a0 : Int32} {res : Nat} (hG : ∀ q ∈ [], q ∈ gr) (h : X12_nameOf Y a0 = some res) : CQ l yX12_nameOf wsX12_nameOf (Rm 0) N0 T D gr ad Y [.int a0] (fun r Y1 => r = some (ad 21 res 0) ∧ Y1 = Y) :=
  fw_body (by decide +kernel) rfl (Nat.le_of_ble_eq_true rfl) (fun p e s m below meth c C hrt => w_X12_nameOf C hrt hG  h)
theorem fl_J0_coder_7d493_38 : Cond.fieldLink RJ0 38 "java/lang/String" "COMPACT_STRINGS" "Z" ∈ wsJ0_coder_7d493 := by decide +kernel
theorem fl_J0_coder_7d493_15 : Cond.fieldLink RJ0 15 "java/lang/String" "coder" "B" ∈ wsJ0_coder_7d493 := by decide +kernel
noncomputable def J0_coder_7d493 (Y : Mem) (w0 : Nat) : Option (Int32) :=
  if 1 = 0 then (some 1) else (gd (decide (w0 < 16)) <| some 0)
section
variable {p : Program} {l : Launch} {e : Env} {s : State} {m : MethodId} {below : List Frame} {meth : Method} {c : Code} {N0 : Nat} {T : Nat → ClassId} {D : va_G} {gr : List (Nat × Nat)} {ad : Nat → Nat → Nat → Nat}
set_option maxRecDepth 100000 in
set_option maxHeartbeats 4000000 in
theorem w_J0_coder_7d493 {Y : Mem} {w0 : Nat} (C : Cx p s m [.ref (ad 21 w0 0)].toArray meth c cJ0_coder_7d493 1 wsJ0_coder_7d493 RJ0 N0 T D gr ad) (hrt : meth.sig.returnType = (some .byte)) (hG : ∀ q ∈ [], q ∈ gr) {res : Int32} (h : J0_coder_7d493 Y w0 = some res) : FW p l e (Rm 0) s m [.ref (ad 21 w0 0)].toArray below meth c 1 N0 T D gr ad 0 0 (MQ below (va_Qi (fun r Y1 => r = res ∧ Y1 = Y) (WB T D gr ad) (fun q => N0 ≤ q)) [.ref (ad 21 w0 0)].toArray s 0 0 (fun q => N0 ≤ q)) Y 0 [(0, .ref (ad 21 w0 0))] [] := by
  unfold J0_coder_7d493 at h
  refine fw_gets C (v := .int 1) (cx_st C).2.2.2.2.2.1 (cx_ts C _ fl_J0_coder_7d493_38) (fun _ h => h) dJ0_coder_7d493_0 ?_
  refine fw_if_eq C dJ0_coder_7d493_3 (tgt := 13) rfl (fun c1 => ?_) (fun c1 => ?_)
  · have h := ite_t c1 h
    refine fw_iconst C dJ0_coder_7d493_13 (v := 1) rfl ?_
    exact fw_bret C hrt rfl Y ⟨Option.some.inj h, rfl⟩ (fun t ht => ht) dJ0_coder_7d493_14
  · have h := ite_f c1 h
    refine fw_aload_n C dJ0_coder_7d493_6 rfl 0 rfl ?_
    obtain ⟨b2, h⟩ := gd_some h
    have b2 := of_decide_eq_true b2
    refine fw_getO C (v := .int 0) ((cx_st C).1 _ b2).2.1 (cx_ts C _ fl_J0_coder_7d493_15) (fun _ h => h) dJ0_coder_7d493_7 ?_
    refine fw_goto C dJ0_coder_7d493_10 (tgt := 14) rfl ?_
    exact fw_bret C hrt rfl Y ⟨Option.some.inj h, rfl⟩ (fun t ht => ht) dJ0_coder_7d493_14
end
set_option maxRecDepth 100000 in
set_option maxHeartbeats 4000000 in
theorem c_J0_coder_7d493 {l : Launch} {N0 : Nat} {T : Nat → ClassId} {D : va_G} {gr : List (Nat × Nat)} {ad : Nat → Nat → Nat → Nat} {Y : Mem} {w0 : Nat} {res : Int32} (hG : ∀ q ∈ [], q ∈ gr) (h : J0_coder_7d493 Y w0 = some res) : CI l yJ0_coder_7d493 wsJ0_coder_7d493 (Rm 0) N0 T D gr ad Y [.ref (ad 21 w0 0)] (fun r Y1 => r = res ∧ Y1 = Y) :=
  fw_body (by decide +kernel) rfl (Nat.le_of_ble_eq_true rfl) (fun p e s m below meth c C hrt => w_J0_coder_7d493 C hrt hG  h)
theorem fl_J0_length_8abf5_9 : Cond.fieldLink RJ0 9 "java/lang/String" "value" "[B" ∈ wsJ0_length_8abf5 := by decide +kernel
noncomputable def J0_length_8abf5 (Y : Mem) (w0 : Nat) : Option (Int32) :=
  gd (decide (w0 < 16)) <| bd1 (J0_coder_7d493 Y w0) <| fun r2 => some (((Int32.ofNat (sByt w0).length)) >>> (r2 &&& 31))
section
variable {p : Program} {l : Launch} {e : Env} {s : State} {m : MethodId} {below : List Frame} {meth : Method} {c : Code} {N0 : Nat} {T : Nat → ClassId} {D : va_G} {gr : List (Nat × Nat)} {ad : Nat → Nat → Nat → Nat}
set_option maxRecDepth 100000 in
set_option maxHeartbeats 4000000 in
theorem w_J0_length_8abf5 {Y : Mem} {w0 : Nat} (C : Cx p s m [.ref (ad 21 w0 0)].toArray meth c cJ0_length_8abf5 1 wsJ0_length_8abf5 RJ0 N0 T D gr ad) (hrt : meth.sig.returnType = (some .int)) (hG : ∀ q ∈ [], q ∈ gr) {res : Int32} (h : J0_length_8abf5 Y w0 = some res) : FW p l e (Rm 1) s m [.ref (ad 21 w0 0)].toArray below meth c 1 N0 T D gr ad 0 0 (MQ below (va_Qi (fun r Y1 => r = res ∧ Y1 = Y) (WB T D gr ad) (fun q => N0 ≤ q)) [.ref (ad 21 w0 0)].toArray s 0 0 (fun q => N0 ≤ q)) Y 0 [(0, .ref (ad 21 w0 0))] [] := by
  unfold J0_length_8abf5 at h
  refine fw_aload_n C dJ0_length_8abf5_0 rfl 0 rfl ?_
  obtain ⟨b1, h⟩ := gd_some h
  have b1 := of_decide_eq_true b1
  refine fw_getO C (v := .ref (ad 22 w0 0)) ((cx_st C).1 _ b1).2.2.1 (cx_ts C _ fl_J0_length_8abf5_9) (fun _ h => h) dJ0_length_8abf5_1 ?_
  refine fw_tlen C ((cx_st C).1 _ b1).2.2.2 (v := (Int32.ofNat (sByt w0).length)) rfl dJ0_length_8abf5_4 ?_
  refine fw_aload_n C dJ0_length_8abf5_5 rfl 0 rfl ?_
  obtain ⟨r2, q3, h⟩ := bd1_some h
  refine fw_callOi C (Cn := RJ0) (As := []) (c_J0_coder_7d493 ga0 q3) (cwV 0 (cx_ts C) gJ0_length_8abf5_J0_coder_7d493 rfl rfl rfl (by decide +kernel) ⟨Nat.le_of_ble_eq_true rfl, Nat.le_of_ble_eq_true rfl⟩) ((cx_st C).1 _ b1).1 rfl (st := [.int ((Int32.ofNat (sByt w0).length))]) rfl (Nat.le_of_ble_eq_true rfl) ⟨Nat.le_refl 0, Nat.le_refl 0⟩ dJ0_length_8abf5_6 ?_
  rintro _ _ ⟨rfl, rfl⟩
  refine fw_ishr C dJ0_length_8abf5_9 ?_
  exact fw_iret C hrt Y ⟨Option.some.inj h, rfl⟩ (fun t ht => ht) dJ0_length_8abf5_10
end
set_option maxRecDepth 100000 in
set_option maxHeartbeats 4000000 in
theorem c_J0_length_8abf5 {l : Launch} {N0 : Nat} {T : Nat → ClassId} {D : va_G} {gr : List (Nat × Nat)} {ad : Nat → Nat → Nat → Nat} {Y : Mem} {w0 : Nat} {res : Int32} (hG : ∀ q ∈ [], q ∈ gr) (h : J0_length_8abf5 Y w0 = some res) : CI l yJ0_length_8abf5 wsJ0_length_8abf5 (Rm 1) N0 T D gr ad Y [.ref (ad 21 w0 0)] (fun r Y1 => r = res ∧ Y1 = Y) :=
  fw_body (by decide +kernel) rfl (Nat.le_of_ble_eq_true rfl) (fun p e s m below meth c C hrt => w_J0_length_8abf5 C hrt hG  h)
theorem fl_J0_isLatin1_aae02_38 : Cond.fieldLink RJ0 38 "java/lang/String" "COMPACT_STRINGS" "Z" ∈ wsJ0_isLatin1_aae02 := by decide +kernel
theorem fl_J0_isLatin1_aae02_15 : Cond.fieldLink RJ0 15 "java/lang/String" "coder" "B" ∈ wsJ0_isLatin1_aae02 := by decide +kernel
noncomputable def J0_isLatin1_aae02 (Y : Mem) (w0 : Nat) : Option (Int32) :=
  if 1 = 0 then (some 0) else (gd (decide (w0 < 16)) <| if 0 = 0 then (some 1) else (some 0))
section
variable {p : Program} {l : Launch} {e : Env} {s : State} {m : MethodId} {below : List Frame} {meth : Method} {c : Code} {N0 : Nat} {T : Nat → ClassId} {D : va_G} {gr : List (Nat × Nat)} {ad : Nat → Nat → Nat → Nat}
set_option maxRecDepth 100000 in
set_option maxHeartbeats 4000000 in
theorem w_J0_isLatin1_aae02 {Y : Mem} {w0 : Nat} (C : Cx p s m [.ref (ad 21 w0 0)].toArray meth c cJ0_isLatin1_aae02 1 wsJ0_isLatin1_aae02 RJ0 N0 T D gr ad) (hrt : meth.sig.returnType = (some .boolean)) (hG : ∀ q ∈ [], q ∈ gr) {res : Int32} (h : J0_isLatin1_aae02 Y w0 = some res) : FW p l e (Rm 0) s m [.ref (ad 21 w0 0)].toArray below meth c 1 N0 T D gr ad 0 0 (MQ below (va_Qi (fun r Y1 => r = res ∧ Y1 = Y) (WB T D gr ad) (fun q => N0 ≤ q)) [.ref (ad 21 w0 0)].toArray s 0 0 (fun q => N0 ≤ q)) Y 0 [(0, .ref (ad 21 w0 0))] [] := by
  unfold J0_isLatin1_aae02 at h
  refine fw_gets C (v := .int 1) (cx_st C).2.2.2.2.2.1 (cx_ts C _ fl_J0_isLatin1_aae02_38) (fun _ h => h) dJ0_isLatin1_aae02_0 ?_
  refine fw_if_eq C dJ0_isLatin1_aae02_3 (tgt := 17) rfl (fun c1 => ?_) (fun c1 => ?_)
  · have h := ite_t c1 h
    refine fw_iconst C dJ0_isLatin1_aae02_17 (v := 0) rfl ?_
    exact fw_zret C hrt (by decide) Y ⟨Option.some.inj h, rfl⟩ (fun t ht => ht) dJ0_isLatin1_aae02_18
  · have h := ite_f c1 h
    refine fw_aload_n C dJ0_isLatin1_aae02_6 rfl 0 rfl ?_
    obtain ⟨b2, h⟩ := gd_some h
    have b2 := of_decide_eq_true b2
    refine fw_getO C (v := .int 0) ((cx_st C).1 _ b2).2.1 (cx_ts C _ fl_J0_isLatin1_aae02_15) (fun _ h => h) dJ0_isLatin1_aae02_7 ?_
    refine fw_if_ne C dJ0_isLatin1_aae02_10 (tgt := 17) rfl (fun c3 => ?_) (fun c3 => ?_)
    · have h := ite_f c3 h
      refine fw_iconst C dJ0_isLatin1_aae02_17 (v := 0) rfl ?_
      exact fw_zret C hrt (by decide) Y ⟨Option.some.inj h, rfl⟩ (fun t ht => ht) dJ0_isLatin1_aae02_18
    · have h := ite_t c3 h
      refine fw_iconst C dJ0_isLatin1_aae02_13 (v := 1) rfl ?_
      refine fw_goto C dJ0_isLatin1_aae02_14 (tgt := 18) rfl ?_
      exact fw_zret C hrt (by decide) Y ⟨Option.some.inj h, rfl⟩ (fun t ht => ht) dJ0_isLatin1_aae02_18
end
set_option maxRecDepth 100000 in
set_option maxHeartbeats 4000000 in
theorem c_J0_isLatin1_aae02 {l : Launch} {N0 : Nat} {T : Nat → ClassId} {D : va_G} {gr : List (Nat × Nat)} {ad : Nat → Nat → Nat → Nat} {Y : Mem} {w0 : Nat} {res : Int32} (hG : ∀ q ∈ [], q ∈ gr) (h : J0_isLatin1_aae02 Y w0 = some res) : CI l yJ0_isLatin1_aae02 wsJ0_isLatin1_aae02 (Rm 0) N0 T D gr ad Y [.ref (ad 21 w0 0)] (fun r Y1 => r = res ∧ Y1 = Y) :=
  fw_body (by decide +kernel) rfl (Nat.le_of_ble_eq_true rfl) (fun p e s m below meth c C hrt => w_J0_isLatin1_aae02 C hrt hG  h)
noncomputable def J3_checkIndex_8e157_b9 (Y : Mem) (a0 : Int32) (a1 : Int32)  : Option (Int32) :=
  none
noncomputable def J3_checkIndex_8e157 (Y : Mem) (a0 : Int32) (a1 : Int32) : Option (Int32) :=
  if a0 < 0 then (J3_checkIndex_8e157_b9 Y a0 a1) else (if a0 < a1 then (some a0) else (J3_checkIndex_8e157_b9 Y a0 a1))
section
variable {p : Program} {l : Launch} {e : Env} {s : State} {m : MethodId} {below : List Frame} {meth : Method} {c : Code} {N0 : Nat} {T : Nat → ClassId} {D : va_G} {gr : List (Nat × Nat)} {ad : Nat → Nat → Nat → Nat}
set_option maxRecDepth 100000 in
set_option maxHeartbeats 4000000 in
theorem w_J3_checkIndex_8e157_b9 {Y : Mem} {a0 : Int32} {a1 : Int32} (C : Cx p s m [.int a0, .int a1, .ref x2].toArray meth c cJ3_checkIndex_8e157 3 wsJ3_checkIndex_8e157 RJ3 N0 T D gr ad) (hrt : meth.sig.returnType = (some .int)) (hG : ∀ q ∈ [], q ∈ gr) {res : Int32}  (h : J3_checkIndex_8e157_b9 Y a0 a1   = some res) : FW p l e (Rm 0) s m [.int a0, .int a1, .ref x2].toArray below meth c 3 N0 T D gr ad 0 0 (MQ below (va_Qi (fun r Y1 => r = res ∧ Y1 = Y) (WB T D gr ad) (fun q => N0 ≤ q)) [.int a0, .int a1, .ref x2].toArray s 0 0 (fun q => N0 ≤ q)) Y 9 [(0, .int a0), (1, .int a1), (2, .ref x2)] [] := by
  unfold J3_checkIndex_8e157_b9 at h
  cases h
set_option maxRecDepth 100000 in
set_option maxHeartbeats 4000000 in
theorem w_J3_checkIndex_8e157 {Y : Mem} {a0 : Int32} {a1 : Int32} {x2 : Nat} (C : Cx p s m [.int a0, .int a1, .ref x2].toArray meth c cJ3_checkIndex_8e157 3 wsJ3_checkIndex_8e157 RJ3 N0 T D gr ad) (hrt : meth.sig.returnType = (some .int)) (hG : ∀ q ∈ [], q ∈ gr) {res : Int32} (h : J3_checkIndex_8e157 Y a0 a1 = some res) : FW p l e (Rm 0) s m [.int a0, .int a1, .ref x2].toArray below meth c 3 N0 T D gr ad 0 0 (MQ below (va_Qi (fun r Y1 => r = res ∧ Y1 = Y) (WB T D gr ad) (fun q => N0 ≤ q)) [.int a0, .int a1, .ref x2].toArray s 0 0 (fun q => N0 ≤ q)) Y 0 [(0, .int a0), (1, .int a1), (2, .ref x2)] [] := by
  unfold J3_checkIndex_8e157 at h
  refine fw_iload_n C dJ3_checkIndex_8e157_0 rfl 0 rfl ?_
  refine fw_if_lt C dJ3_checkIndex_8e157_1 (tgt := 9) rfl (fun c1 => ?_) (fun c1 => ?_)
  · have h := ite_t c1 h
    exact w_J3_checkIndex_8e157_b9 C hrt hG    h
  · have h := ite_f c1 h
    refine fw_iload_n C dJ3_checkIndex_8e157_4 rfl 0 rfl ?_
    refine fw_iload_n C dJ3_checkIndex_8e157_5 rfl 1 rfl ?_
    refine fw_icmp_lt C dJ3_checkIndex_8e157_6 (tgt := 16) rfl (fun c2 => ?_) (fun c2 => ?_)
    · have h := ite_t c2 h
      refine fw_iload_n C dJ3_checkIndex_8e157_16 rfl 0 rfl ?_
      exact fw_iret C hrt Y ⟨Option.some.inj h, rfl⟩ (fun t ht => ht) dJ3_checkIndex_8e157_17
    · have h := ite_f c2 h
      exact w_J3_checkIndex_8e157_b9 C hrt hG    h
end
set_option maxRecDepth 100000 in
set_option maxHeartbeats 4000000 in
theorem c_J3_checkIndex_8e157 {l : Launch} {N0 : Nat} {T : Nat → ClassId} {D : va_G} {gr : List (Nat × Nat)} {ad : Nat → Nat → Nat → Nat} {Y : Mem} {a0 : Int32} {a1 : Int32} {x2 : Nat} {res : Int32} (hG : ∀ q ∈ [], q ∈ gr) (h : J3_checkIndex_8e157 Y a0 a1 = some res) : CI l yJ3_checkIndex_8e157 wsJ3_checkIndex_8e157 (Rm 0) N0 T D gr ad Y [.int a0, .int a1, .ref x2] (fun r Y1 => r = res ∧ Y1 = Y) :=
  fw_body (by decide +kernel) rfl (Nat.le_of_ble_eq_true rfl) (fun p e s m below meth c C hrt => w_J3_checkIndex_8e157 C hrt hG  h)
section
variable {p : Program} {l : Launch} {e : Env} {s : State} {m : MethodId} {below : List Frame} {meth : Method} {c : Code} {N0 : Nat} {T : Nat → ClassId} {D : va_G} {gr : List (Nat × Nat)} {ad : Nat → Nat → Nat → Nat}
set_option maxRecDepth 100000 in
set_option maxHeartbeats 4000000 in
theorem w_J3_checkIndex_8e157_b9 {Y : Mem} {a0 : Int32} {a1 : Int32} (C : Cx p s m [.int a0, .int a1, .null].toArray meth c cJ3_checkIndex_8e157 3 wsJ3_checkIndex_8e157 RJ3 N0 T D gr ad) (hrt : meth.sig.returnType = (some .int)) (hG : ∀ q ∈ [], q ∈ gr) {res : Int32}  (h : J3_checkIndex_8e157_b9 Y a0 a1   = some res) : FW p l e (Rm 0) s m [.int a0, .int a1, .null].toArray below meth c 3 N0 T D gr ad 0 0 (MQ below (va_Qi (fun r Y1 => r = res ∧ Y1 = Y) (WB T D gr ad) (fun q => N0 ≤ q)) [.int a0, .int a1, .null].toArray s 0 0 (fun q => N0 ≤ q)) Y 9 [(0, .int a0), (1, .int a1), (2, .null)] [] := by
  unfold J3_checkIndex_8e157_b9 at h
  cases h
set_option maxRecDepth 100000 in
set_option maxHeartbeats 4000000 in
theorem w_J3_checkIndex_8e157N {Y : Mem} {a0 : Int32} {a1 : Int32} (C : Cx p s m [.int a0, .int a1, .null].toArray meth c cJ3_checkIndex_8e157 3 wsJ3_checkIndex_8e157 RJ3 N0 T D gr ad) (hrt : meth.sig.returnType = (some .int)) (hG : ∀ q ∈ [], q ∈ gr) {res : Int32} (h : J3_checkIndex_8e157 Y a0 a1 = some res) : FW p l e (Rm 0) s m [.int a0, .int a1, .null].toArray below meth c 3 N0 T D gr ad 0 0 (MQ below (va_Qi (fun r Y1 => r = res ∧ Y1 = Y) (WB T D gr ad) (fun q => N0 ≤ q)) [.int a0, .int a1, .null].toArray s 0 0 (fun q => N0 ≤ q)) Y 0 [(0, .int a0), (1, .int a1), (2, .null)] [] := by
  unfold J3_checkIndex_8e157 at h
  refine fw_iload_n C dJ3_checkIndex_8e157_0 rfl 0 rfl ?_
  refine fw_if_lt C dJ3_checkIndex_8e157_1 (tgt := 9) rfl (fun c1 => ?_) (fun c1 => ?_)
  · have h := ite_t c1 h
    exact w_J3_checkIndex_8e157_b9 C hrt hG    h
  · have h := ite_f c1 h
    refine fw_iload_n C dJ3_checkIndex_8e157_4 rfl 0 rfl ?_
    refine fw_iload_n C dJ3_checkIndex_8e157_5 rfl 1 rfl ?_
    refine fw_icmp_lt C dJ3_checkIndex_8e157_6 (tgt := 16) rfl (fun c2 => ?_) (fun c2 => ?_)
    · have h := ite_t c2 h
      refine fw_iload_n C dJ3_checkIndex_8e157_16 rfl 0 rfl ?_
      exact fw_iret C hrt Y ⟨Option.some.inj h, rfl⟩ (fun t ht => ht) dJ3_checkIndex_8e157_17
    · have h := ite_f c2 h
      exact w_J3_checkIndex_8e157_b9 C hrt hG    h
end
set_option maxRecDepth 100000 in
set_option maxHeartbeats 4000000 in
theorem c_J3_checkIndex_8e157N {l : Launch} {N0 : Nat} {T : Nat → ClassId} {D : va_G} {gr : List (Nat × Nat)} {ad : Nat → Nat → Nat → Nat} {Y : Mem} {a0 : Int32} {a1 : Int32} {res : Int32} (hG : ∀ q ∈ [], q ∈ gr) (h : J3_checkIndex_8e157 Y a0 a1 = some res) : CI l yJ3_checkIndex_8e157 wsJ3_checkIndex_8e157 (Rm 0) N0 T D gr ad Y [.int a0, .int a1, .null] (fun r Y1 => r = res ∧ Y1 = Y) :=
  fw_body (by decide +kernel) rfl (Nat.le_of_ble_eq_true rfl) (fun p e s m below meth c C hrt => w_J3_checkIndex_8e157N C hrt hG  h)
theorem fl_J0_checkIndex_df160_1053 : Cond.fieldLink RJ0 1053 "jdk/internal/util/Preconditions" "SIOOBE_FORMATTER" "Ljava/util/function/BiFunction;" ∈ wsJ0_checkIndex_df160 := by decide +kernel
noncomputable def J0_checkIndex_df160 (Y : Mem) (a0 : Int32) (a1 : Int32) : Option (Unit) :=
  bd1 (J3_checkIndex_8e157 Y a0 a1) <| fun r1 => some ()
section
variable {p : Program} {l : Launch} {e : Env} {s : State} {m : MethodId} {below : List Frame} {meth : Method} {c : Code} {N0 : Nat} {T : Nat → ClassId} {D : va_G} {gr : List (Nat × Nat)} {ad : Nat → Nat → Nat → Nat}
set_option maxRecDepth 100000 in
set_option maxHeartbeats 4000000 in
theorem w_J0_checkIndex_df160 {Y : Mem} {a0 : Int32} {a1 : Int32} (C : Cx p s m [.int a0, .int a1].toArray meth c cJ0_checkIndex_df160 2 wsJ0_checkIndex_df160 RJ0 N0 T D gr ad) (hrt : meth.sig.returnType = none) (hG : ∀ q ∈ [], q ∈ gr) {res : Unit} (h : J0_checkIndex_df160 Y a0 a1 = some res) : FW p l e (Rm 1) s m [.int a0, .int a1].toArray below meth c 2 N0 T D gr ad 0 0 (MQ below (va_Qv (fun Y1 => Y1 = Y) (WB T D gr ad) (fun q => N0 ≤ q)) [.int a0, .int a1].toArray s 0 0 (fun q => N0 ≤ q)) Y 0 [(0, .int a0), (1, .int a1)] [] := by
  unfold J0_checkIndex_df160 at h
  refine fw_iload_n C dJ0_checkIndex_df160_0 rfl 0 rfl ?_
  refine fw_iload_n C dJ0_checkIndex_df160_1 rfl 1 rfl ?_
  refine fw_getsq2 C (cx_st C).2.2.2.2.2.2.1 (cx_ts C _ fl_J0_checkIndex_df160_1053) (fun _ h => h) dJ0_checkIndex_df160_2 ?_ (fun x9 => ?_)
  · obtain ⟨r1, q2, h⟩ := bd1_some h
    refine fw_callSi C (As := [.int a0, .int a1, .null]) (c_J3_checkIndex_8e157N ga0 q2) (va_cwS 3 (cx_ts C) gJ0_checkIndex_df160_J3_checkIndex_8e157 rfl rfl rfl (by decide +kernel) ⟨Nat.le_of_ble_eq_true rfl, Nat.le_of_ble_eq_true rfl⟩) rfl (st := []) rfl (Nat.le_of_ble_eq_true rfl) ⟨Nat.le_refl 0, Nat.le_refl 0⟩ dJ0_checkIndex_df160_5 ?_
    rintro _ _ ⟨rfl, rfl⟩
    refine fw_pop C dJ0_checkIndex_df160_8 rfl ?_
    exact fw_vret C hrt Y rfl (fun t ht => ht) dJ0_checkIndex_df160_9
  · obtain ⟨r1, q2, h⟩ := bd1_some h
    refine fw_callSi C (As := [.int a0, .int a1, .ref x9]) (c_J3_checkIndex_8e157 ga0 q2) (va_cwS 3 (cx_ts C) gJ0_checkIndex_df160_J3_checkIndex_8e157 rfl rfl rfl (by decide +kernel) ⟨Nat.le_of_ble_eq_true rfl, Nat.le_of_ble_eq_true rfl⟩) rfl (st := []) rfl (Nat.le_of_ble_eq_true rfl) ⟨Nat.le_refl 0, Nat.le_refl 0⟩ dJ0_checkIndex_df160_5 ?_
    rintro _ _ ⟨rfl, rfl⟩
    refine fw_pop C dJ0_checkIndex_df160_8 rfl ?_
    exact fw_vret C hrt Y rfl (fun t ht => ht) dJ0_checkIndex_df160_9
end
set_option maxRecDepth 100000 in
set_option maxHeartbeats 4000000 in
theorem c_J0_checkIndex_df160 {l : Launch} {N0 : Nat} {T : Nat → ClassId} {D : va_G} {gr : List (Nat × Nat)} {ad : Nat → Nat → Nat → Nat} {Y : Mem} {a0 : Int32} {a1 : Int32} {res : Unit} (hG : ∀ q ∈ [], q ∈ gr) (h : J0_checkIndex_df160 Y a0 a1 = some res) : CV l yJ0_checkIndex_df160 wsJ0_checkIndex_df160 (Rm 1) N0 T D gr ad Y [.int a0, .int a1] (fun Y1 => Y1 = Y) :=
  fw_body (by decide +kernel) rfl (Nat.le_of_ble_eq_true rfl) (fun p e s m below meth c C hrt => w_J0_checkIndex_df160 C hrt hG  h)
noncomputable def J1_charAt_3b067 (Y : Mem) (w0 : Nat) (a1 : Int32) : Option (Int32) :=
  gd (decide (w0 < 16)) <| bd1 (J0_checkIndex_df160 Y a1 ((Int32.ofNat (sByt w0).length))) <| fun _ => gd (inb a1 (sByt w0).length) <| gd (decide ((i2c_ (((sByt w0).getD (ix a1) 0) &&& 255)).toUInt32.toUInt16.toUInt32.toInt32 = i2c_ (((sByt w0).getD (ix a1) 0) &&& 255))) <| some (i2c_ (((sByt w0).getD (ix a1) 0) &&& 255))
section
variable {p : Program} {l : Launch} {e : Env} {s : State} {m : MethodId} {below : List Frame} {meth : Method} {c : Code} {N0 : Nat} {T : Nat → ClassId} {D : va_G} {gr : List (Nat × Nat)} {ad : Nat → Nat → Nat → Nat}
set_option maxRecDepth 100000 in
set_option maxHeartbeats 4000000 in
theorem w_J1_charAt_3b067 {Y : Mem} {w0 : Nat} {a1 : Int32} (C : Cx p s m [.ref (ad 22 w0 0), .int a1].toArray meth c cJ1_charAt_3b067 2 wsJ1_charAt_3b067 RJ1 N0 T D gr ad) (hrt : meth.sig.returnType = (some .char)) (hG : ∀ q ∈ [], q ∈ gr) {res : Int32} (h : J1_charAt_3b067 Y w0 a1 = some res) : FW p l e (Rm 2) s m [.ref (ad 22 w0 0), .int a1].toArray below meth c 2 N0 T D gr ad 0 0 (MQ below (va_Qi (fun r Y1 => r = res ∧ Y1 = Y) (WB T D gr ad) (fun q => N0 ≤ q)) [.ref (ad 22 w0 0), .int a1].toArray s 0 0 (fun q => N0 ≤ q)) Y 0 [(0, .ref (ad 22 w0 0)), (1, .int a1)] [] := by
  unfold J1_charAt_3b067 at h
  refine fw_iload_n C dJ1_charAt_3b067_0 rfl 1 rfl ?_
  refine fw_aload_n C dJ1_charAt_3b067_1 rfl 0 rfl ?_
  obtain ⟨b1, h⟩ := gd_some h
  have b1 := of_decide_eq_true b1
  refine fw_tlen C ((cx_st C).1 _ b1).2.2.2 (v := (Int32.ofNat (sByt w0).length)) rfl dJ1_charAt_3b067_2 ?_
  obtain ⟨_, q3, h⟩ := bd1_some h
  refine fw_callSv C (As := [.int a1, .int ((Int32.ofNat (sByt w0).length))]) (c_J0_checkIndex_df160 ga0 q3) (va_cwS 2 (cx_ts C) gJ1_charAt_3b067_J0_checkIndex_df160 rfl rfl rfl (by decide +kernel) ⟨Nat.le_of_ble_eq_true rfl, Nat.le_of_ble_eq_true rfl⟩) rfl (st := []) rfl (Nat.le_of_ble_eq_true rfl) ⟨Nat.le_refl 0, Nat.le_refl 0⟩ dJ1_charAt_3b067_3 ?_
  rintro _ rfl
  refine fw_aload_n C dJ1_charAt_3b067_6 rfl 0 rfl ?_
  refine fw_iload_n C dJ1_charAt_3b067_7 rfl 1 rfl ?_
  obtain ⟨b4, h⟩ := gd_some h
  refine fw_tb C ((cx_st C).1 _ b1).2.2.2 b4 (v := .int ((sByt w0).getD (ix a1) 0)) rfl dJ1_charAt_3b067_8 ?_
  refine fw_sipush C dJ1_charAt_3b067_9 (v := 255) rfl ?_
  refine fw_iand C dJ1_charAt_3b067_12 ?_
  refine fw_i2c C dJ1_charAt_3b067_13 ?_
  obtain ⟨b5, h⟩ := gd_some h
  exact fw_cret C hrt (congrArg Value.int (of_decide_eq_true b5)) Y ⟨Option.some.inj h, rfl⟩ (fun t ht => ht) dJ1_charAt_3b067_14
end
set_option maxRecDepth 100000 in
set_option maxHeartbeats 4000000 in
theorem c_J1_charAt_3b067 {l : Launch} {N0 : Nat} {T : Nat → ClassId} {D : va_G} {gr : List (Nat × Nat)} {ad : Nat → Nat → Nat → Nat} {Y : Mem} {w0 : Nat} {a1 : Int32} {res : Int32} (hG : ∀ q ∈ [], q ∈ gr) (h : J1_charAt_3b067 Y w0 a1 = some res) : CI l yJ1_charAt_3b067 wsJ1_charAt_3b067 (Rm 2) N0 T D gr ad Y [.ref (ad 22 w0 0), .int a1] (fun r Y1 => r = res ∧ Y1 = Y) :=
  fw_body (by decide +kernel) rfl (Nat.le_of_ble_eq_true rfl) (fun p e s m below meth c C hrt => w_J1_charAt_3b067 C hrt hG  h)
theorem fl_J0_charAt_5068e_9 : Cond.fieldLink RJ0 9 "java/lang/String" "value" "[B" ∈ wsJ0_charAt_5068e := by decide +kernel
noncomputable def J0_charAt_5068e (Y : Mem) (w0 : Nat) (a1 : Int32) : Option (Int32) :=
  gd (decide (w0 < 16)) <| bd1 (J0_isLatin1_aae02 Y w0) <| fun r2 => if r2 = 0 then (none) else (bd1 (J1_charAt_3b067 Y w0 a1) <| fun r5 => gd (decide ((r5).toUInt32.toUInt16.toUInt32.toInt32 = r5)) <| some r5)
section
variable {p : Program} {l : Launch} {e : Env} {s : State} {m : MethodId} {below : List Frame} {meth : Method} {c : Code} {N0 : Nat} {T : Nat → ClassId} {D : va_G} {gr : List (Nat × Nat)} {ad : Nat → Nat → Nat → Nat}
set_option maxRecDepth 100000 in
set_option maxHeartbeats 4000000 in
theorem w_J0_charAt_5068e {Y : Mem} {w0 : Nat} {a1 : Int32} (C : Cx p s m [.ref (ad 21 w0 0), .int a1].toArray meth c cJ0_charAt_5068e 2 wsJ0_charAt_5068e RJ0 N0 T D gr ad) (hrt : meth.sig.returnType = (some .char)) (hG : ∀ q ∈ [], q ∈ gr) {res : Int32} (h : J0_charAt_5068e Y w0 a1 = some res) : FW p l e (Rm 3) s m [.ref (ad 21 w0 0), .int a1].toArray below meth c 2 N0 T D gr ad 0 0 (MQ below (va_Qi (fun r Y1 => r = res ∧ Y1 = Y) (WB T D gr ad) (fun q => N0 ≤ q)) [.ref (ad 21 w0 0), .int a1].toArray s 0 0 (fun q => N0 ≤ q)) Y 0 [(0, .ref (ad 21 w0 0)), (1, .int a1)] [] := by
  unfold J0_charAt_5068e at h
  refine fw_aload_n C dJ0_charAt_5068e_0 rfl 0 rfl ?_
  obtain ⟨b1, h⟩ := gd_some h
  have b1 := of_decide_eq_true b1
  obtain ⟨r2, q3, h⟩ := bd1_some h
  refine fw_callOi C (Cn := RJ0) (As := []) (c_J0_isLatin1_aae02 ga0 q3) (cwV 0 (cx_ts C) gJ0_charAt_5068e_J0_isLatin1_aae02 rfl rfl rfl (by decide +kernel) ⟨Nat.le_of_ble_eq_true rfl, Nat.le_of_ble_eq_true rfl⟩) ((cx_st C).1 _ b1).1 rfl (st := []) rfl (Nat.le_of_ble_eq_true rfl) ⟨Nat.le_refl 0, Nat.le_refl 0⟩ dJ0_charAt_5068e_1 ?_
  rintro _ _ ⟨rfl, rfl⟩
  refine fw_if_eq C dJ0_charAt_5068e_4 (tgt := 16) rfl (fun c4 => ?_) (fun c4 => ?_)
  · have h := ite_t c4 h
    cases h
  · have h := ite_f c4 h
    refine fw_aload_n C dJ0_charAt_5068e_7 rfl 0 rfl ?_
    refine fw_getO C (v := .ref (ad 22 w0 0)) ((cx_st C).1 _ b1).2.2.1 (cx_ts C _ fl_J0_charAt_5068e_9) (fun _ h => h) dJ0_charAt_5068e_8 ?_
    refine fw_iload_n C dJ0_charAt_5068e_11 rfl 1 rfl ?_
    obtain ⟨r5, q6, h⟩ := bd1_some h
    refine fw_callSi C (As := [.ref (ad 22 w0 0), .int a1]) (c_J1_charAt_3b067 ga0 q6) (va_cwS 2 (cx_ts C) gJ0_charAt_5068e_J1_charAt_3b067 rfl rfl rfl (by decide +kernel) ⟨Nat.le_of_ble_eq_true rfl, Nat.le_of_ble_eq_true rfl⟩) rfl (st := []) rfl (Nat.le_of_ble_eq_true rfl) ⟨Nat.le_refl 0, Nat.le_refl 0⟩ dJ0_charAt_5068e_12 ?_
    rintro _ _ ⟨rfl, rfl⟩
    obtain ⟨b7, h⟩ := gd_some h
    exact fw_cret C hrt (congrArg Value.int (of_decide_eq_true b7)) Y ⟨Option.some.inj h, rfl⟩ (fun t ht => ht) dJ0_charAt_5068e_15
end
set_option maxRecDepth 100000 in
set_option maxHeartbeats 4000000 in
theorem c_J0_charAt_5068e {l : Launch} {N0 : Nat} {T : Nat → ClassId} {D : va_G} {gr : List (Nat × Nat)} {ad : Nat → Nat → Nat → Nat} {Y : Mem} {w0 : Nat} {a1 : Int32} {res : Int32} (hG : ∀ q ∈ [], q ∈ gr) (h : J0_charAt_5068e Y w0 a1 = some res) : CI l yJ0_charAt_5068e wsJ0_charAt_5068e (Rm 3) N0 T D gr ad Y [.ref (ad 21 w0 0), .int a1] (fun r Y1 => r = res ∧ Y1 = Y) :=
  fw_body (by decide +kernel) rfl (Nat.le_of_ble_eq_true rfl) (fun p e s m below meth c C hrt => w_J0_charAt_5068e C hrt hG  h)
theorem ly_X12_isWord_12 : ∀ w ∈ u_ws RX12 TX12 19, w ∈ wsX12_isWord := by decide +kernel
theorem fl_X12_isWord_57 : Cond.fieldLink RX12 57 "RecipeSchedulerModel" "type" "I" ∈ wsX12_isWord := by decide +kernel
theorem fl_X12_isWord_54 : Cond.fieldLink RX12 54 "RecipeSchedulerModel" "ahead" "I" ∈ wsX12_isWord := by decide +kernel
theorem fl_X12_isWord_60 : Cond.fieldLink RX12 60 "RecipeSchedulerModel" "from" "I" ∈ wsX12_isWord := by decide +kernel
theorem fl_X12_isWord_24 : Cond.fieldLink RX12 24 "RecipeSchedulerModel" "buffer" "[I" ∈ wsX12_isWord := by decide +kernel
noncomputable def X12_isWord_b28 (Y : Mem) (w1 : Nat) : Nat → Int32 → Option (Int32)
  | 0, _ => none
  | n+1, l2 =>
  gd (decide (w1 < 16)) <| bd1 (J0_length_8abf5 Y w1) <| fun r7 => if r7 ≤ l2 then (some 1) else (gd (inb ((Y 10 0 0 16) + l2) 700) <| bd1 (J0_charAt_5068e Y w1 l2) <| fun r11 => if (Y 10 0 3 (ix ((Y 10 0 0 16) + l2))) = r11 then (X12_isWord_b28 Y w1 n (l2 + 1)) else (some 0))
noncomputable def X12_isWord (Y : Mem) (w1 : Nat) : Option (Int32) :=
  if (Y 10 0 0 15) = 1 then (gd (decide (w1 < 16)) <| bd1 (J0_length_8abf5 Y w1) <| fun r3 => if ((Y 10 0 0 14) - (Y 10 0 0 16)) = r3 then (X12_isWord_b28 Y w1 FU 0) else (some 0)) else (some 0)
section
variable {p : Program} {l : Launch} {e : Env} {s : State} {m : MethodId} {below : List Frame} {meth : Method} {c : Code} {N0 : Nat} {T : Nat → ClassId} {D : va_G} {gr : List (Nat × Nat)} {ad : Nat → Nat → Nat → Nat}
set_option maxRecDepth 100000 in
set_option maxHeartbeats 4000000 in
theorem w_X12_isWord_b28 {Y : Mem} {w1 : Nat} (C : Cx p s m [.ref (ad 10 0 0), .ref (ad 21 w1 0)].toArray meth c cX12_isWord 3 wsX12_isWord RX12 N0 T D gr ad) (hrt : meth.sig.returnType = (some .boolean)) (hG : ∀ q ∈ [(10, 0)], q ∈ gr) {res : Int32} : ∀ (n : Nat) (l2 : Int32), X12_isWord_b28 Y w1  n l2 = some res → FW p l e (Rm 4) s m [.ref (ad 10 0 0), .ref (ad 21 w1 0)].toArray below meth c 3 N0 T D gr ad 0 0 (MQ below (va_Qi (fun r Y1 => r = res ∧ Y1 = Y) (WB T D gr ad) (fun q => N0 ≤ q)) [.ref (ad 10 0 0), .ref (ad 21 w1 0)].toArray s 0 0 (fun q => N0 ≤ q)) Y 28 [(2, .int l2), (0, .ref (ad 10 0 0)), (1, .ref (ad 21 w1 0))] [] := by
  intro n
  induction n with
  | zero =>
    intro l2 h
    unfold X12_isWord_b28 at h
    cases h
  | succ n ih =>
    intro l2 h
    unfold X12_isWord_b28 at h
    refine fw_iload_n C dX12_isWord_28 rfl 0 rfl ?_
    refine fw_aload_n C dX12_isWord_29 rfl 2 rfl ?_
    obtain ⟨b6, h⟩ := gd_some h
    have b6 := of_decide_eq_true b6
    obtain ⟨r7, q8, h⟩ := bd1_some h
    refine fw_callOi C (Cn := RJ0) (As := []) (c_J0_length_8abf5 ga0 q8) (cwV 0 (cx_ts C) gX12_isWord_J0_length_8abf5 rfl rfl rfl (by decide +kernel) ⟨Nat.le_of_ble_eq_true rfl, Nat.le_of_ble_eq_true rfl⟩) ((cx_st C).1 _ b6).1 rfl (st := [.int l2]) rfl (Nat.le_of_ble_eq_true rfl) ⟨Nat.le_refl 0, Nat.le_refl 0⟩ dX12_isWord_30 ?_
    rintro _ _ ⟨rfl, rfl⟩
    refine fw_icmp_ge C dX12_isWord_33 (tgt := 63) rfl (fun c9 => ?_) (fun c9 => ?_)
    · have h := ite_t c9 h
      refine fw_iconst C dX12_isWord_63 (v := 1) rfl ?_
      exact fw_zret C hrt (by decide) Y ⟨Option.some.inj h, rfl⟩ (fun t ht => ht) dX12_isWord_64
    · have h := ite_f c9 h
      refine fw_aload_n C dX12_isWord_36 rfl 1 rfl ?_
      refine fw_get C (ci := 10) (Cn := RX12) (Tc := TX12) (N := 19) (j := 3) ly_X12_isWord_12 rfl (hG _ (List.mem_of_getElem? (i := 0) rfl)) (of10_0 _) (ce10 T ad _ _) (by decide) (cx_ts C _ fl_X12_isWord_24) (fun _ h => h) (v := .ref (ad 10 0 3)) rfl dX12_isWord_37 ?_
      refine fw_aload_n C dX12_isWord_40 rfl 1 rfl ?_
      refine fw_get C (ci := 10) (Cn := RX12) (Tc := TX12) (N := 19) (j := 16) ly_X12_isWord_12 rfl (hG _ (List.mem_of_getElem? (i := 0) rfl)) (of10_0 _) (ce10 T ad _ _) (by decide) (cx_ts C _ fl_X12_isWord_60) (fun _ h => h) (v := .int (Y 10 0 0 16)) rfl dX12_isWord_41 ?_
      refine fw_iload_n C dX12_isWord_44 rfl 0 rfl ?_
      refine fw_iadd C dX12_isWord_45 ?_
      obtain ⟨b10, h⟩ := gd_some h
      refine fw_iald2 C (hG _ (List.mem_of_getElem? (i := 0) rfl)) (of10_3 _) (ca10_3 T ad _ _) b10 (Nat.le_of_ble_eq_true rfl) dX12_isWord_46 ?_
      refine fw_aload_n C dX12_isWord_47 rfl 2 rfl ?_
      refine fw_iload_n C dX12_isWord_48 rfl 0 rfl ?_
      obtain ⟨r11, q12, h⟩ := bd1_some h
      refine fw_callOi C (Cn := RJ0) (As := [.int l2]) (c_J0_charAt_5068e ga0 q12) (cwV 1 (cx_ts C) gX12_isWord_J0_charAt_5068e rfl rfl rfl (by decide +kernel) ⟨Nat.le_of_ble_eq_true rfl, Nat.le_of_ble_eq_true rfl⟩) ((cx_st C).1 _ b6).1 rfl (st := [.int (Y 10 0 3 (ix ((Y 10 0 0 16) + l2)))]) rfl (Nat.le_of_ble_eq_true rfl) ⟨Nat.le_refl 0, Nat.le_refl 0⟩ dX12_isWord_49 ?_
      rintro _ _ ⟨rfl, rfl⟩
      refine fw_icmp_eq C dX12_isWord_52 (tgt := 57) rfl (fun c13 => ?_) (fun c13 => ?_)
      · have h := ite_t c13 h
        refine fw_iinc C dX12_isWord_57 (kk := 0) (v := l2 + 1) rfl rfl (by decide) (L' := [(2, .int (l2 + 1)), (0, .ref (ad 10 0 0)), (1, .ref (ad 21 w1 0))]) rfl ?_
        refine fw_goto C dX12_isWord_60 (tgt := 28) rfl ?_
        exact ih _ h
      · have h := ite_f c13 h
        refine fw_iconst C dX12_isWord_55 (v := 0) rfl ?_
        exact fw_zret C hrt (by decide) Y ⟨Option.some.inj h, rfl⟩ (fun t ht => ht) dX12_isWord_56
set_option maxRecDepth 100000 in
set_option maxHeartbeats 4000000 in
theorem w_X12_isWord {Y : Mem} {w1 : Nat} (C : Cx p s m [.ref (ad 10 0 0), .ref (ad 21 w1 0)].toArray meth c cX12_isWord 3 wsX12_isWord RX12 N0 T D gr ad) (hrt : meth.sig.returnType = (some .boolean)) (hG : ∀ q ∈ [(10, 0)], q ∈ gr) {res : Int32} (h : X12_isWord Y w1 = some res) : FW p l e (Rm 4) s m [.ref (ad 10 0 0), .ref (ad 21 w1 0)].toArray below meth c 3 N0 T D gr ad 0 0 (MQ below (va_Qi (fun r Y1 => r = res ∧ Y1 = Y) (WB T D gr ad) (fun q => N0 ≤ q)) [.ref (ad 10 0 0), .ref (ad 21 w1 0)].toArray s 0 0 (fun q => N0 ≤ q)) Y 0 [(0, .ref (ad 10 0 0)), (1, .ref (ad 21 w1 0))] [] := by
  unfold X12_isWord at h
  refine fw_aload_n C dX12_isWord_0 rfl 0 rfl ?_
  refine fw_get C (ci := 10) (Cn := RX12) (Tc := TX12) (N := 19) (j := 15) ly_X12_isWord_12 rfl (hG _ (List.mem_of_getElem? (i := 0) rfl)) (of10_0 _) (ce10 T ad _ _) (by decide) (cx_ts C _ fl_X12_isWord_57) (fun _ h => h) (v := .int (Y 10 0 0 15)) rfl dX12_isWord_1 ?_
  refine fw_iconst C dX12_isWord_4 (v := 1) rfl ?_
  refine fw_icmp_ne C dX12_isWord_5 (tgt := 24) rfl (fun c1 => ?_) (fun c1 => ?_)
  · have h := ite_f c1 h
    refine fw_iconst C dX12_isWord_24 (v := 0) rfl ?_
    exact fw_zret C hrt (by decide) Y ⟨Option.some.inj h, rfl⟩ (fun t ht => ht) dX12_isWord_25
  · have h := ite_t c1 h
    refine fw_aload_n C dX12_isWord_8 rfl 0 rfl ?_
    refine fw_get C (ci := 10) (Cn := RX12) (Tc := TX12) (N := 19) (j := 14) ly_X12_isWord_12 rfl (hG _ (List.mem_of_getElem? (i := 0) rfl)) (of10_0 _) (ce10 T ad _ _) (by decide) (cx_ts C _ fl_X12_isWord_54) (fun _ h => h) (v := .int (Y 10 0 0 14)) rfl dX12_isWord_9 ?_
    refine fw_aload_n C dX12_isWord_12 rfl 0 rfl ?_
    refine fw_get C (ci := 10) (Cn := RX12) (Tc := TX12) (N := 19) (j := 16) ly_X12_isWord_12 rfl (hG _ (List.mem_of_getElem? (i := 0) rfl)) (of10_0 _) (ce10 T ad _ _) (by decide) (cx_ts C _ fl_X12_isWord_60) (fun _ h => h) (v := .int (Y 10 0 0 16)) rfl dX12_isWord_13 ?_
    refine fw_isub C dX12_isWord_16 ?_
    refine fw_aload_n C dX12_isWord_17 rfl 1 rfl ?_
    obtain ⟨b2, h⟩ := gd_some h
    have b2 := of_decide_eq_true b2
    obtain ⟨r3, q4, h⟩ := bd1_some h
    refine fw_callOi C (Cn := RJ0) (As := []) (c_J0_length_8abf5 ga0 q4) (cwV 0 (cx_ts C) gX12_isWord_J0_length_8abf5 rfl rfl rfl (by decide +kernel) ⟨Nat.le_of_ble_eq_true rfl, Nat.le_of_ble_eq_true rfl⟩) ((cx_st C).1 _ b2).1 rfl (st := [.int ((Y 10 0 0 14) - (Y 10 0 0 16))]) rfl (Nat.le_of_ble_eq_true rfl) ⟨Nat.le_refl 0, Nat.le_refl 0⟩ dX12_isWord_18 ?_
    rintro _ _ ⟨rfl, rfl⟩
    refine fw_icmp_eq C dX12_isWord_21 (tgt := 26) rfl (fun c5 => ?_) (fun c5 => ?_)
    · have h := ite_t c5 h
      refine fw_iconst C dX12_isWord_26 (v := 0) rfl ?_
      refine fw_istore_n C dX12_isWord_27 rfl (by decide) (L' := [(2, .int 0), (0, .ref (ad 10 0 0)), (1, .ref (ad 21 w1 0))]) rfl ?_
      exact w_X12_isWord_b28 C hrt hG   _ _ h
    · have h := ite_f c5 h
      refine fw_iconst C dX12_isWord_24 (v := 0) rfl ?_
      exact fw_zret C hrt (by decide) Y ⟨Option.some.inj h, rfl⟩ (fun t ht => ht) dX12_isWord_25
end
set_option maxRecDepth 100000 in
set_option maxHeartbeats 4000000 in
theorem c_X12_isWord {l : Launch} {N0 : Nat} {T : Nat → ClassId} {D : va_G} {gr : List (Nat × Nat)} {ad : Nat → Nat → Nat → Nat} {Y : Mem} {w1 : Nat} {res : Int32} (hG : ∀ q ∈ [(10, 0)], q ∈ gr) (h : X12_isWord Y w1 = some res) : CI l yX12_isWord wsX12_isWord (Rm 4) N0 T D gr ad Y [.ref (ad 10 0 0), .ref (ad 21 w1 0)] (fun r Y1 => r = res ∧ Y1 = Y) :=
  fw_body (by decide +kernel) rfl (Nat.le_of_ble_eq_true rfl) (fun p e s m below meth c C hrt => w_X12_isWord C hrt hG  h)
noncomputable def X12_commandHere_b2 (Y : Mem) : Nat → Int32 → Option (Int32)
  | 0, _ => none
  | n+1, l1 =>
  if 7 < l1 then (some ((-1))) else (bd1 (X12_nameOf Y l1) <| fun r2 => bd1 (X12_isWord Y r2) <| fun r4 => if r4 = 0 then (X12_commandHere_b2 Y n (l1 + 1)) else (some l1))
noncomputable def X12_commandHere (Y : Mem) : Option (Int32) :=
  X12_commandHere_b2 Y FU 0
section
variable {p : Program} {l : Launch} {e : Env} {s : State} {m : MethodId} {below : List Frame} {meth : Method} {c : Code} {N0 : Nat} {T : Nat → ClassId} {D : va_G} {gr : List (Nat × Nat)} {ad : Nat → Nat → Nat → Nat}
set_option maxRecDepth 100000 in
set_option maxHeartbeats 4000000 in
theorem w_X12_commandHere_b2 {Y : Mem} (C : Cx p s m [.ref (ad 10 0 0)].toArray meth c cX12_commandHere 2 wsX12_commandHere RX12 N0 T D gr ad) (hrt : meth.sig.returnType = (some .int)) (hG : ∀ q ∈ [(10, 0)], q ∈ gr) {res : Int32} : ∀ (n : Nat) (l1 : Int32), X12_commandHere_b2 Y  n l1 = some res → FW p l e (Rm 5) s m [.ref (ad 10 0 0)].toArray below meth c 2 N0 T D gr ad 0 0 (MQ below (va_Qi (fun r Y1 => r = res ∧ Y1 = Y) (WB T D gr ad) (fun q => N0 ≤ q)) [.ref (ad 10 0 0)].toArray s 0 0 (fun q => N0 ≤ q)) Y 2 [(1, .int l1), (0, .ref (ad 10 0 0))] [] := by
  intro n
  induction n with
  | zero =>
    intro l1 h
    unfold X12_commandHere_b2 at h
    cases h
  | succ n ih =>
    intro l1 h
    unfold X12_commandHere_b2 at h
    refine fw_iload_n C dX12_commandHere_2 rfl 0 rfl ?_
    refine fw_bipush C dX12_commandHere_3 (v := 7) rfl ?_
    refine fw_icmp_gt C dX12_commandHere_5 (tgt := 27) rfl (fun c1 => ?_) (fun c1 => ?_)
    · have h := ite_t c1 h
      refine fw_iconst C dX12_commandHere_27 (v := (-1)) rfl ?_
      exact fw_iret C hrt Y ⟨Option.some.inj h, rfl⟩ (fun t ht => ht) dX12_commandHere_28
    · have h := ite_f c1 h
      refine fw_aload_n C dX12_commandHere_8 rfl 1 rfl ?_
      refine fw_iload_n C dX12_commandHere_9 rfl 0 rfl ?_
      obtain ⟨r2, q3, h⟩ := bd1_some h
      refine fw_callSq C (As := [.int l1]) (c_X12_nameOf ga0 q3) (va_cwS 1 (cx_ts C) gX12_commandHere_X12_nameOf rfl rfl rfl (by decide +kernel) ⟨Nat.le_of_ble_eq_true rfl, Nat.le_of_ble_eq_true rfl⟩) rfl (st := [.ref (ad 10 0 0)]) rfl (Nat.le_of_ble_eq_true rfl) ⟨Nat.le_refl 0, Nat.le_refl 0⟩ dX12_commandHere_10 ?_
      rintro _ _ ⟨rfl, rfl⟩
      obtain ⟨r4, q5, h⟩ := bd1_some h
      refine fw_callVi C (ci := 10) (Cn := RX12) (Tc := TX12) (N := 19) (As := [.ref (ad 21 r2 0)]) (c_X12_isWord (gac (hG _ (List.mem_of_getElem? (i := 0) rfl)) ga0) q5) (cwV 1 (cx_ts C) gX12_commandHere_X12_isWord rfl rfl rfl (by decide +kernel) ⟨Nat.le_of_ble_eq_true rfl, Nat.le_of_ble_eq_true rfl⟩) rfl (hG _ (List.mem_of_getElem? (i := 0) rfl)) (of10_0 _) (ce10 T ad _ _) rfl (st := []) rfl (Nat.le_of_ble_eq_true rfl) ⟨Nat.le_refl 0, Nat.le_refl 0⟩ dX12_commandHere_13 ?_
      rintro _ _ ⟨rfl, rfl⟩
      refine fw_if_eq C dX12_commandHere_16 (tgt := 21) rfl (fun c6 => ?_) (fun c6 => ?_)
      · have h := ite_t c6 h
        refine fw_iinc C dX12_commandHere_21 (kk := 0) (v := l1 + 1) rfl rfl (by decide) (L' := [(1, .int (l1 + 1)), (0, .ref (ad 10 0 0))]) rfl ?_
        refine fw_goto C dX12_commandHere_24 (tgt := 2) rfl ?_
        exact ih _ h
      · have h := ite_f c6 h
        refine fw_iload_n C dX12_commandHere_19 rfl 0 rfl ?_
        exact fw_iret C hrt Y ⟨Option.some.inj h, rfl⟩ (fun t ht => ht) dX12_commandHere_20
set_option maxRecDepth 100000 in
set_option maxHeartbeats 4000000 in
theorem w_X12_commandHere {Y : Mem} (C : Cx p s m [.ref (ad 10 0 0)].toArray meth c cX12_commandHere 2 wsX12_commandHere RX12 N0 T D gr ad) (hrt : meth.sig.returnType = (some .int)) (hG : ∀ q ∈ [(10, 0)], q ∈ gr) {res : Int32} (h : X12_commandHere Y = some res) : FW p l e (Rm 5) s m [.ref (ad 10 0 0)].toArray below meth c 2 N0 T D gr ad 0 0 (MQ below (va_Qi (fun r Y1 => r = res ∧ Y1 = Y) (WB T D gr ad) (fun q => N0 ≤ q)) [.ref (ad 10 0 0)].toArray s 0 0 (fun q => N0 ≤ q)) Y 0 [(0, .ref (ad 10 0 0))] [] := by
  unfold X12_commandHere at h
  refine fw_iconst C dX12_commandHere_0 (v := 0) rfl ?_
  refine fw_istore_n C dX12_commandHere_1 rfl (by decide) (L' := [(1, .int 0), (0, .ref (ad 10 0 0))]) rfl ?_
  exact w_X12_commandHere_b2 C hrt hG   _ _ h
end
set_option maxRecDepth 100000 in
set_option maxHeartbeats 4000000 in
theorem c_X12_commandHere {l : Launch} {N0 : Nat} {T : Nat → ClassId} {D : va_G} {gr : List (Nat × Nat)} {ad : Nat → Nat → Nat → Nat} {Y : Mem} {res : Int32} (hG : ∀ q ∈ [(10, 0)], q ∈ gr) (h : X12_commandHere Y = some res) : CI l yX12_commandHere wsX12_commandHere (Rm 5) N0 T D gr ad Y [.ref (ad 10 0 0)] (fun r Y1 => r = res ∧ Y1 = Y) :=
  fw_body (by decide +kernel) rfl (Nat.le_of_ble_eq_true rfl) (fun p e s m below meth c C hrt => w_X12_commandHere C hrt hG  h)
theorem ly_X12_completions_12 : ∀ w ∈ u_ws RX12 TX12 19, w ∈ wsX12_completions := by decide +kernel
theorem fl_X12_completions_13 : Cond.fieldLink RX12 13 "RecipeSchedulerModel" "m" "[I" ∈ wsX12_completions := by decide +kernel
noncomputable def X12_completions (Y : Mem) : Option (Int32 × Mem) :=
  gd (inb 8 4202) <| bd2 (X12_plain Y (Y 10 0 1 (ix 8))) <| fun r2 Y4 => some (r2, Y4)
section
variable {p : Program} {l : Launch} {e : Env} {s : State} {m : MethodId} {below : List Frame} {meth : Method} {c : Code} {N0 : Nat} {T : Nat → ClassId} {D : va_G} {gr : List (Nat × Nat)} {ad : Nat → Nat → Nat → Nat}
set_option maxRecDepth 100000 in
set_option maxHeartbeats 4000000 in
theorem w_X12_completions {Y : Mem} (C : Cx p s m [.ref (ad 10 0 0)].toArray meth c cX12_completions 1 wsX12_completions RX12 N0 T D gr ad) (hrt : meth.sig.returnType = (some .int)) (hG : ∀ q ∈ [(10, 0)], q ∈ gr) {res : Int32 × Mem} (h : X12_completions Y = some res) : FW p l e (Rm 1) s m [.ref (ad 10 0 0)].toArray below meth c 1 N0 T D gr ad 0 0 (MQ below (va_Qi (fun r Y1 => (r, Y1) = res) (WB T D gr ad) (fun q => N0 ≤ q)) [.ref (ad 10 0 0)].toArray s 0 0 (fun q => N0 ≤ q)) Y 0 [(0, .ref (ad 10 0 0))] [] := by
  unfold X12_completions at h
  refine fw_aload_n C dX12_completions_0 rfl 0 rfl ?_
  refine fw_aload_n C dX12_completions_1 rfl 0 rfl ?_
  refine fw_get C (ci := 10) (Cn := RX12) (Tc := TX12) (N := 19) (j := 0) ly_X12_completions_12 rfl (hG _ (List.mem_of_getElem? (i := 0) rfl)) (of10_0 _) (ce10 T ad _ _) (by decide) (cx_ts C _ fl_X12_completions_13) (fun _ h => h) (v := .ref (ad 10 0 1)) rfl dX12_completions_2 ?_
  refine fw_bipush C dX12_completions_5 (v := 8) rfl ?_
  obtain ⟨b1, h⟩ := gd_some h
  refine fw_iald2 C (hG _ (List.mem_of_getElem? (i := 0) rfl)) (of10_1 _) (ca10_1 T ad _ _) b1 (Nat.le_of_ble_eq_true rfl) dX12_completions_7 ?_
  obtain ⟨r2, Y4, q3, h⟩ := bd2_some h
  refine fw_callVi C (ci := 10) (Cn := RX12) (Tc := TX12) (N := 19) (As := [.int (Y 10 0 1 (ix 8))]) (c_X12_plain (gac (hG _ (List.mem_of_getElem? (i := 0) rfl)) ga0) q3) (cwV 1 (cx_ts C) gX12_completions_X12_plain rfl rfl rfl (by decide +kernel) ⟨Nat.le_of_ble_eq_true rfl, Nat.le_of_ble_eq_true rfl⟩) rfl (hG _ (List.mem_of_getElem? (i := 0) rfl)) (of10_0 _) (ce10 T ad _ _) rfl (st := []) rfl (Nat.le_of_ble_eq_true rfl) ⟨Nat.le_refl 0, Nat.le_refl 0⟩ dX12_completions_8 ?_
  intro r_ Y_ e_
  obtain ⟨rfl, rfl⟩ := Prod.mk.inj e_
  exact fw_iret C hrt Y4 (Option.some.inj h) (fun t ht => ht) dX12_completions_11
end
set_option maxRecDepth 100000 in
set_option maxHeartbeats 4000000 in
theorem c_X12_completions {l : Launch} {N0 : Nat} {T : Nat → ClassId} {D : va_G} {gr : List (Nat × Nat)} {ad : Nat → Nat → Nat → Nat} {Y : Mem} {res : Int32 × Mem} (hG : ∀ q ∈ [(10, 0)], q ∈ gr) (h : X12_completions Y = some res) : CI l yX12_completions wsX12_completions (Rm 1) N0 T D gr ad Y [.ref (ad 10 0 0)] (fun r Y1 => (r, Y1) = res) :=
  fw_body (by decide +kernel) rfl (Nat.le_of_ble_eq_true rfl) (fun p e s m below meth c C hrt => w_X12_completions C hrt hG  h)
theorem ly_X12_computeHeads_12 : ∀ w ∈ u_ws RX12 TX12 19, w ∈ wsX12_computeHeads := by decide +kernel
theorem fl_X12_computeHeads_13 : Cond.fieldLink RX12 13 "RecipeSchedulerModel" "m" "[I" ∈ wsX12_computeHeads := by decide +kernel
theorem fl_X12_computeHeads_45 : Cond.fieldLink RX12 45 "RecipeSchedulerModel" "heads" "[I" ∈ wsX12_computeHeads := by decide +kernel
noncomputable def X12_computeHeads_b86  (k22 : Mem → Int32 → Int32 → Option (Mem)) (Y : Mem) (l2 : Int32) (l1 : Int32) : Option (Mem) :=
  k22 Y (l2 + 1) l1
noncomputable def X12_computeHeads_b22  (k2 : Mem → Int32 → Option (Mem)) : Nat → Mem → Int32 → Int32 → Option (Mem)
  | 0, _, _, _ => none
  | n+1, Y, l2, l1 =>
  bd1 (X12_of Y l1 12) <| fun r6 => if r6 ≤ l2 then (k2 Y (l1 + 1)) else (bd1 (X12_of Y l1 (13 + l2)) <| fun r9 => gd (inb r9 14) <| bd1 (X12_of Y r9 7) <| fun r12 => gd (inb l1 14) <| if ((Y 10 0 6 (ix r9)) + r12) ≤ (Y 10 0 6 (ix l1)) then (X12_computeHeads_b86 (X12_computeHeads_b22 k2 n) Y l2 l1) else (bd1 (X12_of Y r9 7) <| fun r16 => lt_ (up Y 10 0 6 (ix l1) ((Y 10 0 6 (ix r9)) + r16)) <| fun Y18 => X12_computeHeads_b86 (X12_computeHeads_b22 k2 n) Y18 l2 l1))
noncomputable def X12_computeHeads_b2  : Nat → Mem → Int32 → Option (Mem)
  | 0, _, _ => none
  | n+1, Y, l1 =>
  gd (inb 13 4202) <| if (Y 10 0 1 (ix 13)) ≤ l1 then (some Y) else (gd (inb l1 14) <| lt_ (up Y 10 0 6 (ix l1) 0) <| fun Y4 => X12_computeHeads_b22 (X12_computeHeads_b2 n) FU Y4 0 l1)
noncomputable def X12_computeHeads (Y : Mem) : Option (Mem) :=
  X12_computeHeads_b2 FU Y 0
section
variable {p : Program} {l : Launch} {e : Env} {s : State} {m : MethodId} {below : List Frame} {meth : Method} {c : Code} {N0 : Nat} {T : Nat → ClassId} {D : va_G} {gr : List (Nat × Nat)} {ad : Nat → Nat → Nat → Nat}
set_option maxRecDepth 100000 in
set_option maxHeartbeats 4000000 in
theorem w_X12_computeHeads_b86  (C : Cx p s m [.ref (ad 10 0 0)].toArray meth c cX12_computeHeads 4 wsX12_computeHeads RX12 N0 T D gr ad) (hrt : meth.sig.returnType = none) (hG : ∀ q ∈ [(10, 0)], q ∈ gr) {res : Mem} {k22 : Mem → Int32 → Int32 → Option (Mem)} (hk22 : ∀ (Y : Mem) (l2 : Int32) (l1 : Int32), k22 Y l2 l1 = some res → FW p l e (Rm 1) s m [.ref (ad 10 0 0)].toArray below meth c 4 N0 T D gr ad 0 0 (MQ below (va_Qv (fun Y1 => Y1 = res) (WB T D gr ad) (fun q => N0 ≤ q)) [.ref (ad 10 0 0)].toArray s 0 0 (fun q => N0 ≤ q)) Y 22 [(2, .int l2), (1, .int l1), (0, .ref (ad 10 0 0))] []) (Y : Mem) (l2 : Int32) (l1 : Int32) (h : X12_computeHeads_b86  k22 Y l2 l1 = some res) : FW p l e (Rm 1) s m [.ref (ad 10 0 0)].toArray below meth c 4 N0 T D gr ad 0 0 (MQ below (va_Qv (fun Y1 => Y1 = res) (WB T D gr ad) (fun q => N0 ≤ q)) [.ref (ad 10 0 0)].toArray s 0 0 (fun q => N0 ≤ q)) Y 86 [(2, .int l2), (1, .int l1), (0, .ref (ad 10 0 0))] [] := by
  unfold X12_computeHeads_b86 at h
  refine fw_iinc C dX12_computeHeads_86 (kk := 0) (v := l2 + 1) rfl rfl (by decide) (L' := [(2, .int (l2 + 1)), (1, .int l1), (0, .ref (ad 10 0 0))]) rfl ?_
  refine fw_goto C dX12_computeHeads_89 (tgt := 22) rfl ?_
  exact hk22 _ _ _ h
set_option maxRecDepth 100000 in
set_option maxHeartbeats 4000000 in
theorem w_X12_computeHeads_b22  (C : Cx p s m [.ref (ad 10 0 0)].toArray meth c cX12_computeHeads 4 wsX12_computeHeads RX12 N0 T D gr ad) (hrt : meth.sig.returnType = none) (hG : ∀ q ∈ [(10, 0)], q ∈ gr) {res : Mem} {k2 : Mem → Int32 → Option (Mem)} (hk2 : ∀ (Y : Mem) (l1 : Int32), k2 Y l1 = some res → FW p l e (Rm 1) s m [.ref (ad 10 0 0)].toArray below meth c 4 N0 T D gr ad 0 0 (MQ below (va_Qv (fun Y1 => Y1 = res) (WB T D gr ad) (fun q => N0 ≤ q)) [.ref (ad 10 0 0)].toArray s 0 0 (fun q => N0 ≤ q)) Y 2 [(1, .int l1), (0, .ref (ad 10 0 0))] []) : ∀ (n : Nat) (Y : Mem) (l2 : Int32) (l1 : Int32), X12_computeHeads_b22  k2 n Y l2 l1 = some res → FW p l e (Rm 1) s m [.ref (ad 10 0 0)].toArray below meth c 4 N0 T D gr ad 0 0 (MQ below (va_Qv (fun Y1 => Y1 = res) (WB T D gr ad) (fun q => N0 ≤ q)) [.ref (ad 10 0 0)].toArray s 0 0 (fun q => N0 ≤ q)) Y 22 [(2, .int l2), (1, .int l1), (0, .ref (ad 10 0 0))] [] := by
  intro n
  induction n with
  | zero =>
    intro Y l2 l1 h
    unfold X12_computeHeads_b22 at h
    cases h
  | succ n ih =>
    intro Y l2 l1 h
    unfold X12_computeHeads_b22 at h
    refine fw_iload_n C dX12_computeHeads_22 rfl 0 rfl ?_
    refine fw_aload_n C dX12_computeHeads_23 rfl 2 rfl ?_
    refine fw_iload_n C dX12_computeHeads_24 rfl 1 rfl ?_
    refine fw_bipush C dX12_computeHeads_25 (v := 12) rfl ?_
    obtain ⟨r6, q7, h⟩ := bd1_some h
    refine fw_callVi C (ci := 10) (Cn := RX12) (Tc := TX12) (N := 19) (As := [.int l1, .int 12]) (c_X12_of (gac (hG _ (List.mem_of_getElem? (i := 0) rfl)) ga0) q7) (cwV 2 (cx_ts C) gX12_computeHeads_X12_of rfl rfl rfl (by decide +kernel) ⟨Nat.le_of_ble_eq_true rfl, Nat.le_of_ble_eq_true rfl⟩) rfl (hG _ (List.mem_of_getElem? (i := 0) rfl)) (of10_0 _) (ce10 T ad _ _) rfl (st := [.int l2]) rfl (Nat.le_of_ble_eq_true rfl) ⟨Nat.le_refl 0, Nat.le_refl 0⟩ dX12_computeHeads_27 ?_
    rintro _ _ ⟨rfl, rfl⟩
    refine fw_icmp_ge C dX12_computeHeads_30 (tgt := 92) rfl (fun c8 => ?_) (fun c8 => ?_)
    · have h := ite_t c8 h
      refine fw_iinc C dX12_computeHeads_92 (kk := 1) (v := l1 + 1) rfl rfl (by decide) (L' := [(1, .int (l1 + 1)), (2, .int l2), (0, .ref (ad 10 0 0))]) rfl ?_
      refine fw_goto C dX12_computeHeads_95 (tgt := 2) rfl ?_
      refine fw_sub [0, 2] (L' := [(1, .int (l1 + 1)), (0, .ref (ad 10 0 0))]) rfl ?_
      exact hk2 _ _ h
    · have h := ite_f c8 h
      refine fw_aload_n C dX12_computeHeads_33 rfl 2 rfl ?_
      refine fw_iload_n C dX12_computeHeads_34 rfl 1 rfl ?_
      refine fw_bipush C dX12_computeHeads_35 (v := 13) rfl ?_
      refine fw_iload_n C dX12_computeHeads_37 rfl 0 rfl ?_
      refine fw_iadd C dX12_computeHeads_38 ?_
      obtain ⟨r9, q10, h⟩ := bd1_some h
      refine fw_callVi C (ci := 10) (Cn := RX12) (Tc := TX12) (N := 19) (As := [.int l1, .int (13 + l2)]) (c_X12_of (gac (hG _ (List.mem_of_getElem? (i := 0) rfl)) ga0) q10) (cwV 2 (cx_ts C) gX12_computeHeads_X12_of rfl rfl rfl (by decide +kernel) ⟨Nat.le_of_ble_eq_true rfl, Nat.le_of_ble_eq_true rfl⟩) rfl (hG _ (List.mem_of_getElem? (i := 0) rfl)) (of10_0 _) (ce10 T ad _ _) rfl (st := []) rfl (Nat.le_of_ble_eq_true rfl) ⟨Nat.le_refl 0, Nat.le_refl 0⟩ dX12_computeHeads_39 ?_
      rintro _ _ ⟨rfl, rfl⟩
      refine fw_istore_n C dX12_computeHeads_42 rfl (by decide) (L' := [(3, .int r9), (2, .int l2), (1, .int l1), (0, .ref (ad 10 0 0))]) rfl ?_
      refine fw_aload_n C dX12_computeHeads_43 rfl 3 rfl ?_
      refine fw_get C (ci := 10) (Cn := RX12) (Tc := TX12) (N := 19) (j := 11) ly_X12_computeHeads_12 rfl (hG _ (List.mem_of_getElem? (i := 0) rfl)) (of10_0 _) (ce10 T ad _ _) (by decide) (cx_ts C _ fl_X12_computeHeads_45) (fun _ h => h) (v := .ref (ad 10 0 6)) rfl dX12_computeHeads_44 ?_
      refine fw_iload_n C dX12_computeHeads_47 rfl 0 rfl ?_
      obtain ⟨b11, h⟩ := gd_some h
      refine fw_iald2 C (hG _ (List.mem_of_getElem? (i := 0) rfl)) (of10_6 _) (ca10_6 T ad _ _) b11 (Nat.le_of_ble_eq_true rfl) dX12_computeHeads_48 ?_
      refine fw_aload_n C dX12_computeHeads_49 rfl 3 rfl ?_
      refine fw_iload_n C dX12_computeHeads_50 rfl 0 rfl ?_
      refine fw_bipush C dX12_computeHeads_51 (v := 7) rfl ?_
      obtain ⟨r12, q13, h⟩ := bd1_some h
      refine fw_callVi C (ci := 10) (Cn := RX12) (Tc := TX12) (N := 19) (As := [.int r9, .int 7]) (c_X12_of (gac (hG _ (List.mem_of_getElem? (i := 0) rfl)) ga0) q13) (cwV 2 (cx_ts C) gX12_computeHeads_X12_of rfl rfl rfl (by decide +kernel) ⟨Nat.le_of_ble_eq_true rfl, Nat.le_of_ble_eq_true rfl⟩) rfl (hG _ (List.mem_of_getElem? (i := 0) rfl)) (of10_0 _) (ce10 T ad _ _) rfl (st := [.int (Y 10 0 6 (ix r9))]) rfl (Nat.le_of_ble_eq_true rfl) ⟨Nat.le_refl 0, Nat.le_refl 0⟩ dX12_computeHeads_53 ?_
      rintro _ _ ⟨rfl, rfl⟩
      refine fw_iadd C dX12_computeHeads_56 ?_
      refine fw_aload_n C dX12_computeHeads_57 rfl 3 rfl ?_
      refine fw_get C (ci := 10) (Cn := RX12) (Tc := TX12) (N := 19) (j := 11) ly_X12_computeHeads_12 rfl (hG _ (List.mem_of_getElem? (i := 0) rfl)) (of10_0 _) (ce10 T ad _ _) (by decide) (cx_ts C _ fl_X12_computeHeads_45) (fun _ h => h) (v := .ref (ad 10 0 6)) rfl dX12_computeHeads_58 ?_
      refine fw_iload_n C dX12_computeHeads_61 rfl 2 rfl ?_
      obtain ⟨b14, h⟩ := gd_some h
      refine fw_iald2 C (hG _ (List.mem_of_getElem? (i := 0) rfl)) (of10_6 _) (ca10_6 T ad _ _) b14 (Nat.le_of_ble_eq_true rfl) dX12_computeHeads_62 ?_
      refine fw_icmp_le C dX12_computeHeads_63 (tgt := 86) rfl (fun c15 => ?_) (fun c15 => ?_)
      · have h := ite_t c15 h
        refine fw_sub [1, 2, 3] (L' := [(2, .int l2), (1, .int l1), (0, .ref (ad 10 0 0))]) rfl ?_
        exact w_X12_computeHeads_b86 C hrt hG  ih _ _ _ h
      · have h := ite_f c15 h
        refine fw_aload_n C dX12_computeHeads_66 rfl 3 rfl ?_
        refine fw_get C (ci := 10) (Cn := RX12) (Tc := TX12) (N := 19) (j := 11) ly_X12_computeHeads_12 rfl (hG _ (List.mem_of_getElem? (i := 0) rfl)) (of10_0 _) (ce10 T ad _ _) (by decide) (cx_ts C _ fl_X12_computeHeads_45) (fun _ h => h) (v := .ref (ad 10 0 6)) rfl dX12_computeHeads_67 ?_
        refine fw_iload_n C dX12_computeHeads_70 rfl 2 rfl ?_
        refine fw_aload_n C dX12_computeHeads_71 rfl 3 rfl ?_
        refine fw_get C (ci := 10) (Cn := RX12) (Tc := TX12) (N := 19) (j := 11) ly_X12_computeHeads_12 rfl (hG _ (List.mem_of_getElem? (i := 0) rfl)) (of10_0 _) (ce10 T ad _ _) (by decide) (cx_ts C _ fl_X12_computeHeads_45) (fun _ h => h) (v := .ref (ad 10 0 6)) rfl dX12_computeHeads_72 ?_
        refine fw_iload_n C dX12_computeHeads_75 rfl 0 rfl ?_
        refine fw_iald2 C (hG _ (List.mem_of_getElem? (i := 0) rfl)) (of10_6 _) (ca10_6 T ad _ _) b11 (Nat.le_of_ble_eq_true rfl) dX12_computeHeads_76 ?_
        refine fw_aload_n C dX12_computeHeads_77 rfl 3 rfl ?_
        refine fw_iload_n C dX12_computeHeads_78 rfl 0 rfl ?_
        refine fw_bipush C dX12_computeHeads_79 (v := 7) rfl ?_
        obtain ⟨r16, q17, h⟩ := bd1_some h
        refine fw_callVi C (ci := 10) (Cn := RX12) (Tc := TX12) (N := 19) (As := [.int r9, .int 7]) (c_X12_of (gac (hG _ (List.mem_of_getElem? (i := 0) rfl)) ga0) q17) (cwV 2 (cx_ts C) gX12_computeHeads_X12_of rfl rfl rfl (by decide +kernel) ⟨Nat.le_of_ble_eq_true rfl, Nat.le_of_ble_eq_true rfl⟩) rfl (hG _ (List.mem_of_getElem? (i := 0) rfl)) (of10_0 _) (ce10 T ad _ _) rfl (st := [.int (Y 10 0 6 (ix r9)), .int l1, .ref (ad 10 0 6)]) rfl (Nat.le_of_ble_eq_true rfl) ⟨Nat.le_refl 0, Nat.le_refl 0⟩ dX12_computeHeads_81 ?_
        rintro _ _ ⟨rfl, rfl⟩
        refine fw_iadd C dX12_computeHeads_84 ?_
        obtain ⟨Y18, e19, h⟩ := lt_some h
        refine fw_iast2 C (hG _ (List.mem_of_getElem? (i := 0) rfl)) (of10_6 _) (ca10_6 T ad _) b14 (Nat.le_of_ble_eq_true rfl) dX12_computeHeads_85 ?_
        refine fw_mem e19 ?_
        refine fw_sub [1, 2, 3] (L' := [(2, .int l2), (1, .int l1), (0, .ref (ad 10 0 0))]) rfl ?_
        exact w_X12_computeHeads_b86 C hrt hG  ih _ _ _ h
set_option maxRecDepth 100000 in
set_option maxHeartbeats 4000000 in
theorem w_X12_computeHeads_b2  (C : Cx p s m [.ref (ad 10 0 0)].toArray meth c cX12_computeHeads 4 wsX12_computeHeads RX12 N0 T D gr ad) (hrt : meth.sig.returnType = none) (hG : ∀ q ∈ [(10, 0)], q ∈ gr) {res : Mem} : ∀ (n : Nat) (Y : Mem) (l1 : Int32), X12_computeHeads_b2   n Y l1 = some res → FW p l e (Rm 1) s m [.ref (ad 10 0 0)].toArray below meth c 4 N0 T D gr ad 0 0 (MQ below (va_Qv (fun Y1 => Y1 = res) (WB T D gr ad) (fun q => N0 ≤ q)) [.ref (ad 10 0 0)].toArray s 0 0 (fun q => N0 ≤ q)) Y 2 [(1, .int l1), (0, .ref (ad 10 0 0))] [] := by
  intro n
  induction n with
  | zero =>
    intro Y l1 h
    unfold X12_computeHeads_b2 at h
    cases h
  | succ n ih =>
    intro Y l1 h
    unfold X12_computeHeads_b2 at h
    refine fw_iload_n C dX12_computeHeads_2 rfl 0 rfl ?_
    refine fw_aload_n C dX12_computeHeads_3 rfl 1 rfl ?_
    refine fw_get C (ci := 10) (Cn := RX12) (Tc := TX12) (N := 19) (j := 0) ly_X12_computeHeads_12 rfl (hG _ (List.mem_of_getElem? (i := 0) rfl)) (of10_0 _) (ce10 T ad _ _) (by decide) (cx_ts C _ fl_X12_computeHeads_13) (fun _ h => h) (v := .ref (ad 10 0 1)) rfl dX12_computeHeads_4 ?_
    refine fw_bipush C dX12_computeHeads_7 (v := 13) rfl ?_
    obtain ⟨b1, h⟩ := gd_some h
    refine fw_iald2 C (hG _ (List.mem_of_getElem? (i := 0) rfl)) (of10_1 _) (ca10_1 T ad _ _) b1 (Nat.le_of_ble_eq_true rfl) dX12_computeHeads_9 ?_
    refine fw_icmp_ge C dX12_computeHeads_10 (tgt := 98) rfl (fun c2 => ?_) (fun c2 => ?_)
    · have h := ite_t c2 h
      exact fw_vret C hrt Y (Option.some.inj h) (fun t ht => ht) dX12_computeHeads_98
    · have h := ite_f c2 h
      refine fw_aload_n C dX12_computeHeads_13 rfl 1 rfl ?_
      refine fw_get C (ci := 10) (Cn := RX12) (Tc := TX12) (N := 19) (j := 11) ly_X12_computeHeads_12 rfl (hG _ (List.mem_of_getElem? (i := 0) rfl)) (of10_0 _) (ce10 T ad _ _) (by decide) (cx_ts C _ fl_X12_computeHeads_45) (fun _ h => h) (v := .ref (ad 10 0 6)) rfl dX12_computeHeads_14 ?_
      refine fw_iload_n C dX12_computeHeads_17 rfl 0 rfl ?_
      refine fw_iconst C dX12_computeHeads_18 (v := 0) rfl ?_
      obtain ⟨b3, h⟩ := gd_some h
      obtain ⟨Y4, e5, h⟩ := lt_some h
      refine fw_iast2 C (hG _ (List.mem_of_getElem? (i := 0) rfl)) (of10_6 _) (ca10_6 T ad _) b3 (Nat.le_of_ble_eq_true rfl) dX12_computeHeads_19 ?_
      refine fw_mem e5 ?_
      refine fw_iconst C dX12_computeHeads_20 (v := 0) rfl ?_
      refine fw_istore_n C dX12_computeHeads_21 rfl (by decide) (L' := [(2, .int 0), (1, .int l1), (0, .ref (ad 10 0 0))]) rfl ?_
      exact w_X12_computeHeads_b22 C hrt hG  ih _ _ _ _ h
set_option maxRecDepth 100000 in
set_option maxHeartbeats 4000000 in
theorem w_X12_computeHeads {Y : Mem} (C : Cx p s m [.ref (ad 10 0 0)].toArray meth c cX12_computeHeads 4 wsX12_computeHeads RX12 N0 T D gr ad) (hrt : meth.sig.returnType = none) (hG : ∀ q ∈ [(10, 0)], q ∈ gr) {res : Mem} (h : X12_computeHeads Y = some res) : FW p l e (Rm 1) s m [.ref (ad 10 0 0)].toArray below meth c 4 N0 T D gr ad 0 0 (MQ below (va_Qv (fun Y1 => Y1 = res) (WB T D gr ad) (fun q => N0 ≤ q)) [.ref (ad 10 0 0)].toArray s 0 0 (fun q => N0 ≤ q)) Y 0 [(0, .ref (ad 10 0 0))] [] := by
  unfold X12_computeHeads at h
  refine fw_iconst C dX12_computeHeads_0 (v := 0) rfl ?_
  refine fw_istore_n C dX12_computeHeads_1 rfl (by decide) (L' := [(1, .int 0), (0, .ref (ad 10 0 0))]) rfl ?_
  exact w_X12_computeHeads_b2 C hrt hG   _ _ _ h
end
set_option maxRecDepth 100000 in
set_option maxHeartbeats 4000000 in
theorem c_X12_computeHeads {l : Launch} {N0 : Nat} {T : Nat → ClassId} {D : va_G} {gr : List (Nat × Nat)} {ad : Nat → Nat → Nat → Nat} {Y : Mem} {res : Mem} (hG : ∀ q ∈ [(10, 0)], q ∈ gr) (h : X12_computeHeads Y = some res) : CV l yX12_computeHeads wsX12_computeHeads (Rm 1) N0 T D gr ad Y [.ref (ad 10 0 0)] (fun Y1 => Y1 = res) :=
  fw_body (by decide +kernel) rfl (Nat.le_of_ble_eq_true rfl) (fun p e s m below meth c C hrt => w_X12_computeHeads C hrt hG  h)
theorem ly_X12_cookMinutes_12 : ∀ w ∈ u_ws RX12 TX12 19, w ∈ wsX12_cookMinutes := by decide +kernel
theorem fl_X12_cookMinutes_13 : Cond.fieldLink RX12 13 "RecipeSchedulerModel" "m" "[I" ∈ wsX12_cookMinutes := by decide +kernel
noncomputable def X12_cookMinutes (Y : Mem) : Option (Int32 × Mem) :=
  gd (inb 10 4202) <| bd2 (X12_plain Y (Y 10 0 1 (ix 10))) <| fun r2 Y4 => some (r2, Y4)
section
variable {p : Program} {l : Launch} {e : Env} {s : State} {m : MethodId} {below : List Frame} {meth : Method} {c : Code} {N0 : Nat} {T : Nat → ClassId} {D : va_G} {gr : List (Nat × Nat)} {ad : Nat → Nat → Nat → Nat}
set_option maxRecDepth 100000 in
set_option maxHeartbeats 4000000 in
theorem w_X12_cookMinutes {Y : Mem} (C : Cx p s m [.ref (ad 10 0 0)].toArray meth c cX12_cookMinutes 1 wsX12_cookMinutes RX12 N0 T D gr ad) (hrt : meth.sig.returnType = (some .int)) (hG : ∀ q ∈ [(10, 0)], q ∈ gr) {res : Int32 × Mem} (h : X12_cookMinutes Y = some res) : FW p l e (Rm 1) s m [.ref (ad 10 0 0)].toArray below meth c 1 N0 T D gr ad 0 0 (MQ below (va_Qi (fun r Y1 => (r, Y1) = res) (WB T D gr ad) (fun q => N0 ≤ q)) [.ref (ad 10 0 0)].toArray s 0 0 (fun q => N0 ≤ q)) Y 0 [(0, .ref (ad 10 0 0))] [] := by
  unfold X12_cookMinutes at h
  refine fw_aload_n C dX12_cookMinutes_0 rfl 0 rfl ?_
  refine fw_aload_n C dX12_cookMinutes_1 rfl 0 rfl ?_
  refine fw_get C (ci := 10) (Cn := RX12) (Tc := TX12) (N := 19) (j := 0) ly_X12_cookMinutes_12 rfl (hG _ (List.mem_of_getElem? (i := 0) rfl)) (of10_0 _) (ce10 T ad _ _) (by decide) (cx_ts C _ fl_X12_cookMinutes_13) (fun _ h => h) (v := .ref (ad 10 0 1)) rfl dX12_cookMinutes_2 ?_
  refine fw_bipush C dX12_cookMinutes_5 (v := 10) rfl ?_
  obtain ⟨b1, h⟩ := gd_some h
  refine fw_iald2 C (hG _ (List.mem_of_getElem? (i := 0) rfl)) (of10_1 _) (ca10_1 T ad _ _) b1 (Nat.le_of_ble_eq_true rfl) dX12_cookMinutes_7 ?_
  obtain ⟨r2, Y4, q3, h⟩ := bd2_some h
  refine fw_callVi C (ci := 10) (Cn := RX12) (Tc := TX12) (N := 19) (As := [.int (Y 10 0 1 (ix 10))]) (c_X12_plain (gac (hG _ (List.mem_of_getElem? (i := 0) rfl)) ga0) q3) (cwV 1 (cx_ts C) gX12_cookMinutes_X12_plain rfl rfl rfl (by decide +kernel) ⟨Nat.le_of_ble_eq_true rfl, Nat.le_of_ble_eq_true rfl⟩) rfl (hG _ (List.mem_of_getElem? (i := 0) rfl)) (of10_0 _) (ce10 T ad _ _) rfl (st := []) rfl (Nat.le_of_ble_eq_true rfl) ⟨Nat.le_refl 0, Nat.le_refl 0⟩ dX12_cookMinutes_8 ?_
  intro r_ Y_ e_
  obtain ⟨rfl, rfl⟩ := Prod.mk.inj e_
  exact fw_iret C hrt Y4 (Option.some.inj h) (fun t ht => ht) dX12_cookMinutes_11
end
set_option maxRecDepth 100000 in
set_option maxHeartbeats 4000000 in
theorem c_X12_cookMinutes {l : Launch} {N0 : Nat} {T : Nat → ClassId} {D : va_G} {gr : List (Nat × Nat)} {ad : Nat → Nat → Nat → Nat} {Y : Mem} {res : Int32 × Mem} (hG : ∀ q ∈ [(10, 0)], q ∈ gr) (h : X12_cookMinutes Y = some res) : CI l yX12_cookMinutes wsX12_cookMinutes (Rm 1) N0 T D gr ad Y [.ref (ad 10 0 0)] (fun r Y1 => (r, Y1) = res) :=
  fw_body (by decide +kernel) rfl (Nat.le_of_ble_eq_true rfl) (fun p e s m below meth c C hrt => w_X12_cookMinutes C hrt hG  h)
theorem ly_X12_cooks_12 : ∀ w ∈ u_ws RX12 TX12 19, w ∈ wsX12_cooks := by decide +kernel
theorem fl_X12_cooks_13 : Cond.fieldLink RX12 13 "RecipeSchedulerModel" "m" "[I" ∈ wsX12_cooks := by decide +kernel
noncomputable def X12_cooks (Y : Mem) : Option (Int32 × Mem) :=
  gd (inb 0 4202) <| bd2 (X12_plain Y (Y 10 0 1 (ix 0))) <| fun r2 Y4 => some (r2, Y4)
section
variable {p : Program} {l : Launch} {e : Env} {s : State} {m : MethodId} {below : List Frame} {meth : Method} {c : Code} {N0 : Nat} {T : Nat → ClassId} {D : va_G} {gr : List (Nat × Nat)} {ad : Nat → Nat → Nat → Nat}
set_option maxRecDepth 100000 in
set_option maxHeartbeats 4000000 in
theorem w_X12_cooks {Y : Mem} (C : Cx p s m [.ref (ad 10 0 0)].toArray meth c cX12_cooks 1 wsX12_cooks RX12 N0 T D gr ad) (hrt : meth.sig.returnType = (some .int)) (hG : ∀ q ∈ [(10, 0)], q ∈ gr) {res : Int32 × Mem} (h : X12_cooks Y = some res) : FW p l e (Rm 1) s m [.ref (ad 10 0 0)].toArray below meth c 1 N0 T D gr ad 0 0 (MQ below (va_Qi (fun r Y1 => (r, Y1) = res) (WB T D gr ad) (fun q => N0 ≤ q)) [.ref (ad 10 0 0)].toArray s 0 0 (fun q => N0 ≤ q)) Y 0 [(0, .ref (ad 10 0 0))] [] := by
  unfold X12_cooks at h
  refine fw_aload_n C dX12_cooks_0 rfl 0 rfl ?_
  refine fw_aload_n C dX12_cooks_1 rfl 0 rfl ?_
  refine fw_get C (ci := 10) (Cn := RX12) (Tc := TX12) (N := 19) (j := 0) ly_X12_cooks_12 rfl (hG _ (List.mem_of_getElem? (i := 0) rfl)) (of10_0 _) (ce10 T ad _ _) (by decide) (cx_ts C _ fl_X12_cooks_13) (fun _ h => h) (v := .ref (ad 10 0 1)) rfl dX12_cooks_2 ?_
  refine fw_iconst C dX12_cooks_5 (v := 0) rfl ?_
  obtain ⟨b1, h⟩ := gd_some h
  refine fw_iald2 C (hG _ (List.mem_of_getElem? (i := 0) rfl)) (of10_1 _) (ca10_1 T ad _ _) b1 (Nat.le_of_ble_eq_true rfl) dX12_cooks_6 ?_
  obtain ⟨r2, Y4, q3, h⟩ := bd2_some h
  refine fw_callVi C (ci := 10) (Cn := RX12) (Tc := TX12) (N := 19) (As := [.int (Y 10 0 1 (ix 0))]) (c_X12_plain (gac (hG _ (List.mem_of_getElem? (i := 0) rfl)) ga0) q3) (cwV 1 (cx_ts C) gX12_cooks_X12_plain rfl rfl rfl (by decide +kernel) ⟨Nat.le_of_ble_eq_true rfl, Nat.le_of_ble_eq_true rfl⟩) rfl (hG _ (List.mem_of_getElem? (i := 0) rfl)) (of10_0 _) (ce10 T ad _ _) rfl (st := []) rfl (Nat.le_of_ble_eq_true rfl) ⟨Nat.le_refl 0, Nat.le_refl 0⟩ dX12_cooks_7 ?_
  intro r_ Y_ e_
  obtain ⟨rfl, rfl⟩ := Prod.mk.inj e_
  exact fw_iret C hrt Y4 (Option.some.inj h) (fun t ht => ht) dX12_cooks_10
end
set_option maxRecDepth 100000 in
set_option maxHeartbeats 4000000 in
theorem c_X12_cooks {l : Launch} {N0 : Nat} {T : Nat → ClassId} {D : va_G} {gr : List (Nat × Nat)} {ad : Nat → Nat → Nat → Nat} {Y : Mem} {res : Int32 × Mem} (hG : ∀ q ∈ [(10, 0)], q ∈ gr) (h : X12_cooks Y = some res) : CI l yX12_cooks wsX12_cooks (Rm 1) N0 T D gr ad Y [.ref (ad 10 0 0)] (fun r Y1 => (r, Y1) = res) :=
  fw_body (by decide +kernel) rfl (Nat.le_of_ble_eq_true rfl) (fun p e s m below meth c C hrt => w_X12_cooks C hrt hG  h)
noncomputable def X12_countWithStatus_b15 (a1 : Int32) (Y : Mem) (s0 : Int32) : Option (Int32 × Mem) :=
  bd2 (X12_fails Y s0 0 0) <| fun r4 Y6 => if r4 = 0 then (bd1 (X12_withStatus Y6 a1) <| fun r8 => some (r8, Y6)) else (some (0, Y6))
noncomputable def X12_countWithStatus (Y : Mem) (a1 : Int32) : Option (Int32 × Mem) :=
  bd1 (X12_in Y a1 0 3) <| fun r1 => if r1 = 0 then (X12_countWithStatus_b15 a1 Y 1) else (X12_countWithStatus_b15 a1 Y 0)
section
variable {p : Program} {l : Launch} {e : Env} {s : State} {m : MethodId} {below : List Frame} {meth : Method} {c : Code} {N0 : Nat} {T : Nat → ClassId} {D : va_G} {gr : List (Nat × Nat)} {ad : Nat → Nat → Nat → Nat}
set_option maxRecDepth 100000 in
set_option maxHeartbeats 4000000 in
theorem w_X12_countWithStatus_b15 {a1 : Int32} (C : Cx p s m [.ref (ad 10 0 0), .int a1].toArray meth c cX12_countWithStatus 2 wsX12_countWithStatus RX12 N0 T D gr ad) (hrt : meth.sig.returnType = (some .int)) (hG : ∀ q ∈ [(10, 0)], q ∈ gr) {res : Int32 × Mem} (Y : Mem) (s0 : Int32) (h : X12_countWithStatus_b15 a1  Y s0 = some res) : FW p l e (Rm 2) s m [.ref (ad 10 0 0), .int a1].toArray below meth c 2 N0 T D gr ad 0 0 (MQ below (va_Qi (fun r Y1 => (r, Y1) = res) (WB T D gr ad) (fun q => N0 ≤ q)) [.ref (ad 10 0 0), .int a1].toArray s 0 0 (fun q => N0 ≤ q)) Y 15 [(0, .ref (ad 10 0 0)), (1, .int a1)] [.int s0, .ref (ad 10 0 0)] := by
  unfold X12_countWithStatus_b15 at h
  refine fw_iconst C dX12_countWithStatus_15 (v := 0) rfl ?_
  refine fw_iconst C dX12_countWithStatus_16 (v := 0) rfl ?_
  obtain ⟨r4, Y6, q5, h⟩ := bd2_some h
  refine fw_callVi C (ci := 10) (Cn := RX12) (Tc := TX12) (N := 19) (As := [.int s0, .int 0, .int 0]) (c_X12_fails (gac (hG _ (List.mem_of_getElem? (i := 0) rfl)) ga0) q5) (cwV 3 (cx_ts C) gX12_countWithStatus_X12_fails rfl rfl rfl (by decide +kernel) ⟨Nat.le_of_ble_eq_true rfl, Nat.le_of_ble_eq_true rfl⟩) rfl (hG _ (List.mem_of_getElem? (i := 0) rfl)) (of10_0 _) (ce10 T ad _ _) rfl (st := []) rfl (Nat.le_of_ble_eq_true rfl) ⟨Nat.le_refl 0, Nat.le_refl 0⟩ dX12_countWithStatus_17 ?_
  intro r_ Y_ e_
  obtain ⟨rfl, rfl⟩ := Prod.mk.inj e_
  refine fw_if_eq C dX12_countWithStatus_20 (tgt := 25) rfl (fun c7 => ?_) (fun c7 => ?_)
  · have h := ite_t c7 h
    refine fw_aload_n C dX12_countWithStatus_25 rfl 0 rfl ?_
    refine fw_iload_n C dX12_countWithStatus_26 rfl 1 rfl ?_
    obtain ⟨r8, q9, h⟩ := bd1_some h
    refine fw_callVi C (ci := 10) (Cn := RX12) (Tc := TX12) (N := 19) (As := [.int a1]) (c_X12_withStatus (gac (hG _ (List.mem_of_getElem? (i := 0) rfl)) ga0) q9) (cwV 1 (cx_ts C) gX12_countWithStatus_X12_withStatus rfl rfl rfl (by decide +kernel) ⟨Nat.le_of_ble_eq_true rfl, Nat.le_of_ble_eq_true rfl⟩) rfl (hG _ (List.mem_of_getElem? (i := 0) rfl)) (of10_0 _) (ce10 T ad _ _) rfl (st := []) rfl (Nat.le_of_ble_eq_true rfl) ⟨Nat.le_refl 0, Nat.le_refl 0⟩ dX12_countWithStatus_27 ?_
    rintro _ _ ⟨rfl, rfl⟩
    exact fw_iret C hrt Y6 (Option.some.inj h) (fun t ht => ht) dX12_countWithStatus_30
  · have h := ite_f c7 h
    refine fw_iconst C dX12_countWithStatus_23 (v := 0) rfl ?_
    exact fw_iret C hrt Y6 (Option.some.inj h) (fun t ht => ht) dX12_countWithStatus_24
set_option maxRecDepth 100000 in
set_option maxHeartbeats 4000000 in
theorem w_X12_countWithStatus {Y : Mem} {a1 : Int32} (C : Cx p s m [.ref (ad 10 0 0), .int a1].toArray meth c cX12_countWithStatus 2 wsX12_countWithStatus RX12 N0 T D gr ad) (hrt : meth.sig.returnType = (some .int)) (hG : ∀ q ∈ [(10, 0)], q ∈ gr) {res : Int32 × Mem} (h : X12_countWithStatus Y a1 = some res) : FW p l e (Rm 2) s m [.ref (ad 10 0 0), .int a1].toArray below meth c 2 N0 T D gr ad 0 0 (MQ below (va_Qi (fun r Y1 => (r, Y1) = res) (WB T D gr ad) (fun q => N0 ≤ q)) [.ref (ad 10 0 0), .int a1].toArray s 0 0 (fun q => N0 ≤ q)) Y 0 [(0, .ref (ad 10 0 0)), (1, .int a1)] [] := by
  unfold X12_countWithStatus at h
  refine fw_aload_n C dX12_countWithStatus_0 rfl 0 rfl ?_
  refine fw_iload_n C dX12_countWithStatus_1 rfl 1 rfl ?_
  refine fw_iconst C dX12_countWithStatus_2 (v := 0) rfl ?_
  refine fw_iconst C dX12_countWithStatus_3 (v := 3) rfl ?_
  obtain ⟨r1, q2, h⟩ := bd1_some h
  refine fw_callSi C (As := [.int a1, .int 0, .int 3]) (c_X12_in ga0 q2) (va_cwS 3 (cx_ts C) gX12_countWithStatus_X12_in rfl rfl rfl (by decide +kernel) ⟨Nat.le_of_ble_eq_true rfl, Nat.le_of_ble_eq_true rfl⟩) rfl (st := [.ref (ad 10 0 0)]) rfl (Nat.le_of_ble_eq_true rfl) ⟨Nat.le_refl 0, Nat.le_refl 0⟩ dX12_countWithStatus_4 ?_
  rintro _ _ ⟨rfl, rfl⟩
  refine fw_if_ne C dX12_countWithStatus_7 (tgt := 14) rfl (fun c3 => ?_) (fun c3 => ?_)
  · have h := ite_f c3 h
    refine fw_iconst C dX12_countWithStatus_14 (v := 0) rfl ?_
    exact w_X12_countWithStatus_b15 C hrt hG   _ _ h
  · have h := ite_t c3 h
    refine fw_iconst C dX12_countWithStatus_10 (v := 1) rfl ?_
    refine fw_goto C dX12_countWithStatus_11 (tgt := 15) rfl ?_
    exact w_X12_countWithStatus_b15 C hrt hG   _ _ h
end
set_option maxRecDepth 100000 in
set_option maxHeartbeats 4000000 in
theorem c_X12_countWithStatus {l : Launch} {N0 : Nat} {T : Nat → ClassId} {D : va_G} {gr : List (Nat × Nat)} {ad : Nat → Nat → Nat → Nat} {Y : Mem} {a1 : Int32} {res : Int32 × Mem} (hG : ∀ q ∈ [(10, 0)], q ∈ gr) (h : X12_countWithStatus Y a1 = some res) : CI l yX12_countWithStatus wsX12_countWithStatus (Rm 2) N0 T D gr ad Y [.ref (ad 10 0 0), .int a1] (fun r Y1 => (r, Y1) = res) :=
  fw_body (by decide +kernel) rfl (Nat.le_of_ble_eq_true rfl) (fun p e s m below meth c C hrt => w_X12_countWithStatus C hrt hG  h)
theorem ly_X12_criticalStep_12 : ∀ w ∈ u_ws RX12 TX12 19, w ∈ wsX12_criticalStep := by decide +kernel
theorem fl_X12_criticalStep_1 : Cond.fieldLink RX12 1 "RecipeSchedulerModel" "thrown" "I" ∈ wsX12_criticalStep := by decide +kernel
theorem fl_X12_criticalStep_13 : Cond.fieldLink RX12 13 "RecipeSchedulerModel" "m" "[I" ∈ wsX12_criticalStep := by decide +kernel
theorem fl_X12_criticalStep_42 : Cond.fieldLink RX12 42 "RecipeSchedulerModel" "paths" "[I" ∈ wsX12_criticalStep := by decide +kernel
noncomputable def X12_criticalStep_b89 (a1 : Int32) (k24 : Mem → Int32 → Int32 → Int32 → Int32 → Option (Int32 × Mem)) (Y : Mem) (l5 : Int32) (l4 : Int32) (l3 : Int32) (l2 : Int32) : Option (Int32 × Mem) :=
  k24 Y (l5 + 1) l4 l3 l2
noncomputable def X12_criticalStep_b85 (a1 : Int32) (k24 : Mem → Int32 → Int32 → Int32 → Int32 → Option (Int32 × Mem)) (Y : Mem) (l5 : Int32) (l3 : Int32) (l2 : Int32) : Option (Int32 × Mem) :=
  X12_criticalStep_b89 a1 k24 Y l5 l5 l3 l2
noncomputable def X12_criticalStep_b55 (a1 : Int32) (k24 : Mem → Int32 → Int32 → Int32 → Int32 → Option (Int32 × Mem)) (Y : Mem) (l5 : Int32) (l4 : Int32) (l3 : Int32) (l2 : Int32) (s0 : Int32) : Option (Int32 × Mem) :=
  if s0 = 0 then (X12_criticalStep_b89 a1 k24 Y l5 l4 l3 l2) else (if l4 = ((-1)) then (X12_criticalStep_b85 a1 k24 Y l5 l3 l2) else (gd (inb l5 14) <| gd (inb l4 14) <| if (Y 10 0 5 (ix l5)) ≤ (Y 10 0 5 (ix l4)) then (X12_criticalStep_b89 a1 k24 Y l5 l4 l3 l2) else (X12_criticalStep_b85 a1 k24 Y l5 l3 l2)))
noncomputable def X12_criticalStep_b50 (a1 : Int32) (k24 : Mem → Int32 → Int32 → Int32 → Int32 → Option (Int32 × Mem)) (Y : Mem) (l5 : Int32) (l4 : Int32) (l3 : Int32) (l2 : Int32) : Option (Int32 × Mem) :=
  X12_criticalStep_b55 a1 k24 Y l5 l4 l3 l2 1
noncomputable def X12_criticalStep_b24 (a1 : Int32) (k13 : Mem → Int32 → Int32 → Option (Int32 × Mem)) : Nat → Mem → Int32 → Int32 → Int32 → Int32 → Option (Int32 × Mem)
  | 0, _, _, _, _, _ => none
  | n+1, Y, l5, l4, l3, l2 =>
  gd (inb 13 4202) <| if (Y 10 0 1 (ix 13)) ≤ l5 then (if l4 = ((-1)) then (some ((-1), Y)) else (k13 Y (l3 + 1) l4)) else (if l3 = 0 then (X12_criticalStep_b50 a1 (X12_criticalStep_b24 a1 k13 n) Y l5 l4 l3 l2) else (bd1 (X12_isPredecessor Y l2 l5) <| fun r16 => if r16 = 0 then (X12_criticalStep_b55 a1 (X12_criticalStep_b24 a1 k13 n) Y l5 l4 l3 l2 0) else (X12_criticalStep_b50 a1 (X12_criticalStep_b24 a1 k13 n) Y l5 l4 l3 l2)))
noncomputable def X12_criticalStep_b13 (a1 : Int32) : Nat → Mem → Int32 → Int32 → Option (Int32 × Mem)
  | 0, _, _, _ => none
  | n+1, Y, l3, l2 =>
  if a1 < l3 then (some (l2, Y)) else (X12_criticalStep_b24 a1 (X12_criticalStep_b13 a1 n) FU Y 0 ((-1)) l3 l2)
noncomputable def X12_criticalStep (Y : Mem) (a1 : Int32) : Option (Int32 × Mem) :=
  lt_ (up Y 10 0 0 9 0) <| fun Y1 => bd1 (X12_computePaths Y1) <| fun Y5 => X12_criticalStep_b13 a1 FU Y5 0 ((-1))
section
variable {p : Program} {l : Launch} {e : Env} {s : State} {m : MethodId} {below : List Frame} {meth : Method} {c : Code} {N0 : Nat} {T : Nat → ClassId} {D : va_G} {gr : List (Nat × Nat)} {ad : Nat → Nat → Nat → Nat}
set_option maxRecDepth 100000 in
set_option maxHeartbeats 4000000 in
theorem w_X12_criticalStep_b89 {a1 : Int32} (C : Cx p s m [.ref (ad 10 0 0), .int a1].toArray meth c cX12_criticalStep 7 wsX12_criticalStep RX12 N0 T D gr ad) (hrt : meth.sig.returnType = (some .int)) (hG : ∀ q ∈ [(10, 0)], q ∈ gr) {res : Int32 × Mem} {k24 : Mem → Int32 → Int32 → Int32 → Int32 → Option (Int32 × Mem)} (hk24 : ∀ (Y : Mem) (l5 : Int32) (l4 : Int32) (l3 : Int32) (l2 : Int32), k24 Y l5 l4 l3 l2 = some res → FW p l e (Rm 3) s m [.ref (ad 10 0 0), .int a1].toArray below meth c 7 N0 T D gr ad 0 0 (MQ below (va_Qi (fun r Y1 => (r, Y1) = res) (WB T D gr ad) (fun q => N0 ≤ q)) [.ref (ad 10 0 0), .int a1].toArray s 0 0 (fun q => N0 ≤ q)) Y 24 [(5, .int l5), (4, .int l4), (3, .int l3), (2, .int l2), (0, .ref (ad 10 0 0)), (1, .int a1)] []) (Y : Mem) (l5 : Int32) (l4 : Int32) (l3 : Int32) (l2 : Int32) (h : X12_criticalStep_b89 a1 k24 Y l5 l4 l3 l2 = some res) : FW p l e (Rm 3) s m [.ref (ad 10 0 0), .int a1].toArray below meth c 7 N0 T D gr ad 0 0 (MQ below (va_Qi (fun r Y1 => (r, Y1) = res) (WB T D gr ad) (fun q => N0 ≤ q)) [.ref (ad 10 0 0), .int a1].toArray s 0 0 (fun q => N0 ≤ q)) Y 89 [(5, .int l5), (4, .int l4), (3, .int l3), (2, .int l2), (0, .ref (ad 10 0 0)), (1, .int a1)] [] := by
  unfold X12_criticalStep_b89 at h
  refine fw_iinc C dX12_criticalStep_89 (kk := 0) (v := l5 + 1) rfl rfl (by decide) (L' := [(5, .int (l5 + 1)), (4, .int l4), (3, .int l3), (2, .int l2), (0, .ref (ad 10 0 0)), (1, .int a1)]) rfl ?_
  refine fw_goto C dX12_criticalStep_92 (tgt := 24) rfl ?_
  exact hk24 _ _ _ _ _ h
set_option maxRecDepth 100000 in
set_option maxHeartbeats 4000000 in
theorem w_X12_criticalStep_b85 {a1 : Int32} (C : Cx p s m [.ref (ad 10 0 0), .int a1].toArray meth c cX12_criticalStep 7 wsX12_criticalStep RX12 N0 T D gr ad) (hrt : meth.sig.returnType = (some .int)) (hG : ∀ q ∈ [(10, 0)], q ∈ gr) {res : Int32 × Mem} {k24 : Mem → Int32 → Int32 → Int32 → Int32 → Option (Int32 × Mem)} (hk24 : ∀ (Y : Mem) (l5 : Int32) (l4 : Int32) (l3 : Int32) (l2 : Int32), k24 Y l5 l4 l3 l2 = some res → FW p l e (Rm 3) s m [.ref (ad 10 0 0), .int a1].toArray below meth c 7 N0 T D gr ad 0 0 (MQ below (va_Qi (fun r Y1 => (r, Y1) = res) (WB T D gr ad) (fun q => N0 ≤ q)) [.ref (ad 10 0 0), .int a1].toArray s 0 0 (fun q => N0 ≤ q)) Y 24 [(5, .int l5), (4, .int l4), (3, .int l3), (2, .int l2), (0, .ref (ad 10 0 0)), (1, .int a1)] []) (Y : Mem) (l5 : Int32) (l3 : Int32) (l2 : Int32) (h : X12_criticalStep_b85 a1 k24 Y l5 l3 l2 = some res) : FW p l e (Rm 3) s m [.ref (ad 10 0 0), .int a1].toArray below meth c 7 N0 T D gr ad 0 0 (MQ below (va_Qi (fun r Y1 => (r, Y1) = res) (WB T D gr ad) (fun q => N0 ≤ q)) [.ref (ad 10 0 0), .int a1].toArray s 0 0 (fun q => N0 ≤ q)) Y 85 [(5, .int l5), (3, .int l3), (2, .int l2), (0, .ref (ad 10 0 0)), (1, .int a1)] [] := by
  unfold X12_criticalStep_b85 at h
  refine fw_iload C dX12_criticalStep_85 0 rfl ?_
  refine fw_istore C dX12_criticalStep_87 (by decide) (L' := [(4, .int l5), (5, .int l5), (3, .int l3), (2, .int l2), (0, .ref (ad 10 0 0)), (1, .int a1)]) rfl ?_
  refine fw_sub [1, 0, 2, 3, 4, 5] (L' := [(5, .int l5), (4, .int l5), (3, .int l3), (2, .int l2), (0, .ref (ad 10 0 0)), (1, .int a1)]) rfl ?_
  exact w_X12_criticalStep_b89 C hrt hG  hk24 _ _ _ _ _ h
set_option maxRecDepth 100000 in
set_option maxHeartbeats 4000000 in
theorem w_X12_criticalStep_b55 {a1 : Int32} (C : Cx p s m [.ref (ad 10 0 0), .int a1].toArray meth c cX12_criticalStep 7 wsX12_criticalStep RX12 N0 T D gr ad) (hrt : meth.sig.returnType = (some .int)) (hG : ∀ q ∈ [(10, 0)], q ∈ gr) {res : Int32 × Mem} {k24 : Mem → Int32 → Int32 → Int32 → Int32 → Option (Int32 × Mem)} (hk24 : ∀ (Y : Mem) (l5 : Int32) (l4 : Int32) (l3 : Int32) (l2 : Int32), k24 Y l5 l4 l3 l2 = some res → FW p l e (Rm 3) s m [.ref (ad 10 0 0), .int a1].toArray below meth c 7 N0 T D gr ad 0 0 (MQ below (va_Qi (fun r Y1 => (r, Y1) = res) (WB T D gr ad) (fun q => N0 ≤ q)) [.ref (ad 10 0 0), .int a1].toArray s 0 0 (fun q => N0 ≤ q)) Y 24 [(5, .int l5), (4, .int l4), (3, .int l3), (2, .int l2), (0, .ref (ad 10 0 0)), (1, .int a1)] []) (Y : Mem) (l5 : Int32) (l4 : Int32) (l3 : Int32) (l2 : Int32) (s0 : Int32) (h : X12_criticalStep_b55 a1 k24 Y l5 l4 l3 l2 s0 = some res) : FW p l e (Rm 3) s m [.ref (ad 10 0 0), .int a1].toArray below meth c 7 N0 T D gr ad 0 0 (MQ below (va_Qi (fun r Y1 => (r, Y1) = res) (WB T D gr ad) (fun q => N0 ≤ q)) [.ref (ad 10 0 0), .int a1].toArray s 0 0 (fun q => N0 ≤ q)) Y 55 [(5, .int l5), (4, .int l4), (3, .int l3), (2, .int l2), (0, .ref (ad 10 0 0)), (1, .int a1)] [.int s0] := by
  unfold X12_criticalStep_b55 at h
  refine fw_istore C dX12_criticalStep_55 (by decide) (L' := [(6, .int s0), (5, .int l5), (4, .int l4), (3, .int l3), (2, .int l2), (0, .ref (ad 10 0 0)), (1, .int a1)]) rfl ?_
  refine fw_iload C dX12_criticalStep_57 0 rfl ?_
  refine fw_if_eq C dX12_criticalStep_59 (tgt := 89) rfl (fun c11 => ?_) (fun c11 => ?_)
  · have h := ite_t c11 h
    refine fw_sub [1, 2, 3, 4, 5, 6] (L' := [(5, .int l5), (4, .int l4), (3, .int l3), (2, .int l2), (0, .ref (ad 10 0 0)), (1, .int a1)]) rfl ?_
    exact w_X12_criticalStep_b89 C hrt hG  hk24 _ _ _ _ _ h
  · have h := ite_f c11 h
    refine fw_iload C dX12_criticalStep_62 2 rfl ?_
    refine fw_iconst C dX12_criticalStep_64 (v := (-1)) rfl ?_
    refine fw_icmp_eq C dX12_criticalStep_65 (tgt := 85) rfl (fun c12 => ?_) (fun c12 => ?_)
    · have h := ite_t c12 h
      refine fw_sub [1, 3, 4, 5, 6] (L' := [(5, .int l5), (3, .int l3), (2, .int l2), (0, .ref (ad 10 0 0)), (1, .int a1)]) rfl ?_
      exact w_X12_criticalStep_b85 C hrt hG  hk24 _ _ _ _ h
    · have h := ite_f c12 h
      refine fw_aload_n C dX12_criticalStep_68 rfl 5 rfl ?_
      refine fw_get C (ci := 10) (Cn := RX12) (Tc := TX12) (N := 19) (j := 10) ly_X12_criticalStep_12 rfl (hG _ (List.mem_of_getElem? (i := 0) rfl)) (of10_0 _) (ce10 T ad _ _) (by decide) (cx_ts C _ fl_X12_criticalStep_42) (fun _ h => h) (v := .ref (ad 10 0 5)) rfl dX12_criticalStep_69 ?_
      refine fw_iload C dX12_criticalStep_72 1 rfl ?_
      obtain ⟨b13, h⟩ := gd_some h
      refine fw_iald2 C (hG _ (List.mem_of_getElem? (i := 0) rfl)) (of10_5 _) (ca10_5 T ad _ _) b13 (Nat.le_of_ble_eq_true rfl) dX12_criticalStep_74 ?_
      refine fw_aload_n C dX12_criticalStep_75 rfl 5 rfl ?_
      refine fw_get C (ci := 10) (Cn := RX12) (Tc := TX12) (N := 19) (j := 10) ly_X12_criticalStep_12 rfl (hG _ (List.mem_of_getElem? (i := 0) rfl)) (of10_0 _) (ce10 T ad _ _) (by decide) (cx_ts C _ fl_X12_criticalStep_42) (fun _ h => h) (v := .ref (ad 10 0 5)) rfl dX12_criticalStep_76 ?_
      refine fw_iload C dX12_criticalStep_79 2 rfl ?_
      obtain ⟨b14, h⟩ := gd_some h
      refine fw_iald2 C (hG _ (List.mem_of_getElem? (i := 0) rfl)) (of10_5 _) (ca10_5 T ad _ _) b14 (Nat.le_of_ble_eq_true rfl) dX12_criticalStep_81 ?_
      refine fw_icmp_le C dX12_criticalStep_82 (tgt := 89) rfl (fun c15 => ?_) (fun c15 => ?_)
      · have h := ite_t c15 h
        refine fw_sub [1, 2, 3, 4, 5, 6] (L' := [(5, .int l5), (4, .int l4), (3, .int l3), (2, .int l2), (0, .ref (ad 10 0 0)), (1, .int a1)]) rfl ?_
        exact w_X12_criticalStep_b89 C hrt hG  hk24 _ _ _ _ _ h
      · have h := ite_f c15 h
        refine fw_sub [1, 3, 4, 5, 6] (L' := [(5, .int l5), (3, .int l3), (2, .int l2), (0, .ref (ad 10 0 0)), (1, .int a1)]) rfl ?_
        exact w_X12_criticalStep_b85 C hrt hG  hk24 _ _ _ _ h
set_option maxRecDepth 100000 in
set_option maxHeartbeats 4000000 in
theorem w_X12_criticalStep_b50 {a1 : Int32} (C : Cx p s m [.ref (ad 10 0 0), .int a1].toArray meth c cX12_criticalStep 7 wsX12_criticalStep RX12 N0 T D gr ad) (hrt : meth.sig.returnType = (some .int)) (hG : ∀ q ∈ [(10, 0)], q ∈ gr) {res : Int32 × Mem} {k24 : Mem → Int32 → Int32 → Int32 → Int32 → Option (Int32 × Mem)} (hk24 : ∀ (Y : Mem) (l5 : Int32) (l4 : Int32) (l3 : Int32) (l2 : Int32), k24 Y l5 l4 l3 l2 = some res → FW p l e (Rm 3) s m [.ref (ad 10 0 0), .int a1].toArray below meth c 7 N0 T D gr ad 0 0 (MQ below (va_Qi (fun r Y1 => (r, Y1) = res) (WB T D gr ad) (fun q => N0 ≤ q)) [.ref (ad 10 0 0), .int a1].toArray s 0 0 (fun q => N0 ≤ q)) Y 24 [(5, .int l5), (4, .int l4), (3, .int l3), (2, .int l2), (0, .ref (ad 10 0 0)), (1, .int a1)] []) (Y : Mem) (l5 : Int32) (l4 : Int32) (l3 : Int32) (l2 : Int32) (h : X12_criticalStep_b50 a1 k24 Y l5 l4 l3 l2 = some res) : FW p l e (Rm 3) s m [.ref (ad 10 0 0), .int a1].toArray below meth c 7 N0 T D gr ad 0 0 (MQ below (va_Qi (fun r Y1 => (r, Y1) = res) (WB T D gr ad) (fun q => N0 ≤ q)) [.ref (ad 10 0 0), .int a1].toArray s 0 0 (fun q => N0 ≤ q)) Y 50 [(5, .int l5), (4, .int l4), (3, .int l3), (2, .int l2), (0, .ref (ad 10 0 0)), (1, .int a1)] [] := by
  unfold X12_criticalStep_b50 at h
  refine fw_iconst C dX12_criticalStep_50 (v := 1) rfl ?_
  refine fw_goto C dX12_criticalStep_51 (tgt := 55) rfl ?_
  exact w_X12_criticalStep_b55 C hrt hG  hk24 _ _ _ _ _ _ h
set_option maxRecDepth 100000 in
set_option maxHeartbeats 4000000 in
theorem w_X12_criticalStep_b24 {a1 : Int32} (C : Cx p s m [.ref (ad 10 0 0), .int a1].toArray meth c cX12_criticalStep 7 wsX12_criticalStep RX12 N0 T D gr ad) (hrt : meth.sig.returnType = (some .int)) (hG : ∀ q ∈ [(10, 0)], q ∈ gr) {res : Int32 × Mem} {k13 : Mem → Int32 → Int32 → Option (Int32 × Mem)} (hk13 : ∀ (Y : Mem) (l3 : Int32) (l2 : Int32), k13 Y l3 l2 = some res → FW p l e (Rm 3) s m [.ref (ad 10 0 0), .int a1].toArray below meth c 7 N0 T D gr ad 0 0 (MQ below (va_Qi (fun r Y1 => (r, Y1) = res) (WB T D gr ad) (fun q => N0 ≤ q)) [.ref (ad 10 0 0), .int a1].toArray s 0 0 (fun q => N0 ≤ q)) Y 13 [(3, .int l3), (2, .int l2), (0, .ref (ad 10 0 0)), (1, .int a1)] []) : ∀ (n : Nat) (Y : Mem) (l5 : Int32) (l4 : Int32) (l3 : Int32) (l2 : Int32), X12_criticalStep_b24 a1 k13 n Y l5 l4 l3 l2 = some res → FW p l e (Rm 3) s m [.ref (ad 10 0 0), .int a1].toArray below meth c 7 N0 T D gr ad 0 0 (MQ below (va_Qi (fun r Y1 => (r, Y1) = res) (WB T D gr ad) (fun q => N0 ≤ q)) [.ref (ad 10 0 0), .int a1].toArray s 0 0 (fun q => N0 ≤ q)) Y 24 [(5, .int l5), (4, .int l4), (3, .int l3), (2, .int l2), (0, .ref (ad 10 0 0)), (1, .int a1)] [] := by
  intro n
  induction n with
  | zero =>
    intro Y l5 l4 l3 l2 h
    unfold X12_criticalStep_b24 at h
    cases h
  | succ n ih =>
    intro Y l5 l4 l3 l2 h
    unfold X12_criticalStep_b24 at h
    refine fw_iload C dX12_criticalStep_24 0 rfl ?_
    refine fw_aload_n C dX12_criticalStep_26 rfl 4 rfl ?_
    refine fw_get C (ci := 10) (Cn := RX12) (Tc := TX12) (N := 19) (j := 0) ly_X12_criticalStep_12 rfl (hG _ (List.mem_of_getElem? (i := 0) rfl)) (of10_0 _) (ce10 T ad _ _) (by decide) (cx_ts C _ fl_X12_criticalStep_13) (fun _ h => h) (v := .ref (ad 10 0 1)) rfl dX12_criticalStep_27 ?_
    refine fw_bipush C dX12_criticalStep_30 (v := 13) rfl ?_
    obtain ⟨b7, h⟩ := gd_some h
    refine fw_iald2 C (hG _ (List.mem_of_getElem? (i := 0) rfl)) (of10_1 _) (ca10_1 T ad _ _) b7 (Nat.le_of_ble_eq_true rfl) dX12_criticalStep_32 ?_
    refine fw_icmp_ge C dX12_criticalStep_33 (tgt := 95) rfl (fun c8 => ?_) (fun c8 => ?_)
    · have h := ite_t c8 h
      refine fw_iload C dX12_criticalStep_95 1 rfl ?_
      refine fw_iconst C dX12_criticalStep_97 (v := (-1)) rfl ?_
      refine fw_icmp_ne C dX12_criticalStep_98 (tgt := 103) rfl (fun c9 => ?_) (fun c9 => ?_)
      · have h := ite_f c9 h
        refine fw_iload C dX12_criticalStep_103 1 rfl ?_
        refine fw_istore_n C dX12_criticalStep_105 rfl (by decide) (L' := [(2, .int l4), (5, .int l5), (4, .int l4), (3, .int l3), (0, .ref (ad 10 0 0)), (1, .int a1)]) rfl ?_
        refine fw_iinc C dX12_criticalStep_106 (kk := 3) (v := l3 + 1) rfl rfl (by decide) (L' := [(3, .int (l3 + 1)), (2, .int l4), (5, .int l5), (4, .int l4), (0, .ref (ad 10 0 0)), (1, .int a1)]) rfl ?_
        refine fw_goto C dX12_criticalStep_109 (tgt := 13) rfl ?_
        refine fw_sub [0, 1, 4, 5] (L' := [(3, .int (l3 + 1)), (2, .int l4), (0, .ref (ad 10 0 0)), (1, .int a1)]) rfl ?_
        exact hk13 _ _ _ h
      · have h := ite_t c9 h
        refine fw_iconst C dX12_criticalStep_101 (v := (-1)) rfl ?_
        exact fw_iret C hrt Y (Option.some.inj h) (fun t ht => ht) dX12_criticalStep_102
    · have h := ite_f c8 h
      refine fw_iload_n C dX12_criticalStep_36 rfl 2 rfl ?_
      refine fw_if_eq C dX12_criticalStep_37 (tgt := 50) rfl (fun c10 => ?_) (fun c10 => ?_)
      · have h := ite_t c10 h
        exact w_X12_criticalStep_b50 C hrt hG  ih _ _ _ _ _ h
      · have h := ite_f c10 h
        refine fw_aload_n C dX12_criticalStep_40 rfl 4 rfl ?_
        refine fw_iload_n C dX12_criticalStep_41 rfl 3 rfl ?_
        refine fw_iload C dX12_criticalStep_42 0 rfl ?_
        obtain ⟨r16, q17, h⟩ := bd1_some h
        refine fw_callVi C (ci := 10) (Cn := RX12) (Tc := TX12) (N := 19) (As := [.int l2, .int l5]) (c_X12_isPredecessor (gac (hG _ (List.mem_of_getElem? (i := 0) rfl)) ga0) q17) (cwV 2 (cx_ts C) gX12_criticalStep_X12_isPredecessor rfl rfl rfl (by decide +kernel) ⟨Nat.le_of_ble_eq_true rfl, Nat.le_of_ble_eq_true rfl⟩) rfl (hG _ (List.mem_of_getElem? (i := 0) rfl)) (of10_0 _) (ce10 T ad _ _) rfl (st := []) rfl (Nat.le_of_ble_eq_true rfl) ⟨Nat.le_refl 0, Nat.le_refl 0⟩ dX12_criticalStep_44 ?_
        rintro _ _ ⟨rfl, rfl⟩
        refine fw_if_eq C dX12_criticalStep_47 (tgt := 54) rfl (fun c18 => ?_) (fun c18 => ?_)
        · have h := ite_t c18 h
          refine fw_iconst C dX12_criticalStep_54 (v := 0) rfl ?_
          exact w_X12_criticalStep_b55 C hrt hG  ih _ _ _ _ _ _ h
        · have h := ite_f c18 h
          exact w_X12_criticalStep_b50 C hrt hG  ih _ _ _ _ _ h
set_option maxRecDepth 100000 in
set_option maxHeartbeats 4000000 in
theorem w_X12_criticalStep_b13 {a1 : Int32} (C : Cx p s m [.ref (ad 10 0 0), .int a1].toArray meth c cX12_criticalStep 7 wsX12_criticalStep RX12 N0 T D gr ad) (hrt : meth.sig.returnType = (some .int)) (hG : ∀ q ∈ [(10, 0)], q ∈ gr) {res : Int32 × Mem} : ∀ (n : Nat) (Y : Mem) (l3 : Int32) (l2 : Int32), X12_criticalStep_b13 a1  n Y l3 l2 = some res → FW p l e (Rm 3) s m [.ref (ad 10 0 0), .int a1].toArray below meth c 7 N0 T D gr ad 0 0 (MQ below (va_Qi (fun r Y1 => (r, Y1) = res) (WB T D gr ad) (fun q => N0 ≤ q)) [.ref (ad 10 0 0), .int a1].toArray s 0 0 (fun q => N0 ≤ q)) Y 13 [(3, .int l3), (2, .int l2), (0, .ref (ad 10 0 0)), (1, .int a1)] [] := by
  intro n
  induction n with
  | zero =>
    intro Y l3 l2 h
    unfold X12_criticalStep_b13 at h
    cases h
  | succ n ih =>
    intro Y l3 l2 h
    unfold X12_criticalStep_b13 at h
    refine fw_iload_n C dX12_criticalStep_13 rfl 0 rfl ?_
    refine fw_iload_n C dX12_criticalStep_14 rfl 3 rfl ?_
    refine fw_icmp_gt C dX12_criticalStep_15 (tgt := 112) rfl (fun c6 => ?_) (fun c6 => ?_)
    · have h := ite_t c6 h
      refine fw_iload_n C dX12_criticalStep_112 rfl 1 rfl ?_
      exact fw_iret C hrt Y (Option.some.inj h) (fun t ht => ht) dX12_criticalStep_113
    · have h := ite_f c6 h
      refine fw_iconst C dX12_criticalStep_18 (v := (-1)) rfl ?_
      refine fw_istore C dX12_criticalStep_19 (by decide) (L' := [(4, .int ((-1))), (3, .int l3), (2, .int l2), (0, .ref (ad 10 0 0)), (1, .int a1)]) rfl ?_
      refine fw_iconst C dX12_criticalStep_21 (v := 0) rfl ?_
      refine fw_istore C dX12_criticalStep_22 (by decide) (L' := [(5, .int 0), (4, .int ((-1))), (3, .int l3), (2, .int l2), (0, .ref (ad 10 0 0)), (1, .int a1)]) rfl ?_
      exact w_X12_criticalStep_b24 C hrt hG  ih _ _ _ _ _ _ h
set_option maxRecDepth 100000 in
set_option maxHeartbeats 4000000 in
theorem w_X12_criticalStep {Y : Mem} {a1 : Int32} (C : Cx p s m [.ref (ad 10 0 0), .int a1].toArray meth c cX12_criticalStep 7 wsX12_criticalStep RX12 N0 T D gr ad) (hrt : meth.sig.returnType = (some .int)) (hG : ∀ q ∈ [(10, 0)], q ∈ gr) {res : Int32 × Mem} (h : X12_criticalStep Y a1 = some res) : FW p l e (Rm 3) s m [.ref (ad 10 0 0), .int a1].toArray below meth c 7 N0 T D gr ad 0 0 (MQ below (va_Qi (fun r Y1 => (r, Y1) = res) (WB T D gr ad) (fun q => N0 ≤ q)) [.ref (ad 10 0 0), .int a1].toArray s 0 0 (fun q => N0 ≤ q)) Y 0 [(0, .ref (ad 10 0 0)), (1, .int a1)] [] := by
  unfold X12_criticalStep at h
  refine fw_aload_n C dX12_criticalStep_0 rfl 0 rfl ?_
  refine fw_iconst C dX12_criticalStep_1 (v := 0) rfl ?_
  obtain ⟨Y1, e2, h⟩ := lt_some h
  refine fw_put C (ci := 10) (Cn := RX12) (Tc := TX12) (N := 19) (j := 9) (ty := .int) (upd (Y 10 0 0) 9 0) ly_X12_criticalStep_12 rfl tyX12_ok nmX12 (hG _ (List.mem_of_getElem? (i := 0) rfl)) (of10_0 _) (ce10 T ad _ _) (by decide) (cx_ts C _ fl_X12_criticalStep_1) (fun _ h => h) rfl (by decide +kernel) rfl rfl (by decide) (ce10_put9 T ad _ _ _) dX12_criticalStep_2 ?_
  refine fw_mem ((up_eq _ _ _ _ _ _).symm.trans e2) ?_
  refine fw_aload_n C dX12_criticalStep_5 rfl 0 rfl ?_
  obtain ⟨Y5, q4, h⟩ := bd1_some h
  refine fw_callVv C (ci := 10) (Cn := RX12) (Tc := TX12) (N := 19) (As := []) (c_X12_computePaths (gac (hG _ (List.mem_of_getElem? (i := 0) rfl)) ga0) q4) (cwV 0 (cx_ts C) gX12_criticalStep_X12_computePaths rfl rfl rfl (by decide +kernel) ⟨Nat.le_of_ble_eq_true rfl, Nat.le_of_ble_eq_true rfl⟩) rfl (hG _ (List.mem_of_getElem? (i := 0) rfl)) (of10_0 _) (ce10 T ad _ _) rfl (st := []) rfl (Nat.le_of_ble_eq_true rfl) ⟨Nat.le_refl 0, Nat.le_refl 0⟩ dX12_criticalStep_6 ?_
  rintro _ rfl
  refine fw_iconst C dX12_criticalStep_9 (v := (-1)) rfl ?_
  refine fw_istore_n C dX12_criticalStep_10 rfl (by decide) (L' := [(2, .int ((-1))), (0, .ref (ad 10 0 0)), (1, .int a1)]) rfl ?_
  refine fw_iconst C dX12_criticalStep_11 (v := 0) rfl ?_
  refine fw_istore_n C dX12_criticalStep_12 rfl (by decide) (L' := [(3, .int 0), (2, .int ((-1))), (0, .ref (ad 10 0 0)), (1, .int a1)]) rfl ?_
  exact w_X12_criticalStep_b13 C hrt hG   _ _ _ _ h
end
set_option maxRecDepth 100000 in
set_option maxHeartbeats 4000000 in
theorem c_X12_criticalStep {l : Launch} {N0 : Nat} {T : Nat → ClassId} {D : va_G} {gr : List (Nat × Nat)} {ad : Nat → Nat → Nat → Nat} {Y : Mem} {a1 : Int32} {res : Int32 × Mem} (hG : ∀ q ∈ [(10, 0)], q ∈ gr) (h : X12_criticalStep Y a1 = some res) : CI l yX12_criticalStep wsX12_criticalStep (Rm 3) N0 T D gr ad Y [.ref (ad 10 0 0), .int a1] (fun r Y1 => (r, Y1) = res) :=
  fw_body (by decide +kernel) rfl (Nat.le_of_ble_eq_true rfl) (fun p e s m below meth c C hrt => w_X12_criticalStep C hrt hG  h)
