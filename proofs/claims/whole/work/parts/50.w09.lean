theorem fl_J0_checkIndex_df160_1053 : Cond.fieldLink RJ0 1053 "jdk/internal/util/Preconditions" "SIOOBE_FORMATTER" "Ljava/util/function/BiFunction;" ∈ wsJ0_checkIndex_df160 := by decide +kernel
section
variable {p : Program} {l : Launch} {e : Env} {s : State} {m : MethodId} {below : List Frame} {meth : Method} {c : Code} {N0 : Nat} {T : Nat → ClassId} {D : va_G} {gr : List (Nat × Nat)} {ad : Nat → Nat → Nat → Nat}
set_option maxRecDepth 100000 in
set_option maxHeartbeats 4000000 in
theorem w_J0_checkIndex_df160 {Y : Mem} {a0 : Int32} {a1 : Int32} (C : Cx p s m [.int a0, .int a1].toArray meth c cJ0_checkIndex_df160 2 wsJ0_checkIndex_df160 RJ0 N0 T D gr ad) (hrt : meth.sig.returnType = none) (hG : ∀ q ∈ [], q ∈ gr) {res : Unit} (h : J0_checkIndex_df160 Y a0 a1 = some res) : FW p l e (Rm 1) s m [.int a0, .int a1].toArray below meth c 2 N0 T D gr ad 0 0 (MQ below (va_Qv (fun Y1 => Y1 = Y) (WB T D gr ad) (fun q => N0 ≤ q)) [.int a0, .int a1].toArray s 0 0 (fun q => N0 ≤ q)) Y 0 [(0, .int a0), (1, .int a1)] [] := by
  unfold J0_checkIndex_df160 at h
  refine fw_iload_n C dJ0_checkIndex_df160_0 rfl 0 rfl ?_
  refine fw_iload_n C dJ0_checkIndex_df160_1 rfl 1 rfl ?_
  refine fw_getsq2 C (cx_st C).2.2.2.2.2.2.1 (cx_ts C _ fl_J0_checkIndex_df160_1053) (fun _ h => h) dJ0_checkIndex_df160_2 ?_ (fun x9 => ?_)
  · obtain ⟨r1, q2, h⟩ := bd1_some h
    refine fw_callSi C (As := [.int a0, .int a1, .null]) (c_J3_checkIndex_8e157N ga0 q2) (va_cwS 3 (cx_ts C) gJ0_checkIndex_df160_J3_checkIndex_8e157 rfl rfl rfl (by decide +kernel) ⟨Nat.le_of_ble_eq_true rfl, Nat.le_of_ble_eq_true rfl⟩) rfl (st := []) rfl (Nat.le_of_ble_eq_true rfl) ⟨Nat.le_refl 0, Nat.le_refl 0⟩ dJ0_checkIndex_df160_5 (pp2 ?_)
    refine fw_pop C dJ0_checkIndex_df160_8 rfl ?_
    exact fw_vret C hrt Y rfl (fun t ht => ht) dJ0_checkIndex_df160_9
  · obtain ⟨r1, q2, h⟩ := bd1_some h
    refine fw_callSi C (As := [.int a0, .int a1, .ref x9]) (c_J3_checkIndex_8e157 ga0 q2) (va_cwS 3 (cx_ts C) gJ0_checkIndex_df160_J3_checkIndex_8e157 rfl rfl rfl (by decide +kernel) ⟨Nat.le_of_ble_eq_true rfl, Nat.le_of_ble_eq_true rfl⟩) rfl (st := []) rfl (Nat.le_of_ble_eq_true rfl) ⟨Nat.le_refl 0, Nat.le_refl 0⟩ dJ0_checkIndex_df160_5 (pp2 ?_)
    refine fw_pop C dJ0_checkIndex_df160_8 rfl ?_
    exact fw_vret C hrt Y rfl (fun t ht => ht) dJ0_checkIndex_df160_9
end
set_option maxRecDepth 100000 in
set_option maxHeartbeats 4000000 in
theorem c_J0_checkIndex_df160 {l : Launch} {N0 : Nat} {T : Nat → ClassId} {D : va_G} {gr : List (Nat × Nat)} {ad : Nat → Nat → Nat → Nat} {Y : Mem} {a0 : Int32} {a1 : Int32} {res : Unit} (hG : ∀ q ∈ [], q ∈ gr) (h : J0_checkIndex_df160 Y a0 a1 = some res) : CV l yJ0_checkIndex_df160 wsJ0_checkIndex_df160 (Rm 1) N0 T D gr ad Y [.int a0, .int a1] (fun Y1 => Y1 = Y) :=
  fw_body (by decide +kernel) rfl (Nat.le_of_ble_eq_true rfl) (fun p e s m below meth c C hrt => w_J0_checkIndex_df160 C hrt hG  h)
section
variable {p : Program} {l : Launch} {e : Env} {s : State} {m : MethodId} {below : List Frame} {meth : Method} {c : Code} {N0 : Nat} {T : Nat → ClassId} {D : va_G} {gr : List (Nat × Nat)} {ad : Nat → Nat → Nat → Nat}
set_option maxRecDepth 100000 in
set_option maxHeartbeats 4000000 in
theorem w_J1_charAt_3b067 {Y : Mem} {w0 : Nat} {a1 : Int32} (C : Cx p s m [.ref (ad 22 w0 0), .int a1].toArray meth c cJ1_charAt_3b067 2 wsJ1_charAt_3b067 RJ1 N0 T D gr ad) (hrt : meth.sig.returnType = (some .char)) (hG : ∀ q ∈ [], q ∈ gr) {res : Int32} (h : J1_charAt_3b067 Y w0 a1 = some res) : FW p l e (Rm 2) s m [.ref (ad 22 w0 0), .int a1].toArray below meth c 2 N0 T D gr ad 0 0 (MQ below (va_Qi (fun r Y1 => r = res ∧ Y1 = Y) (WB T D gr ad) (fun q => N0 ≤ q)) [.ref (ad 22 w0 0), .int a1].toArray s 0 0 (fun q => N0 ≤ q)) Y 0 [(0, .ref (ad 22 w0 0)), (1, .int a1)] [] := by
  unfold J1_charAt_3b067 at h
  refine fw_iload_n C dJ1_charAt_3b067_0 rfl 1 rfl ?_
  refine fw_aload_n C dJ1_charAt_3b067_1 rfl 0 rfl ?_
  obtain ⟨b1, h⟩ := gd_some h
  have b1 := of_decide_eq_true b1
  refine fw_tlen C ((cx_st C).1 _ b1).2.2.2 (v := (Int32.ofNat (sByt w0).length)) rfl dJ1_charAt_3b067_2 ?_
  obtain ⟨_, q3, h⟩ := bd1_some h
  refine fw_callSv C (As := [.int a1, .int ((Int32.ofNat (sByt w0).length))]) (c_J0_checkIndex_df160 ga0 q3) (va_cwS 2 (cx_ts C) gJ1_charAt_3b067_J0_checkIndex_df160 rfl rfl rfl (by decide +kernel) ⟨Nat.le_of_ble_eq_true rfl, Nat.le_of_ble_eq_true rfl⟩) rfl (st := []) rfl (Nat.le_of_ble_eq_true rfl) ⟨Nat.le_refl 0, Nat.le_refl 0⟩ dJ1_charAt_3b067_3 (ppv ?_)
  refine fw_aload_n C dJ1_charAt_3b067_6 rfl 0 rfl ?_
  refine fw_iload_n C dJ1_charAt_3b067_7 rfl 1 rfl ?_
  obtain ⟨b4, h⟩ := gd_some h
  refine fw_tb C ((cx_st C).1 _ b1).2.2.2 b4 (v := .int ((sByt w0).getD (ix a1) 0)) rfl dJ1_charAt_3b067_8 ?_
  refine fw_sipush C dJ1_charAt_3b067_9 (v := 255) rfl ?_
  refine fw_iand C dJ1_charAt_3b067_12 ?_
  refine fw_i2c C dJ1_charAt_3b067_13 ?_
  obtain ⟨b5, h⟩ := gd_some h
  exact fw_cret C hrt (congrArg Value.int (of_decide_eq_true b5)) Y ⟨Option.some.inj h, rfl⟩ (fun t ht => ht) dJ1_charAt_3b067_14
end
set_option maxRecDepth 100000 in
set_option maxHeartbeats 4000000 in
theorem c_J1_charAt_3b067 {l : Launch} {N0 : Nat} {T : Nat → ClassId} {D : va_G} {gr : List (Nat × Nat)} {ad : Nat → Nat → Nat → Nat} {Y : Mem} {w0 : Nat} {a1 : Int32} {res : Int32} (hG : ∀ q ∈ [], q ∈ gr) (h : J1_charAt_3b067 Y w0 a1 = some res) : CI l yJ1_charAt_3b067 wsJ1_charAt_3b067 (Rm 2) N0 T D gr ad Y [.ref (ad 22 w0 0), .int a1] (fun r Y1 => r = res ∧ Y1 = Y) :=
  fw_body (by decide +kernel) rfl (Nat.le_of_ble_eq_true rfl) (fun p e s m below meth c C hrt => w_J1_charAt_3b067 C hrt hG  h)
theorem fl_J0_charAt_5068e_9 : Cond.fieldLink RJ0 9 "java/lang/String" "value" "[B" ∈ wsJ0_charAt_5068e := by decide +kernel
section
variable {p : Program} {l : Launch} {e : Env} {s : State} {m : MethodId} {below : List Frame} {meth : Method} {c : Code} {N0 : Nat} {T : Nat → ClassId} {D : va_G} {gr : List (Nat × Nat)} {ad : Nat → Nat → Nat → Nat}
set_option maxRecDepth 100000 in
set_option maxHeartbeats 4000000 in
theorem w_J0_charAt_5068e {Y : Mem} {w0 : Nat} {a1 : Int32} (C : Cx p s m [.ref (ad 21 w0 0), .int a1].toArray meth c cJ0_charAt_5068e 2 wsJ0_charAt_5068e RJ0 N0 T D gr ad) (hrt : meth.sig.returnType = (some .char)) (hG : ∀ q ∈ [], q ∈ gr) {res : Int32} (h : J0_charAt_5068e Y w0 a1 = some res) : FW p l e (Rm 3) s m [.ref (ad 21 w0 0), .int a1].toArray below meth c 2 N0 T D gr ad 0 0 (MQ below (va_Qi (fun r Y1 => r = res ∧ Y1 = Y) (WB T D gr ad) (fun q => N0 ≤ q)) [.ref (ad 21 w0 0), .int a1].toArray s 0 0 (fun q => N0 ≤ q)) Y 0 [(0, .ref (ad 21 w0 0)), (1, .int a1)] [] := by
  unfold J0_charAt_5068e at h
  refine fw_aload_n C dJ0_charAt_5068e_0 rfl 0 rfl ?_
  obtain ⟨b1, h⟩ := gd_some h
  have b1 := of_decide_eq_true b1
  obtain ⟨r2, q3, h⟩ := bd1_some h
  refine fw_callOi C (Cn := RJ0) (As := []) (c_J0_isLatin1_aae02 ga0 q3) (cwV 0 (cx_ts C) gJ0_charAt_5068e_J0_isLatin1_aae02 rfl rfl rfl (by decide +kernel) ⟨Nat.le_of_ble_eq_true rfl, Nat.le_of_ble_eq_true rfl⟩) ((cx_st C).1 _ b1).1 rfl (st := []) rfl (Nat.le_of_ble_eq_true rfl) ⟨Nat.le_refl 0, Nat.le_refl 0⟩ dJ0_charAt_5068e_1 (pp2 ?_)
  refine fw_if_eq C dJ0_charAt_5068e_4 (tgt := 16) rfl (fun c4 => ?_) (fun c4 => ?_)
  · have h := ite_t c4 h
    cases h
  · have h := ite_f c4 h
    refine fw_aload_n C dJ0_charAt_5068e_7 rfl 0 rfl ?_
    refine fw_getO C (v := .ref (ad 22 w0 0)) ((cx_st C).1 _ b1).2.2.1 (cx_ts C _ fl_J0_charAt_5068e_9) (fun _ h => h) dJ0_charAt_5068e_8 ?_
    refine fw_iload_n C dJ0_charAt_5068e_11 rfl 1 rfl ?_
    obtain ⟨r5, q6, h⟩ := bd1_some h
    refine fw_callSi C (As := [.ref (ad 22 w0 0), .int a1]) (c_J1_charAt_3b067 ga0 q6) (va_cwS 2 (cx_ts C) gJ0_charAt_5068e_J1_charAt_3b067 rfl rfl rfl (by decide +kernel) ⟨Nat.le_of_ble_eq_true rfl, Nat.le_of_ble_eq_true rfl⟩) rfl (st := []) rfl (Nat.le_of_ble_eq_true rfl) ⟨Nat.le_refl 0, Nat.le_refl 0⟩ dJ0_charAt_5068e_12 (pp2 ?_)
    obtain ⟨b7, h⟩ := gd_some h
    exact fw_cret C hrt (congrArg Value.int (of_decide_eq_true b7)) Y ⟨Option.some.inj h, rfl⟩ (fun t ht => ht) dJ0_charAt_5068e_15
end
set_option maxRecDepth 100000 in
set_option maxHeartbeats 4000000 in
theorem c_J0_charAt_5068e {l : Launch} {N0 : Nat} {T : Nat → ClassId} {D : va_G} {gr : List (Nat × Nat)} {ad : Nat → Nat → Nat → Nat} {Y : Mem} {w0 : Nat} {a1 : Int32} {res : Int32} (hG : ∀ q ∈ [], q ∈ gr) (h : J0_charAt_5068e Y w0 a1 = some res) : CI l yJ0_charAt_5068e wsJ0_charAt_5068e (Rm 3) N0 T D gr ad Y [.ref (ad 21 w0 0), .int a1] (fun r Y1 => r = res ∧ Y1 = Y) :=
  fw_body (by decide +kernel) rfl (Nat.le_of_ble_eq_true rfl) (fun p e s m below meth c C hrt => w_J0_charAt_5068e C hrt hG  h)
theorem ly_X12_isWord_12 : ∀ w ∈ u_ws RX12 TX12 19, w ∈ wsX12_isWord := by decide +kernel
theorem fl_X12_isWord_57 : Cond.fieldLink RX12 57 "RecipeSchedulerModel" "type" "I" ∈ wsX12_isWord := by decide +kernel
theorem fl_X12_isWord_54 : Cond.fieldLink RX12 54 "RecipeSchedulerModel" "ahead" "I" ∈ wsX12_isWord := by decide +kernel
theorem fl_X12_isWord_60 : Cond.fieldLink RX12 60 "RecipeSchedulerModel" "from" "I" ∈ wsX12_isWord := by decide +kernel
theorem fl_X12_isWord_24 : Cond.fieldLink RX12 24 "RecipeSchedulerModel" "buffer" "[I" ∈ wsX12_isWord := by decide +kernel
section
variable {p : Program} {l : Launch} {e : Env} {s : State} {m : MethodId} {below : List Frame} {meth : Method} {c : Code} {N0 : Nat} {T : Nat → ClassId} {D : va_G} {gr : List (Nat × Nat)} {ad : Nat → Nat → Nat → Nat}
set_option maxRecDepth 100000 in
set_option maxHeartbeats 4000000 in
theorem w_X12_isWord_b28 {Y : Mem} {w1 : Nat} (C : Cx p s m [.ref (ad 10 0 0), .ref (ad 21 w1 0)].toArray meth c cX12_isWord 3 wsX12_isWord RX12 N0 T D gr ad) (hrt : meth.sig.returnType = (some .boolean)) (hG : ∀ q ∈ [(10, 0)], q ∈ gr) {res : Int32} : ∀ (n : Nat) (l2 : Int32), X12_isWord_b28 Y w1  n l2 = some res → FW p l e (Rm 4) s m [.ref (ad 10 0 0), .ref (ad 21 w1 0)].toArray below meth c 3 N0 T D gr ad 0 0 (MQ below (va_Qi (fun r Y1 => r = res ∧ Y1 = Y) (WB T D gr ad) (fun q => N0 ≤ q)) [.ref (ad 10 0 0), .ref (ad 21 w1 0)].toArray s 0 0 (fun q => N0 ≤ q)) Y 28 [(2, .int l2), (0, .ref (ad 10 0 0)), (1, .ref (ad 21 w1 0))] [] := by
  intro n
  induction n with
  | zero =>
    intro l2 h
    unfold X12_isWord_b28 at h
    cases h
  | succ n ih =>
    intro l2 h
    unfold X12_isWord_b28 at h
    refine fw_iload_n C dX12_isWord_28 rfl 0 rfl ?_
    refine fw_aload_n C dX12_isWord_29 rfl 2 rfl ?_
    obtain ⟨b6, h⟩ := gd_some h
    have b6 := of_decide_eq_true b6
    obtain ⟨r7, q8, h⟩ := bd1_some h
    refine fw_callOi C (Cn := RJ0) (As := []) (c_J0_length_8abf5 ga0 q8) (cwV 0 (cx_ts C) gX12_isWord_J0_length_8abf5 rfl rfl rfl (by decide +kernel) ⟨Nat.le_of_ble_eq_true rfl, Nat.le_of_ble_eq_true rfl⟩) ((cx_st C).1 _ b6).1 rfl (st := [.int l2]) rfl (Nat.le_of_ble_eq_true rfl) ⟨Nat.le_refl 0, Nat.le_refl 0⟩ dX12_isWord_30 (pp2 ?_)
    refine fw_icmp_ge C dX12_isWord_33 (tgt := 63) rfl (fun c9 => ?_) (fun c9 => ?_)
    · have h := ite_t c9 h
      refine fw_iconst C dX12_isWord_63 (v := 1) rfl ?_
      exact fw_zret C hrt (by decide) Y ⟨Option.some.inj h, rfl⟩ (fun t ht => ht) dX12_isWord_64
    · have h := ite_f c9 h
      refine fw_aload_n C dX12_isWord_36 rfl 1 rfl ?_
      refine fw_get C (ci := 10) (Cn := RX12) (Tc := TX12) (N := 19) (j := 3) ly_X12_isWord_12 rfl (hG _ (List.mem_of_getElem? (i := 0) rfl)) (of10_0 _) (ce10 T ad _ _) (by decide) (cx_ts C _ fl_X12_isWord_24) (fun _ h => h) (v := .ref (ad 10 0 3)) rfl dX12_isWord_37 ?_
      refine fw_aload_n C dX12_isWord_40 rfl 1 rfl ?_
      refine fw_get C (ci := 10) (Cn := RX12) (Tc := TX12) (N := 19) (j := 16) ly_X12_isWord_12 rfl (hG _ (List.mem_of_getElem? (i := 0) rfl)) (of10_0 _) (ce10 T ad _ _) (by decide) (cx_ts C _ fl_X12_isWord_60) (fun _ h => h) (v := .int (Y 10 0 0 16)) rfl dX12_isWord_41 ?_
      refine fw_iload_n C dX12_isWord_44 rfl 0 rfl ?_
      refine fw_iadd C dX12_isWord_45 ?_
      obtain ⟨b10, h⟩ := gd_some h
      refine fw_iald2 C (hG _ (List.mem_of_getElem? (i := 0) rfl)) (of10_3 _) (ca10_3 T ad _ _) b10 (Nat.le_of_ble_eq_true rfl) dX12_isWord_46 ?_
      refine fw_aload_n C dX12_isWord_47 rfl 2 rfl ?_
      refine fw_iload_n C dX12_isWord_48 rfl 0 rfl ?_
      obtain ⟨r11, q12, h⟩ := bd1_some h
      refine fw_callOi C (Cn := RJ0) (As := [.int l2]) (c_J0_charAt_5068e ga0 q12) (cwV 1 (cx_ts C) gX12_isWord_J0_charAt_5068e rfl rfl rfl (by decide +kernel) ⟨Nat.le_of_ble_eq_true rfl, Nat.le_of_ble_eq_true rfl⟩) ((cx_st C).1 _ b6).1 rfl (st := [.int (Y 10 0 3 (ix ((Y 10 0 0 16) + l2)))]) rfl (Nat.le_of_ble_eq_true rfl) ⟨Nat.le_refl 0, Nat.le_refl 0⟩ dX12_isWord_49 (pp2 ?_)
      refine fw_icmp_eq C dX12_isWord_52 (tgt := 57) rfl (fun c13 => ?_) (fun c13 => ?_)
      · have h := ite_t c13 h
        refine fw_iinc C dX12_isWord_57 (kk := 0) (v := l2 + 1) rfl rfl (by decide) (L' := [(2, .int (l2 + 1)), (0, .ref (ad 10 0 0)), (1, .ref (ad 21 w1 0))]) rfl ?_
        refine fw_goto C dX12_isWord_60 (tgt := 28) rfl ?_
        exact ih _ h
      · have h := ite_f c13 h
        refine fw_iconst C dX12_isWord_55 (v := 0) rfl ?_
        exact fw_zret C hrt (by decide) Y ⟨Option.some.inj h, rfl⟩ (fun t ht => ht) dX12_isWord_56
set_option maxRecDepth 100000 in
set_option maxHeartbeats 4000000 in
theorem w_X12_isWord {Y : Mem} {w1 : Nat} (C : Cx p s m [.ref (ad 10 0 0), .ref (ad 21 w1 0)].toArray meth c cX12_isWord 3 wsX12_isWord RX12 N0 T D gr ad) (hrt : meth.sig.returnType = (some .boolean)) (hG : ∀ q ∈ [(10, 0)], q ∈ gr) {res : Int32} (h : X12_isWord Y w1 = some res) : FW p l e (Rm 4) s m [.ref (ad 10 0 0), .ref (ad 21 w1 0)].toArray below meth c 3 N0 T D gr ad 0 0 (MQ below (va_Qi (fun r Y1 => r = res ∧ Y1 = Y) (WB T D gr ad) (fun q => N0 ≤ q)) [.ref (ad 10 0 0), .ref (ad 21 w1 0)].toArray s 0 0 (fun q => N0 ≤ q)) Y 0 [(0, .ref (ad 10 0 0)), (1, .ref (ad 21 w1 0))] [] := by
  unfold X12_isWord at h
  refine fw_aload_n C dX12_isWord_0 rfl 0 rfl ?_
  refine fw_get C (ci := 10) (Cn := RX12) (Tc := TX12) (N := 19) (j := 15) ly_X12_isWord_12 rfl (hG _ (List.mem_of_getElem? (i := 0) rfl)) (of10_0 _) (ce10 T ad _ _) (by decide) (cx_ts C _ fl_X12_isWord_57) (fun _ h => h) (v := .int (Y 10 0 0 15)) rfl dX12_isWord_1 ?_
  refine fw_iconst C dX12_isWord_4 (v := 1) rfl ?_
  refine fw_icmp_ne C dX12_isWord_5 (tgt := 24) rfl (fun c1 => ?_) (fun c1 => ?_)
  · have h := ite_f c1 h
    refine fw_iconst C dX12_isWord_24 (v := 0) rfl ?_
    exact fw_zret C hrt (by decide) Y ⟨Option.some.inj h, rfl⟩ (fun t ht => ht) dX12_isWord_25
  · have h := ite_t c1 h
    refine fw_aload_n C dX12_isWord_8 rfl 0 rfl ?_
    refine fw_get C (ci := 10) (Cn := RX12) (Tc := TX12) (N := 19) (j := 14) ly_X12_isWord_12 rfl (hG _ (List.mem_of_getElem? (i := 0) rfl)) (of10_0 _) (ce10 T ad _ _) (by decide) (cx_ts C _ fl_X12_isWord_54) (fun _ h => h) (v := .int (Y 10 0 0 14)) rfl dX12_isWord_9 ?_
    refine fw_aload_n C dX12_isWord_12 rfl 0 rfl ?_
    refine fw_get C (ci := 10) (Cn := RX12) (Tc := TX12) (N := 19) (j := 16) ly_X12_isWord_12 rfl (hG _ (List.mem_of_getElem? (i := 0) rfl)) (of10_0 _) (ce10 T ad _ _) (by decide) (cx_ts C _ fl_X12_isWord_60) (fun _ h => h) (v := .int (Y 10 0 0 16)) rfl dX12_isWord_13 ?_
    refine fw_isub C dX12_isWord_16 ?_
    refine fw_aload_n C dX12_isWord_17 rfl 1 rfl ?_
    obtain ⟨b2, h⟩ := gd_some h
    have b2 := of_decide_eq_true b2
    obtain ⟨r3, q4, h⟩ := bd1_some h
    refine fw_callOi C (Cn := RJ0) (As := []) (c_J0_length_8abf5 ga0 q4) (cwV 0 (cx_ts C) gX12_isWord_J0_length_8abf5 rfl rfl rfl (by decide +kernel) ⟨Nat.le_of_ble_eq_true rfl, Nat.le_of_ble_eq_true rfl⟩) ((cx_st C).1 _ b2).1 rfl (st := [.int ((Y 10 0 0 14) - (Y 10 0 0 16))]) rfl (Nat.le_of_ble_eq_true rfl) ⟨Nat.le_refl 0, Nat.le_refl 0⟩ dX12_isWord_18 (pp2 ?_)
    refine fw_icmp_eq C dX12_isWord_21 (tgt := 26) rfl (fun c5 => ?_) (fun c5 => ?_)
    · have h := ite_t c5 h
      refine fw_iconst C dX12_isWord_26 (v := 0) rfl ?_
      refine fw_istore_n C dX12_isWord_27 rfl (by decide) (L' := [(2, .int 0), (0, .ref (ad 10 0 0)), (1, .ref (ad 21 w1 0))]) rfl ?_
      exact w_X12_isWord_b28 C hrt hG   _ _ h
    · have h := ite_f c5 h
      refine fw_iconst C dX12_isWord_24 (v := 0) rfl ?_
      exact fw_zret C hrt (by decide) Y ⟨Option.some.inj h, rfl⟩ (fun t ht => ht) dX12_isWord_25
end
set_option maxRecDepth 100000 in
set_option maxHeartbeats 4000000 in
theorem c_X12_isWord {l : Launch} {N0 : Nat} {T : Nat → ClassId} {D : va_G} {gr : List (Nat × Nat)} {ad : Nat → Nat → Nat → Nat} {Y : Mem} {w1 : Nat} {res : Int32} (hG : ∀ q ∈ [(10, 0)], q ∈ gr) (h : X12_isWord Y w1 = some res) : CI l yX12_isWord wsX12_isWord (Rm 4) N0 T D gr ad Y [.ref (ad 10 0 0), .ref (ad 21 w1 0)] (fun r Y1 => r = res ∧ Y1 = Y) :=
  fw_body (by decide +kernel) rfl (Nat.le_of_ble_eq_true rfl) (fun p e s m below meth c C hrt => w_X12_isWord C hrt hG  h)
section
variable {p : Program} {l : Launch} {e : Env} {s : State} {m : MethodId} {below : List Frame} {meth : Method} {c : Code} {N0 : Nat} {T : Nat → ClassId} {D : va_G} {gr : List (Nat × Nat)} {ad : Nat → Nat → Nat → Nat}
set_option maxRecDepth 100000 in
set_option maxHeartbeats 4000000 in
theorem w_X12_commandHere_b2 {Y : Mem} (C : Cx p s m [.ref (ad 10 0 0)].toArray meth c cX12_commandHere 2 wsX12_commandHere RX12 N0 T D gr ad) (hrt : meth.sig.returnType = (some .int)) (hG : ∀ q ∈ [(10, 0)], q ∈ gr) {res : Int32} : ∀ (n : Nat) (l1 : Int32), X12_commandHere_b2 Y  n l1 = some res → FW p l e (Rm 5) s m [.ref (ad 10 0 0)].toArray below meth c 2 N0 T D gr ad 0 0 (MQ below (va_Qi (fun r Y1 => r = res ∧ Y1 = Y) (WB T D gr ad) (fun q => N0 ≤ q)) [.ref (ad 10 0 0)].toArray s 0 0 (fun q => N0 ≤ q)) Y 2 [(1, .int l1), (0, .ref (ad 10 0 0))] [] := by
  intro n
  induction n with
  | zero =>
    intro l1 h
    unfold X12_commandHere_b2 at h
    cases h
  | succ n ih =>
    intro l1 h
    unfold X12_commandHere_b2 at h
    refine fw_iload_n C dX12_commandHere_2 rfl 0 rfl ?_
    refine fw_bipush C dX12_commandHere_3 (v := 7) rfl ?_
    refine fw_icmp_gt C dX12_commandHere_5 (tgt := 27) rfl (fun c1 => ?_) (fun c1 => ?_)
    · have h := ite_t c1 h
      refine fw_iconst C dX12_commandHere_27 (v := (-1)) rfl ?_
      exact fw_iret C hrt Y ⟨Option.some.inj h, rfl⟩ (fun t ht => ht) dX12_commandHere_28
    · have h := ite_f c1 h
      refine fw_aload_n C dX12_commandHere_8 rfl 1 rfl ?_
      refine fw_iload_n C dX12_commandHere_9 rfl 0 rfl ?_
      obtain ⟨r2, q3, h⟩ := bd1_some h
      refine fw_callSq C (As := [.int l1]) (c_X12_nameOf ga0 q3) (va_cwS 1 (cx_ts C) gX12_commandHere_X12_nameOf rfl rfl rfl (by decide +kernel) ⟨Nat.le_of_ble_eq_true rfl, Nat.le_of_ble_eq_true rfl⟩) rfl (st := [.ref (ad 10 0 0)]) rfl (Nat.le_of_ble_eq_true rfl) ⟨Nat.le_refl 0, Nat.le_refl 0⟩ dX12_commandHere_10 (pp2 ?_)
      obtain ⟨r4, q5, h⟩ := bd1_some h
      refine fw_callVi C (ci := 10) (Cn := RX12) (Tc := TX12) (N := 19) (As := [.ref (ad 21 r2 0)]) (c_X12_isWord (gac (hG _ (List.mem_of_getElem? (i := 0) rfl)) ga0) q5) (cwV 1 (cx_ts C) gX12_commandHere_X12_isWord rfl rfl rfl (by decide +kernel) ⟨Nat.le_of_ble_eq_true rfl, Nat.le_of_ble_eq_true rfl⟩) rfl (hG _ (List.mem_of_getElem? (i := 0) rfl)) (of10_0 _) (ce10 T ad _ _) rfl (st := []) rfl (Nat.le_of_ble_eq_true rfl) ⟨Nat.le_refl 0, Nat.le_refl 0⟩ dX12_commandHere_13 (pp2 ?_)
      refine fw_if_eq C dX12_commandHere_16 (tgt := 21) rfl (fun c6 => ?_) (fun c6 => ?_)
      · have h := ite_t c6 h
        refine fw_iinc C dX12_commandHere_21 (kk := 0) (v := l1 + 1) rfl rfl (by decide) (L' := [(1, .int (l1 + 1)), (0, .ref (ad 10 0 0))]) rfl ?_
        refine fw_goto C dX12_commandHere_24 (tgt := 2) rfl ?_
        exact ih _ h
      · have h := ite_f c6 h
        refine fw_iload_n C dX12_commandHere_19 rfl 0 rfl ?_
        exact fw_iret C hrt Y ⟨Option.some.inj h, rfl⟩ (fun t ht => ht) dX12_commandHere_20
set_option maxRecDepth 100000 in
set_option maxHeartbeats 4000000 in
theorem w_X12_commandHere {Y : Mem} (C : Cx p s m [.ref (ad 10 0 0)].toArray meth c cX12_commandHere 2 wsX12_commandHere RX12 N0 T D gr ad) (hrt : meth.sig.returnType = (some .int)) (hG : ∀ q ∈ [(10, 0)], q ∈ gr) {res : Int32} (h : X12_commandHere Y = some res) : FW p l e (Rm 5) s m [.ref (ad 10 0 0)].toArray below meth c 2 N0 T D gr ad 0 0 (MQ below (va_Qi (fun r Y1 => r = res ∧ Y1 = Y) (WB T D gr ad) (fun q => N0 ≤ q)) [.ref (ad 10 0 0)].toArray s 0 0 (fun q => N0 ≤ q)) Y 0 [(0, .ref (ad 10 0 0))] [] := by
  unfold X12_commandHere at h
  refine fw_iconst C dX12_commandHere_0 (v := 0) rfl ?_
  refine fw_istore_n C dX12_commandHere_1 rfl (by decide) (L' := [(1, .int 0), (0, .ref (ad 10 0 0))]) rfl ?_
  exact w_X12_commandHere_b2 C hrt hG   _ _ h
end
set_option maxRecDepth 100000 in
set_option maxHeartbeats 4000000 in
theorem c_X12_commandHere {l : Launch} {N0 : Nat} {T : Nat → ClassId} {D : va_G} {gr : List (Nat × Nat)} {ad : Nat → Nat → Nat → Nat} {Y : Mem} {res : Int32} (hG : ∀ q ∈ [(10, 0)], q ∈ gr) (h : X12_commandHere Y = some res) : CI l yX12_commandHere wsX12_commandHere (Rm 5) N0 T D gr ad Y [.ref (ad 10 0 0)] (fun r Y1 => r = res ∧ Y1 = Y) :=
  fw_body (by decide +kernel) rfl (Nat.le_of_ble_eq_true rfl) (fun p e s m below meth c C hrt => w_X12_commandHere C hrt hG  h)
theorem ly_X12_completions_12 : ∀ w ∈ u_ws RX12 TX12 19, w ∈ wsX12_completions := by decide +kernel
theorem fl_X12_completions_13 : Cond.fieldLink RX12 13 "RecipeSchedulerModel" "m" "[I" ∈ wsX12_completions := by decide +kernel
section
variable {p : Program} {l : Launch} {e : Env} {s : State} {m : MethodId} {below : List Frame} {meth : Method} {c : Code} {N0 : Nat} {T : Nat → ClassId} {D : va_G} {gr : List (Nat × Nat)} {ad : Nat → Nat → Nat → Nat}
set_option maxRecDepth 100000 in
set_option maxHeartbeats 4000000 in
theorem w_X12_completions {Y : Mem} (C : Cx p s m [.ref (ad 10 0 0)].toArray meth c cX12_completions 1 wsX12_completions RX12 N0 T D gr ad) (hrt : meth.sig.returnType = (some .int)) (hG : ∀ q ∈ [(10, 0)], q ∈ gr) {res : Int32 × Mem} (h : X12_completions Y = some res) : FW p l e (Rm 1) s m [.ref (ad 10 0 0)].toArray below meth c 1 N0 T D gr ad 0 0 (MQ below (va_Qi (fun r Y1 => (r, Y1) = res) (WB T D gr ad) (fun q => N0 ≤ q)) [.ref (ad 10 0 0)].toArray s 0 0 (fun q => N0 ≤ q)) Y 0 [(0, .ref (ad 10 0 0))] [] := by
  unfold X12_completions at h
  refine fw_aload_n C dX12_completions_0 rfl 0 rfl ?_
  refine fw_aload_n C dX12_completions_1 rfl 0 rfl ?_
  refine fw_get C (ci := 10) (Cn := RX12) (Tc := TX12) (N := 19) (j := 0) ly_X12_completions_12 rfl (hG _ (List.mem_of_getElem? (i := 0) rfl)) (of10_0 _) (ce10 T ad _ _) (by decide) (cx_ts C _ fl_X12_completions_13) (fun _ h => h) (v := .ref (ad 10 0 1)) rfl dX12_completions_2 ?_
  refine fw_bipush C dX12_completions_5 (v := 8) rfl ?_
  obtain ⟨b1, h⟩ := gd_some h
  refine fw_iald2 C (hG _ (List.mem_of_getElem? (i := 0) rfl)) (of10_1 _) (ca10_1 T ad _ _) b1 (Nat.le_of_ble_eq_true rfl) dX12_completions_7 ?_
  obtain ⟨r2, Y4, q3, h⟩ := bd2_some h
  refine fw_callVi C (ci := 10) (Cn := RX12) (Tc := TX12) (N := 19) (As := [.int (Y 10 0 1 (ix 8))]) (c_X12_plain (gac (hG _ (List.mem_of_getElem? (i := 0) rfl)) ga0) q3) (cwV 1 (cx_ts C) gX12_completions_X12_plain rfl rfl rfl (by decide +kernel) ⟨Nat.le_of_ble_eq_true rfl, Nat.le_of_ble_eq_true rfl⟩) rfl (hG _ (List.mem_of_getElem? (i := 0) rfl)) (of10_0 _) (ce10 T ad _ _) rfl (st := []) rfl (Nat.le_of_ble_eq_true rfl) ⟨Nat.le_refl 0, Nat.le_refl 0⟩ dX12_completions_8 (ppw ?_)
  exact fw_iret C hrt Y4 (Option.some.inj h) (fun t ht => ht) dX12_completions_11
end
set_option maxRecDepth 100000 in
set_option maxHeartbeats 4000000 in
theorem c_X12_completions {l : Launch} {N0 : Nat} {T : Nat → ClassId} {D : va_G} {gr : List (Nat × Nat)} {ad : Nat → Nat → Nat → Nat} {Y : Mem} {res : Int32 × Mem} (hG : ∀ q ∈ [(10, 0)], q ∈ gr) (h : X12_completions Y = some res) : CI l yX12_completions wsX12_completions (Rm 1) N0 T D gr ad Y [.ref (ad 10 0 0)] (fun r Y1 => (r, Y1) = res) :=
  fw_body (by decide +kernel) rfl (Nat.le_of_ble_eq_true rfl) (fun p e s m below meth c C hrt => w_X12_completions C hrt hG  h)
theorem ly_X12_computeHeads_12 : ∀ w ∈ u_ws RX12 TX12 19, w ∈ wsX12_computeHeads := by decide +kernel
theorem fl_X12_computeHeads_13 : Cond.fieldLink RX12 13 "RecipeSchedulerModel" "m" "[I" ∈ wsX12_computeHeads := by decide +kernel
theorem fl_X12_computeHeads_45 : Cond.fieldLink RX12 45 "RecipeSchedulerModel" "heads" "[I" ∈ wsX12_computeHeads := by decide +kernel
section
variable {p : Program} {l : Launch} {e : Env} {s : State} {m : MethodId} {below : List Frame} {meth : Method} {c : Code} {N0 : Nat} {T : Nat → ClassId} {D : va_G} {gr : List (Nat × Nat)} {ad : Nat → Nat → Nat → Nat}
set_option maxRecDepth 100000 in
set_option maxHeartbeats 4000000 in
theorem w_X12_computeHeads_b86  (C : Cx p s m [.ref (ad 10 0 0)].toArray meth c cX12_computeHeads 4 wsX12_computeHeads RX12 N0 T D gr ad) (hrt : meth.sig.returnType = none) (hG : ∀ q ∈ [(10, 0)], q ∈ gr) {res : Mem} {k22 : Mem → Int32 → Int32 → Option (Mem)} (hk22 : ∀ (Y : Mem) (l2 : Int32) (l1 : Int32), k22 Y l2 l1 = some res → FW p l e (Rm 1) s m [.ref (ad 10 0 0)].toArray below meth c 4 N0 T D gr ad 0 0 (MQ below (va_Qv (fun Y1 => Y1 = res) (WB T D gr ad) (fun q => N0 ≤ q)) [.ref (ad 10 0 0)].toArray s 0 0 (fun q => N0 ≤ q)) Y 22 [(2, .int l2), (1, .int l1), (0, .ref (ad 10 0 0))] []) (Y : Mem) (l2 : Int32) (l1 : Int32) (h : X12_computeHeads_b86  k22 Y l2 l1 = some res) : FW p l e (Rm 1) s m [.ref (ad 10 0 0)].toArray below meth c 4 N0 T D gr ad 0 0 (MQ below (va_Qv (fun Y1 => Y1 = res) (WB T D gr ad) (fun q => N0 ≤ q)) [.ref (ad 10 0 0)].toArray s 0 0 (fun q => N0 ≤ q)) Y 86 [(2, .int l2), (1, .int l1), (0, .ref (ad 10 0 0))] [] := by
  unfold X12_computeHeads_b86 at h
  refine fw_iinc C dX12_computeHeads_86 (kk := 0) (v := l2 + 1) rfl rfl (by decide) (L' := [(2, .int (l2 + 1)), (1, .int l1), (0, .ref (ad 10 0 0))]) rfl ?_
  refine fw_goto C dX12_computeHeads_89 (tgt := 22) rfl ?_
  exact hk22 _ _ _ h
set_option maxRecDepth 100000 in
set_option maxHeartbeats 4000000 in
theorem w_X12_computeHeads_b22  (C : Cx p s m [.ref (ad 10 0 0)].toArray meth c cX12_computeHeads 4 wsX12_computeHeads RX12 N0 T D gr ad) (hrt : meth.sig.returnType = none) (hG : ∀ q ∈ [(10, 0)], q ∈ gr) {res : Mem} {k2 : Mem → Int32 → Option (Mem)} (hk2 : ∀ (Y : Mem) (l1 : Int32), k2 Y l1 = some res → FW p l e (Rm 1) s m [.ref (ad 10 0 0)].toArray below meth c 4 N0 T D gr ad 0 0 (MQ below (va_Qv (fun Y1 => Y1 = res) (WB T D gr ad) (fun q => N0 ≤ q)) [.ref (ad 10 0 0)].toArray s 0 0 (fun q => N0 ≤ q)) Y 2 [(1, .int l1), (0, .ref (ad 10 0 0))] []) : ∀ (n : Nat) (Y : Mem) (l2 : Int32) (l1 : Int32), X12_computeHeads_b22  k2 n Y l2 l1 = some res → FW p l e (Rm 1) s m [.ref (ad 10 0 0)].toArray below meth c 4 N0 T D gr ad 0 0 (MQ below (va_Qv (fun Y1 => Y1 = res) (WB T D gr ad) (fun q => N0 ≤ q)) [.ref (ad 10 0 0)].toArray s 0 0 (fun q => N0 ≤ q)) Y 22 [(2, .int l2), (1, .int l1), (0, .ref (ad 10 0 0))] [] := by
  intro n
  induction n with
  | zero =>
    intro Y l2 l1 h
    unfold X12_computeHeads_b22 at h
    cases h
  | succ n ih =>
    intro Y l2 l1 h
    unfold X12_computeHeads_b22 at h
    refine fw_iload_n C dX12_computeHeads_22 rfl 0 rfl ?_
    refine fw_aload_n C dX12_computeHeads_23 rfl 2 rfl ?_
    refine fw_iload_n C dX12_computeHeads_24 rfl 1 rfl ?_
    refine fw_bipush C dX12_computeHeads_25 (v := 12) rfl ?_
    obtain ⟨r6, q7, h⟩ := bd1_some h
    refine fw_callVi C (ci := 10) (Cn := RX12) (Tc := TX12) (N := 19) (As := [.int l1, .int 12]) (c_X12_of (gac (hG _ (List.mem_of_getElem? (i := 0) rfl)) ga0) q7) (cwV 2 (cx_ts C) gX12_computeHeads_X12_of rfl rfl rfl (by decide +kernel) ⟨Nat.le_of_ble_eq_true rfl, Nat.le_of_ble_eq_true rfl⟩) rfl (hG _ (List.mem_of_getElem? (i := 0) rfl)) (of10_0 _) (ce10 T ad _ _) rfl (st := [.int l2]) rfl (Nat.le_of_ble_eq_true rfl) ⟨Nat.le_refl 0, Nat.le_refl 0⟩ dX12_computeHeads_27 (pp2 ?_)
    refine fw_icmp_ge C dX12_computeHeads_30 (tgt := 92) rfl (fun c8 => ?_) (fun c8 => ?_)
    · have h := ite_t c8 h
      refine fw_iinc C dX12_computeHeads_92 (kk := 1) (v := l1 + 1) rfl rfl (by decide) (L' := [(1, .int (l1 + 1)), (2, .int l2), (0, .ref (ad 10 0 0))]) rfl ?_
      refine fw_goto C dX12_computeHeads_95 (tgt := 2) rfl ?_
      refine fw_sub [0, 2] (L' := [(1, .int (l1 + 1)), (0, .ref (ad 10 0 0))]) rfl ?_
      exact hk2 _ _ h
    · have h := ite_f c8 h
      refine fw_aload_n C dX12_computeHeads_33 rfl 2 rfl ?_
      refine fw_iload_n C dX12_computeHeads_34 rfl 1 rfl ?_
      refine fw_bipush C dX12_computeHeads_35 (v := 13) rfl ?_
      refine fw_iload_n C dX12_computeHeads_37 rfl 0 rfl ?_
      refine fw_iadd C dX12_computeHeads_38 ?_
      obtain ⟨r9, q10, h⟩ := bd1_some h
      refine fw_callVi C (ci := 10) (Cn := RX12) (Tc := TX12) (N := 19) (As := [.int l1, .int (13 + l2)]) (c_X12_of (gac (hG _ (List.mem_of_getElem? (i := 0) rfl)) ga0) q10) (cwV 2 (cx_ts C) gX12_computeHeads_X12_of rfl rfl rfl (by decide +kernel) ⟨Nat.le_of_ble_eq_true rfl, Nat.le_of_ble_eq_true rfl⟩) rfl (hG _ (List.mem_of_getElem? (i := 0) rfl)) (of10_0 _) (ce10 T ad _ _) rfl (st := []) rfl (Nat.le_of_ble_eq_true rfl) ⟨Nat.le_refl 0, Nat.le_refl 0⟩ dX12_computeHeads_39 (pp2 ?_)
      refine fw_istore_n C dX12_computeHeads_42 rfl (by decide) (L' := [(3, .int r9), (2, .int l2), (1, .int l1), (0, .ref (ad 10 0 0))]) rfl ?_
      refine fw_aload_n C dX12_computeHeads_43 rfl 3 rfl ?_
      refine fw_get C (ci := 10) (Cn := RX12) (Tc := TX12) (N := 19) (j := 11) ly_X12_computeHeads_12 rfl (hG _ (List.mem_of_getElem? (i := 0) rfl)) (of10_0 _) (ce10 T ad _ _) (by decide) (cx_ts C _ fl_X12_computeHeads_45) (fun _ h => h) (v := .ref (ad 10 0 6)) rfl dX12_computeHeads_44 ?_
      refine fw_iload_n C dX12_computeHeads_47 rfl 0 rfl ?_
      obtain ⟨b11, h⟩ := gd_some h
      refine fw_iald2 C (hG _ (List.mem_of_getElem? (i := 0) rfl)) (of10_6 _) (ca10_6 T ad _ _) b11 (Nat.le_of_ble_eq_true rfl) dX12_computeHeads_48 ?_
      refine fw_aload_n C dX12_computeHeads_49 rfl 3 rfl ?_
      refine fw_iload_n C dX12_computeHeads_50 rfl 0 rfl ?_
      refine fw_bipush C dX12_computeHeads_51 (v := 7) rfl ?_
      obtain ⟨r12, q13, h⟩ := bd1_some h
      refine fw_callVi C (ci := 10) (Cn := RX12) (Tc := TX12) (N := 19) (As := [.int r9, .int 7]) (c_X12_of (gac (hG _ (List.mem_of_getElem? (i := 0) rfl)) ga0) q13) (cwV 2 (cx_ts C) gX12_computeHeads_X12_of rfl rfl rfl (by decide +kernel) ⟨Nat.le_of_ble_eq_true rfl, Nat.le_of_ble_eq_true rfl⟩) rfl (hG _ (List.mem_of_getElem? (i := 0) rfl)) (of10_0 _) (ce10 T ad _ _) rfl (st := [.int (Y 10 0 6 (ix r9))]) rfl (Nat.le_of_ble_eq_true rfl) ⟨Nat.le_refl 0, Nat.le_refl 0⟩ dX12_computeHeads_53 (pp2 ?_)
      refine fw_iadd C dX12_computeHeads_56 ?_
      refine fw_aload_n C dX12_computeHeads_57 rfl 3 rfl ?_
      refine fw_get C (ci := 10) (Cn := RX12) (Tc := TX12) (N := 19) (j := 11) ly_X12_computeHeads_12 rfl (hG _ (List.mem_of_getElem? (i := 0) rfl)) (of10_0 _) (ce10 T ad _ _) (by decide) (cx_ts C _ fl_X12_computeHeads_45) (fun _ h => h) (v := .ref (ad 10 0 6)) rfl dX12_computeHeads_58 ?_
      refine fw_iload_n C dX12_computeHeads_61 rfl 2 rfl ?_
      obtain ⟨b14, h⟩ := gd_some h
      refine fw_iald2 C (hG _ (List.mem_of_getElem? (i := 0) rfl)) (of10_6 _) (ca10_6 T ad _ _) b14 (Nat.le_of_ble_eq_true rfl) dX12_computeHeads_62 ?_
      refine fw_icmp_le C dX12_computeHeads_63 (tgt := 86) rfl (fun c15 => ?_) (fun c15 => ?_)
      · have h := ite_t c15 h
        refine fw_sub [1, 2, 3] (L' := [(2, .int l2), (1, .int l1), (0, .ref (ad 10 0 0))]) rfl ?_
        exact w_X12_computeHeads_b86 C hrt hG  ih _ _ _ h
      · have h := ite_f c15 h
        refine fw_aload_n C dX12_computeHeads_66 rfl 3 rfl ?_
        refine fw_get C (ci := 10) (Cn := RX12) (Tc := TX12) (N := 19) (j := 11) ly_X12_computeHeads_12 rfl (hG _ (List.mem_of_getElem? (i := 0) rfl)) (of10_0 _) (ce10 T ad _ _) (by decide) (cx_ts C _ fl_X12_computeHeads_45) (fun _ h => h) (v := .ref (ad 10 0 6)) rfl dX12_computeHeads_67 ?_
        refine fw_iload_n C dX12_computeHeads_70 rfl 2 rfl ?_
        refine fw_aload_n C dX12_computeHeads_71 rfl 3 rfl ?_
        refine fw_get C (ci := 10) (Cn := RX12) (Tc := TX12) (N := 19) (j := 11) ly_X12_computeHeads_12 rfl (hG _ (List.mem_of_getElem? (i := 0) rfl)) (of10_0 _) (ce10 T ad _ _) (by decide) (cx_ts C _ fl_X12_computeHeads_45) (fun _ h => h) (v := .ref (ad 10 0 6)) rfl dX12_computeHeads_72 ?_
        refine fw_iload_n C dX12_computeHeads_75 rfl 0 rfl ?_
        refine fw_iald2 C (hG _ (List.mem_of_getElem? (i := 0) rfl)) (of10_6 _) (ca10_6 T ad _ _) b11 (Nat.le_of_ble_eq_true rfl) dX12_computeHeads_76 ?_
        refine fw_aload_n C dX12_computeHeads_77 rfl 3 rfl ?_
        refine fw_iload_n C dX12_computeHeads_78 rfl 0 rfl ?_
        refine fw_bipush C dX12_computeHeads_79 (v := 7) rfl ?_
        obtain ⟨r16, q17, h⟩ := bd1_some h
        refine fw_callVi C (ci := 10) (Cn := RX12) (Tc := TX12) (N := 19) (As := [.int r9, .int 7]) (c_X12_of (gac (hG _ (List.mem_of_getElem? (i := 0) rfl)) ga0) q17) (cwV 2 (cx_ts C) gX12_computeHeads_X12_of rfl rfl rfl (by decide +kernel) ⟨Nat.le_of_ble_eq_true rfl, Nat.le_of_ble_eq_true rfl⟩) rfl (hG _ (List.mem_of_getElem? (i := 0) rfl)) (of10_0 _) (ce10 T ad _ _) rfl (st := [.int (Y 10 0 6 (ix r9)), .int l1, .ref (ad 10 0 6)]) rfl (Nat.le_of_ble_eq_true rfl) ⟨Nat.le_refl 0, Nat.le_refl 0⟩ dX12_computeHeads_81 (pp2 ?_)
        refine fw_iadd C dX12_computeHeads_84 ?_
        obtain ⟨Y18, e19, h⟩ := lt_some h
        refine fw_iast2 C (hG _ (List.mem_of_getElem? (i := 0) rfl)) (of10_6 _) (ca10_6 T ad _) b14 (Nat.le_of_ble_eq_true rfl) dX12_computeHeads_85 ?_
        refine fw_mem e19 ?_
        refine fw_sub [1, 2, 3] (L' := [(2, .int l2), (1, .int l1), (0, .ref (ad 10 0 0))]) rfl ?_
        exact w_X12_computeHeads_b86 C hrt hG  ih _ _ _ h
set_option maxRecDepth 100000 in
set_option maxHeartbeats 4000000 in
theorem w_X12_computeHeads_b2  (C : Cx p s m [.ref (ad 10 0 0)].toArray meth c cX12_computeHeads 4 wsX12_computeHeads RX12 N0 T D gr ad) (hrt : meth.sig.returnType = none) (hG : ∀ q ∈ [(10, 0)], q ∈ gr) {res : Mem} : ∀ (n : Nat) (Y : Mem) (l1 : Int32), X12_computeHeads_b2   n Y l1 = some res → FW p l e (Rm 1) s m [.ref (ad 10 0 0)].toArray below meth c 4 N0 T D gr ad 0 0 (MQ below (va_Qv (fun Y1 => Y1 = res) (WB T D gr ad) (fun q => N0 ≤ q)) [.ref (ad 10 0 0)].toArray s 0 0 (fun q => N0 ≤ q)) Y 2 [(1, .int l1), (0, .ref (ad 10 0 0))] [] := by
  intro n
  induction n with
  | zero =>
    intro Y l1 h
    unfold X12_computeHeads_b2 at h
    cases h
  | succ n ih =>
    intro Y l1 h
    unfold X12_computeHeads_b2 at h
    refine fw_iload_n C dX12_computeHeads_2 rfl 0 rfl ?_
    refine fw_aload_n C dX12_computeHeads_3 rfl 1 rfl ?_
    refine fw_get C (ci := 10) (Cn := RX12) (Tc := TX12) (N := 19) (j := 0) ly_X12_computeHeads_12 rfl (hG _ (List.mem_of_getElem? (i := 0) rfl)) (of10_0 _) (ce10 T ad _ _) (by decide) (cx_ts C _ fl_X12_computeHeads_13) (fun _ h => h) (v := .ref (ad 10 0 1)) rfl dX12_computeHeads_4 ?_
    refine fw_bipush C dX12_computeHeads_7 (v := 13) rfl ?_
    obtain ⟨b1, h⟩ := gd_some h
    refine fw_iald2 C (hG _ (List.mem_of_getElem? (i := 0) rfl)) (of10_1 _) (ca10_1 T ad _ _) b1 (Nat.le_of_ble_eq_true rfl) dX12_computeHeads_9 ?_
    refine fw_icmp_ge C dX12_computeHeads_10 (tgt := 98) rfl (fun c2 => ?_) (fun c2 => ?_)
    · have h := ite_t c2 h
      exact fw_vret C hrt Y (Option.some.inj h) (fun t ht => ht) dX12_computeHeads_98
    · have h := ite_f c2 h
      refine fw_aload_n C dX12_computeHeads_13 rfl 1 rfl ?_
      refine fw_get C (ci := 10) (Cn := RX12) (Tc := TX12) (N := 19) (j := 11) ly_X12_computeHeads_12 rfl (hG _ (List.mem_of_getElem? (i := 0) rfl)) (of10_0 _) (ce10 T ad _ _) (by decide) (cx_ts C _ fl_X12_computeHeads_45) (fun _ h => h) (v := .ref (ad 10 0 6)) rfl dX12_computeHeads_14 ?_
      refine fw_iload_n C dX12_computeHeads_17 rfl 0 rfl ?_
      refine fw_iconst C dX12_computeHeads_18 (v := 0) rfl ?_
      obtain ⟨b3, h⟩ := gd_some h
      obtain ⟨Y4, e5, h⟩ := lt_some h
      refine fw_iast2 C (hG _ (List.mem_of_getElem? (i := 0) rfl)) (of10_6 _) (ca10_6 T ad _) b3 (Nat.le_of_ble_eq_true rfl) dX12_computeHeads_19 ?_
      refine fw_mem e5 ?_
      refine fw_iconst C dX12_computeHeads_20 (v := 0) rfl ?_
      refine fw_istore_n C dX12_computeHeads_21 rfl (by decide) (L' := [(2, .int 0), (1, .int l1), (0, .ref (ad 10 0 0))]) rfl ?_
      exact w_X12_computeHeads_b22 C hrt hG  ih _ _ _ _ h
set_option maxRecDepth 100000 in
set_option maxHeartbeats 4000000 in
theorem w_X12_computeHeads {Y : Mem} (C : Cx p s m [.ref (ad 10 0 0)].toArray meth c cX12_computeHeads 4 wsX12_computeHeads RX12 N0 T D gr ad) (hrt : meth.sig.returnType = none) (hG : ∀ q ∈ [(10, 0)], q ∈ gr) {res : Mem} (h : X12_computeHeads Y = some res) : FW p l e (Rm 1) s m [.ref (ad 10 0 0)].toArray below meth c 4 N0 T D gr ad 0 0 (MQ below (va_Qv (fun Y1 => Y1 = res) (WB T D gr ad) (fun q => N0 ≤ q)) [.ref (ad 10 0 0)].toArray s 0 0 (fun q => N0 ≤ q)) Y 0 [(0, .ref (ad 10 0 0))] [] := by
  unfold X12_computeHeads at h
  refine fw_iconst C dX12_computeHeads_0 (v := 0) rfl ?_
  refine fw_istore_n C dX12_computeHeads_1 rfl (by decide) (L' := [(1, .int 0), (0, .ref (ad 10 0 0))]) rfl ?_
  exact w_X12_computeHeads_b2 C hrt hG   _ _ _ h
end
set_option maxRecDepth 100000 in
set_option maxHeartbeats 4000000 in
theorem c_X12_computeHeads {l : Launch} {N0 : Nat} {T : Nat → ClassId} {D : va_G} {gr : List (Nat × Nat)} {ad : Nat → Nat → Nat → Nat} {Y : Mem} {res : Mem} (hG : ∀ q ∈ [(10, 0)], q ∈ gr) (h : X12_computeHeads Y = some res) : CV l yX12_computeHeads wsX12_computeHeads (Rm 1) N0 T D gr ad Y [.ref (ad 10 0 0)] (fun Y1 => Y1 = res) :=
  fw_body (by decide +kernel) rfl (Nat.le_of_ble_eq_true rfl) (fun p e s m below meth c C hrt => w_X12_computeHeads C hrt hG  h)
theorem ly_X12_cookMinutes_12 : ∀ w ∈ u_ws RX12 TX12 19, w ∈ wsX12_cookMinutes := by decide +kernel
theorem fl_X12_cookMinutes_13 : Cond.fieldLink RX12 13 "RecipeSchedulerModel" "m" "[I" ∈ wsX12_cookMinutes := by decide +kernel
section
variable {p : Program} {l : Launch} {e : Env} {s : State} {m : MethodId} {below : List Frame} {meth : Method} {c : Code} {N0 : Nat} {T : Nat → ClassId} {D : va_G} {gr : List (Nat × Nat)} {ad : Nat → Nat → Nat → Nat}
set_option maxRecDepth 100000 in
set_option maxHeartbeats 4000000 in
theorem w_X12_cookMinutes {Y : Mem} (C : Cx p s m [.ref (ad 10 0 0)].toArray meth c cX12_cookMinutes 1 wsX12_cookMinutes RX12 N0 T D gr ad) (hrt : meth.sig.returnType = (some .int)) (hG : ∀ q ∈ [(10, 0)], q ∈ gr) {res : Int32 × Mem} (h : X12_cookMinutes Y = some res) : FW p l e (Rm 1) s m [.ref (ad 10 0 0)].toArray below meth c 1 N0 T D gr ad 0 0 (MQ below (va_Qi (fun r Y1 => (r, Y1) = res) (WB T D gr ad) (fun q => N0 ≤ q)) [.ref (ad 10 0 0)].toArray s 0 0 (fun q => N0 ≤ q)) Y 0 [(0, .ref (ad 10 0 0))] [] := by
  unfold X12_cookMinutes at h
  refine fw_aload_n C dX12_cookMinutes_0 rfl 0 rfl ?_
  refine fw_aload_n C dX12_cookMinutes_1 rfl 0 rfl ?_
  refine fw_get C (ci := 10) (Cn := RX12) (Tc := TX12) (N := 19) (j := 0) ly_X12_cookMinutes_12 rfl (hG _ (List.mem_of_getElem? (i := 0) rfl)) (of10_0 _) (ce10 T ad _ _) (by decide) (cx_ts C _ fl_X12_cookMinutes_13) (fun _ h => h) (v := .ref (ad 10 0 1)) rfl dX12_cookMinutes_2 ?_
  refine fw_bipush C dX12_cookMinutes_5 (v := 10) rfl ?_
  obtain ⟨b1, h⟩ := gd_some h
  refine fw_iald2 C (hG _ (List.mem_of_getElem? (i := 0) rfl)) (of10_1 _) (ca10_1 T ad _ _) b1 (Nat.le_of_ble_eq_true rfl) dX12_cookMinutes_7 ?_
  obtain ⟨r2, Y4, q3, h⟩ := bd2_some h
  refine fw_callVi C (ci := 10) (Cn := RX12) (Tc := TX12) (N := 19) (As := [.int (Y 10 0 1 (ix 10))]) (c_X12_plain (gac (hG _ (List.mem_of_getElem? (i := 0) rfl)) ga0) q3) (cwV 1 (cx_ts C) gX12_cookMinutes_X12_plain rfl rfl rfl (by decide +kernel) ⟨Nat.le_of_ble_eq_true rfl, Nat.le_of_ble_eq_true rfl⟩) rfl (hG _ (List.mem_of_getElem? (i := 0) rfl)) (of10_0 _) (ce10 T ad _ _) rfl (st := []) rfl (Nat.le_of_ble_eq_true rfl) ⟨Nat.le_refl 0, Nat.le_refl 0⟩ dX12_cookMinutes_8 (ppw ?_)
  exact fw_iret C hrt Y4 (Option.some.inj h) (fun t ht => ht) dX12_cookMinutes_11
end
set_option maxRecDepth 100000 in
set_option maxHeartbeats 4000000 in
theorem c_X12_cookMinutes {l : Launch} {N0 : Nat} {T : Nat → ClassId} {D : va_G} {gr : List (Nat × Nat)} {ad : Nat → Nat → Nat → Nat} {Y : Mem} {res : Int32 × Mem} (hG : ∀ q ∈ [(10, 0)], q ∈ gr) (h : X12_cookMinutes Y = some res) : CI l yX12_cookMinutes wsX12_cookMinutes (Rm 1) N0 T D gr ad Y [.ref (ad 10 0 0)] (fun r Y1 => (r, Y1) = res) :=
  fw_body (by decide +kernel) rfl (Nat.le_of_ble_eq_true rfl) (fun p e s m below meth c C hrt => w_X12_cookMinutes C hrt hG  h)
theorem ly_X12_cooks_12 : ∀ w ∈ u_ws RX12 TX12 19, w ∈ wsX12_cooks := by decide +kernel
theorem fl_X12_cooks_13 : Cond.fieldLink RX12 13 "RecipeSchedulerModel" "m" "[I" ∈ wsX12_cooks := by decide +kernel
section
variable {p : Program} {l : Launch} {e : Env} {s : State} {m : MethodId} {below : List Frame} {meth : Method} {c : Code} {N0 : Nat} {T : Nat → ClassId} {D : va_G} {gr : List (Nat × Nat)} {ad : Nat → Nat → Nat → Nat}
set_option maxRecDepth 100000 in
set_option maxHeartbeats 4000000 in
theorem w_X12_cooks {Y : Mem} (C : Cx p s m [.ref (ad 10 0 0)].toArray meth c cX12_cooks 1 wsX12_cooks RX12 N0 T D gr ad) (hrt : meth.sig.returnType = (some .int)) (hG : ∀ q ∈ [(10, 0)], q ∈ gr) {res : Int32 × Mem} (h : X12_cooks Y = some res) : FW p l e (Rm 1) s m [.ref (ad 10 0 0)].toArray below meth c 1 N0 T D gr ad 0 0 (MQ below (va_Qi (fun r Y1 => (r, Y1) = res) (WB T D gr ad) (fun q => N0 ≤ q)) [.ref (ad 10 0 0)].toArray s 0 0 (fun q => N0 ≤ q)) Y 0 [(0, .ref (ad 10 0 0))] [] := by
  unfold X12_cooks at h
  refine fw_aload_n C dX12_cooks_0 rfl 0 rfl ?_
  refine fw_aload_n C dX12_cooks_1 rfl 0 rfl ?_
  refine fw_get C (ci := 10) (Cn := RX12) (Tc := TX12) (N := 19) (j := 0) ly_X12_cooks_12 rfl (hG _ (List.mem_of_getElem? (i := 0) rfl)) (of10_0 _) (ce10 T ad _ _) (by decide) (cx_ts C _ fl_X12_cooks_13) (fun _ h => h) (v := .ref (ad 10 0 1)) rfl dX12_cooks_2 ?_
  refine fw_iconst C dX12_cooks_5 (v := 0) rfl ?_
  obtain ⟨b1, h⟩ := gd_some h
  refine fw_iald2 C (hG _ (List.mem_of_getElem? (i := 0) rfl)) (of10_1 _) (ca10_1 T ad _ _) b1 (Nat.le_of_ble_eq_true rfl) dX12_cooks_6 ?_
  obtain ⟨r2, Y4, q3, h⟩ := bd2_some h
  refine fw_callVi C (ci := 10) (Cn := RX12) (Tc := TX12) (N := 19) (As := [.int (Y 10 0 1 (ix 0))]) (c_X12_plain (gac (hG _ (List.mem_of_getElem? (i := 0) rfl)) ga0) q3) (cwV 1 (cx_ts C) gX12_cooks_X12_plain rfl rfl rfl (by decide +kernel) ⟨Nat.le_of_ble_eq_true rfl, Nat.le_of_ble_eq_true rfl⟩) rfl (hG _ (List.mem_of_getElem? (i := 0) rfl)) (of10_0 _) (ce10 T ad _ _) rfl (st := []) rfl (Nat.le_of_ble_eq_true rfl) ⟨Nat.le_refl 0, Nat.le_refl 0⟩ dX12_cooks_7 (ppw ?_)
  exact fw_iret C hrt Y4 (Option.some.inj h) (fun t ht => ht) dX12_cooks_10
end
set_option maxRecDepth 100000 in
set_option maxHeartbeats 4000000 in
theorem c_X12_cooks {l : Launch} {N0 : Nat} {T : Nat → ClassId} {D : va_G} {gr : List (Nat × Nat)} {ad : Nat → Nat → Nat → Nat} {Y : Mem} {res : Int32 × Mem} (hG : ∀ q ∈ [(10, 0)], q ∈ gr) (h : X12_cooks Y = some res) : CI l yX12_cooks wsX12_cooks (Rm 1) N0 T D gr ad Y [.ref (ad 10 0 0)] (fun r Y1 => (r, Y1) = res) :=
  fw_body (by decide +kernel) rfl (Nat.le_of_ble_eq_true rfl) (fun p e s m below meth c C hrt => w_X12_cooks C hrt hG  h)
