section
variable {p : Program} {l : Launch} {e : Env} {s : State} {m : MethodId} {below : List Frame} {meth : Method} {c : Code} {N0 : Nat} {T : Nat → ClassId} {D : va_G} {gr : List (Nat × Nat)} {ad : Nat → Nat → Nat → Nat}
set_option maxRecDepth 100000 in
set_option maxHeartbeats 4000000 in
theorem w_J1_charAt_3b067 {Y : Mem} {w0 : Nat} {a1 : Int32} (C : Cx p s m [.ref (ad 22 w0 0), .int a1].toArray meth c cJ1_charAt_3b067 2 wsJ1_charAt_3b067 RJ1 N0 T D gr ad) (hrt : meth.sig.returnType = (some .char)) (hG : ∀ q ∈ [], q ∈ gr) {res : Int32} (h : J1_charAt_3b067 Y w0 a1 = some res) : FW p l e (Rm 2) s m [.ref (ad 22 w0 0), .int a1].toArray below meth c 2 N0 T D gr ad 0 0 (MQ below (va_Qi (fun r Y1 => r = res ∧ Y1 = Y) (WB T D gr ad) (fun q => N0 ≤ q)) [.ref (ad 22 w0 0), .int a1].toArray s 0 0 (fun q => N0 ≤ q)) Y 0 [(0, .ref (ad 22 w0 0)), (1, .int a1)] [] := by
  unfold J1_charAt_3b067 at h
  refine fw_iload_n C dJ1_charAt_3b067_0 rfl 1 rfl ?_
  refine fw_aload_n C dJ1_charAt_3b067_1 rfl 0 rfl ?_
  obtain ⟨b1, h⟩ := gd_some h
  have b1 := of_decide_eq_true b1
  refine fw_tlen C ((cx_st C).1 _ b1).2.2.2 (v := (Int32.ofNat (sByt w0).length)) rfl dJ1_charAt_3b067_2 ?_
  obtain ⟨_, q3, h⟩ := bd1_some h
  refine fw_callSv C (As := [.int a1, .int ((Int32.ofNat (sByt w0).length))]) (c_J0_checkIndex_df160 ga0 q3) (va_cwS 2 (cx_ts C) gJ1_charAt_3b067_J0_checkIndex_df160 rfl rfl rfl (by decide +kernel) ⟨Nat.le_of_ble_eq_true rfl, Nat.le_of_ble_eq_true rfl⟩) rfl (st := []) rfl (Nat.le_of_ble_eq_true rfl) ⟨Nat.le_refl 0, Nat.le_refl 0⟩ dJ1_charAt_3b067_3 (ppv ?_)
  refine fw_aload_n C dJ1_charAt_3b067_6 rfl 0 rfl ?_
  refine fw_iload_n C dJ1_charAt_3b067_7 rfl 1 rfl ?_
  obtain ⟨b4, h⟩ := gd_some h
  refine fw_tb C ((cx_st C).1 _ b1).2.2.2 b4 (v := .int ((sByt w0).getD (ix a1) 0)) rfl dJ1_charAt_3b067_8 ?_
  refine fw_sipush C dJ1_charAt_3b067_9 (v := 255) rfl ?_
  refine fw_iand C dJ1_charAt_3b067_12 ?_
  refine fw_i2c C dJ1_charAt_3b067_13 ?_
  obtain ⟨b5, h⟩ := gd_some h
  exact fw_cret C hrt (congrArg Value.int (of_decide_eq_true b5)) Y ⟨Option.some.inj h, rfl⟩ (fun t ht => ht) dJ1_charAt_3b067_14
end
set_option maxRecDepth 100000 in
set_option maxHeartbeats 4000000 in
theorem c_J1_charAt_3b067 {l : Launch} {N0 : Nat} {T : Nat → ClassId} {D : va_G} {gr : List (Nat × Nat)} {ad : Nat → Nat → Nat → Nat} {Y : Mem} {w0 : Nat} {a1 : Int32} {res : Int32} (hG : ∀ q ∈ [], q ∈ gr) (h : J1_charAt_3b067 Y w0 a1 = some res) : CI l yJ1_charAt_3b067 wsJ1_charAt_3b067 (Rm 2) N0 T D gr ad Y [.ref (ad 22 w0 0), .int a1] (fun r Y1 => r = res ∧ Y1 = Y) :=
  fw_body (by decide +kernel) rfl (Nat.le_of_ble_eq_true rfl) (fun p e s m below meth c C hrt => w_J1_charAt_3b067 C hrt hG  h)
theorem fl_J0_charAt_5068e_9 : Cond.fieldLink RJ0 9 "java/lang/String" "value" "[B" ∈ wsJ0_charAt_5068e := by decide +kernel
section
variable {p : Program} {l : Launch} {e : Env} {s : State} {m : MethodId} {below : List Frame} {meth : Method} {c : Code} {N0 : Nat} {T : Nat → ClassId} {D : va_G} {gr : List (Nat × Nat)} {ad : Nat → Nat → Nat → Nat}
set_option maxRecDepth 100000 in
set_option maxHeartbeats 4000000 in
theorem w_J0_charAt_5068e {Y : Mem} {w0 : Nat} {a1 : Int32} (C : Cx p s m [.ref (ad 21 w0 0), .int a1].toArray meth c cJ0_charAt_5068e 2 wsJ0_charAt_5068e RJ0 N0 T D gr ad) (hrt : meth.sig.returnType = (some .char)) (hG : ∀ q ∈ [], q ∈ gr) {res : Int32} (h : J0_charAt_5068e Y w0 a1 = some res) : FW p l e (Rm 3) s m [.ref (ad 21 w0 0), .int a1].toArray below meth c 2 N0 T D gr ad 0 0 (MQ below (va_Qi (fun r Y1 => r = res ∧ Y1 = Y) (WB T D gr ad) (fun q => N0 ≤ q)) [.ref (ad 21 w0 0), .int a1].toArray s 0 0 (fun q => N0 ≤ q)) Y 0 [(0, .ref (ad 21 w0 0)), (1, .int a1)] [] := by
  unfold J0_charAt_5068e at h
  refine fw_aload_n C dJ0_charAt_5068e_0 rfl 0 rfl ?_
  obtain ⟨b1, h⟩ := gd_some h
  have b1 := of_decide_eq_true b1
  obtain ⟨r2, q3, h⟩ := bd1_some h
  refine fw_callOi C (Cn := RJ0) (As := []) (c_J0_isLatin1_aae02 ga0 q3) (cwV 0 (cx_ts C) gJ0_charAt_5068e_J0_isLatin1_aae02 rfl rfl rfl (by decide +kernel) ⟨Nat.le_of_ble_eq_true rfl, Nat.le_of_ble_eq_true rfl⟩) ((cx_st C).1 _ b1).1 rfl (st := []) rfl (Nat.le_of_ble_eq_true rfl) ⟨Nat.le_refl 0, Nat.le_refl 0⟩ dJ0_charAt_5068e_1 (pp2 ?_)
  refine fw_if_eq C dJ0_charAt_5068e_4 (tgt := 16) rfl (fun c4 => ?_) (fun c4 => ?_)
  · have h := ite_t c4 h
    cases h
  · have h := ite_f c4 h
    refine fw_aload_n C dJ0_charAt_5068e_7 rfl 0 rfl ?_
    refine fw_getO C (v := .ref (ad 22 w0 0)) ((cx_st C).1 _ b1).2.2.1 (cx_ts C _ fl_J0_charAt_5068e_9) (fun _ h => h) dJ0_charAt_5068e_8 ?_
    refine fw_iload_n C dJ0_charAt_5068e_11 rfl 1 rfl ?_
    obtain ⟨r5, q6, h⟩ := bd1_some h
    refine fw_callSi C (As := [.ref (ad 22 w0 0), .int a1]) (c_J1_charAt_3b067 ga0 q6) (va_cwS 2 (cx_ts C) gJ0_charAt_5068e_J1_charAt_3b067 rfl rfl rfl (by decide +kernel) ⟨Nat.le_of_ble_eq_true rfl, Nat.le_of_ble_eq_true rfl⟩) rfl (st := []) rfl (Nat.le_of_ble_eq_true rfl) ⟨Nat.le_refl 0, Nat.le_refl 0⟩ dJ0_charAt_5068e_12 (pp2 ?_)
    obtain ⟨b7, h⟩ := gd_some h
    exact fw_cret C hrt (congrArg Value.int (of_decide_eq_true b7)) Y ⟨Option.some.inj h, rfl⟩ (fun t ht => ht) dJ0_charAt_5068e_15
end
set_option maxRecDepth 100000 in
set_option maxHeartbeats 4000000 in
theorem c_J0_charAt_5068e {l : Launch} {N0 : Nat} {T : Nat → ClassId} {D : va_G} {gr : List (Nat × Nat)} {ad : Nat → Nat → Nat → Nat} {Y : Mem} {w0 : Nat} {a1 : Int32} {res : Int32} (hG : ∀ q ∈ [], q ∈ gr) (h : J0_charAt_5068e Y w0 a1 = some res) : CI l yJ0_charAt_5068e wsJ0_charAt_5068e (Rm 3) N0 T D gr ad Y [.ref (ad 21 w0 0), .int a1] (fun r Y1 => r = res ∧ Y1 = Y) :=
  fw_body (by decide +kernel) rfl (Nat.le_of_ble_eq_true rfl) (fun p e s m below meth c C hrt => w_J0_charAt_5068e C hrt hG  h)
theorem ly_X12_isWord_12 : ∀ w ∈ u_ws RX12 TX12 19, w ∈ wsX12_isWord := by decide +kernel
theorem fl_X12_isWord_57 : Cond.fieldLink RX12 57 "RecipeSchedulerModel" "type" "I" ∈ wsX12_isWord := by decide +kernel
theorem fl_X12_isWord_54 : Cond.fieldLink RX12 54 "RecipeSchedulerModel" "ahead" "I" ∈ wsX12_isWord := by decide +kernel
theorem fl_X12_isWord_60 : Cond.fieldLink RX12 60 "RecipeSchedulerModel" "from" "I" ∈ wsX12_isWord := by decide +kernel
theorem fl_X12_isWord_24 : Cond.fieldLink RX12 24 "RecipeSchedulerModel" "buffer" "[I" ∈ wsX12_isWord := by decide +kernel
section
variable {p : Program} {l : Launch} {e : Env} {s : State} {m : MethodId} {below : List Frame} {meth : Method} {c : Code} {N0 : Nat} {T : Nat → ClassId} {D : va_G} {gr : List (Nat × Nat)} {ad : Nat → Nat → Nat → Nat}
set_option maxRecDepth 100000 in
set_option maxHeartbeats 4000000 in
theorem w_X12_isWord_b28 {Y : Mem} {w1 : Nat} (C : Cx p s m [.ref (ad 10 0 0), .ref (ad 21 w1 0)].toArray meth c cX12_isWord 3 wsX12_isWord RX12 N0 T D gr ad) (hrt : meth.sig.returnType = (some .boolean)) (hG : ∀ q ∈ [(10, 0)], q ∈ gr) {res : Int32} : ∀ (n : Nat) (l2 : Int32), X12_isWord_b28 Y w1  n l2 = some res → FW p l e (Rm 4) s m [.ref (ad 10 0 0), .ref (ad 21 w1 0)].toArray below meth c 3 N0 T D gr ad 0 0 (MQ below (va_Qi (fun r Y1 => r = res ∧ Y1 = Y) (WB T D gr ad) (fun q => N0 ≤ q)) [.ref (ad 10 0 0), .ref (ad 21 w1 0)].toArray s 0 0 (fun q => N0 ≤ q)) Y 28 [(2, .int l2), (0, .ref (ad 10 0 0)), (1, .ref (ad 21 w1 0))] [] := by
  intro n
  induction n with
  | zero =>
    intro l2 h
    unfold X12_isWord_b28 at h
    cases h
  | succ n ih =>
    intro l2 h
    unfold X12_isWord_b28 at h
    refine fw_iload_n C dX12_isWord_28 rfl 0 rfl ?_
    refine fw_aload_n C dX12_isWord_29 rfl 2 rfl ?_
    obtain ⟨b6, h⟩ := gd_some h
    have b6 := of_decide_eq_true b6
    obtain ⟨r7, q8, h⟩ := bd1_some h
    refine fw_callOi C (Cn := RJ0) (As := []) (c_J0_length_8abf5 ga0 q8) (cwV 0 (cx_ts C) gX12_isWord_J0_length_8abf5 rfl rfl rfl (by decide +kernel) ⟨Nat.le_of_ble_eq_true rfl, Nat.le_of_ble_eq_true rfl⟩) ((cx_st C).1 _ b6).1 rfl (st := [.int l2]) rfl (Nat.le_of_ble_eq_true rfl) ⟨Nat.le_refl 0, Nat.le_refl 0⟩ dX12_isWord_30 (pp2 ?_)
    refine fw_icmp_ge C dX12_isWord_33 (tgt := 63) rfl (fun c9 => ?_) (fun c9 => ?_)
    · have h := ite_t c9 h
      refine fw_iconst C dX12_isWord_63 (v := 1) rfl ?_
      exact fw_zret C hrt (by decide) Y ⟨Option.some.inj h, rfl⟩ (fun t ht => ht) dX12_isWord_64
    · have h := ite_f c9 h
      refine fw_aload_n C dX12_isWord_36 rfl 1 rfl ?_
      refine fw_get C (ci := 10) (Cn := RX12) (Tc := TX12) (N := 19) (j := 3) ly_X12_isWord_12 rfl (hG _ (List.mem_of_getElem? (i := 0) rfl)) (of10_0 _) (ce10 T ad _ _) (by decide) (cx_ts C _ fl_X12_isWord_24) (fun _ h => h) (v := .ref (ad 10 0 3)) rfl dX12_isWord_37 ?_
      refine fw_aload_n C dX12_isWord_40 rfl 1 rfl ?_
      refine fw_get C (ci := 10) (Cn := RX12) (Tc := TX12) (N := 19) (j := 16) ly_X12_isWord_12 rfl (hG _ (List.mem_of_getElem? (i := 0) rfl)) (of10_0 _) (ce10 T ad _ _) (by decide) (cx_ts C _ fl_X12_isWord_60) (fun _ h => h) (v := .int (Y 10 0 0 16)) rfl dX12_isWord_41 ?_
      refine fw_iload_n C dX12_isWord_44 rfl 0 rfl ?_
      refine fw_iadd C dX12_isWord_45 ?_
      obtain ⟨b10, h⟩ := gd_some h
      refine fw_iald2 C (hG _ (List.mem_of_getElem? (i := 0) rfl)) (of10_3 _) (ca10_3 T ad _ _) b10 (Nat.le_of_ble_eq_true rfl) dX12_isWord_46 ?_
      refine fw_aload_n C dX12_isWord_47 rfl 2 rfl ?_
      refine fw_iload_n C dX12_isWord_48 rfl 0 rfl ?_
      obtain ⟨r11, q12, h⟩ := bd1_some h
      refine fw_callOi C (Cn := RJ0) (As := [.int l2]) (c_J0_charAt_5068e ga0 q12) (cwV 1 (cx_ts C) gX12_isWord_J0_charAt_5068e rfl rfl rfl (by decide +kernel) ⟨Nat.le_of_ble_eq_true rfl, Nat.le_of_ble_eq_true rfl⟩) ((cx_st C).1 _ b6).1 rfl (st := [.int (Y 10 0 3 (ix ((Y 10 0 0 16) + l2)))]) rfl (Nat.le_of_ble_eq_true rfl) ⟨Nat.le_refl 0, Nat.le_refl 0⟩ dX12_isWord_49 (pp2 ?_)
      refine fw_icmp_eq C dX12_isWord_52 (tgt := 57) rfl (fun c13 => ?_) (fun c13 => ?_)
      · have h := ite_t c13 h
        refine fw_iinc C dX12_isWord_57 (kk := 0) (v := l2 + 1) rfl rfl (by decide) (L' := [(2, .int (l2 + 1)), (0, .ref (ad 10 0 0)), (1, .ref (ad 21 w1 0))]) rfl ?_
        refine fw_goto C dX12_isWord_60 (tgt := 28) rfl ?_
        exact ih _ h
      · have h := ite_f c13 h
        refine fw_iconst C dX12_isWord_55 (v := 0) rfl ?_
        exact fw_zret C hrt (by decide) Y ⟨Option.some.inj h, rfl⟩ (fun t ht => ht) dX12_isWord_56
set_option maxRecDepth 100000 in
set_option maxHeartbeats 4000000 in
theorem w_X12_isWord {Y : Mem} {w1 : Nat} (C : Cx p s m [.ref (ad 10 0 0), .ref (ad 21 w1 0)].toArray meth c cX12_isWord 3 wsX12_isWord RX12 N0 T D gr ad) (hrt : meth.sig.returnType = (some .boolean)) (hG : ∀ q ∈ [(10, 0)], q ∈ gr) {res : Int32} (h : X12_isWord Y w1 = some res) : FW p l e (Rm 4) s m [.ref (ad 10 0 0), .ref (ad 21 w1 0)].toArray below meth c 3 N0 T D gr ad 0 0 (MQ below (va_Qi (fun r Y1 => r = res ∧ Y1 = Y) (WB T D gr ad) (fun q => N0 ≤ q)) [.ref (ad 10 0 0), .ref (ad 21 w1 0)].toArray s 0 0 (fun q => N0 ≤ q)) Y 0 [(0, .ref (ad 10 0 0)), (1, .ref (ad 21 w1 0))] [] := by
  unfold X12_isWord at h
  refine fw_aload_n C dX12_isWord_0 rfl 0 rfl ?_
  refine fw_get C (ci := 10) (Cn := RX12) (Tc := TX12) (N := 19) (j := 15) ly_X12_isWord_12 rfl (hG _ (List.mem_of_getElem? (i := 0) rfl)) (of10_0 _) (ce10 T ad _ _) (by decide) (cx_ts C _ fl_X12_isWord_57) (fun _ h => h) (v := .int (Y 10 0 0 15)) rfl dX12_isWord_1 ?_
  refine fw_iconst C dX12_isWord_4 (v := 1) rfl ?_
  refine fw_icmp_ne C dX12_isWord_5 (tgt := 24) rfl (fun c1 => ?_) (fun c1 => ?_)
  · have h := ite_f c1 h
    refine fw_iconst C dX12_isWord_24 (v := 0) rfl ?_
    exact fw_zret C hrt (by decide) Y ⟨Option.some.inj h, rfl⟩ (fun t ht => ht) dX12_isWord_25
  · have h := ite_t c1 h
    refine fw_aload_n C dX12_isWord_8 rfl 0 rfl ?_
    refine fw_get C (ci := 10) (Cn := RX12) (Tc := TX12) (N := 19) (j := 14) ly_X12_isWord_12 rfl (hG _ (List.mem_of_getElem? (i := 0) rfl)) (of10_0 _) (ce10 T ad _ _) (by decide) (cx_ts C _ fl_X12_isWord_54) (fun _ h => h) (v := .int (Y 10 0 0 14)) rfl dX12_isWord_9 ?_
    refine fw_aload_n C dX12_isWord_12 rfl 0 rfl ?_
    refine fw_get C (ci := 10) (Cn := RX12) (Tc := TX12) (N := 19) (j := 16) ly_X12_isWord_12 rfl (hG _ (List.mem_of_getElem? (i := 0) rfl)) (of10_0 _) (ce10 T ad _ _) (by decide) (cx_ts C _ fl_X12_isWord_60) (fun _ h => h) (v := .int (Y 10 0 0 16)) rfl dX12_isWord_13 ?_
    refine fw_isub C dX12_isWord_16 ?_
    refine fw_aload_n C dX12_isWord_17 rfl 1 rfl ?_
    obtain ⟨b2, h⟩ := gd_some h
    have b2 := of_decide_eq_true b2
    obtain ⟨r3, q4, h⟩ := bd1_some h
    refine fw_callOi C (Cn := RJ0) (As := []) (c_J0_length_8abf5 ga0 q4) (cwV 0 (cx_ts C) gX12_isWord_J0_length_8abf5 rfl rfl rfl (by decide +kernel) ⟨Nat.le_of_ble_eq_true rfl, Nat.le_of_ble_eq_true rfl⟩) ((cx_st C).1 _ b2).1 rfl (st := [.int ((Y 10 0 0 14) - (Y 10 0 0 16))]) rfl (Nat.le_of_ble_eq_true rfl) ⟨Nat.le_refl 0, Nat.le_refl 0⟩ dX12_isWord_18 (pp2 ?_)
    refine fw_icmp_eq C dX12_isWord_21 (tgt := 26) rfl (fun c5 => ?_) (fun c5 => ?_)
    · have h := ite_t c5 h
      refine fw_iconst C dX12_isWord_26 (v := 0) rfl ?_
      refine fw_istore_n C dX12_isWord_27 rfl (by decide) (L' := [(2, .int 0), (0, .ref (ad 10 0 0)), (1, .ref (ad 21 w1 0))]) rfl ?_
      exact w_X12_isWord_b28 C hrt hG   _ _ h
    · have h := ite_f c5 h
      refine fw_iconst C dX12_isWord_24 (v := 0) rfl ?_
      exact fw_zret C hrt (by decide) Y ⟨Option.some.inj h, rfl⟩ (fun t ht => ht) dX12_isWord_25
end
set_option maxRecDepth 100000 in
set_option maxHeartbeats 4000000 in
theorem c_X12_isWord {l : Launch} {N0 : Nat} {T : Nat → ClassId} {D : va_G} {gr : List (Nat × Nat)} {ad : Nat → Nat → Nat → Nat} {Y : Mem} {w1 : Nat} {res : Int32} (hG : ∀ q ∈ [(10, 0)], q ∈ gr) (h : X12_isWord Y w1 = some res) : CI l yX12_isWord wsX12_isWord (Rm 4) N0 T D gr ad Y [.ref (ad 10 0 0), .ref (ad 21 w1 0)] (fun r Y1 => r = res ∧ Y1 = Y) :=
  fw_body (by decide +kernel) rfl (Nat.le_of_ble_eq_true rfl) (fun p e s m below meth c C hrt => w_X12_isWord C hrt hG  h)
section
variable {p : Program} {l : Launch} {e : Env} {s : State} {m : MethodId} {below : List Frame} {meth : Method} {c : Code} {N0 : Nat} {T : Nat → ClassId} {D : va_G} {gr : List (Nat × Nat)} {ad : Nat → Nat → Nat → Nat}
set_option maxRecDepth 100000 in
set_option maxHeartbeats 4000000 in
theorem w_X12_commandHere_b2 {Y : Mem} (C : Cx p s m [.ref (ad 10 0 0)].toArray meth c cX12_commandHere 2 wsX12_commandHere RX12 N0 T D gr ad) (hrt : meth.sig.returnType = (some .int)) (hG : ∀ q ∈ [(10, 0)], q ∈ gr) {res : Int32} : ∀ (n : Nat) (l1 : Int32), X12_commandHere_b2 Y  n l1 = some res → FW p l e (Rm 5) s m [.ref (ad 10 0 0)].toArray below meth c 2 N0 T D gr ad 0 0 (MQ below (va_Qi (fun r Y1 => r = res ∧ Y1 = Y) (WB T D gr ad) (fun q => N0 ≤ q)) [.ref (ad 10 0 0)].toArray s 0 0 (fun q => N0 ≤ q)) Y 2 [(1, .int l1), (0, .ref (ad 10 0 0))] [] := by
  intro n
  induction n with
  | zero =>
    intro l1 h
    unfold X12_commandHere_b2 at h
    cases h
  | succ n ih =>
    intro l1 h
    unfold X12_commandHere_b2 at h
    refine fw_iload_n C dX12_commandHere_2 rfl 0 rfl ?_
    refine fw_bipush C dX12_commandHere_3 (v := 7) rfl ?_
    refine fw_icmp_gt C dX12_commandHere_5 (tgt := 27) rfl (fun c1 => ?_) (fun c1 => ?_)
    · have h := ite_t c1 h
      refine fw_iconst C dX12_commandHere_27 (v := (-1)) rfl ?_
      exact fw_iret C hrt Y ⟨Option.some.inj h, rfl⟩ (fun t ht => ht) dX12_commandHere_28
    · have h := ite_f c1 h
      refine fw_aload_n C dX12_commandHere_8 rfl 1 rfl ?_
      refine fw_iload_n C dX12_commandHere_9 rfl 0 rfl ?_
      obtain ⟨r2, q3, h⟩ := bd1_some h
      refine fw_callSq C (As := [.int l1]) (c_X12_nameOf ga0 q3) (va_cwS 1 (cx_ts C) gX12_commandHere_X12_nameOf rfl rfl rfl (by decide +kernel) ⟨Nat.le_of_ble_eq_true rfl, Nat.le_of_ble_eq_true rfl⟩) rfl (st := [.ref (ad 10 0 0)]) rfl (Nat.le_of_ble_eq_true rfl) ⟨Nat.le_refl 0, Nat.le_refl 0⟩ dX12_commandHere_10 (pp2 ?_)
      obtain ⟨r4, q5, h⟩ := bd1_some h
      refine fw_callVi C (ci := 10) (Cn := RX12) (Tc := TX12) (N := 19) (As := [.ref (ad 21 r2 0)]) (c_X12_isWord (gac (hG _ (List.mem_of_getElem? (i := 0) rfl)) ga0) q5) (cwV 1 (cx_ts C) gX12_commandHere_X12_isWord rfl rfl rfl (by decide +kernel) ⟨Nat.le_of_ble_eq_true rfl, Nat.le_of_ble_eq_true rfl⟩) rfl (hG _ (List.mem_of_getElem? (i := 0) rfl)) (of10_0 _) (ce10 T ad _ _) rfl (st := []) rfl (Nat.le_of_ble_eq_true rfl) ⟨Nat.le_refl 0, Nat.le_refl 0⟩ dX12_commandHere_13 (pp2 ?_)
      refine fw_if_eq C dX12_commandHere_16 (tgt := 21) rfl (fun c6 => ?_) (fun c6 => ?_)
      · have h := ite_t c6 h
        refine fw_iinc C dX12_commandHere_21 (kk := 0) (v := l1 + 1) rfl rfl (by decide) (L' := [(1, .int (l1 + 1)), (0, .ref (ad 10 0 0))]) rfl ?_
        refine fw_goto C dX12_commandHere_24 (tgt := 2) rfl ?_
        exact ih _ h
      · have h := ite_f c6 h
        refine fw_iload_n C dX12_commandHere_19 rfl 0 rfl ?_
        exact fw_iret C hrt Y ⟨Option.some.inj h, rfl⟩ (fun t ht => ht) dX12_commandHere_20
set_option maxRecDepth 100000 in
set_option maxHeartbeats 4000000 in
theorem w_X12_commandHere {Y : Mem} (C : Cx p s m [.ref (ad 10 0 0)].toArray meth c cX12_commandHere 2 wsX12_commandHere RX12 N0 T D gr ad) (hrt : meth.sig.returnType = (some .int)) (hG : ∀ q ∈ [(10, 0)], q ∈ gr) {res : Int32} (h : X12_commandHere Y = some res) : FW p l e (Rm 5) s m [.ref (ad 10 0 0)].toArray below meth c 2 N0 T D gr ad 0 0 (MQ below (va_Qi (fun r Y1 => r = res ∧ Y1 = Y) (WB T D gr ad) (fun q => N0 ≤ q)) [.ref (ad 10 0 0)].toArray s 0 0 (fun q => N0 ≤ q)) Y 0 [(0, .ref (ad 10 0 0))] [] := by
  unfold X12_commandHere at h
  refine fw_iconst C dX12_commandHere_0 (v := 0) rfl ?_
  refine fw_istore_n C dX12_commandHere_1 rfl (by decide) (L' := [(1, .int 0), (0, .ref (ad 10 0 0))]) rfl ?_
  exact w_X12_commandHere_b2 C hrt hG   _ _ h
end
set_option maxRecDepth 100000 in
set_option maxHeartbeats 4000000 in
theorem c_X12_commandHere {l : Launch} {N0 : Nat} {T : Nat → ClassId} {D : va_G} {gr : List (Nat × Nat)} {ad : Nat → Nat → Nat → Nat} {Y : Mem} {res : Int32} (hG : ∀ q ∈ [(10, 0)], q ∈ gr) (h : X12_commandHere Y = some res) : CI l yX12_commandHere wsX12_commandHere (Rm 5) N0 T D gr ad Y [.ref (ad 10 0 0)] (fun r Y1 => r = res ∧ Y1 = Y) :=
  fw_body (by decide +kernel) rfl (Nat.le_of_ble_eq_true rfl) (fun p e s m below meth c C hrt => w_X12_commandHere C hrt hG  h)
theorem ly_X12_completions_12 : ∀ w ∈ u_ws RX12 TX12 19, w ∈ wsX12_completions := by decide +kernel
theorem fl_X12_completions_13 : Cond.fieldLink RX12 13 "RecipeSchedulerModel" "m" "[I" ∈ wsX12_completions := by decide +kernel
section
variable {p : Program} {l : Launch} {e : Env} {s : State} {m : MethodId} {below : List Frame} {meth : Method} {c : Code} {N0 : Nat} {T : Nat → ClassId} {D : va_G} {gr : List (Nat × Nat)} {ad : Nat → Nat → Nat → Nat}
set_option maxRecDepth 100000 in
set_option maxHeartbeats 4000000 in
theorem w_X12_completions {Y : Mem} (C : Cx p s m [.ref (ad 10 0 0)].toArray meth c cX12_completions 1 wsX12_completions RX12 N0 T D gr ad) (hrt : meth.sig.returnType = (some .int)) (hG : ∀ q ∈ [(10, 0)], q ∈ gr) {res : Int32 × Mem} (h : X12_completions Y = some res) : FW p l e (Rm 1) s m [.ref (ad 10 0 0)].toArray below meth c 1 N0 T D gr ad 0 0 (MQ below (va_Qi (fun r Y1 => (r, Y1) = res) (WB T D gr ad) (fun q => N0 ≤ q)) [.ref (ad 10 0 0)].toArray s 0 0 (fun q => N0 ≤ q)) Y 0 [(0, .ref (ad 10 0 0))] [] := by
  unfold X12_completions at h
  refine fw_aload_n C dX12_completions_0 rfl 0 rfl ?_
  refine fw_aload_n C dX12_completions_1 rfl 0 rfl ?_
  refine fw_get C (ci := 10) (Cn := RX12) (Tc := TX12) (N := 19) (j := 0) ly_X12_completions_12 rfl (hG _ (List.mem_of_getElem? (i := 0) rfl)) (of10_0 _) (ce10 T ad _ _) (by decide) (cx_ts C _ fl_X12_completions_13) (fun _ h => h) (v := .ref (ad 10 0 1)) rfl dX12_completions_2 ?_
  refine fw_bipush C dX12_completions_5 (v := 8) rfl ?_
  obtain ⟨b1, h⟩ := gd_some h
  refine fw_iald2 C (hG _ (List.mem_of_getElem? (i := 0) rfl)) (of10_1 _) (ca10_1 T ad _ _) b1 (Nat.le_of_ble_eq_true rfl) dX12_completions_7 ?_
  obtain ⟨r2, Y4, q3, h⟩ := bd2_some h
  refine fw_callVi C (ci := 10) (Cn := RX12) (Tc := TX12) (N := 19) (As := [.int (Y 10 0 1 (ix 8))]) (c_X12_plain (gac (hG _ (List.mem_of_getElem? (i := 0) rfl)) ga0) q3) (cwV 1 (cx_ts C) gX12_completions_X12_plain rfl rfl rfl (by decide +kernel) ⟨Nat.le_of_ble_eq_true rfl, Nat.le_of_ble_eq_true rfl⟩) rfl (hG _ (List.mem_of_getElem? (i := 0) rfl)) (of10_0 _) (ce10 T ad _ _) rfl (st := []) rfl (Nat.le_of_ble_eq_true rfl) ⟨Nat.le_refl 0, Nat.le_refl 0⟩ dX12_completions_8 (ppw ?_)
  exact fw_iret C hrt Y4 (Option.some.inj h) (fun t ht => ht) dX12_completions_11
end
set_option maxRecDepth 100000 in
set_option maxHeartbeats 4000000 in
theorem c_X12_completions {l : Launch} {N0 : Nat} {T : Nat → ClassId} {D : va_G} {gr : List (Nat × Nat)} {ad : Nat → Nat → Nat → Nat} {Y : Mem} {res : Int32 × Mem} (hG : ∀ q ∈ [(10, 0)], q ∈ gr) (h : X12_completions Y = some res) : CI l yX12_completions wsX12_completions (Rm 1) N0 T D gr ad Y [.ref (ad 10 0 0)] (fun r Y1 => (r, Y1) = res) :=
  fw_body (by decide +kernel) rfl (Nat.le_of_ble_eq_true rfl) (fun p e s m below meth c C hrt => w_X12_completions C hrt hG  h)
theorem ly_X12_computeHeads_12 : ∀ w ∈ u_ws RX12 TX12 19, w ∈ wsX12_computeHeads := by decide +kernel
theorem fl_X12_computeHeads_13 : Cond.fieldLink RX12 13 "RecipeSchedulerModel" "m" "[I" ∈ wsX12_computeHeads := by decide +kernel
theorem fl_X12_computeHeads_45 : Cond.fieldLink RX12 45 "RecipeSchedulerModel" "heads" "[I" ∈ wsX12_computeHeads := by decide +kernel
section
variable {p : Program} {l : Launch} {e : Env} {s : State} {m : MethodId} {below : List Frame} {meth : Method} {c : Code} {N0 : Nat} {T : Nat → ClassId} {D : va_G} {gr : List (Nat × Nat)} {ad : Nat → Nat → Nat → Nat}
set_option maxRecDepth 100000 in
set_option maxHeartbeats 4000000 in
theorem w_X12_computeHeads_b86  (C : Cx p s m [.ref (ad 10 0 0)].toArray meth c cX12_computeHeads 4 wsX12_computeHeads RX12 N0 T D gr ad) (hrt : meth.sig.returnType = none) (hG : ∀ q ∈ [(10, 0)], q ∈ gr) {res : Mem} {k22 : Mem → Int32 → Int32 → Option (Mem)} (hk22 : ∀ (Y : Mem) (l2 : Int32) (l1 : Int32), k22 Y l2 l1 = some res → FW p l e (Rm 1) s m [.ref (ad 10 0 0)].toArray below meth c 4 N0 T D gr ad 0 0 (MQ below (va_Qv (fun Y1 => Y1 = res) (WB T D gr ad) (fun q => N0 ≤ q)) [.ref (ad 10 0 0)].toArray s 0 0 (fun q => N0 ≤ q)) Y 22 [(2, .int l2), (1, .int l1), (0, .ref (ad 10 0 0))] []) (Y : Mem) (l2 : Int32) (l1 : Int32) (h : X12_computeHeads_b86  k22 Y l2 l1 = some res) : FW p l e (Rm 1) s m [.ref (ad 10 0 0)].toArray below meth c 4 N0 T D gr ad 0 0 (MQ below (va_Qv (fun Y1 => Y1 = res) (WB T D gr ad) (fun q => N0 ≤ q)) [.ref (ad 10 0 0)].toArray s 0 0 (fun q => N0 ≤ q)) Y 86 [(2, .int l2), (1, .int l1), (0, .ref (ad 10 0 0))] [] := by
  unfold X12_computeHeads_b86 at h
  refine fw_iinc C dX12_computeHeads_86 (kk := 0) (v := l2 + 1) rfl rfl (by decide) (L' := [(2, .int (l2 + 1)), (1, .int l1), (0, .ref (ad 10 0 0))]) rfl ?_
  refine fw_goto C dX12_computeHeads_89 (tgt := 22) rfl ?_
  exact hk22 _ _ _ h
set_option maxRecDepth 100000 in
set_option maxHeartbeats 4000000 in
theorem w_X12_computeHeads_b22  (C : Cx p s m [.ref (ad 10 0 0)].toArray meth c cX12_computeHeads 4 wsX12_computeHeads RX12 N0 T D gr ad) (hrt : meth.sig.returnType = none) (hG : ∀ q ∈ [(10, 0)], q ∈ gr) {res : Mem} {k2 : Mem → Int32 → Option (Mem)} (hk2 : ∀ (Y : Mem) (l1 : Int32), k2 Y l1 = some res → FW p l e (Rm 1) s m [.ref (ad 10 0 0)].toArray below meth c 4 N0 T D gr ad 0 0 (MQ below (va_Qv (fun Y1 => Y1 = res) (WB T D gr ad) (fun q => N0 ≤ q)) [.ref (ad 10 0 0)].toArray s 0 0 (fun q => N0 ≤ q)) Y 2 [(1, .int l1), (0, .ref (ad 10 0 0))] []) : ∀ (n : Nat) (Y : Mem) (l2 : Int32) (l1 : Int32), X12_computeHeads_b22  k2 n Y l2 l1 = some res → FW p l e (Rm 1) s m [.ref (ad 10 0 0)].toArray below meth c 4 N0 T D gr ad 0 0 (MQ below (va_Qv (fun Y1 => Y1 = res) (WB T D gr ad) (fun q => N0 ≤ q)) [.ref (ad 10 0 0)].toArray s 0 0 (fun q => N0 ≤ q)) Y 22 [(2, .int l2), (1, .int l1), (0, .ref (ad 10 0 0))] [] := by
  intro n
  induction n with
  | zero =>
    intro Y l2 l1 h
    unfold X12_computeHeads_b22 at h
    cases h
  | succ n ih =>
    intro Y l2 l1 h
    unfold X12_computeHeads_b22 at h
    refine fw_iload_n C dX12_computeHeads_22 rfl 0 rfl ?_
    refine fw_aload_n C dX12_computeHeads_23 rfl 2 rfl ?_
    refine fw_iload_n C dX12_computeHeads_24 rfl 1 rfl ?_
    refine fw_bipush C dX12_computeHeads_25 (v := 12) rfl ?_
    obtain ⟨r6, q7, h⟩ := bd1_some h
    refine fw_callVi C (ci := 10) (Cn := RX12) (Tc := TX12) (N := 19) (As := [.int l1, .int 12]) (c_X12_of (gac (hG _ (List.mem_of_getElem? (i := 0) rfl)) ga0) q7) (cwV 2 (cx_ts C) gX12_computeHeads_X12_of rfl rfl rfl (by decide +kernel) ⟨Nat.le_of_ble_eq_true rfl, Nat.le_of_ble_eq_true rfl⟩) rfl (hG _ (List.mem_of_getElem? (i := 0) rfl)) (of10_0 _) (ce10 T ad _ _) rfl (st := [.int l2]) rfl (Nat.le_of_ble_eq_true rfl) ⟨Nat.le_refl 0, Nat.le_refl 0⟩ dX12_computeHeads_27 (pp2 ?_)
    refine fw_icmp_ge C dX12_computeHeads_30 (tgt := 92) rfl (fun c8 => ?_) (fun c8 => ?_)
    · have h := ite_t c8 h
      refine fw_iinc C dX12_computeHeads_92 (kk := 1) (v := l1 + 1) rfl rfl (by decide) (L' := [(1, .int (l1 + 1)), (2, .int l2), (0, .ref (ad 10 0 0))]) rfl ?_
      refine fw_goto C dX12_computeHeads_95 (tgt := 2) rfl ?_
      refine fw_sub [0, 2] (L' := [(1, .int (l1 + 1)), (0, .ref (ad 10 0 0))]) rfl ?_
      exact hk2 _ _ h
    · have h := ite_f c8 h
      refine fw_aload_n C dX12_computeHeads_33 rfl 2 rfl ?_
      refine fw_iload_n C dX12_computeHeads_34 rfl 1 rfl ?_
      refine fw_bipush C dX12_computeHeads_35 (v := 13) rfl ?_
      refine fw_iload_n C dX12_computeHeads_37 rfl 0 rfl ?_
      refine fw_iadd C dX12_computeHeads_38 ?_
      obtain ⟨r9, q10, h⟩ := bd1_some h
      refine fw_callVi C (ci := 10) (Cn := RX12) (Tc := TX12) (N := 19) (As := [.int l1, .int (13 + l2)]) (c_X12_of (gac (hG _ (List.mem_of_getElem? (i := 0) rfl)) ga0) q10) (cwV 2 (cx_ts C) gX12_computeHeads_X12_of rfl rfl rfl (by decide +kernel) ⟨Nat.le_of_ble_eq_true rfl, Nat.le_of_ble_eq_true rfl⟩) rfl (hG _ (List.mem_of_getElem? (i := 0) rfl)) (of10_0 _) (ce10 T ad _ _) rfl (st := []) rfl (Nat.le_of_ble_eq_true rfl) ⟨Nat.le_refl 0, Nat.le_refl 0⟩ dX12_computeHeads_39 (pp2 ?_)
      refine fw_istore_n C dX12_computeHeads_42 rfl (by decide) (L' := [(3, .int r9), (2, .int l2), (1, .int l1), (0, .ref (ad 10 0 0))]) rfl ?_
      refine fw_aload_n C dX12_computeHeads_43 rfl 3 rfl ?_
      refine fw_get C (ci := 10) (Cn := RX12) (Tc := TX12) (N := 19) (j := 11) ly_X12_computeHeads_12 rfl (hG _ (List.mem_of_getElem? (i := 0) rfl)) (of10_0 _) (ce10 T ad _ _) (by decide) (cx_ts C _ fl_X12_computeHeads_45) (fun _ h => h) (v := .ref (ad 10 0 6)) rfl dX12_computeHeads_44 ?_
      refine fw_iload_n C dX12_computeHeads_47 rfl 0 rfl ?_
      obtain ⟨b11, h⟩ := gd_some h
      refine fw_iald2 C (hG _ (List.mem_of_getElem? (i := 0) rfl)) (of10_6 _) (ca10_6 T ad _ _) b11 (Nat.le_of_ble_eq_true rfl) dX12_computeHeads_48 ?_
      refine fw_aload_n C dX12_computeHeads_49 rfl 3 rfl ?_
      refine fw_iload_n C dX12_computeHeads_50 rfl 0 rfl ?_
      refine fw_bipush C dX12_computeHeads_51 (v := 7) rfl ?_
      obtain ⟨r12, q13, h⟩ := bd1_some h
      refine fw_callVi C (ci := 10) (Cn := RX12) (Tc := TX12) (N := 19) (As := [.int r9, .int 7]) (c_X12_of (gac (hG _ (List.mem_of_getElem? (i := 0) rfl)) ga0) q13) (cwV 2 (cx_ts C) gX12_computeHeads_X12_of rfl rfl rfl (by decide +kernel) ⟨Nat.le_of_ble_eq_true rfl, Nat.le_of_ble_eq_true rfl⟩) rfl (hG _ (List.mem_of_getElem? (i := 0) rfl)) (of10_0 _) (ce10 T ad _ _) rfl (st := [.int (Y 10 0 6 (ix r9))]) rfl (Nat.le_of_ble_eq_true rfl) ⟨Nat.le_refl 0, Nat.le_refl 0⟩ dX12_computeHeads_53 (pp2 ?_)
      refine fw_iadd C dX12_computeHeads_56 ?_
      refine fw_aload_n C dX12_computeHeads_57 rfl 3 rfl ?_
      refine fw_get C (ci := 10) (Cn := RX12) (Tc := TX12) (N := 19) (j := 11) ly_X12_computeHeads_12 rfl (hG _ (List.mem_of_getElem? (i := 0) rfl)) (of10_0 _) (ce10 T ad _ _) (by decide) (cx_ts C _ fl_X12_computeHeads_45) (fun _ h => h) (v := .ref (ad 10 0 6)) rfl dX12_computeHeads_58 ?_
      refine fw_iload_n C dX12_computeHeads_61 rfl 2 rfl ?_
      obtain ⟨b14, h⟩ := gd_some h
      refine fw_iald2 C (hG _ (List.mem_of_getElem? (i := 0) rfl)) (of10_6 _) (ca10_6 T ad _ _) b14 (Nat.le_of_ble_eq_true rfl) dX12_computeHeads_62 ?_
      refine fw_icmp_le C dX12_computeHeads_63 (tgt := 86) rfl (fun c15 => ?_) (fun c15 => ?_)
      · have h := ite_t c15 h
        refine fw_sub [1, 2, 3] (L' := [(2, .int l2), (1, .int l1), (0, .ref (ad 10 0 0))]) rfl ?_
        exact w_X12_computeHeads_b86 C hrt hG  ih _ _ _ h
      · have h := ite_f c15 h
        refine fw_aload_n C dX12_computeHeads_66 rfl 3 rfl ?_
        refine fw_get C (ci := 10) (Cn := RX12) (Tc := TX12) (N := 19) (j := 11) ly_X12_computeHeads_12 rfl (hG _ (List.mem_of_getElem? (i := 0) rfl)) (of10_0 _) (ce10 T ad _ _) (by decide) (cx_ts C _ fl_X12_computeHeads_45) (fun _ h => h) (v := .ref (ad 10 0 6)) rfl dX12_computeHeads_67 ?_
        refine fw_iload_n C dX12_computeHeads_70 rfl 2 rfl ?_
        refine fw_aload_n C dX12_computeHeads_71 rfl 3 rfl ?_
        refine fw_get C (ci := 10) (Cn := RX12) (Tc := TX12) (N := 19) (j := 11) ly_X12_computeHeads_12 rfl (hG _ (List.mem_of_getElem? (i := 0) rfl)) (of10_0 _) (ce10 T ad _ _) (by decide) (cx_ts C _ fl_X12_computeHeads_45) (fun _ h => h) (v := .ref (ad 10 0 6)) rfl dX12_computeHeads_72 ?_
        refine fw_iload_n C dX12_computeHeads_75 rfl 0 rfl ?_
        refine fw_iald2 C (hG _ (List.mem_of_getElem? (i := 0) rfl)) (of10_6 _) (ca10_6 T ad _ _) b11 (Nat.le_of_ble_eq_true rfl) dX12_computeHeads_76 ?_
        refine fw_aload_n C dX12_computeHeads_77 rfl 3 rfl ?_
        refine fw_iload_n C dX12_computeHeads_78 rfl 0 rfl ?_
        refine fw_bipush C dX12_computeHeads_79 (v := 7) rfl ?_
        obtain ⟨r16, q17, h⟩ := bd1_some h
        refine fw_callVi C (ci := 10) (Cn := RX12) (Tc := TX12) (N := 19) (As := [.int r9, .int 7]) (c_X12_of (gac (hG _ (List.mem_of_getElem? (i := 0) rfl)) ga0) q17) (cwV 2 (cx_ts C) gX12_computeHeads_X12_of rfl rfl rfl (by decide +kernel) ⟨Nat.le_of_ble_eq_true rfl, Nat.le_of_ble_eq_true rfl⟩) rfl (hG _ (List.mem_of_getElem? (i := 0) rfl)) (of10_0 _) (ce10 T ad _ _) rfl (st := [.int (Y 10 0 6 (ix r9)), .int l1, .ref (ad 10 0 6)]) rfl (Nat.le_of_ble_eq_true rfl) ⟨Nat.le_refl 0, Nat.le_refl 0⟩ dX12_computeHeads_81 (pp2 ?_)
        refine fw_iadd C dX12_computeHeads_84 ?_
        obtain ⟨Y18, e19, h⟩ := lt_some h
        refine fw_iast2 C (hG _ (List.mem_of_getElem? (i := 0) rfl)) (of10_6 _) (ca10_6 T ad _) b14 (Nat.le_of_ble_eq_true rfl) dX12_computeHeads_85 ?_
        refine fw_mem e19 ?_
        refine fw_sub [1, 2, 3] (L' := [(2, .int l2), (1, .int l1), (0, .ref (ad 10 0 0))]) rfl ?_
        exact w_X12_computeHeads_b86 C hrt hG  ih _ _ _ h
set_option maxRecDepth 100000 in
set_option maxHeartbeats 4000000 in
theorem w_X12_computeHeads_b2  (C : Cx p s m [.ref (ad 10 0 0)].toArray meth c cX12_computeHeads 4 wsX12_computeHeads RX12 N0 T D gr ad) (hrt : meth.sig.returnType = none) (hG : ∀ q ∈ [(10, 0)], q ∈ gr) {res : Mem} : ∀ (n : Nat) (Y : Mem) (l1 : Int32), X12_computeHeads_b2   n Y l1 = some res → FW p l e (Rm 1) s m [.ref (ad 10 0 0)].toArray below meth c 4 N0 T D gr ad 0 0 (MQ below (va_Qv (fun Y1 => Y1 = res) (WB T D gr ad) (fun q => N0 ≤ q)) [.ref (ad 10 0 0)].toArray s 0 0 (fun q => N0 ≤ q)) Y 2 [(1, .int l1), (0, .ref (ad 10 0 0))] [] := by
  intro n
  induction n with
  | zero =>
    intro Y l1 h
    unfold X12_computeHeads_b2 at h
    cases h
  | succ n ih =>
    intro Y l1 h
    unfold X12_computeHeads_b2 at h
    refine fw_iload_n C dX12_computeHeads_2 rfl 0 rfl ?_
    refine fw_aload_n C dX12_computeHeads_3 rfl 1 rfl ?_
    refine fw_get C (ci := 10) (Cn := RX12) (Tc := TX12) (N := 19) (j := 0) ly_X12_computeHeads_12 rfl (hG _ (List.mem_of_getElem? (i := 0) rfl)) (of10_0 _) (ce10 T ad _ _) (by decide) (cx_ts C _ fl_X12_computeHeads_13) (fun _ h => h) (v := .ref (ad 10 0 1)) rfl dX12_computeHeads_4 ?_
    refine fw_bipush C dX12_computeHeads_7 (v := 13) rfl ?_
    obtain ⟨b1, h⟩ := gd_some h
    refine fw_iald2 C (hG _ (List.mem_of_getElem? (i := 0) rfl)) (of10_1 _) (ca10_1 T ad _ _) b1 (Nat.le_of_ble_eq_true rfl) dX12_computeHeads_9 ?_
    refine fw_icmp_ge C dX12_computeHeads_10 (tgt := 98) rfl (fun c2 => ?_) (fun c2 => ?_)
    · have h := ite_t c2 h
      exact fw_vret C hrt Y (Option.some.inj h) (fun t ht => ht) dX12_computeHeads_98
    · have h := ite_f c2 h
      refine fw_aload_n C dX12_computeHeads_13 rfl 1 rfl ?_
      refine fw_get C (ci := 10) (Cn := RX12) (Tc := TX12) (N := 19) (j := 11) ly_X12_computeHeads_12 rfl (hG _ (List.mem_of_getElem? (i := 0) rfl)) (of10_0 _) (ce10 T ad _ _) (by decide) (cx_ts C _ fl_X12_computeHeads_45) (fun _ h => h) (v := .ref (ad 10 0 6)) rfl dX12_computeHeads_14 ?_
      refine fw_iload_n C dX12_computeHeads_17 rfl 0 rfl ?_
      refine fw_iconst C dX12_computeHeads_18 (v := 0) rfl ?_
      obtain ⟨b3, h⟩ := gd_some h
      obtain ⟨Y4, e5, h⟩ := lt_some h
      refine fw_iast2 C (hG _ (List.mem_of_getElem? (i := 0) rfl)) (of10_6 _) (ca10_6 T ad _) b3 (Nat.le_of_ble_eq_true rfl) dX12_computeHeads_19 ?_
      refine fw_mem e5 ?_
      refine fw_iconst C dX12_computeHeads_20 (v := 0) rfl ?_
      refine fw_istore_n C dX12_computeHeads_21 rfl (by decide) (L' := [(2, .int 0), (1, .int l1), (0, .ref (ad 10 0 0))]) rfl ?_
      exact w_X12_computeHeads_b22 C hrt hG  ih _ _ _ _ h
set_option maxRecDepth 100000 in
set_option maxHeartbeats 4000000 in
theorem w_X12_computeHeads {Y : Mem} (C : Cx p s m [.ref (ad 10 0 0)].toArray meth c cX12_computeHeads 4 wsX12_computeHeads RX12 N0 T D gr ad) (hrt : meth.sig.returnType = none) (hG : ∀ q ∈ [(10, 0)], q ∈ gr) {res : Mem} (h : X12_computeHeads Y = some res) : FW p l e (Rm 1) s m [.ref (ad 10 0 0)].toArray below meth c 4 N0 T D gr ad 0 0 (MQ below (va_Qv (fun Y1 => Y1 = res) (WB T D gr ad) (fun q => N0 ≤ q)) [.ref (ad 10 0 0)].toArray s 0 0 (fun q => N0 ≤ q)) Y 0 [(0, .ref (ad 10 0 0))] [] := by
  unfold X12_computeHeads at h
  refine fw_iconst C dX12_computeHeads_0 (v := 0) rfl ?_
  refine fw_istore_n C dX12_computeHeads_1 rfl (by decide) (L' := [(1, .int 0), (0, .ref (ad 10 0 0))]) rfl ?_
  exact w_X12_computeHeads_b2 C hrt hG   _ _ _ h
end
set_option maxRecDepth 100000 in
set_option maxHeartbeats 4000000 in
theorem c_X12_computeHeads {l : Launch} {N0 : Nat} {T : Nat → ClassId} {D : va_G} {gr : List (Nat × Nat)} {ad : Nat → Nat → Nat → Nat} {Y : Mem} {res : Mem} (hG : ∀ q ∈ [(10, 0)], q ∈ gr) (h : X12_computeHeads Y = some res) : CV l yX12_computeHeads wsX12_computeHeads (Rm 1) N0 T D gr ad Y [.ref (ad 10 0 0)] (fun Y1 => Y1 = res) :=
  fw_body (by decide +kernel) rfl (Nat.le_of_ble_eq_true rfl) (fun p e s m below meth c C hrt => w_X12_computeHeads C hrt hG  h)
theorem ly_X12_cookMinutes_12 : ∀ w ∈ u_ws RX12 TX12 19, w ∈ wsX12_cookMinutes := by decide +kernel
theorem fl_X12_cookMinutes_13 : Cond.fieldLink RX12 13 "RecipeSchedulerModel" "m" "[I" ∈ wsX12_cookMinutes := by decide +kernel
section
variable {p : Program} {l : Launch} {e : Env} {s : State} {m : MethodId} {below : List Frame} {meth : Method} {c : Code} {N0 : Nat} {T : Nat → ClassId} {D : va_G} {gr : List (Nat × Nat)} {ad : Nat → Nat → Nat → Nat}
set_option maxRecDepth 100000 in
set_option maxHeartbeats 4000000 in
theorem w_X12_cookMinutes {Y : Mem} (C : Cx p s m [.ref (ad 10 0 0)].toArray meth c cX12_cookMinutes 1 wsX12_cookMinutes RX12 N0 T D gr ad) (hrt : meth.sig.returnType = (some .int)) (hG : ∀ q ∈ [(10, 0)], q ∈ gr) {res : Int32 × Mem} (h : X12_cookMinutes Y = some res) : FW p l e (Rm 1) s m [.ref (ad 10 0 0)].toArray below meth c 1 N0 T D gr ad 0 0 (MQ below (va_Qi (fun r Y1 => (r, Y1) = res) (WB T D gr ad) (fun q => N0 ≤ q)) [.ref (ad 10 0 0)].toArray s 0 0 (fun q => N0 ≤ q)) Y 0 [(0, .ref (ad 10 0 0))] [] := by
  unfold X12_cookMinutes at h
  refine fw_aload_n C dX12_cookMinutes_0 rfl 0 rfl ?_
  refine fw_aload_n C dX12_cookMinutes_1 rfl 0 rfl ?_
  refine fw_get C (ci := 10) (Cn := RX12) (Tc := TX12) (N := 19) (j := 0) ly_X12_cookMinutes_12 rfl (hG _ (List.mem_of_getElem? (i := 0) rfl)) (of10_0 _) (ce10 T ad _ _) (by decide) (cx_ts C _ fl_X12_cookMinutes_13) (fun _ h => h) (v := .ref (ad 10 0 1)) rfl dX12_cookMinutes_2 ?_
  refine fw_bipush C dX12_cookMinutes_5 (v := 10) rfl ?_
  obtain ⟨b1, h⟩ := gd_some h
  refine fw_iald2 C (hG _ (List.mem_of_getElem? (i := 0) rfl)) (of10_1 _) (ca10_1 T ad _ _) b1 (Nat.le_of_ble_eq_true rfl) dX12_cookMinutes_7 ?_
  obtain ⟨r2, Y4, q3, h⟩ := bd2_some h
  refine fw_callVi C (ci := 10) (Cn := RX12) (Tc := TX12) (N := 19) (As := [.int (Y 10 0 1 (ix 10))]) (c_X12_plain (gac (hG _ (List.mem_of_getElem? (i := 0) rfl)) ga0) q3) (cwV 1 (cx_ts C) gX12_cookMinutes_X12_plain rfl rfl rfl (by decide +kernel) ⟨Nat.le_of_ble_eq_true rfl, Nat.le_of_ble_eq_true rfl⟩) rfl (hG _ (List.mem_of_getElem? (i := 0) rfl)) (of10_0 _) (ce10 T ad _ _) rfl (st := []) rfl (Nat.le_of_ble_eq_true rfl) ⟨Nat.le_refl 0, Nat.le_refl 0⟩ dX12_cookMinutes_8 (ppw ?_)
  exact fw_iret C hrt Y4 (Option.some.inj h) (fun t ht => ht) dX12_cookMinutes_11
end
set_option maxRecDepth 100000 in
set_option maxHeartbeats 4000000 in
theorem c_X12_cookMinutes {l : Launch} {N0 : Nat} {T : Nat → ClassId} {D : va_G} {gr : List (Nat × Nat)} {ad : Nat → Nat → Nat → Nat} {Y : Mem} {res : Int32 × Mem} (hG : ∀ q ∈ [(10, 0)], q ∈ gr) (h : X12_cookMinutes Y = some res) : CI l yX12_cookMinutes wsX12_cookMinutes (Rm 1) N0 T D gr ad Y [.ref (ad 10 0 0)] (fun r Y1 => (r, Y1) = res) :=
  fw_body (by decide +kernel) rfl (Nat.le_of_ble_eq_true rfl) (fun p e s m below meth c C hrt => w_X12_cookMinutes C hrt hG  h)
theorem ly_X12_cooks_12 : ∀ w ∈ u_ws RX12 TX12 19, w ∈ wsX12_cooks := by decide +kernel
theorem fl_X12_cooks_13 : Cond.fieldLink RX12 13 "RecipeSchedulerModel" "m" "[I" ∈ wsX12_cooks := by decide +kernel
section
variable {p : Program} {l : Launch} {e : Env} {s : State} {m : MethodId} {below : List Frame} {meth : Method} {c : Code} {N0 : Nat} {T : Nat → ClassId} {D : va_G} {gr : List (Nat × Nat)} {ad : Nat → Nat → Nat → Nat}
set_option maxRecDepth 100000 in
set_option maxHeartbeats 4000000 in
theorem w_X12_cooks {Y : Mem} (C : Cx p s m [.ref (ad 10 0 0)].toArray meth c cX12_cooks 1 wsX12_cooks RX12 N0 T D gr ad) (hrt : meth.sig.returnType = (some .int)) (hG : ∀ q ∈ [(10, 0)], q ∈ gr) {res : Int32 × Mem} (h : X12_cooks Y = some res) : FW p l e (Rm 1) s m [.ref (ad 10 0 0)].toArray below meth c 1 N0 T D gr ad 0 0 (MQ below (va_Qi (fun r Y1 => (r, Y1) = res) (WB T D gr ad) (fun q => N0 ≤ q)) [.ref (ad 10 0 0)].toArray s 0 0 (fun q => N0 ≤ q)) Y 0 [(0, .ref (ad 10 0 0))] [] := by
  unfold X12_cooks at h
  refine fw_aload_n C dX12_cooks_0 rfl 0 rfl ?_
  refine fw_aload_n C dX12_cooks_1 rfl 0 rfl ?_
  refine fw_get C (ci := 10) (Cn := RX12) (Tc := TX12) (N := 19) (j := 0) ly_X12_cooks_12 rfl (hG _ (List.mem_of_getElem? (i := 0) rfl)) (of10_0 _) (ce10 T ad _ _) (by decide) (cx_ts C _ fl_X12_cooks_13) (fun _ h => h) (v := .ref (ad 10 0 1)) rfl dX12_cooks_2 ?_
  refine fw_iconst C dX12_cooks_5 (v := 0) rfl ?_
  obtain ⟨b1, h⟩ := gd_some h
  refine fw_iald2 C (hG _ (List.mem_of_getElem? (i := 0) rfl)) (of10_1 _) (ca10_1 T ad _ _) b1 (Nat.le_of_ble_eq_true rfl) dX12_cooks_6 ?_
  obtain ⟨r2, Y4, q3, h⟩ := bd2_some h
  refine fw_callVi C (ci := 10) (Cn := RX12) (Tc := TX12) (N := 19) (As := [.int (Y 10 0 1 (ix 0))]) (c_X12_plain (gac (hG _ (List.mem_of_getElem? (i := 0) rfl)) ga0) q3) (cwV 1 (cx_ts C) gX12_cooks_X12_plain rfl rfl rfl (by decide +kernel) ⟨Nat.le_of_ble_eq_true rfl, Nat.le_of_ble_eq_true rfl⟩) rfl (hG _ (List.mem_of_getElem? (i := 0) rfl)) (of10_0 _) (ce10 T ad _ _) rfl (st := []) rfl (Nat.le_of_ble_eq_true rfl) ⟨Nat.le_refl 0, Nat.le_refl 0⟩ dX12_cooks_7 (ppw ?_)
  exact fw_iret C hrt Y4 (Option.some.inj h) (fun t ht => ht) dX12_cooks_10
end
set_option maxRecDepth 100000 in
set_option maxHeartbeats 4000000 in
theorem c_X12_cooks {l : Launch} {N0 : Nat} {T : Nat → ClassId} {D : va_G} {gr : List (Nat × Nat)} {ad : Nat → Nat → Nat → Nat} {Y : Mem} {res : Int32 × Mem} (hG : ∀ q ∈ [(10, 0)], q ∈ gr) (h : X12_cooks Y = some res) : CI l yX12_cooks wsX12_cooks (Rm 1) N0 T D gr ad Y [.ref (ad 10 0 0)] (fun r Y1 => (r, Y1) = res) :=
  fw_body (by decide +kernel) rfl (Nat.le_of_ble_eq_true rfl) (fun p e s m below meth c C hrt => w_X12_cooks C hrt hG  h)
section
variable {p : Program} {l : Launch} {e : Env} {s : State} {m : MethodId} {below : List Frame} {meth : Method} {c : Code} {N0 : Nat} {T : Nat → ClassId} {D : va_G} {gr : List (Nat × Nat)} {ad : Nat → Nat → Nat → Nat}
set_option maxRecDepth 100000 in
set_option maxHeartbeats 4000000 in
theorem w_X12_countWithStatus_b15 {a1 : Int32} (C : Cx p s m [.ref (ad 10 0 0), .int a1].toArray meth c cX12_countWithStatus 2 wsX12_countWithStatus RX12 N0 T D gr ad) (hrt : meth.sig.returnType = (some .int)) (hG : ∀ q ∈ [(10, 0)], q ∈ gr) {res : Int32 × Mem} (Y : Mem) (s0 : Int32) (h : X12_countWithStatus_b15 a1  Y s0 = some res) : FW p l e (Rm 2) s m [.ref (ad 10 0 0), .int a1].toArray below meth c 2 N0 T D gr ad 0 0 (MQ below (va_Qi (fun r Y1 => (r, Y1) = res) (WB T D gr ad) (fun q => N0 ≤ q)) [.ref (ad 10 0 0), .int a1].toArray s 0 0 (fun q => N0 ≤ q)) Y 15 [(0, .ref (ad 10 0 0)), (1, .int a1)] [.int s0, .ref (ad 10 0 0)] := by
  unfold X12_countWithStatus_b15 at h
  refine fw_iconst C dX12_countWithStatus_15 (v := 0) rfl ?_
  refine fw_iconst C dX12_countWithStatus_16 (v := 0) rfl ?_
  obtain ⟨r4, Y6, q5, h⟩ := bd2_some h
  refine fw_callVi C (ci := 10) (Cn := RX12) (Tc := TX12) (N := 19) (As := [.int s0, .int 0, .int 0]) (c_X12_fails (gac (hG _ (List.mem_of_getElem? (i := 0) rfl)) ga0) q5) (cwV 3 (cx_ts C) gX12_countWithStatus_X12_fails rfl rfl rfl (by decide +kernel) ⟨Nat.le_of_ble_eq_true rfl, Nat.le_of_ble_eq_true rfl⟩) rfl (hG _ (List.mem_of_getElem? (i := 0) rfl)) (of10_0 _) (ce10 T ad _ _) rfl (st := []) rfl (Nat.le_of_ble_eq_true rfl) ⟨Nat.le_refl 0, Nat.le_refl 0⟩ dX12_countWithStatus_17 (ppw ?_)
  refine fw_if_eq C dX12_countWithStatus_20 (tgt := 25) rfl (fun c7 => ?_) (fun c7 => ?_)
  · have h := ite_t c7 h
    refine fw_aload_n C dX12_countWithStatus_25 rfl 0 rfl ?_
    refine fw_iload_n C dX12_countWithStatus_26 rfl 1 rfl ?_
    obtain ⟨r8, q9, h⟩ := bd1_some h
    refine fw_callVi C (ci := 10) (Cn := RX12) (Tc := TX12) (N := 19) (As := [.int a1]) (c_X12_withStatus (gac (hG _ (List.mem_of_getElem? (i := 0) rfl)) ga0) q9) (cwV 1 (cx_ts C) gX12_countWithStatus_X12_withStatus rfl rfl rfl (by decide +kernel) ⟨Nat.le_of_ble_eq_true rfl, Nat.le_of_ble_eq_true rfl⟩) rfl (hG _ (List.mem_of_getElem? (i := 0) rfl)) (of10_0 _) (ce10 T ad _ _) rfl (st := []) rfl (Nat.le_of_ble_eq_true rfl) ⟨Nat.le_refl 0, Nat.le_refl 0⟩ dX12_countWithStatus_27 (pp2 ?_)
    exact fw_iret C hrt Y6 (Option.some.inj h) (fun t ht => ht) dX12_countWithStatus_30
  · have h := ite_f c7 h
    refine fw_iconst C dX12_countWithStatus_23 (v := 0) rfl ?_
    exact fw_iret C hrt Y6 (Option.some.inj h) (fun t ht => ht) dX12_countWithStatus_24
set_option maxRecDepth 100000 in
set_option maxHeartbeats 4000000 in
theorem w_X12_countWithStatus {Y : Mem} {a1 : Int32} (C : Cx p s m [.ref (ad 10 0 0), .int a1].toArray meth c cX12_countWithStatus 2 wsX12_countWithStatus RX12 N0 T D gr ad) (hrt : meth.sig.returnType = (some .int)) (hG : ∀ q ∈ [(10, 0)], q ∈ gr) {res : Int32 × Mem} (h : X12_countWithStatus Y a1 = some res) : FW p l e (Rm 2) s m [.ref (ad 10 0 0), .int a1].toArray below meth c 2 N0 T D gr ad 0 0 (MQ below (va_Qi (fun r Y1 => (r, Y1) = res) (WB T D gr ad) (fun q => N0 ≤ q)) [.ref (ad 10 0 0), .int a1].toArray s 0 0 (fun q => N0 ≤ q)) Y 0 [(0, .ref (ad 10 0 0)), (1, .int a1)] [] := by
  unfold X12_countWithStatus at h
  refine fw_aload_n C dX12_countWithStatus_0 rfl 0 rfl ?_
  refine fw_iload_n C dX12_countWithStatus_1 rfl 1 rfl ?_
  refine fw_iconst C dX12_countWithStatus_2 (v := 0) rfl ?_
  refine fw_iconst C dX12_countWithStatus_3 (v := 3) rfl ?_
  obtain ⟨r1, q2, h⟩ := bd1_some h
  refine fw_callSi C (As := [.int a1, .int 0, .int 3]) (c_X12_in ga0 q2) (va_cwS 3 (cx_ts C) gX12_countWithStatus_X12_in rfl rfl rfl (by decide +kernel) ⟨Nat.le_of_ble_eq_true rfl, Nat.le_of_ble_eq_true rfl⟩) rfl (st := [.ref (ad 10 0 0)]) rfl (Nat.le_of_ble_eq_true rfl) ⟨Nat.le_refl 0, Nat.le_refl 0⟩ dX12_countWithStatus_4 (pp2 ?_)
  refine fw_if_ne C dX12_countWithStatus_7 (tgt := 14) rfl (fun c3 => ?_) (fun c3 => ?_)
  · have h := ite_f c3 h
    refine fw_iconst C dX12_countWithStatus_14 (v := 0) rfl ?_
    exact w_X12_countWithStatus_b15 C hrt hG   _ _ h
  · have h := ite_t c3 h
    refine fw_iconst C dX12_countWithStatus_10 (v := 1) rfl ?_
    refine fw_goto C dX12_countWithStatus_11 (tgt := 15) rfl ?_
    exact w_X12_countWithStatus_b15 C hrt hG   _ _ h
end
set_option maxRecDepth 100000 in
set_option maxHeartbeats 4000000 in
theorem c_X12_countWithStatus {l : Launch} {N0 : Nat} {T : Nat → ClassId} {D : va_G} {gr : List (Nat × Nat)} {ad : Nat → Nat → Nat → Nat} {Y : Mem} {a1 : Int32} {res : Int32 × Mem} (hG : ∀ q ∈ [(10, 0)], q ∈ gr) (h : X12_countWithStatus Y a1 = some res) : CI l yX12_countWithStatus wsX12_countWithStatus (Rm 2) N0 T D gr ad Y [.ref (ad 10 0 0), .int a1] (fun r Y1 => (r, Y1) = res) :=
  fw_body (by decide +kernel) rfl (Nat.le_of_ble_eq_true rfl) (fun p e s m below meth c C hrt => w_X12_countWithStatus C hrt hG  h)
theorem ly_X12_criticalStep_12 : ∀ w ∈ u_ws RX12 TX12 19, w ∈ wsX12_criticalStep := by decide +kernel
theorem fl_X12_criticalStep_1 : Cond.fieldLink RX12 1 "RecipeSchedulerModel" "thrown" "I" ∈ wsX12_criticalStep := by decide +kernel
theorem fl_X12_criticalStep_13 : Cond.fieldLink RX12 13 "RecipeSchedulerModel" "m" "[I" ∈ wsX12_criticalStep := by decide +kernel
theorem fl_X12_criticalStep_42 : Cond.fieldLink RX12 42 "RecipeSchedulerModel" "paths" "[I" ∈ wsX12_criticalStep := by decide +kernel
section
variable {p : Program} {l : Launch} {e : Env} {s : State} {m : MethodId} {below : List Frame} {meth : Method} {c : Code} {N0 : Nat} {T : Nat → ClassId} {D : va_G} {gr : List (Nat × Nat)} {ad : Nat → Nat → Nat → Nat}
set_option maxRecDepth 100000 in
set_option maxHeartbeats 4000000 in
theorem w_X12_criticalStep_b89 {a1 : Int32} (C : Cx p s m [.ref (ad 10 0 0), .int a1].toArray meth c cX12_criticalStep 7 wsX12_criticalStep RX12 N0 T D gr ad) (hrt : meth.sig.returnType = (some .int)) (hG : ∀ q ∈ [(10, 0)], q ∈ gr) {res : Int32 × Mem} {k24 : Mem → Int32 → Int32 → Int32 → Int32 → Option (Int32 × Mem)} (hk24 : ∀ (Y : Mem) (l5 : Int32) (l4 : Int32) (l3 : Int32) (l2 : Int32), k24 Y l5 l4 l3 l2 = some res → FW p l e (Rm 3) s m [.ref (ad 10 0 0), .int a1].toArray below meth c 7 N0 T D gr ad 0 0 (MQ below (va_Qi (fun r Y1 => (r, Y1) = res) (WB T D gr ad) (fun q => N0 ≤ q)) [.ref (ad 10 0 0), .int a1].toArray s 0 0 (fun q => N0 ≤ q)) Y 24 [(5, .int l5), (4, .int l4), (3, .int l3), (2, .int l2), (0, .ref (ad 10 0 0)), (1, .int a1)] []) (Y : Mem) (l5 : Int32) (l4 : Int32) (l3 : Int32) (l2 : Int32) (h : X12_criticalStep_b89 a1 k24 Y l5 l4 l3 l2 = some res) : FW p l e (Rm 3) s m [.ref (ad 10 0 0), .int a1].toArray below meth c 7 N0 T D gr ad 0 0 (MQ below (va_Qi (fun r Y1 => (r, Y1) = res) (WB T D gr ad) (fun q => N0 ≤ q)) [.ref (ad 10 0 0), .int a1].toArray s 0 0 (fun q => N0 ≤ q)) Y 89 [(5, .int l5), (4, .int l4), (3, .int l3), (2, .int l2), (0, .ref (ad 10 0 0)), (1, .int a1)] [] := by
  unfold X12_criticalStep_b89 at h
  refine fw_iinc C dX12_criticalStep_89 (kk := 0) (v := l5 + 1) rfl rfl (by decide) (L' := [(5, .int (l5 + 1)), (4, .int l4), (3, .int l3), (2, .int l2), (0, .ref (ad 10 0 0)), (1, .int a1)]) rfl ?_
  refine fw_goto C dX12_criticalStep_92 (tgt := 24) rfl ?_
  exact hk24 _ _ _ _ _ h
set_option maxRecDepth 100000 in
set_option maxHeartbeats 4000000 in
theorem w_X12_criticalStep_b85 {a1 : Int32} (C : Cx p s m [.ref (ad 10 0 0), .int a1].toArray meth c cX12_criticalStep 7 wsX12_criticalStep RX12 N0 T D gr ad) (hrt : meth.sig.returnType = (some .int)) (hG : ∀ q ∈ [(10, 0)], q ∈ gr) {res : Int32 × Mem} {k24 : Mem → Int32 → Int32 → Int32 → Int32 → Option (Int32 × Mem)} (hk24 : ∀ (Y : Mem) (l5 : Int32) (l4 : Int32) (l3 : Int32) (l2 : Int32), k24 Y l5 l4 l3 l2 = some res → FW p l e (Rm 3) s m [.ref (ad 10 0 0), .int a1].toArray below meth c 7 N0 T D gr ad 0 0 (MQ below (va_Qi (fun r Y1 => (r, Y1) = res) (WB T D gr ad) (fun q => N0 ≤ q)) [.ref (ad 10 0 0), .int a1].toArray s 0 0 (fun q => N0 ≤ q)) Y 24 [(5, .int l5), (4, .int l4), (3, .int l3), (2, .int l2), (0, .ref (ad 10 0 0)), (1, .int a1)] []) (Y : Mem) (l5 : Int32) (l3 : Int32) (l2 : Int32) (h : X12_criticalStep_b85 a1 k24 Y l5 l3 l2 = some res) : FW p l e (Rm 3) s m [.ref (ad 10 0 0), .int a1].toArray below meth c 7 N0 T D gr ad 0 0 (MQ below (va_Qi (fun r Y1 => (r, Y1) = res) (WB T D gr ad) (fun q => N0 ≤ q)) [.ref (ad 10 0 0), .int a1].toArray s 0 0 (fun q => N0 ≤ q)) Y 85 [(5, .int l5), (3, .int l3), (2, .int l2), (0, .ref (ad 10 0 0)), (1, .int a1)] [] := by
  unfold X12_criticalStep_b85 at h
  refine fw_iload C dX12_criticalStep_85 0 rfl ?_
  refine fw_istore C dX12_criticalStep_87 (by decide) (L' := [(4, .int l5), (5, .int l5), (3, .int l3), (2, .int l2), (0, .ref (ad 10 0 0)), (1, .int a1)]) rfl ?_
  refine fw_sub [1, 0, 2, 3, 4, 5] (L' := [(5, .int l5), (4, .int l5), (3, .int l3), (2, .int l2), (0, .ref (ad 10 0 0)), (1, .int a1)]) rfl ?_
  exact w_X12_criticalStep_b89 C hrt hG  hk24 _ _ _ _ _ h
set_option maxRecDepth 100000 in
set_option maxHeartbeats 4000000 in
theorem w_X12_criticalStep_b55 {a1 : Int32} (C : Cx p s m [.ref (ad 10 0 0), .int a1].toArray meth c cX12_criticalStep 7 wsX12_criticalStep RX12 N0 T D gr ad) (hrt : meth.sig.returnType = (some .int)) (hG : ∀ q ∈ [(10, 0)], q ∈ gr) {res : Int32 × Mem} {k24 : Mem → Int32 → Int32 → Int32 → Int32 → Option (Int32 × Mem)} (hk24 : ∀ (Y : Mem) (l5 : Int32) (l4 : Int32) (l3 : Int32) (l2 : Int32), k24 Y l5 l4 l3 l2 = some res → FW p l e (Rm 3) s m [.ref (ad 10 0 0), .int a1].toArray below meth c 7 N0 T D gr ad 0 0 (MQ below (va_Qi (fun r Y1 => (r, Y1) = res) (WB T D gr ad) (fun q => N0 ≤ q)) [.ref (ad 10 0 0), .int a1].toArray s 0 0 (fun q => N0 ≤ q)) Y 24 [(5, .int l5), (4, .int l4), (3, .int l3), (2, .int l2), (0, .ref (ad 10 0 0)), (1, .int a1)] []) (Y : Mem) (l5 : Int32) (l4 : Int32) (l3 : Int32) (l2 : Int32) (s0 : Int32) (h : X12_criticalStep_b55 a1 k24 Y l5 l4 l3 l2 s0 = some res) : FW p l e (Rm 3) s m [.ref (ad 10 0 0), .int a1].toArray below meth c 7 N0 T D gr ad 0 0 (MQ below (va_Qi (fun r Y1 => (r, Y1) = res) (WB T D gr ad) (fun q => N0 ≤ q)) [.ref (ad 10 0 0), .int a1].toArray s 0 0 (fun q => N0 ≤ q)) Y 55 [(5, .int l5), (4, .int l4), (3, .int l3), (2, .int l2), (0, .ref (ad 10 0 0)), (1, .int a1)] [.int s0] := by
  unfold X12_criticalStep_b55 at h
  refine fw_istore C dX12_criticalStep_55 (by decide) (L' := [(6, .int s0), (5, .int l5), (4, .int l4), (3, .int l3), (2, .int l2), (0, .ref (ad 10 0 0)), (1, .int a1)]) rfl ?_
  refine fw_iload C dX12_criticalStep_57 0 rfl ?_
  refine fw_if_eq C dX12_criticalStep_59 (tgt := 89) rfl (fun c11 => ?_) (fun c11 => ?_)
  · have h := ite_t c11 h
    refine fw_sub [1, 2, 3, 4, 5, 6] (L' := [(5, .int l5), (4, .int l4), (3, .int l3), (2, .int l2), (0, .ref (ad 10 0 0)), (1, .int a1)]) rfl ?_
    exact w_X12_criticalStep_b89 C hrt hG  hk24 _ _ _ _ _ h
  · have h := ite_f c11 h
    refine fw_iload C dX12_criticalStep_62 2 rfl ?_
    refine fw_iconst C dX12_criticalStep_64 (v := (-1)) rfl ?_
    refine fw_icmp_eq C dX12_criticalStep_65 (tgt := 85) rfl (fun c12 => ?_) (fun c12 => ?_)
    · have h := ite_t c12 h
      refine fw_sub [1, 3, 4, 5, 6] (L' := [(5, .int l5), (3, .int l3), (2, .int l2), (0, .ref (ad 10 0 0)), (1, .int a1)]) rfl ?_
      exact w_X12_criticalStep_b85 C hrt hG  hk24 _ _ _ _ h
    · have h := ite_f c12 h
      refine fw_aload_n C dX12_criticalStep_68 rfl 5 rfl ?_
      refine fw_get C (ci := 10) (Cn := RX12) (Tc := TX12) (N := 19) (j := 10) ly_X12_criticalStep_12 rfl (hG _ (List.mem_of_getElem? (i := 0) rfl)) (of10_0 _) (ce10 T ad _ _) (by decide) (cx_ts C _ fl_X12_criticalStep_42) (fun _ h => h) (v := .ref (ad 10 0 5)) rfl dX12_criticalStep_69 ?_
      refine fw_iload C dX12_criticalStep_72 1 rfl ?_
      obtain ⟨b13, h⟩ := gd_some h
      refine fw_iald2 C (hG _ (List.mem_of_getElem? (i := 0) rfl)) (of10_5 _) (ca10_5 T ad _ _) b13 (Nat.le_of_ble_eq_true rfl) dX12_criticalStep_74 ?_
      refine fw_aload_n C dX12_criticalStep_75 rfl 5 rfl ?_
      refine fw_get C (ci := 10) (Cn := RX12) (Tc := TX12) (N := 19) (j := 10) ly_X12_criticalStep_12 rfl (hG _ (List.mem_of_getElem? (i := 0) rfl)) (of10_0 _) (ce10 T ad _ _) (by decide) (cx_ts C _ fl_X12_criticalStep_42) (fun _ h => h) (v := .ref (ad 10 0 5)) rfl dX12_criticalStep_76 ?_
      refine fw_iload C dX12_criticalStep_79 2 rfl ?_
      obtain ⟨b14, h⟩ := gd_some h
      refine fw_iald2 C (hG _ (List.mem_of_getElem? (i := 0) rfl)) (of10_5 _) (ca10_5 T ad _ _) b14 (Nat.le_of_ble_eq_true rfl) dX12_criticalStep_81 ?_
      refine fw_icmp_le C dX12_criticalStep_82 (tgt := 89) rfl (fun c15 => ?_) (fun c15 => ?_)
      · have h := ite_t c15 h
        refine fw_sub [1, 2, 3, 4, 5, 6] (L' := [(5, .int l5), (4, .int l4), (3, .int l3), (2, .int l2), (0, .ref (ad 10 0 0)), (1, .int a1)]) rfl ?_
        exact w_X12_criticalStep_b89 C hrt hG  hk24 _ _ _ _ _ h
      · have h := ite_f c15 h
        refine fw_sub [1, 3, 4, 5, 6] (L' := [(5, .int l5), (3, .int l3), (2, .int l2), (0, .ref (ad 10 0 0)), (1, .int a1)]) rfl ?_
        exact w_X12_criticalStep_b85 C hrt hG  hk24 _ _ _ _ h
set_option maxRecDepth 100000 in
set_option maxHeartbeats 4000000 in
theorem w_X12_criticalStep_b50 {a1 : Int32} (C : Cx p s m [.ref (ad 10 0 0), .int a1].toArray meth c cX12_criticalStep 7 wsX12_criticalStep RX12 N0 T D gr ad) (hrt : meth.sig.returnType = (some .int)) (hG : ∀ q ∈ [(10, 0)], q ∈ gr) {res : Int32 × Mem} {k24 : Mem → Int32 → Int32 → Int32 → Int32 → Option (Int32 × Mem)} (hk24 : ∀ (Y : Mem) (l5 : Int32) (l4 : Int32) (l3 : Int32) (l2 : Int32), k24 Y l5 l4 l3 l2 = some res → FW p l e (Rm 3) s m [.ref (ad 10 0 0), .int a1].toArray below meth c 7 N0 T D gr ad 0 0 (MQ below (va_Qi (fun r Y1 => (r, Y1) = res) (WB T D gr ad) (fun q => N0 ≤ q)) [.ref (ad 10 0 0), .int a1].toArray s 0 0 (fun q => N0 ≤ q)) Y 24 [(5, .int l5), (4, .int l4), (3, .int l3), (2, .int l2), (0, .ref (ad 10 0 0)), (1, .int a1)] []) (Y : Mem) (l5 : Int32) (l4 : Int32) (l3 : Int32) (l2 : Int32) (h : X12_criticalStep_b50 a1 k24 Y l5 l4 l3 l2 = some res) : FW p l e (Rm 3) s m [.ref (ad 10 0 0), .int a1].toArray below meth c 7 N0 T D gr ad 0 0 (MQ below (va_Qi (fun r Y1 => (r, Y1) = res) (WB T D gr ad) (fun q => N0 ≤ q)) [.ref (ad 10 0 0), .int a1].toArray s 0 0 (fun q => N0 ≤ q)) Y 50 [(5, .int l5), (4, .int l4), (3, .int l3), (2, .int l2), (0, .ref (ad 10 0 0)), (1, .int a1)] [] := by
  unfold X12_criticalStep_b50 at h
  refine fw_iconst C dX12_criticalStep_50 (v := 1) rfl ?_
  refine fw_goto C dX12_criticalStep_51 (tgt := 55) rfl ?_
  exact w_X12_criticalStep_b55 C hrt hG  hk24 _ _ _ _ _ _ h
set_option maxRecDepth 100000 in
set_option maxHeartbeats 4000000 in
theorem w_X12_criticalStep_b24 {a1 : Int32} (C : Cx p s m [.ref (ad 10 0 0), .int a1].toArray meth c cX12_criticalStep 7 wsX12_criticalStep RX12 N0 T D gr ad) (hrt : meth.sig.returnType = (some .int)) (hG : ∀ q ∈ [(10, 0)], q ∈ gr) {res : Int32 × Mem} {k13 : Mem → Int32 → Int32 → Option (Int32 × Mem)} (hk13 : ∀ (Y : Mem) (l3 : Int32) (l2 : Int32), k13 Y l3 l2 = some res → FW p l e (Rm 3) s m [.ref (ad 10 0 0), .int a1].toArray below meth c 7 N0 T D gr ad 0 0 (MQ below (va_Qi (fun r Y1 => (r, Y1) = res) (WB T D gr ad) (fun q => N0 ≤ q)) [.ref (ad 10 0 0), .int a1].toArray s 0 0 (fun q => N0 ≤ q)) Y 13 [(3, .int l3), (2, .int l2), (0, .ref (ad 10 0 0)), (1, .int a1)] []) : ∀ (n : Nat) (Y : Mem) (l5 : Int32) (l4 : Int32) (l3 : Int32) (l2 : Int32), X12_criticalStep_b24 a1 k13 n Y l5 l4 l3 l2 = some res → FW p l e (Rm 3) s m [.ref (ad 10 0 0), .int a1].toArray below meth c 7 N0 T D gr ad 0 0 (MQ below (va_Qi (fun r Y1 => (r, Y1) = res) (WB T D gr ad) (fun q => N0 ≤ q)) [.ref (ad 10 0 0), .int a1].toArray s 0 0 (fun q => N0 ≤ q)) Y 24 [(5, .int l5), (4, .int l4), (3, .int l3), (2, .int l2), (0, .ref (ad 10 0 0)), (1, .int a1)] [] := by
  intro n
  induction n with
  | zero =>
    intro Y l5 l4 l3 l2 h
    unfold X12_criticalStep_b24 at h
    cases h
  | succ n ih =>
    intro Y l5 l4 l3 l2 h
    unfold X12_criticalStep_b24 at h
    refine fw_iload C dX12_criticalStep_24 0 rfl ?_
    refine fw_aload_n C dX12_criticalStep_26 rfl 4 rfl ?_
    refine fw_get C (ci := 10) (Cn := RX12) (Tc := TX12) (N := 19) (j := 0) ly_X12_criticalStep_12 rfl (hG _ (List.mem_of_getElem? (i := 0) rfl)) (of10_0 _) (ce10 T ad _ _) (by decide) (cx_ts C _ fl_X12_criticalStep_13) (fun _ h => h) (v := .ref (ad 10 0 1)) rfl dX12_criticalStep_27 ?_
    refine fw_bipush C dX12_criticalStep_30 (v := 13) rfl ?_
    obtain ⟨b7, h⟩ := gd_some h
    refine fw_iald2 C (hG _ (List.mem_of_getElem? (i := 0) rfl)) (of10_1 _) (ca10_1 T ad _ _) b7 (Nat.le_of_ble_eq_true rfl) dX12_criticalStep_32 ?_
    refine fw_icmp_ge C dX12_criticalStep_33 (tgt := 95) rfl (fun c8 => ?_) (fun c8 => ?_)
    · have h := ite_t c8 h
      refine fw_iload C dX12_criticalStep_95 1 rfl ?_
      refine fw_iconst C dX12_criticalStep_97 (v := (-1)) rfl ?_
      refine fw_icmp_ne C dX12_criticalStep_98 (tgt := 103) rfl (fun c9 => ?_) (fun c9 => ?_)
      · have h := ite_f c9 h
        refine fw_iload C dX12_criticalStep_103 1 rfl ?_
        refine fw_istore_n C dX12_criticalStep_105 rfl (by decide) (L' := [(2, .int l4), (5, .int l5), (4, .int l4), (3, .int l3), (0, .ref (ad 10 0 0)), (1, .int a1)]) rfl ?_
        refine fw_iinc C dX12_criticalStep_106 (kk := 3) (v := l3 + 1) rfl rfl (by decide) (L' := [(3, .int (l3 + 1)), (2, .int l4), (5, .int l5), (4, .int l4), (0, .ref (ad 10 0 0)), (1, .int a1)]) rfl ?_
        refine fw_goto C dX12_criticalStep_109 (tgt := 13) rfl ?_
        refine fw_sub [0, 1, 4, 5] (L' := [(3, .int (l3 + 1)), (2, .int l4), (0, .ref (ad 10 0 0)), (1, .int a1)]) rfl ?_
        exact hk13 _ _ _ h
      · have h := ite_t c9 h
        refine fw_iconst C dX12_criticalStep_101 (v := (-1)) rfl ?_
        exact fw_iret C hrt Y (Option.some.inj h) (fun t ht => ht) dX12_criticalStep_102
    · have h := ite_f c8 h
      refine fw_iload_n C dX12_criticalStep_36 rfl 2 rfl ?_
      refine fw_if_eq C dX12_criticalStep_37 (tgt := 50) rfl (fun c10 => ?_) (fun c10 => ?_)
      · have h := ite_t c10 h
        exact w_X12_criticalStep_b50 C hrt hG  ih _ _ _ _ _ h
      · have h := ite_f c10 h
        refine fw_aload_n C dX12_criticalStep_40 rfl 4 rfl ?_
        refine fw_iload_n C dX12_criticalStep_41 rfl 3 rfl ?_
        refine fw_iload C dX12_criticalStep_42 0 rfl ?_
        obtain ⟨r16, q17, h⟩ := bd1_some h
        refine fw_callVi C (ci := 10) (Cn := RX12) (Tc := TX12) (N := 19) (As := [.int l2, .int l5]) (c_X12_isPredecessor (gac (hG _ (List.mem_of_getElem? (i := 0) rfl)) ga0) q17) (cwV 2 (cx_ts C) gX12_criticalStep_X12_isPredecessor rfl rfl rfl (by decide +kernel) ⟨Nat.le_of_ble_eq_true rfl, Nat.le_of_ble_eq_true rfl⟩) rfl (hG _ (List.mem_of_getElem? (i := 0) rfl)) (of10_0 _) (ce10 T ad _ _) rfl (st := []) rfl (Nat.le_of_ble_eq_true rfl) ⟨Nat.le_refl 0, Nat.le_refl 0⟩ dX12_criticalStep_44 (pp2 ?_)
        refine fw_if_eq C dX12_criticalStep_47 (tgt := 54) rfl (fun c18 => ?_) (fun c18 => ?_)
        · have h := ite_t c18 h
          refine fw_iconst C dX12_criticalStep_54 (v := 0) rfl ?_
          exact w_X12_criticalStep_b55 C hrt hG  ih _ _ _ _ _ _ h
        · have h := ite_f c18 h
          exact w_X12_criticalStep_b50 C hrt hG  ih _ _ _ _ _ h
set_option maxRecDepth 100000 in
set_option maxHeartbeats 4000000 in
theorem w_X12_criticalStep_b13 {a1 : Int32} (C : Cx p s m [.ref (ad 10 0 0), .int a1].toArray meth c cX12_criticalStep 7 wsX12_criticalStep RX12 N0 T D gr ad) (hrt : meth.sig.returnType = (some .int)) (hG : ∀ q ∈ [(10, 0)], q ∈ gr) {res : Int32 × Mem} : ∀ (n : Nat) (Y : Mem) (l3 : Int32) (l2 : Int32), X12_criticalStep_b13 a1  n Y l3 l2 = some res → FW p l e (Rm 3) s m [.ref (ad 10 0 0), .int a1].toArray below meth c 7 N0 T D gr ad 0 0 (MQ below (va_Qi (fun r Y1 => (r, Y1) = res) (WB T D gr ad) (fun q => N0 ≤ q)) [.ref (ad 10 0 0), .int a1].toArray s 0 0 (fun q => N0 ≤ q)) Y 13 [(3, .int l3), (2, .int l2), (0, .ref (ad 10 0 0)), (1, .int a1)] [] := by
  intro n
  induction n with
  | zero =>
    intro Y l3 l2 h
    unfold X12_criticalStep_b13 at h
    cases h
  | succ n ih =>
    intro Y l3 l2 h
    unfold X12_criticalStep_b13 at h
    refine fw_iload_n C dX12_criticalStep_13 rfl 0 rfl ?_
    refine fw_iload_n C dX12_criticalStep_14 rfl 3 rfl ?_
    refine fw_icmp_gt C dX12_criticalStep_15 (tgt := 112) rfl (fun c6 => ?_) (fun c6 => ?_)
    · have h := ite_t c6 h
      refine fw_iload_n C dX12_criticalStep_112 rfl 1 rfl ?_
      exact fw_iret C hrt Y (Option.some.inj h) (fun t ht => ht) dX12_criticalStep_113
    · have h := ite_f c6 h
      refine fw_iconst C dX12_criticalStep_18 (v := (-1)) rfl ?_
      refine fw_istore C dX12_criticalStep_19 (by decide) (L' := [(4, .int ((-1))), (3, .int l3), (2, .int l2), (0, .ref (ad 10 0 0)), (1, .int a1)]) rfl ?_
      refine fw_iconst C dX12_criticalStep_21 (v := 0) rfl ?_
      refine fw_istore C dX12_criticalStep_22 (by decide) (L' := [(5, .int 0), (4, .int ((-1))), (3, .int l3), (2, .int l2), (0, .ref (ad 10 0 0)), (1, .int a1)]) rfl ?_
      exact w_X12_criticalStep_b24 C hrt hG  ih _ _ _ _ _ _ h
set_option maxRecDepth 100000 in
set_option maxHeartbeats 4000000 in
theorem w_X12_criticalStep {Y : Mem} {a1 : Int32} (C : Cx p s m [.ref (ad 10 0 0), .int a1].toArray meth c cX12_criticalStep 7 wsX12_criticalStep RX12 N0 T D gr ad) (hrt : meth.sig.returnType = (some .int)) (hG : ∀ q ∈ [(10, 0)], q ∈ gr) {res : Int32 × Mem} (h : X12_criticalStep Y a1 = some res) : FW p l e (Rm 3) s m [.ref (ad 10 0 0), .int a1].toArray below meth c 7 N0 T D gr ad 0 0 (MQ below (va_Qi (fun r Y1 => (r, Y1) = res) (WB T D gr ad) (fun q => N0 ≤ q)) [.ref (ad 10 0 0), .int a1].toArray s 0 0 (fun q => N0 ≤ q)) Y 0 [(0, .ref (ad 10 0 0)), (1, .int a1)] [] := by
  unfold X12_criticalStep at h
  refine fw_aload_n C dX12_criticalStep_0 rfl 0 rfl ?_
  refine fw_iconst C dX12_criticalStep_1 (v := 0) rfl ?_
  obtain ⟨Y1, e2, h⟩ := lt_some h
  refine fw_put C (ci := 10) (Cn := RX12) (Tc := TX12) (N := 19) (j := 9) (ty := .int) (upd (Y 10 0 0) 9 0) ly_X12_criticalStep_12 rfl tyX12_ok nmX12 (hG _ (List.mem_of_getElem? (i := 0) rfl)) (of10_0 _) (ce10 T ad _ _) (by decide) (cx_ts C _ fl_X12_criticalStep_1) (fun _ h => h) rfl (by decide +kernel) rfl rfl (Nat.le_of_ble_eq_true rfl) (ce10_put9 T ad _ _ _) dX12_criticalStep_2 ?_
  refine fw_mem ((up_eq _ _ _ _ _ _).symm.trans e2) ?_
  refine fw_aload_n C dX12_criticalStep_5 rfl 0 rfl ?_
  obtain ⟨Y5, q4, h⟩ := bd1_some h
  refine fw_callVv C (ci := 10) (Cn := RX12) (Tc := TX12) (N := 19) (As := []) (c_X12_computePaths (gac (hG _ (List.mem_of_getElem? (i := 0) rfl)) ga0) q4) (cwV 0 (cx_ts C) gX12_criticalStep_X12_computePaths rfl rfl rfl (by decide +kernel) ⟨Nat.le_of_ble_eq_true rfl, Nat.le_of_ble_eq_true rfl⟩) rfl (hG _ (List.mem_of_getElem? (i := 0) rfl)) (of10_0 _) (ce10 T ad _ _) rfl (st := []) rfl (Nat.le_of_ble_eq_true rfl) ⟨Nat.le_refl 0, Nat.le_refl 0⟩ dX12_criticalStep_6 (ppv ?_)
  refine fw_iconst C dX12_criticalStep_9 (v := (-1)) rfl ?_
  refine fw_istore_n C dX12_criticalStep_10 rfl (by decide) (L' := [(2, .int ((-1))), (0, .ref (ad 10 0 0)), (1, .int a1)]) rfl ?_
  refine fw_iconst C dX12_criticalStep_11 (v := 0) rfl ?_
  refine fw_istore_n C dX12_criticalStep_12 rfl (by decide) (L' := [(3, .int 0), (2, .int ((-1))), (0, .ref (ad 10 0 0)), (1, .int a1)]) rfl ?_
  exact w_X12_criticalStep_b13 C hrt hG   _ _ _ _ h
end
set_option maxRecDepth 100000 in
set_option maxHeartbeats 4000000 in
theorem c_X12_criticalStep {l : Launch} {N0 : Nat} {T : Nat → ClassId} {D : va_G} {gr : List (Nat × Nat)} {ad : Nat → Nat → Nat → Nat} {Y : Mem} {a1 : Int32} {res : Int32 × Mem} (hG : ∀ q ∈ [(10, 0)], q ∈ gr) (h : X12_criticalStep Y a1 = some res) : CI l yX12_criticalStep wsX12_criticalStep (Rm 3) N0 T D gr ad Y [.ref (ad 10 0 0), .int a1] (fun r Y1 => (r, Y1) = res) :=
  fw_body (by decide +kernel) rfl (Nat.le_of_ble_eq_true rfl) (fun p e s m below meth c C hrt => w_X12_criticalStep C hrt hG  h)
theorem ly_X12_dependsOn_12 : ∀ w ∈ u_ws RX12 TX12 19, w ∈ wsX12_dependsOn := by decide +kernel
theorem fl_X12_dependsOn_13 : Cond.fieldLink RX12 13 "RecipeSchedulerModel" "m" "[I" ∈ wsX12_dependsOn := by decide +kernel
theorem fl_X12_dependsOn_48 : Cond.fieldLink RX12 48 "RecipeSchedulerModel" "isReached" "[Z" ∈ wsX12_dependsOn := by decide +kernel
section
variable {p : Program} {l : Launch} {e : Env} {s : State} {m : MethodId} {below : List Frame} {meth : Method} {c : Code} {N0 : Nat} {T : Nat → ClassId} {D : va_G} {gr : List (Nat × Nat)} {ad : Nat → Nat → Nat → Nat}
set_option maxRecDepth 100000 in
set_option maxHeartbeats 4000000 in
theorem w_X12_dependsOn_b117 {a1 : Int32} {a2 : Int32} (C : Cx p s m [.ref (ad 10 0 0), .int a1, .int a2].toArray meth c cX12_dependsOn 5 wsX12_dependsOn RX12 N0 T D gr ad) (hrt : meth.sig.returnType = (some .boolean)) (hG : ∀ q ∈ [(10, 0)], q ∈ gr) {res : Int32 × Mem} {k67 : Mem → Int32 → Option (Int32 × Mem)} (hk67 : ∀ (Y : Mem) (l3 : Int32), k67 Y l3 = some res → FW p l e (Rm 2) s m [.ref (ad 10 0 0), .int a1, .int a2].toArray below meth c 5 N0 T D gr ad 0 0 (MQ below (va_Qi (fun r Y1 => (r, Y1) = res) (WB T D gr ad) (fun q => N0 ≤ q)) [.ref (ad 10 0 0), .int a1, .int a2].toArray s 0 0 (fun q => N0 ≤ q)) Y 67 [(3, .int l3), (0, .ref (ad 10 0 0)), (1, .int a1), (2, .int a2)] []) (Y : Mem) (l3 : Int32) (h : X12_dependsOn_b117 a1 a2 k67 Y l3 = some res) : FW p l e (Rm 2) s m [.ref (ad 10 0 0), .int a1, .int a2].toArray below meth c 5 N0 T D gr ad 0 0 (MQ below (va_Qi (fun r Y1 => (r, Y1) = res) (WB T D gr ad) (fun q => N0 ≤ q)) [.ref (ad 10 0 0), .int a1, .int a2].toArray s 0 0 (fun q => N0 ≤ q)) Y 117 [(3, .int l3), (0, .ref (ad 10 0 0)), (1, .int a1), (2, .int a2)] [] := by
  unfold X12_dependsOn_b117 at h
  refine fw_iinc C dX12_dependsOn_117 (kk := 0) (v := l3 + (-1)) rfl rfl (by decide) (L' := [(3, .int (l3 + (-1))), (0, .ref (ad 10 0 0)), (1, .int a1), (2, .int a2)]) rfl ?_
  refine fw_goto C dX12_dependsOn_120 (tgt := 67) rfl ?_
  exact hk67 _ _ h
set_option maxRecDepth 100000 in
set_option maxHeartbeats 4000000 in
theorem w_X12_dependsOn_b74 {a1 : Int32} {a2 : Int32} (C : Cx p s m [.ref (ad 10 0 0), .int a1, .int a2].toArray meth c cX12_dependsOn 5 wsX12_dependsOn RX12 N0 T D gr ad) (hrt : meth.sig.returnType = (some .boolean)) (hG : ∀ q ∈ [(10, 0)], q ∈ gr) {res : Int32 × Mem} {k67 : Mem → Int32 → Option (Int32 × Mem)} (hk67 : ∀ (Y : Mem) (l3 : Int32), k67 Y l3 = some res → FW p l e (Rm 2) s m [.ref (ad 10 0 0), .int a1, .int a2].toArray below meth c 5 N0 T D gr ad 0 0 (MQ below (va_Qi (fun r Y1 => (r, Y1) = res) (WB T D gr ad) (fun q => N0 ≤ q)) [.ref (ad 10 0 0), .int a1, .int a2].toArray s 0 0 (fun q => N0 ≤ q)) Y 67 [(3, .int l3), (0, .ref (ad 10 0 0)), (1, .int a1), (2, .int a2)] []) : ∀ (n : Nat) (Y : Mem) (l4 : Int32) (l3 : Int32), X12_dependsOn_b74 a1 a2 k67 n Y l4 l3 = some res → FW p l e (Rm 2) s m [.ref (ad 10 0 0), .int a1, .int a2].toArray below meth c 5 N0 T D gr ad 0 0 (MQ below (va_Qi (fun r Y1 => (r, Y1) = res) (WB T D gr ad) (fun q => N0 ≤ q)) [.ref (ad 10 0 0), .int a1, .int a2].toArray s 0 0 (fun q => N0 ≤ q)) Y 74 [(4, .int l4), (3, .int l3), (0, .ref (ad 10 0 0)), (1, .int a1), (2, .int a2)] [] := by
  intro n
  induction n with
  | zero =>
    intro Y l4 l3 h
    unfold X12_dependsOn_b74 at h
    cases h
  | succ n ih =>
    intro Y l4 l3 h
    unfold X12_dependsOn_b74 at h
    refine fw_aload_n C dX12_dependsOn_74 rfl 2 rfl ?_
    refine fw_get C (ci := 10) (Cn := RX12) (Tc := TX12) (N := 19) (j := 12) ly_X12_dependsOn_12 rfl (hG _ (List.mem_of_getElem? (i := 0) rfl)) (of10_0 _) (ce10 T ad _ _) (by decide) (cx_ts C _ fl_X12_dependsOn_48) (fun _ h => h) (v := .ref (ad 10 0 7)) rfl dX12_dependsOn_75 ?_
    refine fw_iload_n C dX12_dependsOn_78 rfl 1 rfl ?_
    obtain ⟨b17, h⟩ := gd_some h
    refine fw_zald2 C (hG _ (List.mem_of_getElem? (i := 0) rfl)) (of10_7 _) (ca10_7 T ad _ _) b17 (Nat.le_of_ble_eq_true rfl) dX12_dependsOn_79 ?_
    refine fw_if_eq C dX12_dependsOn_80 (tgt := 117) rfl (fun c18 => ?_) (fun c18 => ?_)
    · have h := ite_t c18 h
      refine fw_sub [1, 2, 3, 4] (L' := [(3, .int l3), (0, .ref (ad 10 0 0)), (1, .int a1), (2, .int a2)]) rfl ?_
      exact w_X12_dependsOn_b117 C hrt hG  hk67 _ _ h
    · have h := ite_f c18 h
      refine fw_iload C dX12_dependsOn_83 0 rfl ?_
      refine fw_aload_n C dX12_dependsOn_85 rfl 2 rfl ?_
      refine fw_iload_n C dX12_dependsOn_86 rfl 1 rfl ?_
      refine fw_bipush C dX12_dependsOn_87 (v := 12) rfl ?_
      obtain ⟨r19, q20, h⟩ := bd1_some h
      refine fw_callVi C (ci := 10) (Cn := RX12) (Tc := TX12) (N := 19) (As := [.int l3, .int 12]) (c_X12_of (gac (hG _ (List.mem_of_getElem? (i := 0) rfl)) ga0) q20) (cwV 2 (cx_ts C) gX12_dependsOn_X12_of rfl rfl rfl (by decide +kernel) ⟨Nat.le_of_ble_eq_true rfl, Nat.le_of_ble_eq_true rfl⟩) rfl (hG _ (List.mem_of_getElem? (i := 0) rfl)) (of10_0 _) (ce10 T ad _ _) rfl (st := [.int l4]) rfl (Nat.le_of_ble_eq_true rfl) ⟨Nat.le_refl 0, Nat.le_refl 0⟩ dX12_dependsOn_89 (pp2 ?_)
      refine fw_icmp_ge C dX12_dependsOn_92 (tgt := 117) rfl (fun c21 => ?_) (fun c21 => ?_)
      · have h := ite_t c21 h
        refine fw_sub [1, 2, 3, 4] (L' := [(3, .int l3), (0, .ref (ad 10 0 0)), (1, .int a1), (2, .int a2)]) rfl ?_
        exact w_X12_dependsOn_b117 C hrt hG  hk67 _ _ h
      · have h := ite_f c21 h
        refine fw_aload_n C dX12_dependsOn_95 rfl 2 rfl ?_
        refine fw_get C (ci := 10) (Cn := RX12) (Tc := TX12) (N := 19) (j := 12) ly_X12_dependsOn_12 rfl (hG _ (List.mem_of_getElem? (i := 0) rfl)) (of10_0 _) (ce10 T ad _ _) (by decide) (cx_ts C _ fl_X12_dependsOn_48) (fun _ h => h) (v := .ref (ad 10 0 7)) rfl dX12_dependsOn_96 ?_
        refine fw_aload_n C dX12_dependsOn_99 rfl 2 rfl ?_
        refine fw_iload_n C dX12_dependsOn_100 rfl 1 rfl ?_
        refine fw_bipush C dX12_dependsOn_101 (v := 13) rfl ?_
        refine fw_iload C dX12_dependsOn_103 0 rfl ?_
        refine fw_iadd C dX12_dependsOn_105 ?_
        obtain ⟨r22, q23, h⟩ := bd1_some h
        refine fw_callVi C (ci := 10) (Cn := RX12) (Tc := TX12) (N := 19) (As := [.int l3, .int (13 + l4)]) (c_X12_of (gac (hG _ (List.mem_of_getElem? (i := 0) rfl)) ga0) q23) (cwV 2 (cx_ts C) gX12_dependsOn_X12_of rfl rfl rfl (by decide +kernel) ⟨Nat.le_of_ble_eq_true rfl, Nat.le_of_ble_eq_true rfl⟩) rfl (hG _ (List.mem_of_getElem? (i := 0) rfl)) (of10_0 _) (ce10 T ad _ _) rfl (st := [.ref (ad 10 0 7)]) rfl (Nat.le_of_ble_eq_true rfl) ⟨Nat.le_refl 0, Nat.le_refl 0⟩ dX12_dependsOn_106 (pp2 ?_)
        refine fw_iconst C dX12_dependsOn_109 (v := 1) rfl ?_
        obtain ⟨b24, h⟩ := gd_some h
        obtain ⟨Y25, e26, h⟩ := lt_some h
        refine fw_zast2 C (hG _ (List.mem_of_getElem? (i := 0) rfl)) (of10_7 _) (ca10_7 T ad _) b24 (Nat.le_of_ble_eq_true rfl) dX12_dependsOn_110 ?_
        refine fw_mem e26 ?_
        refine fw_iinc C dX12_dependsOn_111 (kk := 0) (v := l4 + 1) rfl rfl (by decide) (L' := [(4, .int (l4 + 1)), (3, .int l3), (0, .ref (ad 10 0 0)), (1, .int a1), (2, .int a2)]) rfl ?_
        refine fw_goto C dX12_dependsOn_114 (tgt := 74) rfl ?_
        exact ih _ _ _ h
set_option maxRecDepth 100000 in
set_option maxHeartbeats 4000000 in
theorem w_X12_dependsOn_b67 {a1 : Int32} {a2 : Int32} (C : Cx p s m [.ref (ad 10 0 0), .int a1, .int a2].toArray meth c cX12_dependsOn 5 wsX12_dependsOn RX12 N0 T D gr ad) (hrt : meth.sig.returnType = (some .boolean)) (hG : ∀ q ∈ [(10, 0)], q ∈ gr) {res : Int32 × Mem} : ∀ (n : Nat) (Y : Mem) (l3 : Int32), X12_dependsOn_b67 a1 a2  n Y l3 = some res → FW p l e (Rm 2) s m [.ref (ad 10 0 0), .int a1, .int a2].toArray below meth c 5 N0 T D gr ad 0 0 (MQ below (va_Qi (fun r Y1 => (r, Y1) = res) (WB T D gr ad) (fun q => N0 ≤ q)) [.ref (ad 10 0 0), .int a1, .int a2].toArray s 0 0 (fun q => N0 ≤ q)) Y 67 [(3, .int l3), (0, .ref (ad 10 0 0)), (1, .int a1), (2, .int a2)] [] := by
  intro n
  induction n with
  | zero =>
    intro Y l3 h
    unfold X12_dependsOn_b67 at h
    cases h
  | succ n ih =>
    intro Y l3 h
    unfold X12_dependsOn_b67 at h
    refine fw_iload_n C dX12_dependsOn_67 rfl 0 rfl ?_
    refine fw_if_lt C dX12_dependsOn_68 (tgt := 123) rfl (fun c13 => ?_) (fun c13 => ?_)
    · have h := ite_t c13 h
      refine fw_iload_n C dX12_dependsOn_123 rfl 2 rfl ?_
      refine fw_iload_n C dX12_dependsOn_124 rfl 3 rfl ?_
      refine fw_icmp_eq C dX12_dependsOn_125 (tgt := 141) rfl (fun c14 => ?_) (fun c14 => ?_)
      · have h := ite_t c14 h
        refine fw_iconst C dX12_dependsOn_141 (v := 0) rfl ?_
        exact fw_zret C hrt (by decide) Y (Option.some.inj h) (fun t ht => ht) dX12_dependsOn_142
      · have h := ite_f c14 h
        refine fw_aload_n C dX12_dependsOn_128 rfl 1 rfl ?_
        refine fw_get C (ci := 10) (Cn := RX12) (Tc := TX12) (N := 19) (j := 12) ly_X12_dependsOn_12 rfl (hG _ (List.mem_of_getElem? (i := 0) rfl)) (of10_0 _) (ce10 T ad _ _) (by decide) (cx_ts C _ fl_X12_dependsOn_48) (fun _ h => h) (v := .ref (ad 10 0 7)) rfl dX12_dependsOn_129 ?_
        refine fw_iload_n C dX12_dependsOn_132 rfl 3 rfl ?_
        obtain ⟨b15, h⟩ := gd_some h
        refine fw_zald2 C (hG _ (List.mem_of_getElem? (i := 0) rfl)) (of10_7 _) (ca10_7 T ad _ _) b15 (Nat.le_of_ble_eq_true rfl) dX12_dependsOn_133 ?_
        refine fw_if_eq C dX12_dependsOn_134 (tgt := 141) rfl (fun c16 => ?_) (fun c16 => ?_)
        · have h := ite_t c16 h
          refine fw_iconst C dX12_dependsOn_141 (v := 0) rfl ?_
          exact fw_zret C hrt (by decide) Y (Option.some.inj h) (fun t ht => ht) dX12_dependsOn_142
        · have h := ite_f c16 h
          refine fw_iconst C dX12_dependsOn_137 (v := 1) rfl ?_
          refine fw_goto C dX12_dependsOn_138 (tgt := 142) rfl ?_
          exact fw_zret C hrt (by decide) Y (Option.some.inj h) (fun t ht => ht) dX12_dependsOn_142
    · have h := ite_f c13 h
      refine fw_iconst C dX12_dependsOn_71 (v := 0) rfl ?_
      refine fw_istore C dX12_dependsOn_72 (by decide) (L' := [(4, .int 0), (3, .int l3), (0, .ref (ad 10 0 0)), (1, .int a1), (2, .int a2)]) rfl ?_
      exact w_X12_dependsOn_b74 C hrt hG  ih _ _ _ _ h
set_option maxRecDepth 100000 in
set_option maxHeartbeats 4000000 in
theorem w_X12_dependsOn_b34 {a1 : Int32} {a2 : Int32} (C : Cx p s m [.ref (ad 10 0 0), .int a1, .int a2].toArray meth c cX12_dependsOn 5 wsX12_dependsOn RX12 N0 T D gr ad) (hrt : meth.sig.returnType = (some .boolean)) (hG : ∀ q ∈ [(10, 0)], q ∈ gr) {res : Int32 × Mem} : ∀ (n : Nat) (Y : Mem) (l3 : Int32), X12_dependsOn_b34 a1 a2  n Y l3 = some res → FW p l e (Rm 2) s m [.ref (ad 10 0 0), .int a1, .int a2].toArray below meth c 5 N0 T D gr ad 0 0 (MQ below (va_Qi (fun r Y1 => (r, Y1) = res) (WB T D gr ad) (fun q => N0 ≤ q)) [.ref (ad 10 0 0), .int a1, .int a2].toArray s 0 0 (fun q => N0 ≤ q)) Y 34 [(3, .int l3), (0, .ref (ad 10 0 0)), (1, .int a1), (2, .int a2)] [] := by
  intro n
  induction n with
  | zero =>
    intro Y l3 h
    unfold X12_dependsOn_b34 at h
    cases h
  | succ n ih =>
    intro Y l3 h
    unfold X12_dependsOn_b34 at h
    refine fw_iload_n C dX12_dependsOn_34 rfl 0 rfl ?_
    refine fw_aload_n C dX12_dependsOn_35 rfl 1 rfl ?_
    refine fw_get C (ci := 10) (Cn := RX12) (Tc := TX12) (N := 19) (j := 0) ly_X12_dependsOn_12 rfl (hG _ (List.mem_of_getElem? (i := 0) rfl)) (of10_0 _) (ce10 T ad _ _) (by decide) (cx_ts C _ fl_X12_dependsOn_13) (fun _ h => h) (v := .ref (ad 10 0 1)) rfl dX12_dependsOn_36 ?_
    refine fw_bipush C dX12_dependsOn_39 (v := 13) rfl ?_
    obtain ⟨b8, h⟩ := gd_some h
    refine fw_iald2 C (hG _ (List.mem_of_getElem? (i := 0) rfl)) (of10_1 _) (ca10_1 T ad _ _) b8 (Nat.le_of_ble_eq_true rfl) dX12_dependsOn_41 ?_
    refine fw_icmp_ge C dX12_dependsOn_42 (tgt := 58) rfl (fun c9 => ?_) (fun c9 => ?_)
    · have h := ite_t c9 h
      refine fw_aload_n C dX12_dependsOn_58 rfl 1 rfl ?_
      refine fw_get C (ci := 10) (Cn := RX12) (Tc := TX12) (N := 19) (j := 12) ly_X12_dependsOn_12 rfl (hG _ (List.mem_of_getElem? (i := 0) rfl)) (of10_0 _) (ce10 T ad _ _) (by decide) (cx_ts C _ fl_X12_dependsOn_48) (fun _ h => h) (v := .ref (ad 10 0 7)) rfl dX12_dependsOn_59 ?_
      refine fw_iload_n C dX12_dependsOn_62 rfl 2 rfl ?_
      refine fw_iconst C dX12_dependsOn_63 (v := 1) rfl ?_
      obtain ⟨b10, h⟩ := gd_some h
      obtain ⟨Y11, e12, h⟩ := lt_some h
      refine fw_zast2 C (hG _ (List.mem_of_getElem? (i := 0) rfl)) (of10_7 _) (ca10_7 T ad _) b10 (Nat.le_of_ble_eq_true rfl) dX12_dependsOn_64 ?_
      refine fw_mem e12 ?_
      refine fw_iload_n C dX12_dependsOn_65 rfl 2 rfl ?_
      refine fw_istore_n C dX12_dependsOn_66 rfl (by decide) (L' := [(3, .int a1), (0, .ref (ad 10 0 0)), (1, .int a1), (2, .int a2)]) rfl ?_
      exact w_X12_dependsOn_b67 C hrt hG   _ _ _ h
    · have h := ite_f c9 h
      refine fw_aload_n C dX12_dependsOn_45 rfl 1 rfl ?_
      refine fw_get C (ci := 10) (Cn := RX12) (Tc := TX12) (N := 19) (j := 12) ly_X12_dependsOn_12 rfl (hG _ (List.mem_of_getElem? (i := 0) rfl)) (of10_0 _) (ce10 T ad _ _) (by decide) (cx_ts C _ fl_X12_dependsOn_48) (fun _ h => h) (v := .ref (ad 10 0 7)) rfl dX12_dependsOn_46 ?_
      refine fw_iload_n C dX12_dependsOn_49 rfl 0 rfl ?_
      refine fw_iconst C dX12_dependsOn_50 (v := 0) rfl ?_
      obtain ⟨b27, h⟩ := gd_some h
      obtain ⟨Y28, e29, h⟩ := lt_some h
      refine fw_zast2 C (hG _ (List.mem_of_getElem? (i := 0) rfl)) (of10_7 _) (ca10_7 T ad _) b27 (Nat.le_of_ble_eq_true rfl) dX12_dependsOn_51 ?_
      refine fw_mem e29 ?_
      refine fw_iinc C dX12_dependsOn_52 (kk := 0) (v := l3 + 1) rfl rfl (by decide) (L' := [(3, .int (l3 + 1)), (0, .ref (ad 10 0 0)), (1, .int a1), (2, .int a2)]) rfl ?_
      refine fw_goto C dX12_dependsOn_55 (tgt := 34) rfl ?_
      exact ih _ _ h
set_option maxRecDepth 100000 in
set_option maxHeartbeats 4000000 in
theorem w_X12_dependsOn_b22 {a1 : Int32} {a2 : Int32} (C : Cx p s m [.ref (ad 10 0 0), .int a1, .int a2].toArray meth c cX12_dependsOn 5 wsX12_dependsOn RX12 N0 T D gr ad) (hrt : meth.sig.returnType = (some .boolean)) (hG : ∀ q ∈ [(10, 0)], q ∈ gr) {res : Int32 × Mem} (Y : Mem) (s0 : Int32) (h : X12_dependsOn_b22 a1 a2  Y s0 = some res) : FW p l e (Rm 2) s m [.ref (ad 10 0 0), .int a1, .int a2].toArray below meth c 5 N0 T D gr ad 0 0 (MQ below (va_Qi (fun r Y1 => (r, Y1) = res) (WB T D gr ad) (fun q => N0 ≤ q)) [.ref (ad 10 0 0), .int a1, .int a2].toArray s 0 0 (fun q => N0 ≤ q)) Y 22 [(0, .ref (ad 10 0 0)), (1, .int a1), (2, .int a2)] [.int s0, .ref (ad 10 0 0)] := by
  unfold X12_dependsOn_b22 at h
  refine fw_iconst C dX12_dependsOn_22 (v := 0) rfl ?_
  refine fw_iconst C dX12_dependsOn_23 (v := 0) rfl ?_
  obtain ⟨r4, Y6, q5, h⟩ := bd2_some h
  refine fw_callVi C (ci := 10) (Cn := RX12) (Tc := TX12) (N := 19) (As := [.int s0, .int 0, .int 0]) (c_X12_fails (gac (hG _ (List.mem_of_getElem? (i := 0) rfl)) ga0) q5) (cwV 3 (cx_ts C) gX12_dependsOn_X12_fails rfl rfl rfl (by decide +kernel) ⟨Nat.le_of_ble_eq_true rfl, Nat.le_of_ble_eq_true rfl⟩) rfl (hG _ (List.mem_of_getElem? (i := 0) rfl)) (of10_0 _) (ce10 T ad _ _) rfl (st := []) rfl (Nat.le_of_ble_eq_true rfl) ⟨Nat.le_refl 0, Nat.le_refl 0⟩ dX12_dependsOn_24 (ppw ?_)
  refine fw_if_eq C dX12_dependsOn_27 (tgt := 32) rfl (fun c7 => ?_) (fun c7 => ?_)
  · have h := ite_t c7 h
    refine fw_iconst C dX12_dependsOn_32 (v := 0) rfl ?_
    refine fw_istore_n C dX12_dependsOn_33 rfl (by decide) (L' := [(3, .int 0), (0, .ref (ad 10 0 0)), (1, .int a1), (2, .int a2)]) rfl ?_
    exact w_X12_dependsOn_b34 C hrt hG   _ _ _ h
  · have h := ite_f c7 h
    refine fw_iconst C dX12_dependsOn_30 (v := 0) rfl ?_
    exact fw_zret C hrt (by decide) Y6 (Option.some.inj h) (fun t ht => ht) dX12_dependsOn_31
set_option maxRecDepth 100000 in
set_option maxHeartbeats 4000000 in
theorem w_X12_dependsOn_b17 {a1 : Int32} {a2 : Int32} (C : Cx p s m [.ref (ad 10 0 0), .int a1, .int a2].toArray meth c cX12_dependsOn 5 wsX12_dependsOn RX12 N0 T D gr ad) (hrt : meth.sig.returnType = (some .boolean)) (hG : ∀ q ∈ [(10, 0)], q ∈ gr) {res : Int32 × Mem} (Y : Mem) (h : X12_dependsOn_b17 a1 a2  Y = some res) : FW p l e (Rm 2) s m [.ref (ad 10 0 0), .int a1, .int a2].toArray below meth c 5 N0 T D gr ad 0 0 (MQ below (va_Qi (fun r Y1 => (r, Y1) = res) (WB T D gr ad) (fun q => N0 ≤ q)) [.ref (ad 10 0 0), .int a1, .int a2].toArray s 0 0 (fun q => N0 ≤ q)) Y 17 [(0, .ref (ad 10 0 0)), (1, .int a1), (2, .int a2)] [.ref (ad 10 0 0)] := by
  unfold X12_dependsOn_b17 at h
  refine fw_iconst C dX12_dependsOn_17 (v := 1) rfl ?_
  refine fw_goto C dX12_dependsOn_18 (tgt := 22) rfl ?_
  exact w_X12_dependsOn_b22 C hrt hG   _ _ h
set_option maxRecDepth 100000 in
set_option maxHeartbeats 4000000 in
theorem w_X12_dependsOn {Y : Mem} {a1 : Int32} {a2 : Int32} (C : Cx p s m [.ref (ad 10 0 0), .int a1, .int a2].toArray meth c cX12_dependsOn 5 wsX12_dependsOn RX12 N0 T D gr ad) (hrt : meth.sig.returnType = (some .boolean)) (hG : ∀ q ∈ [(10, 0)], q ∈ gr) {res : Int32 × Mem} (h : X12_dependsOn Y a1 a2 = some res) : FW p l e (Rm 2) s m [.ref (ad 10 0 0), .int a1, .int a2].toArray below meth c 5 N0 T D gr ad 0 0 (MQ below (va_Qi (fun r Y1 => (r, Y1) = res) (WB T D gr ad) (fun q => N0 ≤ q)) [.ref (ad 10 0 0), .int a1, .int a2].toArray s 0 0 (fun q => N0 ≤ q)) Y 0 [(0, .ref (ad 10 0 0)), (1, .int a1), (2, .int a2)] [] := by
  unfold X12_dependsOn at h
  refine fw_aload_n C dX12_dependsOn_0 rfl 0 rfl ?_
  refine fw_aload_n C dX12_dependsOn_1 rfl 0 rfl ?_
  refine fw_iload_n C dX12_dependsOn_2 rfl 1 rfl ?_
  obtain ⟨r1, q2, h⟩ := bd1_some h
  refine fw_callVi C (ci := 10) (Cn := RX12) (Tc := TX12) (N := 19) (As := [.int a1]) (c_X12_isStep (gac (hG _ (List.mem_of_getElem? (i := 0) rfl)) ga0) q2) (cwV 1 (cx_ts C) gX12_dependsOn_X12_isStep rfl rfl rfl (by decide +kernel) ⟨Nat.le_of_ble_eq_true rfl, Nat.le_of_ble_eq_true rfl⟩) rfl (hG _ (List.mem_of_getElem? (i := 0) rfl)) (of10_0 _) (ce10 T ad _ _) rfl (st := [.ref (ad 10 0 0)]) rfl (Nat.le_of_ble_eq_true rfl) ⟨Nat.le_refl 0, Nat.le_refl 0⟩ dX12_dependsOn_3 (pp2 ?_)
  refine fw_if_eq C dX12_dependsOn_6 (tgt := 17) rfl (fun c3 => ?_) (fun c3 => ?_)
  · have h := ite_t c3 h
    exact w_X12_dependsOn_b17 C hrt hG   _ h
  · have h := ite_f c3 h
    refine fw_aload_n C dX12_dependsOn_9 rfl 0 rfl ?_
    refine fw_iload_n C dX12_dependsOn_10 rfl 2 rfl ?_
    obtain ⟨r30, q31, h⟩ := bd1_some h
    refine fw_callVi C (ci := 10) (Cn := RX12) (Tc := TX12) (N := 19) (As := [.int a2]) (c_X12_isStep (gac (hG _ (List.mem_of_getElem? (i := 0) rfl)) ga0) q31) (cwV 1 (cx_ts C) gX12_dependsOn_X12_isStep rfl rfl rfl (by decide +kernel) ⟨Nat.le_of_ble_eq_true rfl, Nat.le_of_ble_eq_true rfl⟩) rfl (hG _ (List.mem_of_getElem? (i := 0) rfl)) (of10_0 _) (ce10 T ad _ _) rfl (st := [.ref (ad 10 0 0)]) rfl (Nat.le_of_ble_eq_true rfl) ⟨Nat.le_refl 0, Nat.le_refl 0⟩ dX12_dependsOn_11 (pp2 ?_)
    refine fw_if_ne C dX12_dependsOn_14 (tgt := 21) rfl (fun c32 => ?_) (fun c32 => ?_)
    · have h := ite_f c32 h
      refine fw_iconst C dX12_dependsOn_21 (v := 0) rfl ?_
      exact w_X12_dependsOn_b22 C hrt hG   _ _ h
    · have h := ite_t c32 h
      exact w_X12_dependsOn_b17 C hrt hG   _ h
end
set_option maxRecDepth 100000 in
set_option maxHeartbeats 4000000 in
theorem c_X12_dependsOn {l : Launch} {N0 : Nat} {T : Nat → ClassId} {D : va_G} {gr : List (Nat × Nat)} {ad : Nat → Nat → Nat → Nat} {Y : Mem} {a1 : Int32} {a2 : Int32} {res : Int32 × Mem} (hG : ∀ q ∈ [(10, 0)], q ∈ gr) (h : X12_dependsOn Y a1 a2 = some res) : CI l yX12_dependsOn wsX12_dependsOn (Rm 2) N0 T D gr ad Y [.ref (ad 10 0 0), .int a1, .int a2] (fun r Y1 => (r, Y1) = res) :=
  fw_body (by decide +kernel) rfl (Nat.le_of_ble_eq_true rfl) (fun p e s m below meth c C hrt => w_X12_dependsOn C hrt hG  h)
theorem ly_X12_passMinutes_12 : ∀ w ∈ u_ws RX12 TX12 19, w ∈ wsX12_passMinutes := by decide +kernel
theorem fl_X12_passMinutes_13 : Cond.fieldLink RX12 13 "RecipeSchedulerModel" "m" "[I" ∈ wsX12_passMinutes := by decide +kernel
section
variable {p : Program} {l : Launch} {e : Env} {s : State} {m : MethodId} {below : List Frame} {meth : Method} {c : Code} {N0 : Nat} {T : Nat → ClassId} {D : va_G} {gr : List (Nat × Nat)} {ad : Nat → Nat → Nat → Nat}
set_option maxRecDepth 100000 in
set_option maxHeartbeats 4000000 in
theorem w_X12_passMinutes_b10 {a1 : Int32} (C : Cx p s m [.ref (ad 10 0 0), .int a1].toArray meth c cX12_passMinutes 4 wsX12_passMinutes RX12 N0 T D gr ad) (hrt : meth.sig.returnType = (some .int)) (hG : ∀ q ∈ [(10, 0)], q ∈ gr) {res : Int32 × Mem} : ∀ (n : Nat) (Y : Mem) (l3 : Int32) (l2 : Int32), X12_passMinutes_b10 a1  n Y l3 l2 = some res → FW p l e (Rm 8) s m [.ref (ad 10 0 0), .int a1].toArray below meth c 4 N0 T D gr ad 0 0 (MQ below (va_Qi (fun r Y1 => (r, Y1) = res) (WB T D gr ad) (fun q => N0 ≤ q)) [.ref (ad 10 0 0), .int a1].toArray s 0 0 (fun q => N0 ≤ q)) Y 10 [(3, .int l3), (2, .int l2), (0, .ref (ad 10 0 0)), (1, .int a1)] [] := by
  intro n
  induction n with
  | zero =>
    intro Y l3 l2 h
    unfold X12_passMinutes_b10 at h
    cases h
  | succ n ih =>
    intro Y l3 l2 h
    unfold X12_passMinutes_b10 at h
    refine fw_iload_n C dX12_passMinutes_10 rfl 0 rfl ?_
    refine fw_iload_n C dX12_passMinutes_11 rfl 3 rfl ?_
    refine fw_icmp_ge C dX12_passMinutes_12 (tgt := 25) rfl (fun c4 => ?_) (fun c4 => ?_)
    · have h := ite_t c4 h
      refine fw_aload_n C dX12_passMinutes_25 rfl 2 rfl ?_
      refine fw_get C (ci := 10) (Cn := RX12) (Tc := TX12) (N := 19) (j := 0) ly_X12_passMinutes_12 rfl (hG _ (List.mem_of_getElem? (i := 0) rfl)) (of10_0 _) (ce10 T ad _ _) (by decide) (cx_ts C _ fl_X12_passMinutes_13) (fun _ h => h) (v := .ref (ad 10 0 1)) rfl dX12_passMinutes_26 ?_
      refine fw_bipush C dX12_passMinutes_29 (v := 8) rfl ?_
      obtain ⟨b5, h⟩ := gd_some h
      refine fw_iald2 C (hG _ (List.mem_of_getElem? (i := 0) rfl)) (of10_1 _) (ca10_1 T ad _ _) b5 (Nat.le_of_ble_eq_true rfl) dX12_passMinutes_31 ?_
      refine fw_iload_n C dX12_passMinutes_32 rfl 1 rfl ?_
      refine fw_isub C dX12_passMinutes_33 ?_
      exact fw_iret C hrt Y (Option.some.inj h) (fun t ht => ht) dX12_passMinutes_34
    · have h := ite_f c4 h
      refine fw_aload_n C dX12_passMinutes_15 rfl 2 rfl ?_
      obtain ⟨Y8, q7, h⟩ := bd1_some h
      refine fw_callVv C (ci := 10) (Cn := RX12) (Tc := TX12) (N := 19) (As := []) (c_X12_passMinute (gac (hG _ (List.mem_of_getElem? (i := 0) rfl)) ga0) q7) (cwV 0 (cx_ts C) gX12_passMinutes_X12_passMinute rfl rfl rfl (by decide +kernel) ⟨Nat.le_of_ble_eq_true rfl, Nat.le_of_ble_eq_true rfl⟩) rfl (hG _ (List.mem_of_getElem? (i := 0) rfl)) (of10_0 _) (ce10 T ad _ _) rfl (st := []) rfl (Nat.le_of_ble_eq_true rfl) ⟨Nat.le_refl 0, Nat.le_refl 0⟩ dX12_passMinutes_16 (ppv ?_)
      refine fw_iinc C dX12_passMinutes_19 (kk := 0) (v := l3 + 1) rfl rfl (by decide) (L' := [(3, .int (l3 + 1)), (2, .int l2), (0, .ref (ad 10 0 0)), (1, .int a1)]) rfl ?_
      refine fw_goto C dX12_passMinutes_22 (tgt := 10) rfl ?_
      exact ih _ _ _ h
set_option maxRecDepth 100000 in
set_option maxHeartbeats 4000000 in
theorem w_X12_passMinutes {Y : Mem} {a1 : Int32} (C : Cx p s m [.ref (ad 10 0 0), .int a1].toArray meth c cX12_passMinutes 4 wsX12_passMinutes RX12 N0 T D gr ad) (hrt : meth.sig.returnType = (some .int)) (hG : ∀ q ∈ [(10, 0)], q ∈ gr) {res : Int32 × Mem} (h : X12_passMinutes Y a1 = some res) : FW p l e (Rm 8) s m [.ref (ad 10 0 0), .int a1].toArray below meth c 4 N0 T D gr ad 0 0 (MQ below (va_Qi (fun r Y1 => (r, Y1) = res) (WB T D gr ad) (fun q => N0 ≤ q)) [.ref (ad 10 0 0), .int a1].toArray s 0 0 (fun q => N0 ≤ q)) Y 0 [(0, .ref (ad 10 0 0)), (1, .int a1)] [] := by
  unfold X12_passMinutes at h
  refine fw_aload_n C dX12_passMinutes_0 rfl 0 rfl ?_
  refine fw_get C (ci := 10) (Cn := RX12) (Tc := TX12) (N := 19) (j := 0) ly_X12_passMinutes_12 rfl (hG _ (List.mem_of_getElem? (i := 0) rfl)) (of10_0 _) (ce10 T ad _ _) (by decide) (cx_ts C _ fl_X12_passMinutes_13) (fun _ h => h) (v := .ref (ad 10 0 1)) rfl dX12_passMinutes_1 ?_
  refine fw_bipush C dX12_passMinutes_4 (v := 8) rfl ?_
  obtain ⟨b1, h⟩ := gd_some h
  refine fw_iald2 C (hG _ (List.mem_of_getElem? (i := 0) rfl)) (of10_1 _) (ca10_1 T ad _ _) b1 (Nat.le_of_ble_eq_true rfl) dX12_passMinutes_6 ?_
  obtain ⟨v2, e3, h⟩ := lt_some h
  refine fw_top (v' := .int v2) (by rw [e3]) ?_
  refine fw_istore_n C dX12_passMinutes_7 rfl (by decide) (L' := [(2, .int v2), (0, .ref (ad 10 0 0)), (1, .int a1)]) rfl ?_
  refine fw_iconst C dX12_passMinutes_8 (v := 0) rfl ?_
  refine fw_istore_n C dX12_passMinutes_9 rfl (by decide) (L' := [(3, .int 0), (2, .int v2), (0, .ref (ad 10 0 0)), (1, .int a1)]) rfl ?_
  exact w_X12_passMinutes_b10 C hrt hG   _ _ _ _ h
end
set_option maxRecDepth 100000 in
set_option maxHeartbeats 4000000 in
theorem c_X12_passMinutes {l : Launch} {N0 : Nat} {T : Nat → ClassId} {D : va_G} {gr : List (Nat × Nat)} {ad : Nat → Nat → Nat → Nat} {Y : Mem} {a1 : Int32} {res : Int32 × Mem} (hG : ∀ q ∈ [(10, 0)], q ∈ gr) (h : X12_passMinutes Y a1 = some res) : CI l yX12_passMinutes wsX12_passMinutes (Rm 8) N0 T D gr ad Y [.ref (ad 10 0 0), .int a1] (fun r Y1 => (r, Y1) = res) :=
  fw_body (by decide +kernel) rfl (Nat.le_of_ble_eq_true rfl) (fun p e s m below meth c C hrt => w_X12_passMinutes C hrt hG  h)
theorem ly_X12_stopIt_12 : ∀ w ∈ u_ws RX12 TX12 19, w ∈ wsX12_stopIt := by decide +kernel
theorem fl_X12_stopIt_13 : Cond.fieldLink RX12 13 "RecipeSchedulerModel" "m" "[I" ∈ wsX12_stopIt := by decide +kernel
section
variable {p : Program} {l : Launch} {e : Env} {s : State} {m : MethodId} {below : List Frame} {meth : Method} {c : Code} {N0 : Nat} {T : Nat → ClassId} {D : va_G} {gr : List (Nat × Nat)} {ad : Nat → Nat → Nat → Nat}
set_option maxRecDepth 100000 in
set_option maxHeartbeats 4000000 in
theorem w_X12_stopIt {Y : Mem} {a1 : Int32} (C : Cx p s m [.ref (ad 10 0 0), .int a1].toArray meth c cX12_stopIt 3 wsX12_stopIt RX12 N0 T D gr ad) (hrt : meth.sig.returnType = (some .int)) (hG : ∀ q ∈ [(10, 0)], q ∈ gr) {res : Int32 × Mem} (h : X12_stopIt Y a1 = some res) : FW p l e (Rm 1) s m [.ref (ad 10 0 0), .int a1].toArray below meth c 3 N0 T D gr ad 0 0 (MQ below (va_Qi (fun r Y1 => (r, Y1) = res) (WB T D gr ad) (fun q => N0 ≤ q)) [.ref (ad 10 0 0), .int a1].toArray s 0 0 (fun q => N0 ≤ q)) Y 0 [(0, .ref (ad 10 0 0)), (1, .int a1)] [] := by
  unfold X12_stopIt at h
  refine fw_aload_n C dX12_stopIt_0 rfl 0 rfl ?_
  refine fw_iload_n C dX12_stopIt_1 rfl 1 rfl ?_
  refine fw_bipush C dX12_stopIt_2 (v := 18) rfl ?_
  obtain ⟨r1, q2, h⟩ := bd1_some h
  refine fw_callVi C (ci := 10) (Cn := RX12) (Tc := TX12) (N := 19) (As := [.int a1, .int 18]) (c_X12_of (gac (hG _ (List.mem_of_getElem? (i := 0) rfl)) ga0) q2) (cwV 2 (cx_ts C) gX12_stopIt_X12_of rfl rfl rfl (by decide +kernel) ⟨Nat.le_of_ble_eq_true rfl, Nat.le_of_ble_eq_true rfl⟩) rfl (hG _ (List.mem_of_getElem? (i := 0) rfl)) (of10_0 _) (ce10 T ad _ _) rfl (st := []) rfl (Nat.le_of_ble_eq_true rfl) ⟨Nat.le_refl 0, Nat.le_refl 0⟩ dX12_stopIt_4 (pp2 ?_)
  refine fw_istore_n C dX12_stopIt_7 rfl (by decide) (L' := [(2, .int r1), (0, .ref (ad 10 0 0)), (1, .int a1)]) rfl ?_
  refine fw_aload_n C dX12_stopIt_8 rfl 1 rfl ?_
  refine fw_iload_n C dX12_stopIt_9 rfl 2 rfl ?_
  refine fw_bipush C dX12_stopIt_10 (v := 17) rfl ?_
  refine fw_iconst C dX12_stopIt_12 (v := 0) rfl ?_
  obtain ⟨Y5, q4, h⟩ := bd1_some h
  refine fw_callVv C (ci := 10) (Cn := RX12) (Tc := TX12) (N := 19) (As := [.int a1, .int 17, .int 0]) (c_X12_set (gac (hG _ (List.mem_of_getElem? (i := 0) rfl)) ga0) q4) (cwV 3 (cx_ts C) gX12_stopIt_X12_set rfl rfl rfl (by decide +kernel) ⟨Nat.le_of_ble_eq_true rfl, Nat.le_of_ble_eq_true rfl⟩) rfl (hG _ (List.mem_of_getElem? (i := 0) rfl)) (of10_0 _) (ce10 T ad _ _) rfl (st := []) rfl (Nat.le_of_ble_eq_true rfl) ⟨Nat.le_refl 0, Nat.le_refl 0⟩ dX12_stopIt_13 (ppv ?_)
  refine fw_aload_n C dX12_stopIt_16 rfl 1 rfl ?_
  refine fw_iload_n C dX12_stopIt_17 rfl 2 rfl ?_
  refine fw_bipush C dX12_stopIt_18 (v := 18) rfl ?_
  refine fw_iconst C dX12_stopIt_20 (v := 0) rfl ?_
  obtain ⟨Y8, q7, h⟩ := bd1_some h
  refine fw_callVv C (ci := 10) (Cn := RX12) (Tc := TX12) (N := 19) (As := [.int a1, .int 18, .int 0]) (c_X12_set (gac (hG _ (List.mem_of_getElem? (i := 0) rfl)) ga0) q7) (cwV 3 (cx_ts C) gX12_stopIt_X12_set rfl rfl rfl (by decide +kernel) ⟨Nat.le_of_ble_eq_true rfl, Nat.le_of_ble_eq_true rfl⟩) rfl (hG _ (List.mem_of_getElem? (i := 0) rfl)) (of10_0 _) (ce10 T ad _ _) rfl (st := []) rfl (Nat.le_of_ble_eq_true rfl) ⟨Nat.le_refl 0, Nat.le_refl 0⟩ dX12_stopIt_21 (ppv ?_)
  refine fw_aload_n C dX12_stopIt_24 rfl 1 rfl ?_
  refine fw_get C (ci := 10) (Cn := RX12) (Tc := TX12) (N := 19) (j := 0) ly_X12_stopIt_12 rfl (hG _ (List.mem_of_getElem? (i := 0) rfl)) (of10_0 _) (ce10 T ad _ _) (by decide) (cx_ts C _ fl_X12_stopIt_13) (fun _ h => h) (v := .ref (ad 10 0 1)) rfl dX12_stopIt_25 ?_
  refine fw_bipush C dX12_stopIt_28 (v := 11) rfl ?_
  refine fw_dup2 C dX12_stopIt_30 rfl rfl ?_
  obtain ⟨b9, h⟩ := gd_some h
  refine fw_iald2 C (hG _ (List.mem_of_getElem? (i := 0) rfl)) (of10_1 _) (ca10_1 T ad _ _) b9 (Nat.le_of_ble_eq_true rfl) dX12_stopIt_31 ?_
  refine fw_iconst C dX12_stopIt_32 (v := 1) rfl ?_
  refine fw_iadd C dX12_stopIt_33 ?_
  obtain ⟨Y10, e11, h⟩ := lt_some h
  refine fw_iast2 C (hG _ (List.mem_of_getElem? (i := 0) rfl)) (of10_1 _) (ca10_1 T ad _) b9 (Nat.le_of_ble_eq_true rfl) dX12_stopIt_34 ?_
  refine fw_mem e11 ?_
  refine fw_iload_n C dX12_stopIt_35 rfl 0 rfl ?_
  exact fw_iret C hrt Y10 (Option.some.inj h) (fun t ht => ht) dX12_stopIt_36
end
set_option maxRecDepth 100000 in
set_option maxHeartbeats 4000000 in
theorem c_X12_stopIt {l : Launch} {N0 : Nat} {T : Nat → ClassId} {D : va_G} {gr : List (Nat × Nat)} {ad : Nat → Nat → Nat → Nat} {Y : Mem} {a1 : Int32} {res : Int32 × Mem} (hG : ∀ q ∈ [(10, 0)], q ∈ gr) (h : X12_stopIt Y a1 = some res) : CI l yX12_stopIt wsX12_stopIt (Rm 1) N0 T D gr ad Y [.ref (ad 10 0 0), .int a1] (fun r Y1 => (r, Y1) = res) :=
  fw_body (by decide +kernel) rfl (Nat.le_of_ble_eq_true rfl) (fun p e s m below meth c C hrt => w_X12_stopIt C hrt hG  h)
section
variable {p : Program} {l : Launch} {e : Env} {s : State} {m : MethodId} {below : List Frame} {meth : Method} {c : Code} {N0 : Nat} {T : Nat → ClassId} {D : va_G} {gr : List (Nat × Nat)} {ad : Nat → Nat → Nat → Nat}
set_option maxRecDepth 100000 in
set_option maxHeartbeats 4000000 in
theorem w_X12_redoIt {Y : Mem} {a1 : Int32} (C : Cx p s m [.ref (ad 10 0 0), .int a1].toArray meth c cX12_redoIt 3 wsX12_redoIt RX12 N0 T D gr ad) (hrt : meth.sig.returnType = (some .int)) (hG : ∀ q ∈ [(10, 0)], q ∈ gr) {res : Int32 × Mem} (h : X12_redoIt Y a1 = some res) : FW p l e (Rm 1) s m [.ref (ad 10 0 0), .int a1].toArray below meth c 3 N0 T D gr ad 0 0 (MQ below (va_Qi (fun r Y1 => (r, Y1) = res) (WB T D gr ad) (fun q => N0 ≤ q)) [.ref (ad 10 0 0), .int a1].toArray s 0 0 (fun q => N0 ≤ q)) Y 0 [(0, .ref (ad 10 0 0)), (1, .int a1)] [] := by
  unfold X12_redoIt at h
  refine fw_aload_n C dX12_redoIt_0 rfl 0 rfl ?_
  refine fw_iload_n C dX12_redoIt_1 rfl 1 rfl ?_
  refine fw_bipush C dX12_redoIt_2 (v := 19) rfl ?_
  obtain ⟨r1, q2, h⟩ := bd1_some h
  refine fw_callVi C (ci := 10) (Cn := RX12) (Tc := TX12) (N := 19) (As := [.int a1, .int 19]) (c_X12_of (gac (hG _ (List.mem_of_getElem? (i := 0) rfl)) ga0) q2) (cwV 2 (cx_ts C) gX12_redoIt_X12_of rfl rfl rfl (by decide +kernel) ⟨Nat.le_of_ble_eq_true rfl, Nat.le_of_ble_eq_true rfl⟩) rfl (hG _ (List.mem_of_getElem? (i := 0) rfl)) (of10_0 _) (ce10 T ad _ _) rfl (st := []) rfl (Nat.le_of_ble_eq_true rfl) ⟨Nat.le_refl 0, Nat.le_refl 0⟩ dX12_redoIt_4 (pp2 ?_)
  refine fw_istore_n C dX12_redoIt_7 rfl (by decide) (L' := [(2, .int r1), (0, .ref (ad 10 0 0)), (1, .int a1)]) rfl ?_
  refine fw_aload_n C dX12_redoIt_8 rfl 1 rfl ?_
  refine fw_iload_n C dX12_redoIt_9 rfl 2 rfl ?_
  refine fw_bipush C dX12_redoIt_10 (v := 17) rfl ?_
  refine fw_iconst C dX12_redoIt_12 (v := 0) rfl ?_
  obtain ⟨Y5, q4, h⟩ := bd1_some h
  refine fw_callVv C (ci := 10) (Cn := RX12) (Tc := TX12) (N := 19) (As := [.int a1, .int 17, .int 0]) (c_X12_set (gac (hG _ (List.mem_of_getElem? (i := 0) rfl)) ga0) q4) (cwV 3 (cx_ts C) gX12_redoIt_X12_set rfl rfl rfl (by decide +kernel) ⟨Nat.le_of_ble_eq_true rfl, Nat.le_of_ble_eq_true rfl⟩) rfl (hG _ (List.mem_of_getElem? (i := 0) rfl)) (of10_0 _) (ce10 T ad _ _) rfl (st := []) rfl (Nat.le_of_ble_eq_true rfl) ⟨Nat.le_refl 0, Nat.le_refl 0⟩ dX12_redoIt_13 (ppv ?_)
  refine fw_aload_n C dX12_redoIt_16 rfl 1 rfl ?_
  refine fw_iload_n C dX12_redoIt_17 rfl 2 rfl ?_
  refine fw_bipush C dX12_redoIt_18 (v := 19) rfl ?_
  refine fw_iconst C dX12_redoIt_20 (v := 0) rfl ?_
  obtain ⟨Y8, q7, h⟩ := bd1_some h
  refine fw_callVv C (ci := 10) (Cn := RX12) (Tc := TX12) (N := 19) (As := [.int a1, .int 19, .int 0]) (c_X12_set (gac (hG _ (List.mem_of_getElem? (i := 0) rfl)) ga0) q7) (cwV 3 (cx_ts C) gX12_redoIt_X12_set rfl rfl rfl (by decide +kernel) ⟨Nat.le_of_ble_eq_true rfl, Nat.le_of_ble_eq_true rfl⟩) rfl (hG _ (List.mem_of_getElem? (i := 0) rfl)) (of10_0 _) (ce10 T ad _ _) rfl (st := []) rfl (Nat.le_of_ble_eq_true rfl) ⟨Nat.le_refl 0, Nat.le_refl 0⟩ dX12_redoIt_21 (ppv ?_)
  refine fw_iload_n C dX12_redoIt_24 rfl 0 rfl ?_
  exact fw_iret C hrt Y8 (Option.some.inj h) (fun t ht => ht) dX12_redoIt_25
end
set_option maxRecDepth 100000 in
set_option maxHeartbeats 4000000 in
theorem c_X12_redoIt {l : Launch} {N0 : Nat} {T : Nat → ClassId} {D : va_G} {gr : List (Nat × Nat)} {ad : Nat → Nat → Nat → Nat} {Y : Mem} {a1 : Int32} {res : Int32 × Mem} (hG : ∀ q ∈ [(10, 0)], q ∈ gr) (h : X12_redoIt Y a1 = some res) : CI l yX12_redoIt wsX12_redoIt (Rm 1) N0 T D gr ad Y [.ref (ad 10 0 0), .int a1] (fun r Y1 => (r, Y1) = res) :=
  fw_body (by decide +kernel) rfl (Nat.le_of_ble_eq_true rfl) (fun p e s m below meth c C hrt => w_X12_redoIt C hrt hG  h)
theorem ly_X12_doIt_12 : ∀ w ∈ u_ws RX12 TX12 19, w ∈ wsX12_doIt := by decide +kernel
theorem fl_X12_doIt_13 : Cond.fieldLink RX12 13 "RecipeSchedulerModel" "m" "[I" ∈ wsX12_doIt := by decide +kernel
section
variable {p : Program} {l : Launch} {e : Env} {s : State} {m : MethodId} {below : List Frame} {meth : Method} {c : Code} {N0 : Nat} {T : Nat → ClassId} {D : va_G} {gr : List (Nat × Nat)} {ad : Nat → Nat → Nat → Nat}
set_option maxRecDepth 100000 in
set_option maxHeartbeats 4000000 in
theorem w_X12_doIt {Y : Mem} {a1 : Int32} {a2 : Int32} {a3 : Int32} (C : Cx p s m [.ref (ad 10 0 0), .int a1, .int a2, .int a3].toArray meth c cX12_doIt 4 wsX12_doIt RX12 N0 T D gr ad) (hrt : meth.sig.returnType = none) (hG : ∀ q ∈ [(10, 0)], q ∈ gr) {res : Mem} (h : X12_doIt Y a1 a2 a3 = some res) : FW p l e (Rm 9) s m [.ref (ad 10 0 0), .int a1, .int a2, .int a3].toArray below meth c 4 N0 T D gr ad 0 0 (MQ below (va_Qv (fun Y1 => Y1 = res) (WB T D gr ad) (fun q => N0 ≤ q)) [.ref (ad 10 0 0), .int a1, .int a2, .int a3].toArray s 0 0 (fun q => N0 ≤ q)) Y 0 [(0, .ref (ad 10 0 0)), (1, .int a1), (2, .int a2), (3, .int a3)] [] := by
  unfold X12_doIt at h
  refine fw_iload_n C dX12_doIt_0 rfl 1 rfl ?_
  by_cases c1 : a1 = 0
  · have h := ite_t c1 h
    refine fw_tableIn C dX12_doIt_1 (by rw [c1]; decide) (by rw [c1]; decide) (off := 43) (by rw [c1]; rfl) (tgt := 44) rfl ?_
    refine fw_aload_n C dX12_doIt_44 rfl 0 rfl ?_
    refine fw_iload_n C dX12_doIt_45 rfl 2 rfl ?_
    obtain ⟨r2, Y4, q3, h⟩ := bd2_some h
    refine fw_callVi C (ci := 10) (Cn := RX12) (Tc := TX12) (N := 19) (As := [.int a2]) (c_X12_passMinutes (gac (hG _ (List.mem_of_getElem? (i := 0) rfl)) ga0) q3) (cwV 1 (cx_ts C) gX12_doIt_X12_passMinutes rfl rfl rfl (by decide +kernel) ⟨Nat.le_of_ble_eq_true rfl, Nat.le_of_ble_eq_true rfl⟩) rfl (hG _ (List.mem_of_getElem? (i := 0) rfl)) (of10_0 _) (ce10 T ad _ _) rfl (st := []) rfl (Nat.le_of_ble_eq_true rfl) ⟨Nat.le_refl 0, Nat.le_refl 0⟩ dX12_doIt_46 (ppw ?_)
    refine fw_pop C dX12_doIt_49 rfl ?_
    refine fw_goto C dX12_doIt_50 (tgt := 126) rfl ?_
    exact fw_vret C hrt Y4 (Option.some.inj h) (fun t ht => ht) dX12_doIt_126
  · have h := ite_f c1 h
    by_cases c5 : a1 = 1
    · have h := ite_t c5 h
      refine fw_tableIn C dX12_doIt_1 (by rw [c5]; decide) (by rw [c5]; decide) (off := 52) (by rw [c5]; rfl) (tgt := 53) rfl ?_
      refine fw_aload_n C dX12_doIt_53 rfl 0 rfl ?_
      refine fw_get C (ci := 10) (Cn := RX12) (Tc := TX12) (N := 19) (j := 0) ly_X12_doIt_12 rfl (hG _ (List.mem_of_getElem? (i := 0) rfl)) (of10_0 _) (ce10 T ad _ _) (by decide) (cx_ts C _ fl_X12_doIt_13) (fun _ h => h) (v := .ref (ad 10 0 1)) rfl dX12_doIt_54 ?_
      refine fw_iconst C dX12_doIt_57 (v := 5) rfl ?_
      refine fw_dup2 C dX12_doIt_58 rfl rfl ?_
      obtain ⟨b6, h⟩ := gd_some h
      refine fw_iald2 C (hG _ (List.mem_of_getElem? (i := 0) rfl)) (of10_1 _) (ca10_1 T ad _ _) b6 (Nat.le_of_ble_eq_true rfl) dX12_doIt_59 ?_
      refine fw_iload_n C dX12_doIt_60 rfl 2 rfl ?_
      refine fw_iadd C dX12_doIt_61 ?_
      obtain ⟨Y7, e8, h⟩ := lt_some h
      refine fw_iast2 C (hG _ (List.mem_of_getElem? (i := 0) rfl)) (of10_1 _) (ca10_1 T ad _) b6 (Nat.le_of_ble_eq_true rfl) dX12_doIt_62 ?_
      refine fw_mem e8 ?_
      refine fw_goto C dX12_doIt_63 (tgt := 126) rfl ?_
      exact fw_vret C hrt Y7 (Option.some.inj h) (fun t ht => ht) dX12_doIt_126
    · have h := ite_f c5 h
      by_cases c9 : a1 = 2
      · have h := ite_t c9 h
        refine fw_tableIn C dX12_doIt_1 (by rw [c9]; decide) (by rw [c9]; decide) (off := 65) (by rw [c9]; rfl) (tgt := 66) rfl ?_
        refine fw_aload_n C dX12_doIt_66 rfl 0 rfl ?_
        refine fw_get C (ci := 10) (Cn := RX12) (Tc := TX12) (N := 19) (j := 0) ly_X12_doIt_12 rfl (hG _ (List.mem_of_getElem? (i := 0) rfl)) (of10_0 _) (ce10 T ad _ _) (by decide) (cx_ts C _ fl_X12_doIt_13) (fun _ h => h) (v := .ref (ad 10 0 1)) rfl dX12_doIt_67 ?_
        refine fw_iconst C dX12_doIt_70 (v := 5) rfl ?_
        refine fw_dup2 C dX12_doIt_71 rfl rfl ?_
        obtain ⟨b10, h⟩ := gd_some h
        refine fw_iald2 C (hG _ (List.mem_of_getElem? (i := 0) rfl)) (of10_1 _) (ca10_1 T ad _ _) b10 (Nat.le_of_ble_eq_true rfl) dX12_doIt_72 ?_
        refine fw_iload_n C dX12_doIt_73 rfl 2 rfl ?_
        refine fw_isub C dX12_doIt_74 ?_
        obtain ⟨Y11, e12, h⟩ := lt_some h
        refine fw_iast2 C (hG _ (List.mem_of_getElem? (i := 0) rfl)) (of10_1 _) (ca10_1 T ad _) b10 (Nat.le_of_ble_eq_true rfl) dX12_doIt_75 ?_
        refine fw_mem e12 ?_
        refine fw_goto C dX12_doIt_76 (tgt := 126) rfl ?_
        exact fw_vret C hrt Y11 (Option.some.inj h) (fun t ht => ht) dX12_doIt_126
      · have h := ite_f c9 h
        by_cases c13 : a1 = 3
        · have h := ite_t c13 h
          refine fw_tableIn C dX12_doIt_1 (by rw [c13]; decide) (by rw [c13]; decide) (off := 78) (by rw [c13]; rfl) (tgt := 79) rfl ?_
          refine fw_aload_n C dX12_doIt_79 rfl 0 rfl ?_
          refine fw_iload_n C dX12_doIt_80 rfl 2 rfl ?_
          obtain ⟨r14, Y16, q15, h⟩ := bd2_some h
          refine fw_callVi C (ci := 10) (Cn := RX12) (Tc := TX12) (N := 19) (As := [.int a2]) (c_X12_stopIt (gac (hG _ (List.mem_of_getElem? (i := 0) rfl)) ga0) q15) (cwV 1 (cx_ts C) gX12_doIt_X12_stopIt rfl rfl rfl (by decide +kernel) ⟨Nat.le_of_ble_eq_true rfl, Nat.le_of_ble_eq_true rfl⟩) rfl (hG _ (List.mem_of_getElem? (i := 0) rfl)) (of10_0 _) (ce10 T ad _ _) rfl (st := []) rfl (Nat.le_of_ble_eq_true rfl) ⟨Nat.le_refl 0, Nat.le_refl 0⟩ dX12_doIt_81 (ppw ?_)
          refine fw_pop C dX12_doIt_84 rfl ?_
          refine fw_goto C dX12_doIt_85 (tgt := 126) rfl ?_
          exact fw_vret C hrt Y16 (Option.some.inj h) (fun t ht => ht) dX12_doIt_126
        · have h := ite_f c13 h
          by_cases c17 : a1 = 4
          · have h := ite_t c17 h
            refine fw_tableIn C dX12_doIt_1 (by rw [c17]; decide) (by rw [c17]; decide) (off := 87) (by rw [c17]; rfl) (tgt := 88) rfl ?_
            refine fw_aload_n C dX12_doIt_88 rfl 0 rfl ?_
            refine fw_iload_n C dX12_doIt_89 rfl 2 rfl ?_
            obtain ⟨r18, Y20, q19, h⟩ := bd2_some h
            refine fw_callVi C (ci := 10) (Cn := RX12) (Tc := TX12) (N := 19) (As := [.int a2]) (c_X12_redoIt (gac (hG _ (List.mem_of_getElem? (i := 0) rfl)) ga0) q19) (cwV 1 (cx_ts C) gX12_doIt_X12_redoIt rfl rfl rfl (by decide +kernel) ⟨Nat.le_of_ble_eq_true rfl, Nat.le_of_ble_eq_true rfl⟩) rfl (hG _ (List.mem_of_getElem? (i := 0) rfl)) (of10_0 _) (ce10 T ad _ _) rfl (st := []) rfl (Nat.le_of_ble_eq_true rfl) ⟨Nat.le_refl 0, Nat.le_refl 0⟩ dX12_doIt_90 (ppw ?_)
            refine fw_pop C dX12_doIt_93 rfl ?_
            refine fw_goto C dX12_doIt_94 (tgt := 126) rfl ?_
            exact fw_vret C hrt Y20 (Option.some.inj h) (fun t ht => ht) dX12_doIt_126
          · have h := ite_f c17 h
            by_cases c21 : a1 = 5
            · have h := ite_t c21 h
              refine fw_tableIn C dX12_doIt_1 (by rw [c21]; decide) (by rw [c21]; decide) (off := 96) (by rw [c21]; rfl) (tgt := 97) rfl ?_
              refine fw_aload_n C dX12_doIt_97 rfl 0 rfl ?_
              refine fw_get C (ci := 10) (Cn := RX12) (Tc := TX12) (N := 19) (j := 0) ly_X12_doIt_12 rfl (hG _ (List.mem_of_getElem? (i := 0) rfl)) (of10_0 _) (ce10 T ad _ _) (by decide) (cx_ts C _ fl_X12_doIt_13) (fun _ h => h) (v := .ref (ad 10 0 1)) rfl dX12_doIt_98 ?_
              refine fw_iconst C dX12_doIt_101 (v := 0) rfl ?_
              refine fw_iload_n C dX12_doIt_102 rfl 2 rfl ?_
              obtain ⟨b22, h⟩ := gd_some h
              obtain ⟨Y23, e24, h⟩ := lt_some h
              refine fw_iast2 C (hG _ (List.mem_of_getElem? (i := 0) rfl)) (of10_1 _) (ca10_1 T ad _) b22 (Nat.le_of_ble_eq_true rfl) dX12_doIt_103 ?_
              refine fw_mem e24 ?_
              refine fw_goto C dX12_doIt_104 (tgt := 126) rfl ?_
              exact fw_vret C hrt Y23 (Option.some.inj h) (fun t ht => ht) dX12_doIt_126
            · have h := ite_f c21 h
              by_cases c25 : a1 = 6
              · have h := ite_t c25 h
                refine fw_tableIn C dX12_doIt_1 (by rw [c25]; decide) (by rw [c25]; decide) (off := 106) (by rw [c25]; rfl) (tgt := 107) rfl ?_
                refine fw_aload_n C dX12_doIt_107 rfl 0 rfl ?_
                refine fw_iload_n C dX12_doIt_108 rfl 2 rfl ?_
                refine fw_bipush C dX12_doIt_109 (v := 7) rfl ?_
                refine fw_iload_n C dX12_doIt_111 rfl 3 rfl ?_
                obtain ⟨Y28, q27, h⟩ := bd1_some h
                refine fw_callVv C (ci := 10) (Cn := RX12) (Tc := TX12) (N := 19) (As := [.int a2, .int 7, .int a3]) (c_X12_set (gac (hG _ (List.mem_of_getElem? (i := 0) rfl)) ga0) q27) (cwV 3 (cx_ts C) gX12_doIt_X12_set rfl rfl rfl (by decide +kernel) ⟨Nat.le_of_ble_eq_true rfl, Nat.le_of_ble_eq_true rfl⟩) rfl (hG _ (List.mem_of_getElem? (i := 0) rfl)) (of10_0 _) (ce10 T ad _ _) rfl (st := []) rfl (Nat.le_of_ble_eq_true rfl) ⟨Nat.le_refl 0, Nat.le_refl 0⟩ dX12_doIt_112 (ppv ?_)
                refine fw_goto C dX12_doIt_115 (tgt := 126) rfl ?_
                exact fw_vret C hrt Y28 (Option.some.inj h) (fun t ht => ht) dX12_doIt_126
              · have h := ite_f c25 h
                have c1 : ¬ (a1).toInt = 0 := fun q => c1 (Int32.toInt_inj.mp (by rw [q]; rfl))
                have c5 : ¬ (a1).toInt = 1 := fun q => c5 (Int32.toInt_inj.mp (by rw [q]; rfl))
                have c9 : ¬ (a1).toInt = 2 := fun q => c9 (Int32.toInt_inj.mp (by rw [q]; rfl))
                have c13 : ¬ (a1).toInt = 3 := fun q => c13 (Int32.toInt_inj.mp (by rw [q]; rfl))
                have c17 : ¬ (a1).toInt = 4 := fun q => c17 (Int32.toInt_inj.mp (by rw [q]; rfl))
                have c21 : ¬ (a1).toInt = 5 := fun q => c21 (Int32.toInt_inj.mp (by rw [q]; rfl))
                have c25 : ¬ (a1).toInt = 6 := fun q => c25 (Int32.toInt_inj.mp (by rw [q]; rfl))
                refine fw_tableOut C dX12_doIt_1 (by omega) (tgt := 118) rfl ?_
                refine fw_aload_n C dX12_doIt_118 rfl 0 rfl ?_
                refine fw_get C (ci := 10) (Cn := RX12) (Tc := TX12) (N := 19) (j := 0) ly_X12_doIt_12 rfl (hG _ (List.mem_of_getElem? (i := 0) rfl)) (of10_0 _) (ce10 T ad _ _) (by decide) (cx_ts C _ fl_X12_doIt_13) (fun _ h => h) (v := .ref (ad 10 0 1)) rfl dX12_doIt_119 ?_
                refine fw_bipush C dX12_doIt_122 (v := 6) rfl ?_
                refine fw_iconst C dX12_doIt_124 (v := 1) rfl ?_
                obtain ⟨b29, h⟩ := gd_some h
                obtain ⟨Y30, e31, h⟩ := lt_some h
                refine fw_iast2 C (hG _ (List.mem_of_getElem? (i := 0) rfl)) (of10_1 _) (ca10_1 T ad _) b29 (Nat.le_of_ble_eq_true rfl) dX12_doIt_125 ?_
                refine fw_mem e31 ?_
                exact fw_vret C hrt Y30 (Option.some.inj h) (fun t ht => ht) dX12_doIt_126
end
set_option maxRecDepth 100000 in
set_option maxHeartbeats 4000000 in
theorem c_X12_doIt {l : Launch} {N0 : Nat} {T : Nat → ClassId} {D : va_G} {gr : List (Nat × Nat)} {ad : Nat → Nat → Nat → Nat} {Y : Mem} {a1 : Int32} {a2 : Int32} {a3 : Int32} {res : Mem} (hG : ∀ q ∈ [(10, 0)], q ∈ gr) (h : X12_doIt Y a1 a2 a3 = some res) : CV l yX12_doIt wsX12_doIt (Rm 9) N0 T D gr ad Y [.ref (ad 10 0 0), .int a1, .int a2, .int a3] (fun Y1 => Y1 = res) :=
  fw_body (by decide +kernel) rfl (Nat.le_of_ble_eq_true rfl) (fun p e s m below meth c C hrt => w_X12_doIt C hrt hG  h)
theorem ly_X12_doneShare_12 : ∀ w ∈ u_ws RX12 TX12 19, w ∈ wsX12_doneShare := by decide +kernel
theorem fl_X12_doneShare_1 : Cond.fieldLink RX12 1 "RecipeSchedulerModel" "thrown" "I" ∈ wsX12_doneShare := by decide +kernel
theorem fl_X12_doneShare_13 : Cond.fieldLink RX12 13 "RecipeSchedulerModel" "m" "[I" ∈ wsX12_doneShare := by decide +kernel
section
variable {p : Program} {l : Launch} {e : Env} {s : State} {m : MethodId} {below : List Frame} {meth : Method} {c : Code} {N0 : Nat} {T : Nat → ClassId} {D : va_G} {gr : List (Nat × Nat)} {ad : Nat → Nat → Nat → Nat}
set_option maxRecDepth 100000 in
set_option maxHeartbeats 4000000 in
theorem w_X12_doneShare {Y : Mem} (C : Cx p s m [.ref (ad 10 0 0)].toArray meth c cX12_doneShare 1 wsX12_doneShare RX12 N0 T D gr ad) (hrt : meth.sig.returnType = (some .float)) (hG : ∀ q ∈ [(10, 0)], q ∈ gr) {res : UInt32 × Mem} (h : X12_doneShare Y = some res) : FW p l e (Rm 2) s m [.ref (ad 10 0 0)].toArray below meth c 1 N0 T D gr ad 0 0 (MQ below (va_Qf (fun r Y1 => (r, Y1) = res) (WB T D gr ad) (fun q => N0 ≤ q)) [.ref (ad 10 0 0)].toArray s 0 0 (fun q => N0 ≤ q)) Y 0 [(0, .ref (ad 10 0 0))] [] := by
  unfold X12_doneShare at h
  refine fw_aload_n C dX12_doneShare_0 rfl 0 rfl ?_
  refine fw_iconst C dX12_doneShare_1 (v := 0) rfl ?_
  obtain ⟨Y1, e2, h⟩ := lt_some h
  refine fw_put C (ci := 10) (Cn := RX12) (Tc := TX12) (N := 19) (j := 9) (ty := .int) (upd (Y 10 0 0) 9 0) ly_X12_doneShare_12 rfl tyX12_ok nmX12 (hG _ (List.mem_of_getElem? (i := 0) rfl)) (of10_0 _) (ce10 T ad _ _) (by decide) (cx_ts C _ fl_X12_doneShare_1) (fun _ h => h) rfl (by decide +kernel) rfl rfl (Nat.le_of_ble_eq_true rfl) (ce10_put9 T ad _ _ _) dX12_doneShare_2 ?_
  refine fw_mem ((up_eq _ _ _ _ _ _).symm.trans e2) ?_
  refine fw_aload_n C dX12_doneShare_5 rfl 0 rfl ?_
  refine fw_iconst C dX12_doneShare_6 (v := 2) rfl ?_
  obtain ⟨r3, q4, h⟩ := bd1_some h
  refine fw_callVi C (ci := 10) (Cn := RX12) (Tc := TX12) (N := 19) (As := [.int 2]) (c_X12_withStatus (gac (hG _ (List.mem_of_getElem? (i := 0) rfl)) ga0) q4) (cwV 1 (cx_ts C) gX12_doneShare_X12_withStatus rfl rfl rfl (by decide +kernel) ⟨Nat.le_of_ble_eq_true rfl, Nat.le_of_ble_eq_true rfl⟩) rfl (hG _ (List.mem_of_getElem? (i := 0) rfl)) (of10_0 _) (ce10 T ad _ _) rfl (st := []) rfl (Nat.le_of_ble_eq_true rfl) ⟨Nat.le_refl 0, Nat.le_refl 0⟩ dX12_doneShare_7 (pp2 ?_)
  refine fw_i2f C dX12_doneShare_10 ?_
  refine fw_aload_n C dX12_doneShare_11 rfl 0 rfl ?_
  refine fw_get C (ci := 10) (Cn := RX12) (Tc := TX12) (N := 19) (j := 0) ly_X12_doneShare_12 rfl (hG _ (List.mem_of_getElem? (i := 0) rfl)) (of10_0 _) (ce10 T ad _ _) (by decide) (cx_ts C _ fl_X12_doneShare_13) (fun _ h => h) (v := .ref (ad 10 0 1)) rfl dX12_doneShare_12 ?_
  refine fw_bipush C dX12_doneShare_15 (v := 13) rfl ?_
  obtain ⟨b5, h⟩ := gd_some h
  refine fw_iald2 C (hG _ (List.mem_of_getElem? (i := 0) rfl)) (of10_1 _) (ca10_1 T ad _ _) b5 (Nat.le_of_ble_eq_true rfl) dX12_doneShare_17 ?_
  refine fw_i2f C dX12_doneShare_18 ?_
  obtain ⟨b6, h⟩ := gd_some h
  refine fw_fdiv C (of_decide_eq_true b6) dX12_doneShare_19 ?_
  exact fw_fret C hrt Y1 (Option.some.inj h) (fun t ht => ht) dX12_doneShare_20
end
set_option maxRecDepth 100000 in
set_option maxHeartbeats 4000000 in
theorem c_X12_doneShare {l : Launch} {N0 : Nat} {T : Nat → ClassId} {D : va_G} {gr : List (Nat × Nat)} {ad : Nat → Nat → Nat → Nat} {Y : Mem} {res : UInt32 × Mem} (hG : ∀ q ∈ [(10, 0)], q ∈ gr) (h : X12_doneShare Y = some res) : CF l yX12_doneShare wsX12_doneShare (Rm 2) N0 T D gr ad Y [.ref (ad 10 0 0)] (fun r Y1 => (r, Y1) = res) :=
  fw_body (by decide +kernel) rfl (Nat.le_of_ble_eq_true rfl) (fun p e s m below meth c C hrt => w_X12_doneShare C hrt hG  h)
section
variable {p : Program} {l : Launch} {e : Env} {s : State} {m : MethodId} {below : List Frame} {meth : Method} {c : Code} {N0 : Nat} {T : Nat → ClassId} {D : va_G} {gr : List (Nat × Nat)} {ad : Nat → Nat → Nat → Nat}
set_option maxRecDepth 100000 in
set_option maxHeartbeats 4000000 in
theorem w_X12_duration {Y : Mem} {a1 : Int32} (C : Cx p s m [.ref (ad 10 0 0), .int a1].toArray meth c cX12_duration 2 wsX12_duration RX12 N0 T D gr ad) (hrt : meth.sig.returnType = (some .int)) (hG : ∀ q ∈ [(10, 0)], q ∈ gr) {res : Int32 × Mem} (h : X12_duration Y a1 = some res) : FW p l e (Rm 3) s m [.ref (ad 10 0 0), .int a1].toArray below meth c 2 N0 T D gr ad 0 0 (MQ below (va_Qi (fun r Y1 => (r, Y1) = res) (WB T D gr ad) (fun q => N0 ≤ q)) [.ref (ad 10 0 0), .int a1].toArray s 0 0 (fun q => N0 ≤ q)) Y 0 [(0, .ref (ad 10 0 0)), (1, .int a1)] [] := by
  unfold X12_duration at h
  refine fw_aload_n C dX12_duration_0 rfl 0 rfl ?_
  refine fw_iload_n C dX12_duration_1 rfl 1 rfl ?_
  refine fw_bipush C dX12_duration_2 (v := 7) rfl ?_
  obtain ⟨r1, Y3, q2, h⟩ := bd2_some h
  refine fw_callVi C (ci := 10) (Cn := RX12) (Tc := TX12) (N := 19) (As := [.int a1, .int 7]) (c_X12_field (gac (hG _ (List.mem_of_getElem? (i := 0) rfl)) ga0) q2) (cwV 2 (cx_ts C) gX12_duration_X12_field rfl rfl rfl (by decide +kernel) ⟨Nat.le_of_ble_eq_true rfl, Nat.le_of_ble_eq_true rfl⟩) rfl (hG _ (List.mem_of_getElem? (i := 0) rfl)) (of10_0 _) (ce10 T ad _ _) rfl (st := []) rfl (Nat.le_of_ble_eq_true rfl) ⟨Nat.le_refl 0, Nat.le_refl 0⟩ dX12_duration_4 (ppw ?_)
  exact fw_iret C hrt Y3 (Option.some.inj h) (fun t ht => ht) dX12_duration_7
end
set_option maxRecDepth 100000 in
set_option maxHeartbeats 4000000 in
theorem c_X12_duration {l : Launch} {N0 : Nat} {T : Nat → ClassId} {D : va_G} {gr : List (Nat × Nat)} {ad : Nat → Nat → Nat → Nat} {Y : Mem} {a1 : Int32} {res : Int32 × Mem} (hG : ∀ q ∈ [(10, 0)], q ∈ gr) (h : X12_duration Y a1 = some res) : CI l yX12_duration wsX12_duration (Rm 3) N0 T D gr ad Y [.ref (ad 10 0 0), .int a1] (fun r Y1 => (r, Y1) = res) :=
  fw_body (by decide +kernel) rfl (Nat.le_of_ble_eq_true rfl) (fun p e s m below meth c C hrt => w_X12_duration C hrt hG  h)
theorem ly_X12_errorCode_12 : ∀ w ∈ u_ws RX12 TX12 19, w ∈ wsX12_errorCode := by decide +kernel
theorem fl_X12_errorCode_1 : Cond.fieldLink RX12 1 "RecipeSchedulerModel" "thrown" "I" ∈ wsX12_errorCode := by decide +kernel
theorem fl_X12_errorCode_30 : Cond.fieldLink RX12 30 "RecipeSchedulerModel" "errorCode" "I" ∈ wsX12_errorCode := by decide +kernel
section
variable {p : Program} {l : Launch} {e : Env} {s : State} {m : MethodId} {below : List Frame} {meth : Method} {c : Code} {N0 : Nat} {T : Nat → ClassId} {D : va_G} {gr : List (Nat × Nat)} {ad : Nat → Nat → Nat → Nat}
set_option maxRecDepth 100000 in
set_option maxHeartbeats 4000000 in
theorem w_X12_errorCode {Y : Mem} (C : Cx p s m [.ref (ad 10 0 0)].toArray meth c cX12_errorCode 1 wsX12_errorCode RX12 N0 T D gr ad) (hrt : meth.sig.returnType = (some .int)) (hG : ∀ q ∈ [(10, 0)], q ∈ gr) {res : Int32 × Mem} (h : X12_errorCode Y = some res) : FW p l e (Rm 0) s m [.ref (ad 10 0 0)].toArray below meth c 1 N0 T D gr ad 0 0 (MQ below (va_Qi (fun r Y1 => (r, Y1) = res) (WB T D gr ad) (fun q => N0 ≤ q)) [.ref (ad 10 0 0)].toArray s 0 0 (fun q => N0 ≤ q)) Y 0 [(0, .ref (ad 10 0 0))] [] := by
  unfold X12_errorCode at h
  refine fw_aload_n C dX12_errorCode_0 rfl 0 rfl ?_
  refine fw_iconst C dX12_errorCode_1 (v := 0) rfl ?_
  obtain ⟨Y1, e2, h⟩ := lt_some h
  refine fw_put C (ci := 10) (Cn := RX12) (Tc := TX12) (N := 19) (j := 9) (ty := .int) (upd (Y 10 0 0) 9 0) ly_X12_errorCode_12 rfl tyX12_ok nmX12 (hG _ (List.mem_of_getElem? (i := 0) rfl)) (of10_0 _) (ce10 T ad _ _) (by decide) (cx_ts C _ fl_X12_errorCode_1) (fun _ h => h) rfl (by decide +kernel) rfl rfl (Nat.le_of_ble_eq_true rfl) (ce10_put9 T ad _ _ _) dX12_errorCode_2 ?_
  refine fw_mem ((up_eq _ _ _ _ _ _).symm.trans e2) ?_
  refine fw_aload_n C dX12_errorCode_5 rfl 0 rfl ?_
  refine fw_get C (ci := 10) (Cn := RX12) (Tc := TX12) (N := 19) (j := 5) ly_X12_errorCode_12 rfl (hG _ (List.mem_of_getElem? (i := 0) rfl)) (of10_0 _) (ce10 T ad _ _) (by decide) (cx_ts C _ fl_X12_errorCode_30) (fun _ h => h) (v := .int (Y1 10 0 0 5)) rfl dX12_errorCode_6 ?_
  exact fw_iret C hrt Y1 (Option.some.inj h) (fun t ht => ht) dX12_errorCode_9
end
set_option maxRecDepth 100000 in
set_option maxHeartbeats 4000000 in
theorem c_X12_errorCode {l : Launch} {N0 : Nat} {T : Nat → ClassId} {D : va_G} {gr : List (Nat × Nat)} {ad : Nat → Nat → Nat → Nat} {Y : Mem} {res : Int32 × Mem} (hG : ∀ q ∈ [(10, 0)], q ∈ gr) (h : X12_errorCode Y = some res) : CI l yX12_errorCode wsX12_errorCode (Rm 0) N0 T D gr ad Y [.ref (ad 10 0 0)] (fun r Y1 => (r, Y1) = res) :=
  fw_body (by decide +kernel) rfl (Nat.le_of_ble_eq_true rfl) (fun p e s m below meth c C hrt => w_X12_errorCode C hrt hG  h)
