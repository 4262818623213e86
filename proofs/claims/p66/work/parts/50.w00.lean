theorem fl_J0_coder_7d493_38 : Cond.fieldLink RJ0 38 "java/lang/String" "COMPACT_STRINGS" "Z" ∈ wsJ0_coder_7d493 := by decide +kernel
theorem fl_J0_coder_7d493_15 : Cond.fieldLink RJ0 15 "java/lang/String" "coder" "B" ∈ wsJ0_coder_7d493 := by decide +kernel
section
variable {p : Program} {l : Launch} {e : Env} {s : State} {m : MethodId} {below : List Frame} {meth : Method} {c : Code} {N0 : Nat} {T : Nat → ClassId} {D : va_G} {gr : List (Nat × Nat)} {ad : Nat → Nat → Nat → Nat}
set_option maxRecDepth 100000 in
set_option maxHeartbeats 4000000 in
theorem w_J0_coder_7d493 {Y : Mem} {w0 : Nat} (C : Cx p s m [.ref (ad 21 w0 0)].toArray meth c cJ0_coder_7d493 1 wsJ0_coder_7d493 RJ0 N0 T D gr ad) (hrt : meth.sig.returnType = (some .byte)) (hG : ∀ q ∈ [], q ∈ gr) {res : Int32} (h : J0_coder_7d493 Y w0 = some res) : FW p l e (Rm 0) s m [.ref (ad 21 w0 0)].toArray below meth c 1 N0 T D gr ad 0 0 (MQ below (va_Qi (fun r Y1 => r = res ∧ Y1 = Y) (WB T D gr ad) (fun q => N0 ≤ q)) [.ref (ad 21 w0 0)].toArray s 0 0 (fun q => N0 ≤ q)) Y 0 [(0, .ref (ad 21 w0 0))] [] := by
  unfold J0_coder_7d493 at h
  refine fw_gets C (v := .int 1) (cx_st C).2.2.2.2.2.1 (cx_ts C _ fl_J0_coder_7d493_38) (fun _ h => h) dJ0_coder_7d493_0 ?_
  refine fw_if_eq C dJ0_coder_7d493_3 (tgt := 13) rfl (fun c1 => ?_) (fun c1 => ?_)
  · exact absurd c1 (by decide)
  · refine fw_aload_n C dJ0_coder_7d493_6 rfl 0 rfl ?_
    obtain ⟨b2, h⟩ := gd_some h
    have b2 := of_decide_eq_true b2
    refine fw_getO C (v := .int 0) ((cx_st C).1 _ (lt17 b2)).2.1 (cx_ts C _ fl_J0_coder_7d493_15) (fun _ h => h) dJ0_coder_7d493_7 ?_
    refine fw_goto C dJ0_coder_7d493_10 (tgt := 14) rfl ?_
    exact fw_bret C hrt rfl Y ⟨Option.some.inj h, rfl⟩ (fun t ht => ht) dJ0_coder_7d493_14
end
set_option maxRecDepth 100000 in
set_option maxHeartbeats 4000000 in
theorem c_J0_coder_7d493 {l : Launch} {N0 : Nat} {T : Nat → ClassId} {D : va_G} {gr : List (Nat × Nat)} {ad : Nat → Nat → Nat → Nat} {Y : Mem} {w0 : Nat} {res : Int32} (hG : ∀ q ∈ [], q ∈ gr) (h : J0_coder_7d493 Y w0 = some res) : CI l yJ0_coder_7d493 wsJ0_coder_7d493 (Rm 0) N0 T D gr ad Y [.ref (ad 21 w0 0)] (fun r Y1 => r = res ∧ Y1 = Y) :=
  fw_body (by decide +kernel) rfl (Nat.le_of_ble_eq_true rfl) (fun p e s m below meth c C hrt => w_J0_coder_7d493 C hrt hG  h)
theorem fl_J0_length_8abf5_9 : Cond.fieldLink RJ0 9 "java/lang/String" "value" "[B" ∈ wsJ0_length_8abf5 := by decide +kernel
section
variable {p : Program} {l : Launch} {e : Env} {s : State} {m : MethodId} {below : List Frame} {meth : Method} {c : Code} {N0 : Nat} {T : Nat → ClassId} {D : va_G} {gr : List (Nat × Nat)} {ad : Nat → Nat → Nat → Nat}
set_option maxRecDepth 100000 in
set_option maxHeartbeats 4000000 in
theorem w_J0_length_8abf5 {Y : Mem} {w0 : Nat} (C : Cx p s m [.ref (ad 21 w0 0)].toArray meth c cJ0_length_8abf5 1 wsJ0_length_8abf5 RJ0 N0 T D gr ad) (hrt : meth.sig.returnType = (some .int)) (hG : ∀ q ∈ [], q ∈ gr) {res : Int32} (h : J0_length_8abf5 Y w0 = some res) : FW p l e (Rm 1) s m [.ref (ad 21 w0 0)].toArray below meth c 1 N0 T D gr ad 0 0 (MQ below (va_Qi (fun r Y1 => r = res ∧ Y1 = Y) (WB T D gr ad) (fun q => N0 ≤ q)) [.ref (ad 21 w0 0)].toArray s 0 0 (fun q => N0 ≤ q)) Y 0 [(0, .ref (ad 21 w0 0))] [] := by
  unfold J0_length_8abf5 at h
  refine fw_aload_n C dJ0_length_8abf5_0 rfl 0 rfl ?_
  obtain ⟨b1, h⟩ := gd_some h
  have b1 := of_decide_eq_true b1
  refine fw_getO C (v := .ref (ad 22 w0 0)) ((cx_st C).1 _ (lt17 b1)).2.2.1 (cx_ts C _ fl_J0_length_8abf5_9) (fun _ h => h) dJ0_length_8abf5_1 ?_
  refine fw_tlen C ((cx_st C).1 _ (lt17 b1)).2.2.2 (v := (Int32.ofNat (sByt w0).length)) rfl dJ0_length_8abf5_4 ?_
  refine fw_aload_n C dJ0_length_8abf5_5 rfl 0 rfl ?_
  obtain ⟨r2, q3, h⟩ := bd1_some h
  refine fw_callOi C (Cn := RJ0) (As := []) (c_J0_coder_7d493 ga0 q3) (cwV 0 (cx_ts C) gJ0_length_8abf5_J0_coder_7d493 rfl rfl rfl (by decide +kernel) ⟨Nat.le_of_ble_eq_true rfl, Nat.le_of_ble_eq_true rfl⟩) ((cx_st C).1 _ (lt17 b1)).1 rfl (st := [.int ((Int32.ofNat (sByt w0).length))]) rfl (Nat.le_of_ble_eq_true rfl) ⟨Nat.le_refl 0, Nat.le_refl 0⟩ dJ0_length_8abf5_6 (pp2 ?_)
  refine fw_ishr C dJ0_length_8abf5_9 ?_
  exact fw_iret C hrt Y ⟨Option.some.inj h, rfl⟩ (fun t ht => ht) dJ0_length_8abf5_10
end
set_option maxRecDepth 100000 in
set_option maxHeartbeats 4000000 in
theorem c_J0_length_8abf5 {l : Launch} {N0 : Nat} {T : Nat → ClassId} {D : va_G} {gr : List (Nat × Nat)} {ad : Nat → Nat → Nat → Nat} {Y : Mem} {w0 : Nat} {res : Int32} (hG : ∀ q ∈ [], q ∈ gr) (h : J0_length_8abf5 Y w0 = some res) : CI l yJ0_length_8abf5 wsJ0_length_8abf5 (Rm 1) N0 T D gr ad Y [.ref (ad 21 w0 0)] (fun r Y1 => r = res ∧ Y1 = Y) :=
  fw_body (by decide +kernel) rfl (Nat.le_of_ble_eq_true rfl) (fun p e s m below meth c C hrt => w_J0_length_8abf5 C hrt hG  h)
theorem fl_J0_isLatin1_aae02_38 : Cond.fieldLink RJ0 38 "java/lang/String" "COMPACT_STRINGS" "Z" ∈ wsJ0_isLatin1_aae02 := by decide +kernel
theorem fl_J0_isLatin1_aae02_15 : Cond.fieldLink RJ0 15 "java/lang/String" "coder" "B" ∈ wsJ0_isLatin1_aae02 := by decide +kernel
section
variable {p : Program} {l : Launch} {e : Env} {s : State} {m : MethodId} {below : List Frame} {meth : Method} {c : Code} {N0 : Nat} {T : Nat → ClassId} {D : va_G} {gr : List (Nat × Nat)} {ad : Nat → Nat → Nat → Nat}
set_option maxRecDepth 100000 in
set_option maxHeartbeats 4000000 in
theorem w_J0_isLatin1_aae02 {Y : Mem} {w0 : Nat} (C : Cx p s m [.ref (ad 21 w0 0)].toArray meth c cJ0_isLatin1_aae02 1 wsJ0_isLatin1_aae02 RJ0 N0 T D gr ad) (hrt : meth.sig.returnType = (some .boolean)) (hG : ∀ q ∈ [], q ∈ gr) {res : Int32} (h : J0_isLatin1_aae02 Y w0 = some res) : FW p l e (Rm 0) s m [.ref (ad 21 w0 0)].toArray below meth c 1 N0 T D gr ad 0 0 (MQ below (va_Qi (fun r Y1 => r = res ∧ Y1 = Y) (WB T D gr ad) (fun q => N0 ≤ q)) [.ref (ad 21 w0 0)].toArray s 0 0 (fun q => N0 ≤ q)) Y 0 [(0, .ref (ad 21 w0 0))] [] := by
  unfold J0_isLatin1_aae02 at h
  refine fw_gets C (v := .int 1) (cx_st C).2.2.2.2.2.1 (cx_ts C _ fl_J0_isLatin1_aae02_38) (fun _ h => h) dJ0_isLatin1_aae02_0 ?_
  refine fw_if_eq C dJ0_isLatin1_aae02_3 (tgt := 17) rfl (fun c1 => ?_) (fun c1 => ?_)
  · exact absurd c1 (by decide)
  · refine fw_aload_n C dJ0_isLatin1_aae02_6 rfl 0 rfl ?_
    obtain ⟨b2, h⟩ := gd_some h
    have b2 := of_decide_eq_true b2
    refine fw_getO C (v := .int 0) ((cx_st C).1 _ (lt17 b2)).2.1 (cx_ts C _ fl_J0_isLatin1_aae02_15) (fun _ h => h) dJ0_isLatin1_aae02_7 ?_
    refine fw_if_ne C dJ0_isLatin1_aae02_10 (tgt := 17) rfl (fun c3 => ?_) (fun c3 => ?_)
    · exact absurd c3 (by decide)
    · refine fw_iconst C dJ0_isLatin1_aae02_13 (v := 1) rfl ?_
      refine fw_goto C dJ0_isLatin1_aae02_14 (tgt := 18) rfl ?_
      exact fw_zret C hrt (by decide) Y ⟨Option.some.inj h, rfl⟩ (fun t ht => ht) dJ0_isLatin1_aae02_18
end
set_option maxRecDepth 100000 in
set_option maxHeartbeats 4000000 in
theorem c_J0_isLatin1_aae02 {l : Launch} {N0 : Nat} {T : Nat → ClassId} {D : va_G} {gr : List (Nat × Nat)} {ad : Nat → Nat → Nat → Nat} {Y : Mem} {w0 : Nat} {res : Int32} (hG : ∀ q ∈ [], q ∈ gr) (h : J0_isLatin1_aae02 Y w0 = some res) : CI l yJ0_isLatin1_aae02 wsJ0_isLatin1_aae02 (Rm 0) N0 T D gr ad Y [.ref (ad 21 w0 0)] (fun r Y1 => r = res ∧ Y1 = Y) :=
  fw_body (by decide +kernel) rfl (Nat.le_of_ble_eq_true rfl) (fun p e s m below meth c C hrt => w_J0_isLatin1_aae02 C hrt hG  h)
section
variable {p : Program} {l : Launch} {e : Env} {s : State} {m : MethodId} {below : List Frame} {meth : Method} {c : Code} {N0 : Nat} {T : Nat → ClassId} {D : va_G} {gr : List (Nat × Nat)} {ad : Nat → Nat → Nat → Nat}
set_option maxRecDepth 100000 in
set_option maxHeartbeats 4000000 in
theorem w_J3_checkIndex_8e157 {Y : Mem} {a0 : Int32} {a1 : Int32} {x2 : Nat} (C : Cx p s m [.int a0, .int a1, .ref x2].toArray meth c cJ3_checkIndex_8e157 3 wsJ3_checkIndex_8e157 RJ3 N0 T D gr ad) (hrt : meth.sig.returnType = (some .int)) (hG : ∀ q ∈ [], q ∈ gr) {res : Int32} (h : J3_checkIndex_8e157 Y a0 a1 = some res) : FW p l e (Rm 0) s m [.int a0, .int a1, .ref x2].toArray below meth c 3 N0 T D gr ad 0 0 (MQ below (va_Qi (fun r Y1 => r = res ∧ Y1 = Y) (WB T D gr ad) (fun q => N0 ≤ q)) [.int a0, .int a1, .ref x2].toArray s 0 0 (fun q => N0 ≤ q)) Y 0 [(0, .int a0), (1, .int a1), (2, .ref x2)] [] := by
  unfold J3_checkIndex_8e157 at h
  refine fw_iload_n C dJ3_checkIndex_8e157_0 rfl 0 rfl ?_
  refine fw_if_lt C dJ3_checkIndex_8e157_1 (tgt := 9) rfl (fun c1 => ?_) (fun c1 => ?_)
  · have h := ite_t c1 h
    cases h
  · have h := ite_f c1 h
    refine fw_iload_n C dJ3_checkIndex_8e157_4 rfl 0 rfl ?_
    refine fw_iload_n C dJ3_checkIndex_8e157_5 rfl 1 rfl ?_
    refine fw_icmp_lt C dJ3_checkIndex_8e157_6 (tgt := 16) rfl (fun c2 => ?_) (fun c2 => ?_)
    · have h := ite_t c2 h
      refine fw_iload_n C dJ3_checkIndex_8e157_16 rfl 0 rfl ?_
      exact fw_iret C hrt Y ⟨Option.some.inj h, rfl⟩ (fun t ht => ht) dJ3_checkIndex_8e157_17
    · have h := ite_f c2 h
      cases h
end
set_option maxRecDepth 100000 in
set_option maxHeartbeats 4000000 in
theorem c_J3_checkIndex_8e157 {l : Launch} {N0 : Nat} {T : Nat → ClassId} {D : va_G} {gr : List (Nat × Nat)} {ad : Nat → Nat → Nat → Nat} {Y : Mem} {a0 : Int32} {a1 : Int32} {x2 : Nat} {res : Int32} (hG : ∀ q ∈ [], q ∈ gr) (h : J3_checkIndex_8e157 Y a0 a1 = some res) : CI l yJ3_checkIndex_8e157 wsJ3_checkIndex_8e157 (Rm 0) N0 T D gr ad Y [.int a0, .int a1, .ref x2] (fun r Y1 => r = res ∧ Y1 = Y) :=
  fw_body (by decide +kernel) rfl (Nat.le_of_ble_eq_true rfl) (fun p e s m below meth c C hrt => w_J3_checkIndex_8e157 C hrt hG  h)
section
variable {p : Program} {l : Launch} {e : Env} {s : State} {m : MethodId} {below : List Frame} {meth : Method} {c : Code} {N0 : Nat} {T : Nat → ClassId} {D : va_G} {gr : List (Nat × Nat)} {ad : Nat → Nat → Nat → Nat}
set_option maxRecDepth 100000 in
set_option maxHeartbeats 4000000 in
theorem w_J3_checkIndex_8e157N {Y : Mem} {a0 : Int32} {a1 : Int32} (C : Cx p s m [.int a0, .int a1, .null].toArray meth c cJ3_checkIndex_8e157 3 wsJ3_checkIndex_8e157 RJ3 N0 T D gr ad) (hrt : meth.sig.returnType = (some .int)) (hG : ∀ q ∈ [], q ∈ gr) {res : Int32} (h : J3_checkIndex_8e157 Y a0 a1 = some res) : FW p l e (Rm 0) s m [.int a0, .int a1, .null].toArray below meth c 3 N0 T D gr ad 0 0 (MQ below (va_Qi (fun r Y1 => r = res ∧ Y1 = Y) (WB T D gr ad) (fun q => N0 ≤ q)) [.int a0, .int a1, .null].toArray s 0 0 (fun q => N0 ≤ q)) Y 0 [(0, .int a0), (1, .int a1), (2, .null)] [] := by
  unfold J3_checkIndex_8e157 at h
  refine fw_iload_n C dJ3_checkIndex_8e157_0 rfl 0 rfl ?_
  refine fw_if_lt C dJ3_checkIndex_8e157_1 (tgt := 9) rfl (fun c1 => ?_) (fun c1 => ?_)
  · have h := ite_t c1 h
    cases h
  · have h := ite_f c1 h
    refine fw_iload_n C dJ3_checkIndex_8e157_4 rfl 0 rfl ?_
    refine fw_iload_n C dJ3_checkIndex_8e157_5 rfl 1 rfl ?_
    refine fw_icmp_lt C dJ3_checkIndex_8e157_6 (tgt := 16) rfl (fun c2 => ?_) (fun c2 => ?_)
    · have h := ite_t c2 h
      refine fw_iload_n C dJ3_checkIndex_8e157_16 rfl 0 rfl ?_
      exact fw_iret C hrt Y ⟨Option.some.inj h, rfl⟩ (fun t ht => ht) dJ3_checkIndex_8e157_17
    · have h := ite_f c2 h
      cases h
end
set_option maxRecDepth 100000 in
set_option maxHeartbeats 4000000 in
theorem c_J3_checkIndex_8e157N {l : Launch} {N0 : Nat} {T : Nat → ClassId} {D : va_G} {gr : List (Nat × Nat)} {ad : Nat → Nat → Nat → Nat} {Y : Mem} {a0 : Int32} {a1 : Int32} {res : Int32} (hG : ∀ q ∈ [], q ∈ gr) (h : J3_checkIndex_8e157 Y a0 a1 = some res) : CI l yJ3_checkIndex_8e157 wsJ3_checkIndex_8e157 (Rm 0) N0 T D gr ad Y [.int a0, .int a1, .null] (fun r Y1 => r = res ∧ Y1 = Y) :=
  fw_body (by decide +kernel) rfl (Nat.le_of_ble_eq_true rfl) (fun p e s m below meth c C hrt => w_J3_checkIndex_8e157N C hrt hG  h)
theorem fl_J0_checkIndex_df160_1053 : Cond.fieldLink RJ0 1053 "jdk/internal/util/Preconditions" "SIOOBE_FORMATTER" "Ljava/util/function/BiFunction;" ∈ wsJ0_checkIndex_df160 := by decide +kernel
section
variable {p : Program} {l : Launch} {e : Env} {s : State} {m : MethodId} {below : List Frame} {meth : Method} {c : Code} {N0 : Nat} {T : Nat → ClassId} {D : va_G} {gr : List (Nat × Nat)} {ad : Nat → Nat → Nat → Nat}
set_option maxRecDepth 100000 in
set_option maxHeartbeats 4000000 in
theorem w_J0_checkIndex_df160 {Y : Mem} {a0 : Int32} {a1 : Int32} (C : Cx p s m [.int a0, .int a1].toArray meth c cJ0_checkIndex_df160 2 wsJ0_checkIndex_df160 RJ0 N0 T D gr ad) (hrt : meth.sig.returnType = none) (hG : ∀ q ∈ [], q ∈ gr) {res : Unit} (h : J0_checkIndex_df160 Y a0 a1 = some res) : FW p l e (Rm 1) s m [.int a0, .int a1].toArray below meth c 2 N0 T D gr ad 0 0 (MQ below (va_Qv (fun Y1 => Y1 = Y) (WB T D gr ad) (fun q => N0 ≤ q)) [.int a0, .int a1].toArray s 0 0 (fun q => N0 ≤ q)) Y 0 [(0, .int a0), (1, .int a1)] [] := by
  unfold J0_checkIndex_df160 at h
  refine fw_iload_n C dJ0_checkIndex_df160_0 rfl 0 rfl ?_
  refine fw_iload_n C dJ0_checkIndex_df160_1 rfl 1 rfl ?_
  refine fw_getsq2 C (cx_st C).2.2.2.2.2.2.1 (cx_ts C _ fl_J0_checkIndex_df160_1053) (fun _ h => h) dJ0_checkIndex_df160_2 ?_ (fun x9 => ?_)
  · obtain ⟨r1, q2, h⟩ := bd1_some h
    refine fw_callSi C (As := [.int a0, .int a1, .null]) (c_J3_checkIndex_8e157N ga0 q2) (va_cwS 3 (cx_ts C) gJ0_checkIndex_df160_J3_checkIndex_8e157 rfl rfl rfl (by decide +kernel) ⟨Nat.le_of_ble_eq_true rfl, Nat.le_of_ble_eq_true rfl⟩) rfl (st := []) rfl (Nat.le_of_ble_eq_true rfl) ⟨Nat.le_refl 0, Nat.le_refl 0⟩ dJ0_checkIndex_df160_5 (pp2 ?_)
    refine fw_pop C dJ0_checkIndex_df160_8 rfl ?_
    exact fw_vret C hrt Y rfl (fun t ht => ht) dJ0_checkIndex_df160_9
  · obtain ⟨r1, q2, h⟩ := bd1_some h
    refine fw_callSi C (As := [.int a0, .int a1, .ref x9]) (c_J3_checkIndex_8e157 ga0 q2) (va_cwS 3 (cx_ts C) gJ0_checkIndex_df160_J3_checkIndex_8e157 rfl rfl rfl (by decide +kernel) ⟨Nat.le_of_ble_eq_true rfl, Nat.le_of_ble_eq_true rfl⟩) rfl (st := []) rfl (Nat.le_of_ble_eq_true rfl) ⟨Nat.le_refl 0, Nat.le_refl 0⟩ dJ0_checkIndex_df160_5 (pp2 ?_)
    refine fw_pop C dJ0_checkIndex_df160_8 rfl ?_
    exact fw_vret C hrt Y rfl (fun t ht => ht) dJ0_checkIndex_df160_9
end
set_option maxRecDepth 100000 in
set_option maxHeartbeats 4000000 in
theorem c_J0_checkIndex_df160 {l : Launch} {N0 : Nat} {T : Nat → ClassId} {D : va_G} {gr : List (Nat × Nat)} {ad : Nat → Nat → Nat → Nat} {Y : Mem} {a0 : Int32} {a1 : Int32} {res : Unit} (hG : ∀ q ∈ [], q ∈ gr) (h : J0_checkIndex_df160 Y a0 a1 = some res) : CV l yJ0_checkIndex_df160 wsJ0_checkIndex_df160 (Rm 1) N0 T D gr ad Y [.int a0, .int a1] (fun Y1 => Y1 = Y) :=
  fw_body (by decide +kernel) rfl (Nat.le_of_ble_eq_true rfl) (fun p e s m below meth c C hrt => w_J0_checkIndex_df160 C hrt hG  h)
section
variable {p : Program} {l : Launch} {e : Env} {s : State} {m : MethodId} {below : List Frame} {meth : Method} {c : Code} {N0 : Nat} {T : Nat → ClassId} {D : va_G} {gr : List (Nat × Nat)} {ad : Nat → Nat → Nat → Nat}
set_option maxRecDepth 100000 in
set_option maxHeartbeats 4000000 in
theorem w_J1_charAt_3b067 {Y : Mem} {w0 : Nat} {a1 : Int32} (C : Cx p s m [.ref (ad 22 w0 0), .int a1].toArray meth c cJ1_charAt_3b067 2 wsJ1_charAt_3b067 RJ1 N0 T D gr ad) (hrt : meth.sig.returnType = (some .char)) (hG : ∀ q ∈ [], q ∈ gr) {res : Int32} (h : J1_charAt_3b067 Y w0 a1 = some res) : FW p l e (Rm 2) s m [.ref (ad 22 w0 0), .int a1].toArray below meth c 2 N0 T D gr ad 0 0 (MQ below (va_Qi (fun r Y1 => r = res ∧ Y1 = Y) (WB T D gr ad) (fun q => N0 ≤ q)) [.ref (ad 22 w0 0), .int a1].toArray s 0 0 (fun q => N0 ≤ q)) Y 0 [(0, .ref (ad 22 w0 0)), (1, .int a1)] [] := by
  unfold J1_charAt_3b067 at h
  refine fw_iload_n C dJ1_charAt_3b067_0 rfl 1 rfl ?_
  refine fw_aload_n C dJ1_charAt_3b067_1 rfl 0 rfl ?_
  obtain ⟨b1, h⟩ := gd_some h
  have b1 := of_decide_eq_true b1
  refine fw_tlen C ((cx_st C).1 _ (lt17 b1)).2.2.2 (v := (Int32.ofNat (sByt w0).length)) rfl dJ1_charAt_3b067_2 ?_
  obtain ⟨_, q3, h⟩ := bd1_some h
  refine fw_callSv C (As := [.int a1, .int ((Int32.ofNat (sByt w0).length))]) (c_J0_checkIndex_df160 ga0 q3) (va_cwS 2 (cx_ts C) gJ1_charAt_3b067_J0_checkIndex_df160 rfl rfl rfl (by decide +kernel) ⟨Nat.le_of_ble_eq_true rfl, Nat.le_of_ble_eq_true rfl⟩) rfl (st := []) rfl (Nat.le_of_ble_eq_true rfl) ⟨Nat.le_refl 0, Nat.le_refl 0⟩ dJ1_charAt_3b067_3 (ppv ?_)
  refine fw_aload_n C dJ1_charAt_3b067_6 rfl 0 rfl ?_
  refine fw_iload_n C dJ1_charAt_3b067_7 rfl 1 rfl ?_
  obtain ⟨b4, h⟩ := gd_some h
  refine fw_tb C ((cx_st C).1 _ (lt17 b1)).2.2.2 b4 (v := .int ((sByt w0).getD (ix a1) 0)) rfl dJ1_charAt_3b067_8 ?_
  refine fw_sipush C dJ1_charAt_3b067_9 (v := 255) rfl ?_
  refine fw_iand C dJ1_charAt_3b067_12 ?_
  refine fw_i2c C dJ1_charAt_3b067_13 ?_
  obtain ⟨b5, h⟩ := gd_some h
  exact fw_cret C hrt (congrArg Value.int (of_decide_eq_true b5)) Y ⟨Option.some.inj h, rfl⟩ (fun t ht => ht) dJ1_charAt_3b067_14
end
set_option maxRecDepth 100000 in
set_option maxHeartbeats 4000000 in
theorem c_J1_charAt_3b067 {l : Launch} {N0 : Nat} {T : Nat → ClassId} {D : va_G} {gr : List (Nat × Nat)} {ad : Nat → Nat → Nat → Nat} {Y : Mem} {w0 : Nat} {a1 : Int32} {res : Int32} (hG : ∀ q ∈ [], q ∈ gr) (h : J1_charAt_3b067 Y w0 a1 = some res) : CI l yJ1_charAt_3b067 wsJ1_charAt_3b067 (Rm 2) N0 T D gr ad Y [.ref (ad 22 w0 0), .int a1] (fun r Y1 => r = res ∧ Y1 = Y) :=
  fw_body (by decide +kernel) rfl (Nat.le_of_ble_eq_true rfl) (fun p e s m below meth c C hrt => w_J1_charAt_3b067 C hrt hG  h)
theorem fl_J0_charAt_5068e_9 : Cond.fieldLink RJ0 9 "java/lang/String" "value" "[B" ∈ wsJ0_charAt_5068e := by decide +kernel
section
variable {p : Program} {l : Launch} {e : Env} {s : State} {m : MethodId} {below : List Frame} {meth : Method} {c : Code} {N0 : Nat} {T : Nat → ClassId} {D : va_G} {gr : List (Nat × Nat)} {ad : Nat → Nat → Nat → Nat}
set_option maxRecDepth 100000 in
set_option maxHeartbeats 4000000 in
theorem w_J0_charAt_5068e {Y : Mem} {w0 : Nat} {a1 : Int32} (C : Cx p s m [.ref (ad 21 w0 0), .int a1].toArray meth c cJ0_charAt_5068e 2 wsJ0_charAt_5068e RJ0 N0 T D gr ad) (hrt : meth.sig.returnType = (some .char)) (hG : ∀ q ∈ [], q ∈ gr) {res : Int32} (h : J0_charAt_5068e Y w0 a1 = some res) : FW p l e (Rm 3) s m [.ref (ad 21 w0 0), .int a1].toArray below meth c 2 N0 T D gr ad 0 0 (MQ below (va_Qi (fun r Y1 => r = res ∧ Y1 = Y) (WB T D gr ad) (fun q => N0 ≤ q)) [.ref (ad 21 w0 0), .int a1].toArray s 0 0 (fun q => N0 ≤ q)) Y 0 [(0, .ref (ad 21 w0 0)), (1, .int a1)] [] := by
  unfold J0_charAt_5068e at h
  refine fw_aload_n C dJ0_charAt_5068e_0 rfl 0 rfl ?_
  obtain ⟨b1, h⟩ := gd_some h
  have b1 := of_decide_eq_true b1
  obtain ⟨r2, q3, h⟩ := bd1_some h
  refine fw_callOi C (Cn := RJ0) (As := []) (c_J0_isLatin1_aae02 ga0 q3) (cwV 0 (cx_ts C) gJ0_charAt_5068e_J0_isLatin1_aae02 rfl rfl rfl (by decide +kernel) ⟨Nat.le_of_ble_eq_true rfl, Nat.le_of_ble_eq_true rfl⟩) ((cx_st C).1 _ (lt17 b1)).1 rfl (st := []) rfl (Nat.le_of_ble_eq_true rfl) ⟨Nat.le_refl 0, Nat.le_refl 0⟩ dJ0_charAt_5068e_1 (pp2 ?_)
  refine fw_if_eq C dJ0_charAt_5068e_4 (tgt := 16) rfl (fun c4 => ?_) (fun c4 => ?_)
  · have h := ite_t c4 h
    cases h
  · have h := ite_f c4 h
    refine fw_aload_n C dJ0_charAt_5068e_7 rfl 0 rfl ?_
    refine fw_getO C (v := .ref (ad 22 w0 0)) ((cx_st C).1 _ (lt17 b1)).2.2.1 (cx_ts C _ fl_J0_charAt_5068e_9) (fun _ h => h) dJ0_charAt_5068e_8 ?_
    refine fw_iload_n C dJ0_charAt_5068e_11 rfl 1 rfl ?_
    obtain ⟨r5, q6, h⟩ := bd1_some h
    refine fw_callSi C (As := [.ref (ad 22 w0 0), .int a1]) (c_J1_charAt_3b067 ga0 q6) (va_cwS 2 (cx_ts C) gJ0_charAt_5068e_J1_charAt_3b067 rfl rfl rfl (by decide +kernel) ⟨Nat.le_of_ble_eq_true rfl, Nat.le_of_ble_eq_true rfl⟩) rfl (st := []) rfl (Nat.le_of_ble_eq_true rfl) ⟨Nat.le_refl 0, Nat.le_refl 0⟩ dJ0_charAt_5068e_12 (pp2 ?_)
    obtain ⟨b7, h⟩ := gd_some h
    exact fw_cret C hrt (congrArg Value.int (of_decide_eq_true b7)) Y ⟨Option.some.inj h, rfl⟩ (fun t ht => ht) dJ0_charAt_5068e_15
end
set_option maxRecDepth 100000 in
set_option maxHeartbeats 4000000 in
theorem c_J0_charAt_5068e {l : Launch} {N0 : Nat} {T : Nat → ClassId} {D : va_G} {gr : List (Nat × Nat)} {ad : Nat → Nat → Nat → Nat} {Y : Mem} {w0 : Nat} {a1 : Int32} {res : Int32} (hG : ∀ q ∈ [], q ∈ gr) (h : J0_charAt_5068e Y w0 a1 = some res) : CI l yJ0_charAt_5068e wsJ0_charAt_5068e (Rm 3) N0 T D gr ad Y [.ref (ad 21 w0 0), .int a1] (fun r Y1 => r = res ∧ Y1 = Y) :=
  fw_body (by decide +kernel) rfl (Nat.le_of_ble_eq_true rfl) (fun p e s m below meth c C hrt => w_J0_charAt_5068e C hrt hG  h)
theorem ly_X10_isWord_10 : ∀ w ∈ u_ws RX10 TX10 6, w ∈ wsX10_isWord := by decide +kernel
theorem fl_X10_isWord_44 : Cond.fieldLink RX10 44 "RecipeScheduler$Tokens" "kind" "I" ∈ wsX10_isWord := by decide +kernel
theorem fl_X10_isWord_22 : Cond.fieldLink RX10 22 "RecipeScheduler$Tokens" "end" "I" ∈ wsX10_isWord := by decide +kernel
theorem fl_X10_isWord_28 : Cond.fieldLink RX10 28 "RecipeScheduler$Tokens" "start" "I" ∈ wsX10_isWord := by decide +kernel
theorem fl_X10_isWord_9 : Cond.fieldLink RX10 9 "RecipeScheduler$Tokens" "text" "LRecipeScheduler$Text;" ∈ wsX10_isWord := by decide +kernel
theorem ly_X10_isWord_9 : ∀ w ∈ u_ws RX9 TX9 2, w ∈ wsX10_isWord := by decide +kernel
section
variable {p : Program} {l : Launch} {e : Env} {s : State} {m : MethodId} {below : List Frame} {meth : Method} {c : Code} {N0 : Nat} {T : Nat → ClassId} {D : va_G} {gr : List (Nat × Nat)} {ad : Nat → Nat → Nat → Nat}
set_option maxRecDepth 100000 in
set_option maxHeartbeats 4000000 in
theorem w_X10_isWord_b28 {Y : Mem} {w1 : Nat} (C : Cx p s m [.ref (ad 6 0 0), .ref (ad 21 w1 0)].toArray meth c cX10_isWord 3 wsX10_isWord RX10 N0 T D gr ad) (hrt : meth.sig.returnType = (some .boolean)) (hG : ∀ q ∈ [(6, 0), (5, 0)], q ∈ gr) {res : Int32} : ∀ (n : Nat) (l2 : Int32), X10_isWord_b28 Y w1  n l2 = some res → FW p l e (Rm 4) s m [.ref (ad 6 0 0), .ref (ad 21 w1 0)].toArray below meth c 3 N0 T D gr ad 0 0 (MQ below (va_Qi (fun r Y1 => r = res ∧ Y1 = Y) (WB T D gr ad) (fun q => N0 ≤ q)) [.ref (ad 6 0 0), .ref (ad 21 w1 0)].toArray s 0 0 (fun q => N0 ≤ q)) Y 28 [(2, .int l2), (0, .ref (ad 6 0 0)), (1, .ref (ad 21 w1 0))] [] := by
  intro n
  induction n with
  | zero =>
    intro l2 h
    unfold X10_isWord_b28 at h
    cases h
  | succ n ih =>
    intro l2 h
    unfold X10_isWord_b28 at h
    refine fw_iload_n C dX10_isWord_28 rfl 0 rfl ?_
    refine fw_aload_n C dX10_isWord_29 rfl 2 rfl ?_
    obtain ⟨b6, h⟩ := gd_some h
    have b6 := of_decide_eq_true b6
    obtain ⟨r7, q8, h⟩ := bd1_some h
    refine fw_callOi C (Cn := RJ0) (As := []) (c_J0_length_8abf5 ga0 q8) (cwV 0 (cx_ts C) gX10_isWord_J0_length_8abf5 rfl rfl rfl (by decide +kernel) ⟨Nat.le_of_ble_eq_true rfl, Nat.le_of_ble_eq_true rfl⟩) ((cx_st C).1 _ (lt17 b6)).1 rfl (st := [.int l2]) rfl (Nat.le_of_ble_eq_true rfl) ⟨Nat.le_refl 0, Nat.le_refl 0⟩ dX10_isWord_30 (pp2 ?_)
    refine fw_icmp_ge C dX10_isWord_33 (tgt := 66) rfl (fun c9 => ?_) (fun c9 => ?_)
    · have h := ite_t c9 h
      refine fw_iconst C dX10_isWord_66 (v := 1) rfl ?_
      exact fw_zret C hrt (by decide) Y ⟨Option.some.inj h, rfl⟩ (fun t ht => ht) dX10_isWord_67
    · have h := ite_f c9 h
      refine fw_aload_n C dX10_isWord_36 rfl 1 rfl ?_
      refine fw_get C (ci := 10) (Cn := RX10) (Tc := TX10) (N := 6) (j := 0) ly_X10_isWord_10 rfl (hG _ (List.mem_of_getElem? (i := 0) rfl)) (of6_0 _) (ce6 T ad _ _) (by decide) (cx_ts C _ fl_X10_isWord_9) (fun _ h => h) (v := .ref (ad 5 0 0)) rfl dX10_isWord_37 ?_
      refine fw_getN C (ci := 9) (Cn := RX9) (Tc := TX9) (N := 2) (j := 0) ly_X10_isWord_9 rfl (hG _ (List.mem_of_getElem? (i := 1) rfl)) (of5_0 _) (ce5 T ad _ _) (by decide) (Nst_use (cx_nst C) (w := .fieldLinkNest RX10 36 "RecipeScheduler$Text" "bytes" "[B" "RecipeScheduler") 47 (by decide +kernel) rfl) (fun _ h => h) (v := .ref (ad 5 0 1)) rfl dX10_isWord_40 ?_
      refine fw_aload_n C dX10_isWord_43 rfl 1 rfl ?_
      refine fw_get C (ci := 10) (Cn := RX10) (Tc := TX10) (N := 6) (j := 2) ly_X10_isWord_10 rfl (hG _ (List.mem_of_getElem? (i := 0) rfl)) (of6_0 _) (ce6 T ad _ _) (by decide) (cx_ts C _ fl_X10_isWord_28) (fun _ h => h) (v := .int (Y 6 0 0 2)) rfl dX10_isWord_44 ?_
      refine fw_iload_n C dX10_isWord_47 rfl 0 rfl ?_
      refine fw_iadd C dX10_isWord_48 ?_
      obtain ⟨b10, h⟩ := gd_some h
      refine fw_bald2 C (hG _ (List.mem_of_getElem? (i := 1) rfl)) (of5_1 _) (ca5_1 T ad _ _) b10 (tcap_lt _) dX10_isWord_49 ?_
      refine fw_aload_n C dX10_isWord_50 rfl 2 rfl ?_
      refine fw_iload_n C dX10_isWord_51 rfl 0 rfl ?_
      obtain ⟨r11, q12, h⟩ := bd1_some h
      refine fw_callOi C (Cn := RJ0) (As := [.int l2]) (c_J0_charAt_5068e ga0 q12) (cwV 1 (cx_ts C) gX10_isWord_J0_charAt_5068e rfl rfl rfl (by decide +kernel) ⟨Nat.le_of_ble_eq_true rfl, Nat.le_of_ble_eq_true rfl⟩) ((cx_st C).1 _ (lt17 b6)).1 rfl (st := [.int (Y 5 0 1 (ix ((Y 6 0 0 2) + l2)))]) rfl (Nat.le_of_ble_eq_true rfl) ⟨Nat.le_refl 0, Nat.le_refl 0⟩ dX10_isWord_52 (pp2 ?_)
      refine fw_icmp_eq C dX10_isWord_55 (tgt := 60) rfl (fun c13 => ?_) (fun c13 => ?_)
      · have h := ite_t c13 h
        refine fw_iinc C dX10_isWord_60 (kk := 0) (v := l2 + 1) rfl rfl (by decide) (L' := [(2, .int (l2 + 1)), (0, .ref (ad 6 0 0)), (1, .ref (ad 21 w1 0))]) rfl ?_
        refine fw_goto C dX10_isWord_63 (tgt := 28) rfl ?_
        exact ih _ h
      · have h := ite_f c13 h
        refine fw_iconst C dX10_isWord_58 (v := 0) rfl ?_
        exact fw_zret C hrt (by decide) Y ⟨Option.some.inj h, rfl⟩ (fun t ht => ht) dX10_isWord_59
set_option maxRecDepth 100000 in
set_option maxHeartbeats 4000000 in
theorem w_X10_isWord {Y : Mem} {w1 : Nat} (C : Cx p s m [.ref (ad 6 0 0), .ref (ad 21 w1 0)].toArray meth c cX10_isWord 3 wsX10_isWord RX10 N0 T D gr ad) (hrt : meth.sig.returnType = (some .boolean)) (hG : ∀ q ∈ [(6, 0), (5, 0)], q ∈ gr) {res : Int32} (h : X10_isWord Y w1 = some res) : FW p l e (Rm 4) s m [.ref (ad 6 0 0), .ref (ad 21 w1 0)].toArray below meth c 3 N0 T D gr ad 0 0 (MQ below (va_Qi (fun r Y1 => r = res ∧ Y1 = Y) (WB T D gr ad) (fun q => N0 ≤ q)) [.ref (ad 6 0 0), .ref (ad 21 w1 0)].toArray s 0 0 (fun q => N0 ≤ q)) Y 0 [(0, .ref (ad 6 0 0)), (1, .ref (ad 21 w1 0))] [] := by
  unfold X10_isWord at h
  refine fw_aload_n C dX10_isWord_0 rfl 0 rfl ?_
  refine fw_get C (ci := 10) (Cn := RX10) (Tc := TX10) (N := 6) (j := 1) ly_X10_isWord_10 rfl (hG _ (List.mem_of_getElem? (i := 0) rfl)) (of6_0 _) (ce6 T ad _ _) (by decide) (cx_ts C _ fl_X10_isWord_44) (fun _ h => h) (v := .int (Y 6 0 0 1)) rfl dX10_isWord_1 ?_
  refine fw_iconst C dX10_isWord_4 (v := 1) rfl ?_
  refine fw_icmp_ne C dX10_isWord_5 (tgt := 24) rfl (fun c1 => ?_) (fun c1 => ?_)
  · have h := ite_f c1 h
    refine fw_iconst C dX10_isWord_24 (v := 0) rfl ?_
    exact fw_zret C hrt (by decide) Y ⟨Option.some.inj h, rfl⟩ (fun t ht => ht) dX10_isWord_25
  · have h := ite_t c1 h
    refine fw_aload_n C dX10_isWord_8 rfl 0 rfl ?_
    refine fw_get C (ci := 10) (Cn := RX10) (Tc := TX10) (N := 6) (j := 3) ly_X10_isWord_10 rfl (hG _ (List.mem_of_getElem? (i := 0) rfl)) (of6_0 _) (ce6 T ad _ _) (by decide) (cx_ts C _ fl_X10_isWord_22) (fun _ h => h) (v := .int (Y 6 0 0 3)) rfl dX10_isWord_9 ?_
    refine fw_aload_n C dX10_isWord_12 rfl 0 rfl ?_
    refine fw_get C (ci := 10) (Cn := RX10) (Tc := TX10) (N := 6) (j := 2) ly_X10_isWord_10 rfl (hG _ (List.mem_of_getElem? (i := 0) rfl)) (of6_0 _) (ce6 T ad _ _) (by decide) (cx_ts C _ fl_X10_isWord_28) (fun _ h => h) (v := .int (Y 6 0 0 2)) rfl dX10_isWord_13 ?_
    refine fw_isub C dX10_isWord_16 ?_
    refine fw_aload_n C dX10_isWord_17 rfl 1 rfl ?_
    obtain ⟨b2, h⟩ := gd_some h
    have b2 := of_decide_eq_true b2
    obtain ⟨r3, q4, h⟩ := bd1_some h
    refine fw_callOi C (Cn := RJ0) (As := []) (c_J0_length_8abf5 ga0 q4) (cwV 0 (cx_ts C) gX10_isWord_J0_length_8abf5 rfl rfl rfl (by decide +kernel) ⟨Nat.le_of_ble_eq_true rfl, Nat.le_of_ble_eq_true rfl⟩) ((cx_st C).1 _ (lt17 b2)).1 rfl (st := [.int ((Y 6 0 0 3) - (Y 6 0 0 2))]) rfl (Nat.le_of_ble_eq_true rfl) ⟨Nat.le_refl 0, Nat.le_refl 0⟩ dX10_isWord_18 (pp2 ?_)
    refine fw_icmp_eq C dX10_isWord_21 (tgt := 26) rfl (fun c5 => ?_) (fun c5 => ?_)
    · have h := ite_t c5 h
      refine fw_iconst C dX10_isWord_26 (v := 0) rfl ?_
      refine fw_istore_n C dX10_isWord_27 rfl (by decide) (L' := [(2, .int 0), (0, .ref (ad 6 0 0)), (1, .ref (ad 21 w1 0))]) rfl ?_
      exact w_X10_isWord_b28 C hrt hG   _ _ h
    · have h := ite_f c5 h
      refine fw_iconst C dX10_isWord_24 (v := 0) rfl ?_
      exact fw_zret C hrt (by decide) Y ⟨Option.some.inj h, rfl⟩ (fun t ht => ht) dX10_isWord_25
end
set_option maxRecDepth 100000 in
set_option maxHeartbeats 4000000 in
theorem c_X10_isWord {l : Launch} {N0 : Nat} {T : Nat → ClassId} {D : va_G} {gr : List (Nat × Nat)} {ad : Nat → Nat → Nat → Nat} {Y : Mem} {w1 : Nat} {res : Int32} (hG : ∀ q ∈ [(6, 0), (5, 0)], q ∈ gr) (h : X10_isWord Y w1 = some res) : CI l yX10_isWord wsX10_isWord (Rm 4) N0 T D gr ad Y [.ref (ad 6 0 0), .ref (ad 21 w1 0)] (fun r Y1 => r = res ∧ Y1 = Y) :=
  fw_body (by decide +kernel) rfl (Nat.le_of_ble_eq_true rfl) (fun p e s m below meth c C hrt => w_X10_isWord C hrt hG  h)
section
variable {p : Program} {l : Launch} {e : Env} {s : State} {m : MethodId} {below : List Frame} {meth : Method} {c : Code} {N0 : Nat} {T : Nat → ClassId} {D : va_G} {gr : List (Nat × Nat)} {ad : Nat → Nat → Nat → Nat}
set_option maxRecDepth 100000 in
set_option maxHeartbeats 4000000 in
theorem w_X10_isGap_b12 {Y : Mem} {a0 : Int32} (C : Cx p s m [.int a0].toArray meth c cX10_isGap 1 wsX10_isGap RX10 N0 T D gr ad) (hrt : meth.sig.returnType = (some .boolean)) (hG : ∀ q ∈ [], q ∈ gr) {res : Int32}  (h : X10_isGap_b12 Y a0   = some res) : FW p l e (Rm 0) s m [.int a0].toArray below meth c 1 N0 T D gr ad 0 0 (MQ below (va_Qi (fun r Y1 => r = res ∧ Y1 = Y) (WB T D gr ad) (fun q => N0 ≤ q)) [.int a0].toArray s 0 0 (fun q => N0 ≤ q)) Y 12 [] [] := by
  unfold X10_isGap_b12 at h
  refine fw_iconst C dX10_isGap_12 (v := 1) rfl ?_
  refine fw_goto C dX10_isGap_13 (tgt := 17) rfl ?_
  exact fw_zret C hrt (by decide) Y ⟨Option.some.inj h, rfl⟩ (fun t ht => ht) dX10_isGap_17
set_option maxRecDepth 100000 in
set_option maxHeartbeats 4000000 in
theorem w_X10_isGap {Y : Mem} {a0 : Int32} (C : Cx p s m [.int a0].toArray meth c cX10_isGap 1 wsX10_isGap RX10 N0 T D gr ad) (hrt : meth.sig.returnType = (some .boolean)) (hG : ∀ q ∈ [], q ∈ gr) {res : Int32} (h : X10_isGap Y a0 = some res) : FW p l e (Rm 0) s m [.int a0].toArray below meth c 1 N0 T D gr ad 0 0 (MQ below (va_Qi (fun r Y1 => r = res ∧ Y1 = Y) (WB T D gr ad) (fun q => N0 ≤ q)) [.int a0].toArray s 0 0 (fun q => N0 ≤ q)) Y 0 [(0, .int a0)] [] := by
  unfold X10_isGap at h
  refine fw_iload_n C dX10_isGap_0 rfl 0 rfl ?_
  refine fw_bipush C dX10_isGap_1 (v := 32) rfl ?_
  refine fw_icmp_eq C dX10_isGap_3 (tgt := 12) rfl (fun c1 => ?_) (fun c1 => ?_)
  · have h := ite_t c1 h
    refine fw_sub [] (L' := []) rfl ?_
    exact w_X10_isGap_b12 C hrt hG    h
  · have h := ite_f c1 h
    refine fw_iload_n C dX10_isGap_6 rfl 0 rfl ?_
    refine fw_bipush C dX10_isGap_7 (v := 10) rfl ?_
    refine fw_icmp_ne C dX10_isGap_9 (tgt := 16) rfl (fun c2 => ?_) (fun c2 => ?_)
    · have h := ite_f c2 h
      refine fw_iconst C dX10_isGap_16 (v := 0) rfl ?_
      exact fw_zret C hrt (by decide) Y ⟨Option.some.inj h, rfl⟩ (fun t ht => ht) dX10_isGap_17
    · have h := ite_t c2 h
      refine fw_sub [] (L' := []) rfl ?_
      exact w_X10_isGap_b12 C hrt hG    h
end
set_option maxRecDepth 100000 in
set_option maxHeartbeats 4000000 in
theorem c_X10_isGap {l : Launch} {N0 : Nat} {T : Nat → ClassId} {D : va_G} {gr : List (Nat × Nat)} {ad : Nat → Nat → Nat → Nat} {Y : Mem} {a0 : Int32} {res : Int32} (hG : ∀ q ∈ [], q ∈ gr) (h : X10_isGap Y a0 = some res) : CI l yX10_isGap wsX10_isGap (Rm 0) N0 T D gr ad Y [.int a0] (fun r Y1 => r = res ∧ Y1 = Y) :=
  fw_body (by decide +kernel) rfl (Nat.le_of_ble_eq_true rfl) (fun p e s m below meth c C hrt => w_X10_isGap C hrt hG  h)
section
variable {p : Program} {l : Launch} {e : Env} {s : State} {m : MethodId} {below : List Frame} {meth : Method} {c : Code} {N0 : Nat} {T : Nat → ClassId} {D : va_G} {gr : List (Nat × Nat)} {ad : Nat → Nat → Nat → Nat}
set_option maxRecDepth 100000 in
set_option maxHeartbeats 4000000 in
theorem w_X11_isWithin {Y : Mem} {a0 : Int32} {a1 : Int32} {a2 : Int32} (C : Cx p s m [.int a0, .int a1, .int a2].toArray meth c cX11_isWithin 3 wsX11_isWithin RX11 N0 T D gr ad) (hrt : meth.sig.returnType = (some .boolean)) (hG : ∀ q ∈ [], q ∈ gr) {res : Int32} (h : X11_isWithin Y a0 a1 a2 = some res) : FW p l e (Rm 0) s m [.int a0, .int a1, .int a2].toArray below meth c 3 N0 T D gr ad 0 0 (MQ below (va_Qi (fun r Y1 => r = res ∧ Y1 = Y) (WB T D gr ad) (fun q => N0 ≤ q)) [.int a0, .int a1, .int a2].toArray s 0 0 (fun q => N0 ≤ q)) Y 0 [(0, .int a0), (1, .int a1), (2, .int a2)] [] := by
  unfold X11_isWithin at h
  refine fw_iload_n C dX11_isWithin_0 rfl 1 rfl ?_
  refine fw_iload_n C dX11_isWithin_1 rfl 0 rfl ?_
  refine fw_icmp_gt C dX11_isWithin_2 (tgt := 14) rfl (fun c1 => ?_) (fun c1 => ?_)
  · have h := ite_t c1 h
    refine fw_iconst C dX11_isWithin_14 (v := 0) rfl ?_
    exact fw_zret C hrt (by decide) Y ⟨Option.some.inj h, rfl⟩ (fun t ht => ht) dX11_isWithin_15
  · have h := ite_f c1 h
    refine fw_iload_n C dX11_isWithin_5 rfl 0 rfl ?_
    refine fw_iload_n C dX11_isWithin_6 rfl 2 rfl ?_
    refine fw_icmp_gt C dX11_isWithin_7 (tgt := 14) rfl (fun c2 => ?_) (fun c2 => ?_)
    · have h := ite_t c2 h
      refine fw_iconst C dX11_isWithin_14 (v := 0) rfl ?_
      exact fw_zret C hrt (by decide) Y ⟨Option.some.inj h, rfl⟩ (fun t ht => ht) dX11_isWithin_15
    · have h := ite_f c2 h
      refine fw_iconst C dX11_isWithin_10 (v := 1) rfl ?_
      refine fw_goto C dX11_isWithin_11 (tgt := 15) rfl ?_
      exact fw_zret C hrt (by decide) Y ⟨Option.some.inj h, rfl⟩ (fun t ht => ht) dX11_isWithin_15
end
set_option maxRecDepth 100000 in
set_option maxHeartbeats 4000000 in
theorem c_X11_isWithin {l : Launch} {N0 : Nat} {T : Nat → ClassId} {D : va_G} {gr : List (Nat × Nat)} {ad : Nat → Nat → Nat → Nat} {Y : Mem} {a0 : Int32} {a1 : Int32} {a2 : Int32} {res : Int32} (hG : ∀ q ∈ [], q ∈ gr) (h : X11_isWithin Y a0 a1 a2 = some res) : CI l yX11_isWithin wsX11_isWithin (Rm 0) N0 T D gr ad Y [.int a0, .int a1, .int a2] (fun r Y1 => r = res ∧ Y1 = Y) :=
  fw_body (by decide +kernel) rfl (Nat.le_of_ble_eq_true rfl) (fun p e s m below meth c C hrt => w_X11_isWithin C hrt hG  h)
theorem ly_X10_passRun_10 : ∀ w ∈ u_ws RX10 TX10 6, w ∈ wsX10_passRun := by decide +kernel
theorem fl_X10_passRun_22 : Cond.fieldLink RX10 22 "RecipeScheduler$Tokens" "end" "I" ∈ wsX10_passRun := by decide +kernel
theorem fl_X10_passRun_9 : Cond.fieldLink RX10 9 "RecipeScheduler$Tokens" "text" "LRecipeScheduler$Text;" ∈ wsX10_passRun := by decide +kernel
theorem ly_X10_passRun_9 : ∀ w ∈ u_ws RX9 TX9 2, w ∈ wsX10_passRun := by decide +kernel
section
variable {p : Program} {l : Launch} {e : Env} {s : State} {m : MethodId} {below : List Frame} {meth : Method} {c : Code} {N0 : Nat} {T : Nat → ClassId} {D : va_G} {gr : List (Nat × Nat)} {ad : Nat → Nat → Nat → Nat}
set_option maxRecDepth 100000 in
set_option maxHeartbeats 4000000 in
theorem w_X10_passRun_b0 {a1 : Int32} {a2 : Int32} (C : Cx p s m [.ref (ad 6 0 0), .int a1, .int a2].toArray meth c cX10_passRun 3 wsX10_passRun RX10 N0 T D gr ad) (hrt : meth.sig.returnType = none) (hG : ∀ q ∈ [(6, 0), (5, 0)], q ∈ gr) {res : Mem} : ∀ (n : Nat) (Y : Mem), X10_passRun_b0 a1 a2  n Y = some res → FW p l e (Rm 0) s m [.ref (ad 6 0 0), .int a1, .int a2].toArray below meth c 3 N0 T D gr ad 0 0 (MQ below (va_Qv (fun Y1 => Y1 = res) (WB T D gr ad) (fun q => N0 ≤ q)) [.ref (ad 6 0 0), .int a1, .int a2].toArray s 0 0 (fun q => N0 ≤ q)) Y 0 [(0, .ref (ad 6 0 0)), (1, .int a1), (2, .int a2)] [] := by
  intro n
  induction n with
  | zero =>
    intro Y h
    unfold X10_passRun_b0 at h
    cases h
  | succ n ih =>
    intro Y h
    unfold X10_passRun_b0 at h
    refine fw_aload_n C dX10_passRun_0 rfl 0 rfl ?_
    refine fw_get C (ci := 10) (Cn := RX10) (Tc := TX10) (N := 6) (j := 3) ly_X10_passRun_10 rfl (hG _ (List.mem_of_getElem? (i := 0) rfl)) (of6_0 _) (ce6 T ad _ _) (by decide) (cx_ts C _ fl_X10_passRun_22) (fun _ h => h) (v := .int (Y 6 0 0 3)) rfl dX10_passRun_1 ?_
    refine fw_aload_n C dX10_passRun_4 rfl 0 rfl ?_
    refine fw_get C (ci := 10) (Cn := RX10) (Tc := TX10) (N := 6) (j := 0) ly_X10_passRun_10 rfl (hG _ (List.mem_of_getElem? (i := 0) rfl)) (of6_0 _) (ce6 T ad _ _) (by decide) (cx_ts C _ fl_X10_passRun_9) (fun _ h => h) (v := .ref (ad 5 0 0)) rfl dX10_passRun_5 ?_
    refine fw_getN C (ci := 9) (Cn := RX9) (Tc := TX9) (N := 2) (j := 1) ly_X10_passRun_9 rfl (hG _ (List.mem_of_getElem? (i := 1) rfl)) (of5_0 _) (ce5 T ad _ _) (by decide) (Nst_use (cx_nst C) (w := .fieldLinkNest RX10 31 "RecipeScheduler$Text" "length" "I" "RecipeScheduler") 51 (by decide +kernel) rfl) (fun _ h => h) (v := .int (Y 5 0 0 1)) rfl dX10_passRun_8 ?_
    refine fw_icmp_ge C dX10_passRun_11 (tgt := 59) rfl (fun c1 => ?_) (fun c1 => ?_)
    · have h := ite_t c1 h
      exact fw_vret C hrt Y (Option.some.inj h) (fun t ht => ht) dX10_passRun_59
    · have h := ite_f c1 h
      refine fw_iload_n C dX10_passRun_14 rfl 1 rfl ?_
      refine fw_aload_n C dX10_passRun_15 rfl 0 rfl ?_
      refine fw_get C (ci := 10) (Cn := RX10) (Tc := TX10) (N := 6) (j := 0) ly_X10_passRun_10 rfl (hG _ (List.mem_of_getElem? (i := 0) rfl)) (of6_0 _) (ce6 T ad _ _) (by decide) (cx_ts C _ fl_X10_passRun_9) (fun _ h => h) (v := .ref (ad 5 0 0)) rfl dX10_passRun_16 ?_
      refine fw_getN C (ci := 9) (Cn := RX9) (Tc := TX9) (N := 2) (j := 0) ly_X10_passRun_9 rfl (hG _ (List.mem_of_getElem? (i := 1) rfl)) (of5_0 _) (ce5 T ad _ _) (by decide) (Nst_use (cx_nst C) (w := .fieldLinkNest RX10 36 "RecipeScheduler$Text" "bytes" "[B" "RecipeScheduler") 47 (by decide +kernel) rfl) (fun _ h => h) (v := .ref (ad 5 0 1)) rfl dX10_passRun_19 ?_
      refine fw_aload_n C dX10_passRun_22 rfl 0 rfl ?_
      refine fw_get C (ci := 10) (Cn := RX10) (Tc := TX10) (N := 6) (j := 3) ly_X10_passRun_10 rfl (hG _ (List.mem_of_getElem? (i := 0) rfl)) (of6_0 _) (ce6 T ad _ _) (by decide) (cx_ts C _ fl_X10_passRun_22) (fun _ h => h) (v := .int (Y 6 0 0 3)) rfl dX10_passRun_23 ?_
      obtain ⟨b2, h⟩ := gd_some h
      refine fw_bald2 C (hG _ (List.mem_of_getElem? (i := 1) rfl)) (of5_1 _) (ca5_1 T ad _ _) b2 (tcap_lt _) dX10_passRun_26 ?_
      refine fw_icmp_gt C dX10_passRun_27 (tgt := 59) rfl (fun c3 => ?_) (fun c3 => ?_)
      · have h := ite_t c3 h
        exact fw_vret C hrt Y (Option.some.inj h) (fun t ht => ht) dX10_passRun_59
      · have h := ite_f c3 h
        refine fw_aload_n C dX10_passRun_30 rfl 0 rfl ?_
        refine fw_get C (ci := 10) (Cn := RX10) (Tc := TX10) (N := 6) (j := 0) ly_X10_passRun_10 rfl (hG _ (List.mem_of_getElem? (i := 0) rfl)) (of6_0 _) (ce6 T ad _ _) (by decide) (cx_ts C _ fl_X10_passRun_9) (fun _ h => h) (v := .ref (ad 5 0 0)) rfl dX10_passRun_31 ?_
        refine fw_getN C (ci := 9) (Cn := RX9) (Tc := TX9) (N := 2) (j := 0) ly_X10_passRun_9 rfl (hG _ (List.mem_of_getElem? (i := 1) rfl)) (of5_0 _) (ce5 T ad _ _) (by decide) (Nst_use (cx_nst C) (w := .fieldLinkNest RX10 36 "RecipeScheduler$Text" "bytes" "[B" "RecipeScheduler") 47 (by decide +kernel) rfl) (fun _ h => h) (v := .ref (ad 5 0 1)) rfl dX10_passRun_34 ?_
        refine fw_aload_n C dX10_passRun_37 rfl 0 rfl ?_
        refine fw_get C (ci := 10) (Cn := RX10) (Tc := TX10) (N := 6) (j := 3) ly_X10_passRun_10 rfl (hG _ (List.mem_of_getElem? (i := 0) rfl)) (of6_0 _) (ce6 T ad _ _) (by decide) (cx_ts C _ fl_X10_passRun_22) (fun _ h => h) (v := .int (Y 6 0 0 3)) rfl dX10_passRun_38 ?_
        refine fw_bald2 C (hG _ (List.mem_of_getElem? (i := 1) rfl)) (of5_1 _) (ca5_1 T ad _ _) b2 (tcap_lt _) dX10_passRun_41 ?_
        refine fw_iload_n C dX10_passRun_42 rfl 2 rfl ?_
        refine fw_icmp_gt C dX10_passRun_43 (tgt := 59) rfl (fun c4 => ?_) (fun c4 => ?_)
        · have h := ite_t c4 h
          exact fw_vret C hrt Y (Option.some.inj h) (fun t ht => ht) dX10_passRun_59
        · have h := ite_f c4 h
          refine fw_aload_n C dX10_passRun_46 rfl 0 rfl ?_
          refine fw_dup C dX10_passRun_47 rfl ?_
          refine fw_get C (ci := 10) (Cn := RX10) (Tc := TX10) (N := 6) (j := 3) ly_X10_passRun_10 rfl (hG _ (List.mem_of_getElem? (i := 0) rfl)) (of6_0 _) (ce6 T ad _ _) (by decide) (cx_ts C _ fl_X10_passRun_22) (fun _ h => h) (v := .int (Y 6 0 0 3)) rfl dX10_passRun_48 ?_
          refine fw_iconst C dX10_passRun_51 (v := 1) rfl ?_
          refine fw_iadd C dX10_passRun_52 ?_
          obtain ⟨Y5, e6, h⟩ := lt_some h
          refine fw_put C (ci := 10) (Cn := RX10) (Tc := TX10) (N := 6) (j := 3) (ty := .int) (upd (Y 6 0 0) 3 ((Y 6 0 0 3) + 1)) ly_X10_passRun_10 rfl tyX10_ok nmX10 (hG _ (List.mem_of_getElem? (i := 0) rfl)) (of6_0 _) (ce6 T ad _ _) (by decide) (cx_ts C _ fl_X10_passRun_22) (fun _ h => h) rfl (by decide +kernel) rfl rfl (Nat.le_of_ble_eq_true rfl) (ce6_put3 T ad _ _ _) dX10_passRun_53 ?_
          refine fw_mem ((up_eq _ _ _ _ _ _).symm.trans e6) ?_
          refine fw_goto C dX10_passRun_56 (tgt := 0) rfl ?_
          exact ih _ h
set_option maxRecDepth 100000 in
set_option maxHeartbeats 4000000 in
theorem w_X10_passRun {Y : Mem} {a1 : Int32} {a2 : Int32} (C : Cx p s m [.ref (ad 6 0 0), .int a1, .int a2].toArray meth c cX10_passRun 3 wsX10_passRun RX10 N0 T D gr ad) (hrt : meth.sig.returnType = none) (hG : ∀ q ∈ [(6, 0), (5, 0)], q ∈ gr) {res : Mem} (h : X10_passRun Y a1 a2 = some res) : FW p l e (Rm 0) s m [.ref (ad 6 0 0), .int a1, .int a2].toArray below meth c 3 N0 T D gr ad 0 0 (MQ below (va_Qv (fun Y1 => Y1 = res) (WB T D gr ad) (fun q => N0 ≤ q)) [.ref (ad 6 0 0), .int a1, .int a2].toArray s 0 0 (fun q => N0 ≤ q)) Y 0 [(0, .ref (ad 6 0 0)), (1, .int a1), (2, .int a2)] [] := by
  unfold X10_passRun at h
  exact w_X10_passRun_b0 C hrt hG   _ _ h
end
set_option maxRecDepth 100000 in
set_option maxHeartbeats 4000000 in
theorem c_X10_passRun {l : Launch} {N0 : Nat} {T : Nat → ClassId} {D : va_G} {gr : List (Nat × Nat)} {ad : Nat → Nat → Nat → Nat} {Y : Mem} {a1 : Int32} {a2 : Int32} {res : Mem} (hG : ∀ q ∈ [(6, 0), (5, 0)], q ∈ gr) (h : X10_passRun Y a1 a2 = some res) : CV l yX10_passRun wsX10_passRun (Rm 0) N0 T D gr ad Y [.ref (ad 6 0 0), .int a1, .int a2] (fun Y1 => Y1 = res) :=
  fw_body (by decide +kernel) rfl (Nat.le_of_ble_eq_true rfl) (fun p e s m below meth c C hrt => w_X10_passRun C hrt hG  h)
