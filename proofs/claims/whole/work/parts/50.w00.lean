section
variable {p : Program} {l : Launch} {e : Env} {s : State} {m : MethodId} {below : List Frame} {meth : Method} {c : Code} {N0 : Nat} {T : Nat → ClassId} {D : va_G} {gr : List (Nat × Nat)} {ad : Nat → Nat → Nat → Nat}
set_option maxRecDepth 100000 in
set_option maxHeartbeats 4000000 in
theorem w_X12_in {Y : Mem} {a0 : Int32} {a1 : Int32} {a2 : Int32} (C : Cx p s m [.int a0, .int a1, .int a2].toArray meth c cX12_in 3 wsX12_in RX12 N0 T D gr ad) (hrt : meth.sig.returnType = (some .boolean)) (hG : ∀ q ∈ [], q ∈ gr) {res : Int32} (h : X12_in Y a0 a1 a2 = some res) : FW p l e (Rm 0) s m [.int a0, .int a1, .int a2].toArray below meth c 3 N0 T D gr ad 0 0 (MQ below (va_Qi (fun r Y1 => r = res ∧ Y1 = Y) (WB T D gr ad) (fun q => N0 ≤ q)) [.int a0, .int a1, .int a2].toArray s 0 0 (fun q => N0 ≤ q)) Y 0 [(0, .int a0), (1, .int a1), (2, .int a2)] [] := by
  unfold X12_in at h
  refine fw_iload_n C dX12_in_0 rfl 0 rfl ?_
  refine fw_iload_n C dX12_in_1 rfl 1 rfl ?_
  refine fw_icmp_lt C dX12_in_2 (tgt := 14) rfl (fun c1 => ?_) (fun c1 => ?_)
  · have h := ite_t c1 h
    refine fw_iconst C dX12_in_14 (v := 0) rfl ?_
    exact fw_zret C hrt (by decide) Y ⟨Option.some.inj h, rfl⟩ (fun t ht => ht) dX12_in_15
  · have h := ite_f c1 h
    refine fw_iload_n C dX12_in_5 rfl 0 rfl ?_
    refine fw_iload_n C dX12_in_6 rfl 2 rfl ?_
    refine fw_icmp_gt C dX12_in_7 (tgt := 14) rfl (fun c2 => ?_) (fun c2 => ?_)
    · have h := ite_t c2 h
      refine fw_iconst C dX12_in_14 (v := 0) rfl ?_
      exact fw_zret C hrt (by decide) Y ⟨Option.some.inj h, rfl⟩ (fun t ht => ht) dX12_in_15
    · have h := ite_f c2 h
      refine fw_iconst C dX12_in_10 (v := 1) rfl ?_
      refine fw_goto C dX12_in_11 (tgt := 15) rfl ?_
      exact fw_zret C hrt (by decide) Y ⟨Option.some.inj h, rfl⟩ (fun t ht => ht) dX12_in_15
end
set_option maxRecDepth 100000 in
set_option maxHeartbeats 4000000 in
theorem c_X12_in {l : Launch} {N0 : Nat} {T : Nat → ClassId} {D : va_G} {gr : List (Nat × Nat)} {ad : Nat → Nat → Nat → Nat} {Y : Mem} {a0 : Int32} {a1 : Int32} {a2 : Int32} {res : Int32} (hG : ∀ q ∈ [], q ∈ gr) (h : X12_in Y a0 a1 a2 = some res) : CI l yX12_in wsX12_in (Rm 0) N0 T D gr ad Y [.int a0, .int a1, .int a2] (fun r Y1 => r = res ∧ Y1 = Y) :=
  fw_body (by decide +kernel) rfl (Nat.le_of_ble_eq_true rfl) (fun p e s m below meth c C hrt => w_X12_in C hrt hG  h)
theorem ly_X12_fails_12 : ∀ w ∈ u_ws RX12 TX12 19, w ∈ wsX12_fails := by decide +kernel
theorem fl_X12_fails_1 : Cond.fieldLink RX12 1 "RecipeSchedulerModel" "thrown" "I" ∈ wsX12_fails := by decide +kernel
section
variable {p : Program} {l : Launch} {e : Env} {s : State} {m : MethodId} {below : List Frame} {meth : Method} {c : Code} {N0 : Nat} {T : Nat → ClassId} {D : va_G} {gr : List (Nat × Nat)} {ad : Nat → Nat → Nat → Nat}
set_option maxRecDepth 100000 in
set_option maxHeartbeats 4000000 in
theorem w_X12_fails_b26 {a1 : Int32} {a2 : Int32} {a3 : Int32} (C : Cx p s m [.ref (ad 10 0 0), .int a1, .int a2, .int a3].toArray meth c cX12_fails 4 wsX12_fails RX12 N0 T D gr ad) (hrt : meth.sig.returnType = (some .boolean)) (hG : ∀ q ∈ [(10, 0)], q ∈ gr) {res : Int32 × Mem} (Y : Mem) (s0 : Int32) (h : X12_fails_b26 a1 a2 a3  Y s0 = some res) : FW p l e (Rm 0) s m [.ref (ad 10 0 0), .int a1, .int a2, .int a3].toArray below meth c 4 N0 T D gr ad 0 0 (MQ below (va_Qi (fun r Y1 => (r, Y1) = res) (WB T D gr ad) (fun q => N0 ≤ q)) [.ref (ad 10 0 0), .int a1, .int a2, .int a3].toArray s 0 0 (fun q => N0 ≤ q)) Y 26 [(0, .ref (ad 10 0 0))] [.int s0, .ref (ad 10 0 0)] := by
  unfold X12_fails_b26 at h
  obtain ⟨Y4, e5, h⟩ := lt_some h
  refine fw_put C (ci := 10) (Cn := RX12) (Tc := TX12) (N := 19) (j := 9) (ty := .int) (upd (Y 10 0 0) 9 s0) ly_X12_fails_12 rfl tyX12_ok nmX12 (hG _ (List.mem_of_getElem? (i := 0) rfl)) (of10_0 _) (ce10 T ad _ _) (by decide) (cx_ts C _ fl_X12_fails_1) (fun _ h => h) rfl (by decide +kernel) rfl rfl (Nat.le_of_ble_eq_true rfl) (ce10_put9 T ad _ _ _) dX12_fails_26 ?_
  refine fw_mem ((up_eq _ _ _ _ _ _).symm.trans e5) ?_
  refine fw_aload_n C dX12_fails_29 rfl 0 rfl ?_
  refine fw_get C (ci := 10) (Cn := RX12) (Tc := TX12) (N := 19) (j := 9) ly_X12_fails_12 rfl (hG _ (List.mem_of_getElem? (i := 0) rfl)) (of10_0 _) (ce10 T ad _ _) (by decide) (cx_ts C _ fl_X12_fails_1) (fun _ h => h) (v := .int (Y4 10 0 0 9)) rfl dX12_fails_30 ?_
  refine fw_if_le C dX12_fails_33 (tgt := 40) rfl (fun c6 => ?_) (fun c6 => ?_)
  · have h := ite_t c6 h
    refine fw_iconst C dX12_fails_40 (v := 0) rfl ?_
    exact fw_zret C hrt (by decide) Y4 (Option.some.inj h) (fun t ht => ht) dX12_fails_41
  · have h := ite_f c6 h
    refine fw_iconst C dX12_fails_36 (v := 1) rfl ?_
    refine fw_goto C dX12_fails_37 (tgt := 41) rfl ?_
    exact fw_zret C hrt (by decide) Y4 (Option.some.inj h) (fun t ht => ht) dX12_fails_41
set_option maxRecDepth 100000 in
set_option maxHeartbeats 4000000 in
theorem w_X12_fails {Y : Mem} {a1 : Int32} {a2 : Int32} {a3 : Int32} (C : Cx p s m [.ref (ad 10 0 0), .int a1, .int a2, .int a3].toArray meth c cX12_fails 4 wsX12_fails RX12 N0 T D gr ad) (hrt : meth.sig.returnType = (some .boolean)) (hG : ∀ q ∈ [(10, 0)], q ∈ gr) {res : Int32 × Mem} (h : X12_fails Y a1 a2 a3 = some res) : FW p l e (Rm 0) s m [.ref (ad 10 0 0), .int a1, .int a2, .int a3].toArray below meth c 4 N0 T D gr ad 0 0 (MQ below (va_Qi (fun r Y1 => (r, Y1) = res) (WB T D gr ad) (fun q => N0 ≤ q)) [.ref (ad 10 0 0), .int a1, .int a2, .int a3].toArray s 0 0 (fun q => N0 ≤ q)) Y 0 [(0, .ref (ad 10 0 0)), (1, .int a1), (2, .int a2), (3, .int a3)] [] := by
  unfold X12_fails at h
  refine fw_aload_n C dX12_fails_0 rfl 0 rfl ?_
  refine fw_iload_n C dX12_fails_1 rfl 1 rfl ?_
  refine fw_if_eq C dX12_fails_2 (tgt := 9) rfl (fun c1 => ?_) (fun c1 => ?_)
  · have h := ite_t c1 h
    refine fw_iload_n C dX12_fails_9 rfl 2 rfl ?_
    refine fw_if_eq C dX12_fails_10 (tgt := 17) rfl (fun c2 => ?_) (fun c2 => ?_)
    · have h := ite_t c2 h
      refine fw_iload_n C dX12_fails_17 rfl 3 rfl ?_
      refine fw_if_eq C dX12_fails_18 (tgt := 25) rfl (fun c3 => ?_) (fun c3 => ?_)
      · have h := ite_t c3 h
        refine fw_iconst C dX12_fails_25 (v := 0) rfl ?_
        refine fw_sub [0] (L' := [(0, .ref (ad 10 0 0))]) rfl ?_
        exact w_X12_fails_b26 C hrt hG   _ _ h
      · have h := ite_f c3 h
        refine fw_iconst C dX12_fails_21 (v := 3) rfl ?_
        refine fw_goto C dX12_fails_22 (tgt := 26) rfl ?_
        refine fw_sub [0] (L' := [(0, .ref (ad 10 0 0))]) rfl ?_
        exact w_X12_fails_b26 C hrt hG   _ _ h
    · have h := ite_f c2 h
      refine fw_iconst C dX12_fails_13 (v := 2) rfl ?_
      refine fw_goto C dX12_fails_14 (tgt := 26) rfl ?_
      refine fw_sub [0] (L' := [(0, .ref (ad 10 0 0))]) rfl ?_
      exact w_X12_fails_b26 C hrt hG   _ _ h
  · have h := ite_f c1 h
    refine fw_iconst C dX12_fails_5 (v := 1) rfl ?_
    refine fw_goto C dX12_fails_6 (tgt := 26) rfl ?_
    refine fw_sub [0] (L' := [(0, .ref (ad 10 0 0))]) rfl ?_
    exact w_X12_fails_b26 C hrt hG   _ _ h
end
set_option maxRecDepth 100000 in
set_option maxHeartbeats 4000000 in
theorem c_X12_fails {l : Launch} {N0 : Nat} {T : Nat → ClassId} {D : va_G} {gr : List (Nat × Nat)} {ad : Nat → Nat → Nat → Nat} {Y : Mem} {a1 : Int32} {a2 : Int32} {a3 : Int32} {res : Int32 × Mem} (hG : ∀ q ∈ [(10, 0)], q ∈ gr) (h : X12_fails Y a1 a2 a3 = some res) : CI l yX12_fails wsX12_fails (Rm 0) N0 T D gr ad Y [.ref (ad 10 0 0), .int a1, .int a2, .int a3] (fun r Y1 => (r, Y1) = res) :=
  fw_body (by decide +kernel) rfl (Nat.le_of_ble_eq_true rfl) (fun p e s m below meth c C hrt => w_X12_fails C hrt hG  h)
theorem ly_X12_copyBlock_12 : ∀ w ∈ u_ws RX12 TX12 19, w ∈ wsX12_copyBlock := by decide +kernel
theorem fl_X12_copyBlock_13 : Cond.fieldLink RX12 13 "RecipeSchedulerModel" "m" "[I" ∈ wsX12_copyBlock := by decide +kernel
section
variable {p : Program} {l : Launch} {e : Env} {s : State} {m : MethodId} {below : List Frame} {meth : Method} {c : Code} {N0 : Nat} {T : Nat → ClassId} {D : va_G} {gr : List (Nat × Nat)} {ad : Nat → Nat → Nat → Nat}
set_option maxRecDepth 100000 in
set_option maxHeartbeats 4000000 in
theorem w_X12_copyBlock_b2 {a1 : Int32} {a2 : Int32} (C : Cx p s m [.ref (ad 10 0 0), .int a1, .int a2].toArray meth c cX12_copyBlock 4 wsX12_copyBlock RX12 N0 T D gr ad) (hrt : meth.sig.returnType = none) (hG : ∀ q ∈ [(10, 0)], q ∈ gr) {res : Mem} : ∀ (n : Nat) (Y : Mem) (l3 : Int32), X12_copyBlock_b2 a1 a2  n Y l3 = some res → FW p l e (Rm 0) s m [.ref (ad 10 0 0), .int a1, .int a2].toArray below meth c 4 N0 T D gr ad 0 0 (MQ below (va_Qv (fun Y1 => Y1 = res) (WB T D gr ad) (fun q => N0 ≤ q)) [.ref (ad 10 0 0), .int a1, .int a2].toArray s 0 0 (fun q => N0 ≤ q)) Y 2 [(3, .int l3), (0, .ref (ad 10 0 0)), (1, .int a1), (2, .int a2)] [] := by
  intro n
  induction n with
  | zero =>
    intro Y l3 h
    unfold X12_copyBlock_b2 at h
    cases h
  | succ n ih =>
    intro Y l3 h
    unfold X12_copyBlock_b2 at h
    refine fw_iload_n C dX12_copyBlock_2 rfl 0 rfl ?_
    refine fw_sipush C dX12_copyBlock_3 (v := 382) rfl ?_
    refine fw_icmp_ge C dX12_copyBlock_6 (tgt := 39) rfl (fun c1 => ?_) (fun c1 => ?_)
    · have h := ite_t c1 h
      exact fw_vret C hrt Y (Option.some.inj h) (fun t ht => ht) dX12_copyBlock_39
    · have h := ite_f c1 h
      refine fw_aload_n C dX12_copyBlock_9 rfl 1 rfl ?_
      refine fw_get C (ci := 10) (Cn := RX12) (Tc := TX12) (N := 19) (j := 0) ly_X12_copyBlock_12 rfl (hG _ (List.mem_of_getElem? (i := 0) rfl)) (of10_0 _) (ce10 T ad _ _) (by decide) (cx_ts C _ fl_X12_copyBlock_13) (fun _ h => h) (v := .ref (ad 10 0 1)) rfl dX12_copyBlock_10 ?_
      refine fw_iload_n C dX12_copyBlock_13 rfl 3 rfl ?_
      refine fw_sipush C dX12_copyBlock_14 (v := 382) rfl ?_
      refine fw_imul C dX12_copyBlock_17 ?_
      refine fw_iload_n C dX12_copyBlock_18 rfl 0 rfl ?_
      refine fw_iadd C dX12_copyBlock_19 ?_
      refine fw_aload_n C dX12_copyBlock_20 rfl 1 rfl ?_
      refine fw_get C (ci := 10) (Cn := RX12) (Tc := TX12) (N := 19) (j := 0) ly_X12_copyBlock_12 rfl (hG _ (List.mem_of_getElem? (i := 0) rfl)) (of10_0 _) (ce10 T ad _ _) (by decide) (cx_ts C _ fl_X12_copyBlock_13) (fun _ h => h) (v := .ref (ad 10 0 1)) rfl dX12_copyBlock_21 ?_
      refine fw_iload_n C dX12_copyBlock_24 rfl 2 rfl ?_
      refine fw_sipush C dX12_copyBlock_25 (v := 382) rfl ?_
      refine fw_imul C dX12_copyBlock_28 ?_
      refine fw_iload_n C dX12_copyBlock_29 rfl 0 rfl ?_
      refine fw_iadd C dX12_copyBlock_30 ?_
      obtain ⟨b2, h⟩ := gd_some h
      refine fw_iald2 C (hG _ (List.mem_of_getElem? (i := 0) rfl)) (of10_1 _) (ca10_1 T ad _ _) b2 (Nat.le_of_ble_eq_true rfl) dX12_copyBlock_31 ?_
      obtain ⟨b3, h⟩ := gd_some h
      obtain ⟨Y4, e5, h⟩ := lt_some h
      refine fw_iast2 C (hG _ (List.mem_of_getElem? (i := 0) rfl)) (of10_1 _) (ca10_1 T ad _) b3 (Nat.le_of_ble_eq_true rfl) dX12_copyBlock_32 ?_
      refine fw_mem e5 ?_
      refine fw_iinc C dX12_copyBlock_33 (kk := 0) (v := l3 + 1) rfl rfl (by decide) (L' := [(3, .int (l3 + 1)), (0, .ref (ad 10 0 0)), (1, .int a1), (2, .int a2)]) rfl ?_
      refine fw_goto C dX12_copyBlock_36 (tgt := 2) rfl ?_
      exact ih _ _ h
set_option maxRecDepth 100000 in
set_option maxHeartbeats 4000000 in
theorem w_X12_copyBlock {Y : Mem} {a1 : Int32} {a2 : Int32} (C : Cx p s m [.ref (ad 10 0 0), .int a1, .int a2].toArray meth c cX12_copyBlock 4 wsX12_copyBlock RX12 N0 T D gr ad) (hrt : meth.sig.returnType = none) (hG : ∀ q ∈ [(10, 0)], q ∈ gr) {res : Mem} (h : X12_copyBlock Y a1 a2 = some res) : FW p l e (Rm 0) s m [.ref (ad 10 0 0), .int a1, .int a2].toArray below meth c 4 N0 T D gr ad 0 0 (MQ below (va_Qv (fun Y1 => Y1 = res) (WB T D gr ad) (fun q => N0 ≤ q)) [.ref (ad 10 0 0), .int a1, .int a2].toArray s 0 0 (fun q => N0 ≤ q)) Y 0 [(0, .ref (ad 10 0 0)), (1, .int a1), (2, .int a2)] [] := by
  unfold X12_copyBlock at h
  refine fw_iconst C dX12_copyBlock_0 (v := 0) rfl ?_
  refine fw_istore_n C dX12_copyBlock_1 rfl (by decide) (L' := [(3, .int 0), (0, .ref (ad 10 0 0)), (1, .int a1), (2, .int a2)]) rfl ?_
  exact w_X12_copyBlock_b2 C hrt hG   _ _ _ h
end
set_option maxRecDepth 100000 in
set_option maxHeartbeats 4000000 in
theorem c_X12_copyBlock {l : Launch} {N0 : Nat} {T : Nat → ClassId} {D : va_G} {gr : List (Nat × Nat)} {ad : Nat → Nat → Nat → Nat} {Y : Mem} {a1 : Int32} {a2 : Int32} {res : Mem} (hG : ∀ q ∈ [(10, 0)], q ∈ gr) (h : X12_copyBlock Y a1 a2 = some res) : CV l yX12_copyBlock wsX12_copyBlock (Rm 0) N0 T D gr ad Y [.ref (ad 10 0 0), .int a1, .int a2] (fun Y1 => Y1 = res) :=
  fw_body (by decide +kernel) rfl (Nat.le_of_ble_eq_true rfl) (fun p e s m below meth c C hrt => w_X12_copyBlock C hrt hG  h)
theorem ly_X12_remember_12 : ∀ w ∈ u_ws RX12 TX12 19, w ∈ wsX12_remember := by decide +kernel
theorem fl_X12_remember_21 : Cond.fieldLink RX12 21 "RecipeSchedulerModel" "undoable" "I" ∈ wsX12_remember := by decide +kernel
section
variable {p : Program} {l : Launch} {e : Env} {s : State} {m : MethodId} {below : List Frame} {meth : Method} {c : Code} {N0 : Nat} {T : Nat → ClassId} {D : va_G} {gr : List (Nat × Nat)} {ad : Nat → Nat → Nat → Nat}
set_option maxRecDepth 100000 in
set_option maxHeartbeats 4000000 in
theorem w_X12_remember_b41 {a1 : Int32} (C : Cx p s m [.ref (ad 10 0 0), .int a1].toArray meth c cX12_remember 3 wsX12_remember RX12 N0 T D gr ad) (hrt : meth.sig.returnType = none) (hG : ∀ q ∈ [(10, 0)], q ∈ gr) {res : Mem} (Y : Mem) (h : X12_remember_b41 a1  Y = some res) : FW p l e (Rm 1) s m [.ref (ad 10 0 0), .int a1].toArray below meth c 3 N0 T D gr ad 0 0 (MQ below (va_Qv (fun Y1 => Y1 = res) (WB T D gr ad) (fun q => N0 ≤ q)) [.ref (ad 10 0 0), .int a1].toArray s 0 0 (fun q => N0 ≤ q)) Y 41 [(0, .ref (ad 10 0 0)), (1, .int a1)] [] := by
  unfold X12_remember_b41 at h
  refine fw_aload_n C dX12_remember_41 rfl 0 rfl ?_
  refine fw_dup C dX12_remember_42 rfl ?_
  refine fw_get C (ci := 10) (Cn := RX12) (Tc := TX12) (N := 19) (j := 2) ly_X12_remember_12 rfl (hG _ (List.mem_of_getElem? (i := 0) rfl)) (of10_0 _) (ce10 T ad _ _) (by decide) (cx_ts C _ fl_X12_remember_21) (fun _ h => h) (v := .int (Y 10 0 0 2)) rfl dX12_remember_43 ?_
  refine fw_iconst C dX12_remember_46 (v := 1) rfl ?_
  refine fw_iadd C dX12_remember_47 ?_
  obtain ⟨Y2, e3, h⟩ := lt_some h
  refine fw_put C (ci := 10) (Cn := RX12) (Tc := TX12) (N := 19) (j := 2) (ty := .int) (upd (Y 10 0 0) 2 ((Y 10 0 0 2) + 1)) ly_X12_remember_12 rfl tyX12_ok nmX12 (hG _ (List.mem_of_getElem? (i := 0) rfl)) (of10_0 _) (ce10 T ad _ _) (by decide) (cx_ts C _ fl_X12_remember_21) (fun _ h => h) rfl (by decide +kernel) rfl rfl (Nat.le_of_ble_eq_true rfl) (ce10_put2 T ad _ _ _) dX12_remember_48 ?_
  refine fw_mem ((up_eq _ _ _ _ _ _).symm.trans e3) ?_
  refine fw_aload_n C dX12_remember_51 rfl 0 rfl ?_
  refine fw_iload_n C dX12_remember_52 rfl 1 rfl ?_
  refine fw_aload_n C dX12_remember_53 rfl 0 rfl ?_
  refine fw_get C (ci := 10) (Cn := RX12) (Tc := TX12) (N := 19) (j := 2) ly_X12_remember_12 rfl (hG _ (List.mem_of_getElem? (i := 0) rfl)) (of10_0 _) (ce10 T ad _ _) (by decide) (cx_ts C _ fl_X12_remember_21) (fun _ h => h) (v := .int (Y2 10 0 0 2)) rfl dX12_remember_54 ?_
  obtain ⟨Y6, q5, h⟩ := bd1_some h
  refine fw_callVv C (ci := 10) (Cn := RX12) (Tc := TX12) (N := 19) (As := [.int a1, .int (Y2 10 0 0 2)]) (c_X12_copyBlock (gac (hG _ (List.mem_of_getElem? (i := 0) rfl)) ga0) q5) (cwV 2 (cx_ts C) gX12_remember_X12_copyBlock rfl rfl rfl (by decide +kernel) ⟨Nat.le_of_ble_eq_true rfl, Nat.le_of_ble_eq_true rfl⟩) rfl (hG _ (List.mem_of_getElem? (i := 0) rfl)) (of10_0 _) (ce10 T ad _ _) rfl (st := []) rfl (Nat.le_of_ble_eq_true rfl) ⟨Nat.le_refl 0, Nat.le_refl 0⟩ dX12_remember_57 (ppv ?_)
  exact fw_vret C hrt Y6 (Option.some.inj h) (fun t ht => ht) dX12_remember_60
set_option maxRecDepth 100000 in
set_option maxHeartbeats 4000000 in
theorem w_X12_remember_b11 {a1 : Int32} (C : Cx p s m [.ref (ad 10 0 0), .int a1].toArray meth c cX12_remember 3 wsX12_remember RX12 N0 T D gr ad) (hrt : meth.sig.returnType = none) (hG : ∀ q ∈ [(10, 0)], q ∈ gr) {res : Mem} : ∀ (n : Nat) (Y : Mem) (l2 : Int32), X12_remember_b11 a1  n Y l2 = some res → FW p l e (Rm 1) s m [.ref (ad 10 0 0), .int a1].toArray below meth c 3 N0 T D gr ad 0 0 (MQ below (va_Qv (fun Y1 => Y1 = res) (WB T D gr ad) (fun q => N0 ≤ q)) [.ref (ad 10 0 0), .int a1].toArray s 0 0 (fun q => N0 ≤ q)) Y 11 [(2, .int l2), (0, .ref (ad 10 0 0)), (1, .int a1)] [] := by
  intro n
  induction n with
  | zero =>
    intro Y l2 h
    unfold X12_remember_b11 at h
    cases h
  | succ n ih =>
    intro Y l2 h
    unfold X12_remember_b11 at h
    refine fw_iload_n C dX12_remember_11 rfl 0 rfl ?_
    refine fw_bipush C dX12_remember_12 (v := 6) rfl ?_
    refine fw_icmp_ge C dX12_remember_14 (tgt := 31) rfl (fun c7 => ?_) (fun c7 => ?_)
    · have h := ite_t c7 h
      refine fw_aload_n C dX12_remember_31 rfl 1 rfl ?_
      refine fw_dup C dX12_remember_32 rfl ?_
      refine fw_get C (ci := 10) (Cn := RX12) (Tc := TX12) (N := 19) (j := 2) ly_X12_remember_12 rfl (hG _ (List.mem_of_getElem? (i := 0) rfl)) (of10_0 _) (ce10 T ad _ _) (by decide) (cx_ts C _ fl_X12_remember_21) (fun _ h => h) (v := .int (Y 10 0 0 2)) rfl dX12_remember_33 ?_
      refine fw_iconst C dX12_remember_36 (v := 1) rfl ?_
      refine fw_isub C dX12_remember_37 ?_
      obtain ⟨Y8, e9, h⟩ := lt_some h
      refine fw_put C (ci := 10) (Cn := RX12) (Tc := TX12) (N := 19) (j := 2) (ty := .int) (upd (Y 10 0 0) 2 ((Y 10 0 0 2) - 1)) ly_X12_remember_12 rfl tyX12_ok nmX12 (hG _ (List.mem_of_getElem? (i := 0) rfl)) (of10_0 _) (ce10 T ad _ _) (by decide) (cx_ts C _ fl_X12_remember_21) (fun _ h => h) rfl (by decide +kernel) rfl rfl (Nat.le_of_ble_eq_true rfl) (ce10_put2 T ad _ _ _) dX12_remember_38 ?_
      refine fw_mem ((up_eq _ _ _ _ _ _).symm.trans e9) ?_
      refine fw_sub [1, 2] (L' := [(0, .ref (ad 10 0 0)), (1, .int a1)]) rfl ?_
      exact w_X12_remember_b41 C hrt hG   _ h
    · have h := ite_f c7 h
      refine fw_aload_n C dX12_remember_17 rfl 1 rfl ?_
      refine fw_iload_n C dX12_remember_18 rfl 0 rfl ?_
      refine fw_iconst C dX12_remember_19 (v := 1) rfl ?_
      refine fw_iadd C dX12_remember_20 ?_
      refine fw_iload_n C dX12_remember_21 rfl 0 rfl ?_
      obtain ⟨Y12, q11, h⟩ := bd1_some h
      refine fw_callVv C (ci := 10) (Cn := RX12) (Tc := TX12) (N := 19) (As := [.int (l2 + 1), .int l2]) (c_X12_copyBlock (gac (hG _ (List.mem_of_getElem? (i := 0) rfl)) ga0) q11) (cwV 2 (cx_ts C) gX12_remember_X12_copyBlock rfl rfl rfl (by decide +kernel) ⟨Nat.le_of_ble_eq_true rfl, Nat.le_of_ble_eq_true rfl⟩) rfl (hG _ (List.mem_of_getElem? (i := 0) rfl)) (of10_0 _) (ce10 T ad _ _) rfl (st := []) rfl (Nat.le_of_ble_eq_true rfl) ⟨Nat.le_refl 0, Nat.le_refl 0⟩ dX12_remember_22 (ppv ?_)
      refine fw_iinc C dX12_remember_25 (kk := 0) (v := l2 + 1) rfl rfl (by decide) (L' := [(2, .int (l2 + 1)), (0, .ref (ad 10 0 0)), (1, .int a1)]) rfl ?_
      refine fw_goto C dX12_remember_28 (tgt := 11) rfl ?_
      exact ih _ _ h
set_option maxRecDepth 100000 in
set_option maxHeartbeats 4000000 in
theorem w_X12_remember {Y : Mem} {a1 : Int32} (C : Cx p s m [.ref (ad 10 0 0), .int a1].toArray meth c cX12_remember 3 wsX12_remember RX12 N0 T D gr ad) (hrt : meth.sig.returnType = none) (hG : ∀ q ∈ [(10, 0)], q ∈ gr) {res : Mem} (h : X12_remember Y a1 = some res) : FW p l e (Rm 1) s m [.ref (ad 10 0 0), .int a1].toArray below meth c 3 N0 T D gr ad 0 0 (MQ below (va_Qv (fun Y1 => Y1 = res) (WB T D gr ad) (fun q => N0 ≤ q)) [.ref (ad 10 0 0), .int a1].toArray s 0 0 (fun q => N0 ≤ q)) Y 0 [(0, .ref (ad 10 0 0)), (1, .int a1)] [] := by
  unfold X12_remember at h
  refine fw_aload_n C dX12_remember_0 rfl 0 rfl ?_
  refine fw_get C (ci := 10) (Cn := RX12) (Tc := TX12) (N := 19) (j := 2) ly_X12_remember_12 rfl (hG _ (List.mem_of_getElem? (i := 0) rfl)) (of10_0 _) (ce10 T ad _ _) (by decide) (cx_ts C _ fl_X12_remember_21) (fun _ h => h) (v := .int (Y 10 0 0 2)) rfl dX12_remember_1 ?_
  refine fw_bipush C dX12_remember_4 (v := 6) rfl ?_
  refine fw_icmp_ne C dX12_remember_6 (tgt := 41) rfl (fun c1 => ?_) (fun c1 => ?_)
  · have h := ite_f c1 h
    exact w_X12_remember_b41 C hrt hG   _ h
  · have h := ite_t c1 h
    refine fw_iconst C dX12_remember_9 (v := 1) rfl ?_
    refine fw_istore_n C dX12_remember_10 rfl (by decide) (L' := [(2, .int 1), (0, .ref (ad 10 0 0)), (1, .int a1)]) rfl ?_
    exact w_X12_remember_b11 C hrt hG   _ _ _ h
end
set_option maxRecDepth 100000 in
set_option maxHeartbeats 4000000 in
theorem c_X12_remember {l : Launch} {N0 : Nat} {T : Nat → ClassId} {D : va_G} {gr : List (Nat × Nat)} {ad : Nat → Nat → Nat → Nat} {Y : Mem} {a1 : Int32} {res : Mem} (hG : ∀ q ∈ [(10, 0)], q ∈ gr) (h : X12_remember Y a1 = some res) : CV l yX12_remember wsX12_remember (Rm 1) N0 T D gr ad Y [.ref (ad 10 0 0), .int a1] (fun Y1 => Y1 = res) :=
  fw_body (by decide +kernel) rfl (Nat.le_of_ble_eq_true rfl) (fun p e s m below meth c C hrt => w_X12_remember C hrt hG  h)
theorem ly_X12_of_12 : ∀ w ∈ u_ws RX12 TX12 19, w ∈ wsX12_of := by decide +kernel
theorem fl_X12_of_13 : Cond.fieldLink RX12 13 "RecipeSchedulerModel" "m" "[I" ∈ wsX12_of := by decide +kernel
section
variable {p : Program} {l : Launch} {e : Env} {s : State} {m : MethodId} {below : List Frame} {meth : Method} {c : Code} {N0 : Nat} {T : Nat → ClassId} {D : va_G} {gr : List (Nat × Nat)} {ad : Nat → Nat → Nat → Nat}
set_option maxRecDepth 100000 in
set_option maxHeartbeats 4000000 in
theorem w_X12_of {Y : Mem} {a1 : Int32} {a2 : Int32} (C : Cx p s m [.ref (ad 10 0 0), .int a1, .int a2].toArray meth c cX12_of 3 wsX12_of RX12 N0 T D gr ad) (hrt : meth.sig.returnType = (some .int)) (hG : ∀ q ∈ [(10, 0)], q ∈ gr) {res : Int32} (h : X12_of Y a1 a2 = some res) : FW p l e (Rm 0) s m [.ref (ad 10 0 0), .int a1, .int a2].toArray below meth c 3 N0 T D gr ad 0 0 (MQ below (va_Qi (fun r Y1 => r = res ∧ Y1 = Y) (WB T D gr ad) (fun q => N0 ≤ q)) [.ref (ad 10 0 0), .int a1, .int a2].toArray s 0 0 (fun q => N0 ≤ q)) Y 0 [(0, .ref (ad 10 0 0)), (1, .int a1), (2, .int a2)] [] := by
  unfold X12_of at h
  refine fw_aload_n C dX12_of_0 rfl 0 rfl ?_
  refine fw_get C (ci := 10) (Cn := RX12) (Tc := TX12) (N := 19) (j := 0) ly_X12_of_12 rfl (hG _ (List.mem_of_getElem? (i := 0) rfl)) (of10_0 _) (ce10 T ad _ _) (by decide) (cx_ts C _ fl_X12_of_13) (fun _ h => h) (v := .ref (ad 10 0 1)) rfl dX12_of_1 ?_
  refine fw_bipush C dX12_of_4 (v := 46) rfl ?_
  refine fw_iload_n C dX12_of_6 rfl 1 rfl ?_
  refine fw_bipush C dX12_of_7 (v := 24) rfl ?_
  refine fw_imul C dX12_of_9 ?_
  refine fw_iadd C dX12_of_10 ?_
  refine fw_iload_n C dX12_of_11 rfl 2 rfl ?_
  refine fw_iadd C dX12_of_12 ?_
  obtain ⟨b1, h⟩ := gd_some h
  refine fw_iald2 C (hG _ (List.mem_of_getElem? (i := 0) rfl)) (of10_1 _) (ca10_1 T ad _ _) b1 (Nat.le_of_ble_eq_true rfl) dX12_of_13 ?_
  exact fw_iret C hrt Y ⟨Option.some.inj h, rfl⟩ (fun t ht => ht) dX12_of_14
end
set_option maxRecDepth 100000 in
set_option maxHeartbeats 4000000 in
theorem c_X12_of {l : Launch} {N0 : Nat} {T : Nat → ClassId} {D : va_G} {gr : List (Nat × Nat)} {ad : Nat → Nat → Nat → Nat} {Y : Mem} {a1 : Int32} {a2 : Int32} {res : Int32} (hG : ∀ q ∈ [(10, 0)], q ∈ gr) (h : X12_of Y a1 a2 = some res) : CI l yX12_of wsX12_of (Rm 0) N0 T D gr ad Y [.ref (ad 10 0 0), .int a1, .int a2] (fun r Y1 => r = res ∧ Y1 = Y) :=
  fw_body (by decide +kernel) rfl (Nat.le_of_ble_eq_true rfl) (fun p e s m below meth c C hrt => w_X12_of C hrt hG  h)
theorem ly_X12_tasteNow_12 : ∀ w ∈ u_ws RX12 TX12 19, w ∈ wsX12_tasteNow := by decide +kernel
theorem fl_X12_tasteNow_13 : Cond.fieldLink RX12 13 "RecipeSchedulerModel" "m" "[I" ∈ wsX12_tasteNow := by decide +kernel
section
variable {p : Program} {l : Launch} {e : Env} {s : State} {m : MethodId} {below : List Frame} {meth : Method} {c : Code} {N0 : Nat} {T : Nat → ClassId} {D : va_G} {gr : List (Nat × Nat)} {ad : Nat → Nat → Nat → Nat}
set_option maxRecDepth 100000 in
set_option maxHeartbeats 4000000 in
theorem w_X12_tasteNow_b43 {Y : Mem} (C : Cx p s m [.ref (ad 10 0 0)].toArray meth c cX12_tasteNow 3 wsX12_tasteNow RX12 N0 T D gr ad) (hrt : meth.sig.returnType = (some .int)) (hG : ∀ q ∈ [(10, 0)], q ∈ gr) {res : Int32} {k9 : Int32 → Int32 → Option (Int32)} (hk9 : ∀ (l2 : Int32) (l1 : Int32), k9 l2 l1 = some res → FW p l e (Rm 1) s m [.ref (ad 10 0 0)].toArray below meth c 3 N0 T D gr ad 0 0 (MQ below (va_Qi (fun r Y1 => r = res ∧ Y1 = Y) (WB T D gr ad) (fun q => N0 ≤ q)) [.ref (ad 10 0 0)].toArray s 0 0 (fun q => N0 ≤ q)) Y 9 [(2, .int l2), (1, .int l1), (0, .ref (ad 10 0 0))] []) (l2 : Int32) (s0 : Int32) (s1 : Int32) (h : X12_tasteNow_b43 Y k9 l2 s0 s1 = some res) : FW p l e (Rm 1) s m [.ref (ad 10 0 0)].toArray below meth c 3 N0 T D gr ad 0 0 (MQ below (va_Qi (fun r Y1 => r = res ∧ Y1 = Y) (WB T D gr ad) (fun q => N0 ≤ q)) [.ref (ad 10 0 0)].toArray s 0 0 (fun q => N0 ≤ q)) Y 43 [(2, .int l2), (0, .ref (ad 10 0 0))] [.int s0, .int s1] := by
  unfold X12_tasteNow_b43 at h
  refine fw_iadd C dX12_tasteNow_43 ?_
  obtain ⟨v9, e10, h⟩ := lt_some h
  refine fw_top (v' := .int v9) (by rw [e10]) ?_
  refine fw_istore_n C dX12_tasteNow_44 rfl (by decide) (L' := [(1, .int v9), (2, .int l2), (0, .ref (ad 10 0 0))]) rfl ?_
  refine fw_iinc C dX12_tasteNow_45 (kk := 1) (v := l2 + 1) rfl rfl (by decide) (L' := [(2, .int (l2 + 1)), (1, .int v9), (0, .ref (ad 10 0 0))]) rfl ?_
  refine fw_goto C dX12_tasteNow_48 (tgt := 9) rfl ?_
  exact hk9 _ _ h
set_option maxRecDepth 100000 in
set_option maxHeartbeats 4000000 in
theorem w_X12_tasteNow_b9 {Y : Mem} (C : Cx p s m [.ref (ad 10 0 0)].toArray meth c cX12_tasteNow 3 wsX12_tasteNow RX12 N0 T D gr ad) (hrt : meth.sig.returnType = (some .int)) (hG : ∀ q ∈ [(10, 0)], q ∈ gr) {res : Int32} : ∀ (n : Nat) (l2 : Int32) (l1 : Int32), X12_tasteNow_b9 Y  n l2 l1 = some res → FW p l e (Rm 1) s m [.ref (ad 10 0 0)].toArray below meth c 3 N0 T D gr ad 0 0 (MQ below (va_Qi (fun r Y1 => r = res ∧ Y1 = Y) (WB T D gr ad) (fun q => N0 ≤ q)) [.ref (ad 10 0 0)].toArray s 0 0 (fun q => N0 ≤ q)) Y 9 [(2, .int l2), (1, .int l1), (0, .ref (ad 10 0 0))] [] := by
  intro n
  induction n with
  | zero =>
    intro l2 l1 h
    unfold X12_tasteNow_b9 at h
    cases h
  | succ n ih =>
    intro l2 l1 h
    unfold X12_tasteNow_b9 at h
    refine fw_iload_n C dX12_tasteNow_9 rfl 0 rfl ?_
    refine fw_aload_n C dX12_tasteNow_10 rfl 2 rfl ?_
    refine fw_get C (ci := 10) (Cn := RX12) (Tc := TX12) (N := 19) (j := 0) ly_X12_tasteNow_12 rfl (hG _ (List.mem_of_getElem? (i := 0) rfl)) (of10_0 _) (ce10 T ad _ _) (by decide) (cx_ts C _ fl_X12_tasteNow_13) (fun _ h => h) (v := .ref (ad 10 0 1)) rfl dX12_tasteNow_11 ?_
    refine fw_bipush C dX12_tasteNow_14 (v := 13) rfl ?_
    obtain ⟨b4, h⟩ := gd_some h
    refine fw_iald2 C (hG _ (List.mem_of_getElem? (i := 0) rfl)) (of10_1 _) (ca10_1 T ad _ _) b4 (Nat.le_of_ble_eq_true rfl) dX12_tasteNow_16 ?_
    refine fw_icmp_ge C dX12_tasteNow_17 (tgt := 51) rfl (fun c5 => ?_) (fun c5 => ?_)
    · have h := ite_t c5 h
      refine fw_iload_n C dX12_tasteNow_51 rfl 1 rfl ?_
      exact fw_iret C hrt Y ⟨Option.some.inj h, rfl⟩ (fun t ht => ht) dX12_tasteNow_52
    · have h := ite_f c5 h
      refine fw_iload_n C dX12_tasteNow_20 rfl 1 rfl ?_
      refine fw_aload_n C dX12_tasteNow_21 rfl 2 rfl ?_
      refine fw_iload_n C dX12_tasteNow_22 rfl 0 rfl ?_
      refine fw_bipush C dX12_tasteNow_23 (v := 17) rfl ?_
      obtain ⟨r6, q7, h⟩ := bd1_some h
      refine fw_callVi C (ci := 10) (Cn := RX12) (Tc := TX12) (N := 19) (As := [.int l2, .int 17]) (c_X12_of (gac (hG _ (List.mem_of_getElem? (i := 0) rfl)) ga0) q7) (cwV 2 (cx_ts C) gX12_tasteNow_X12_of rfl rfl rfl (by decide +kernel) ⟨Nat.le_of_ble_eq_true rfl, Nat.le_of_ble_eq_true rfl⟩) rfl (hG _ (List.mem_of_getElem? (i := 0) rfl)) (of10_0 _) (ce10 T ad _ _) rfl (st := [.int l1]) rfl (Nat.le_of_ble_eq_true rfl) ⟨Nat.le_refl 0, Nat.le_refl 0⟩ dX12_tasteNow_25 (pp2 ?_)
      refine fw_iconst C dX12_tasteNow_28 (v := 2) rfl ?_
      refine fw_icmp_ne C dX12_tasteNow_29 (tgt := 42) rfl (fun c8 => ?_) (fun c8 => ?_)
      · have h := ite_f c8 h
        refine fw_iconst C dX12_tasteNow_42 (v := 0) rfl ?_
        refine fw_sub [0, 2] (L' := [(2, .int l2), (0, .ref (ad 10 0 0))]) rfl ?_
        exact w_X12_tasteNow_b43 C hrt hG  ih _ _ _ h
      · have h := ite_t c8 h
        refine fw_aload_n C dX12_tasteNow_32 rfl 2 rfl ?_
        refine fw_iload_n C dX12_tasteNow_33 rfl 0 rfl ?_
        refine fw_bipush C dX12_tasteNow_34 (v := 8) rfl ?_
        obtain ⟨r11, q12, h⟩ := bd1_some h
        refine fw_callVi C (ci := 10) (Cn := RX12) (Tc := TX12) (N := 19) (As := [.int l2, .int 8]) (c_X12_of (gac (hG _ (List.mem_of_getElem? (i := 0) rfl)) ga0) q12) (cwV 2 (cx_ts C) gX12_tasteNow_X12_of rfl rfl rfl (by decide +kernel) ⟨Nat.le_of_ble_eq_true rfl, Nat.le_of_ble_eq_true rfl⟩) rfl (hG _ (List.mem_of_getElem? (i := 0) rfl)) (of10_0 _) (ce10 T ad _ _) rfl (st := [.int l1]) rfl (Nat.le_of_ble_eq_true rfl) ⟨Nat.le_refl 0, Nat.le_refl 0⟩ dX12_tasteNow_36 (pp2 ?_)
        refine fw_goto C dX12_tasteNow_39 (tgt := 43) rfl ?_
        refine fw_sub [0, 2] (L' := [(2, .int l2), (0, .ref (ad 10 0 0))]) rfl ?_
        exact w_X12_tasteNow_b43 C hrt hG  ih _ _ _ h
set_option maxRecDepth 100000 in
set_option maxHeartbeats 4000000 in
theorem w_X12_tasteNow {Y : Mem} (C : Cx p s m [.ref (ad 10 0 0)].toArray meth c cX12_tasteNow 3 wsX12_tasteNow RX12 N0 T D gr ad) (hrt : meth.sig.returnType = (some .int)) (hG : ∀ q ∈ [(10, 0)], q ∈ gr) {res : Int32} (h : X12_tasteNow Y = some res) : FW p l e (Rm 1) s m [.ref (ad 10 0 0)].toArray below meth c 3 N0 T D gr ad 0 0 (MQ below (va_Qi (fun r Y1 => r = res ∧ Y1 = Y) (WB T D gr ad) (fun q => N0 ≤ q)) [.ref (ad 10 0 0)].toArray s 0 0 (fun q => N0 ≤ q)) Y 0 [(0, .ref (ad 10 0 0))] [] := by
  unfold X12_tasteNow at h
  refine fw_aload_n C dX12_tasteNow_0 rfl 0 rfl ?_
  refine fw_get C (ci := 10) (Cn := RX12) (Tc := TX12) (N := 19) (j := 0) ly_X12_tasteNow_12 rfl (hG _ (List.mem_of_getElem? (i := 0) rfl)) (of10_0 _) (ce10 T ad _ _) (by decide) (cx_ts C _ fl_X12_tasteNow_13) (fun _ h => h) (v := .ref (ad 10 0 1)) rfl dX12_tasteNow_1 ?_
  refine fw_iconst C dX12_tasteNow_4 (v := 5) rfl ?_
  obtain ⟨b1, h⟩ := gd_some h
  refine fw_iald2 C (hG _ (List.mem_of_getElem? (i := 0) rfl)) (of10_1 _) (ca10_1 T ad _ _) b1 (Nat.le_of_ble_eq_true rfl) dX12_tasteNow_5 ?_
  obtain ⟨v2, e3, h⟩ := lt_some h
  refine fw_top (v' := .int v2) (by rw [e3]) ?_
  refine fw_istore_n C dX12_tasteNow_6 rfl (by decide) (L' := [(1, .int v2), (0, .ref (ad 10 0 0))]) rfl ?_
  refine fw_iconst C dX12_tasteNow_7 (v := 0) rfl ?_
  refine fw_istore_n C dX12_tasteNow_8 rfl (by decide) (L' := [(2, .int 0), (1, .int v2), (0, .ref (ad 10 0 0))]) rfl ?_
  exact w_X12_tasteNow_b9 C hrt hG   _ _ _ h
end
set_option maxRecDepth 100000 in
set_option maxHeartbeats 4000000 in
theorem c_X12_tasteNow {l : Launch} {N0 : Nat} {T : Nat → ClassId} {D : va_G} {gr : List (Nat × Nat)} {ad : Nat → Nat → Nat → Nat} {Y : Mem} {res : Int32} (hG : ∀ q ∈ [(10, 0)], q ∈ gr) (h : X12_tasteNow Y = some res) : CI l yX12_tasteNow wsX12_tasteNow (Rm 1) N0 T D gr ad Y [.ref (ad 10 0 0)] (fun r Y1 => r = res ∧ Y1 = Y) :=
  fw_body (by decide +kernel) rfl (Nat.le_of_ble_eq_true rfl) (fun p e s m below meth c C hrt => w_X12_tasteNow C hrt hG  h)
theorem ly_X12_addSalt_12 : ∀ w ∈ u_ws RX12 TX12 19, w ∈ wsX12_addSalt := by decide +kernel
theorem fl_X12_addSalt_13 : Cond.fieldLink RX12 13 "RecipeSchedulerModel" "m" "[I" ∈ wsX12_addSalt := by decide +kernel
section
variable {p : Program} {l : Launch} {e : Env} {s : State} {m : MethodId} {below : List Frame} {meth : Method} {c : Code} {N0 : Nat} {T : Nat → ClassId} {D : va_G} {gr : List (Nat × Nat)} {ad : Nat → Nat → Nat → Nat}
set_option maxRecDepth 100000 in
set_option maxHeartbeats 4000000 in
theorem w_X12_addSalt_b37 {a1 : Int32} (C : Cx p s m [.ref (ad 10 0 0), .int a1].toArray meth c cX12_addSalt 2 wsX12_addSalt RX12 N0 T D gr ad) (hrt : meth.sig.returnType = (some .int)) (hG : ∀ q ∈ [(10, 0)], q ∈ gr) {res : Int32 × Mem} (Y : Mem) (s0 : Int32) (s1 : Int32) (h : X12_addSalt_b37 a1  Y s0 s1 = some res) : FW p l e (Rm 2) s m [.ref (ad 10 0 0), .int a1].toArray below meth c 2 N0 T D gr ad 0 0 (MQ below (va_Qi (fun r Y1 => (r, Y1) = res) (WB T D gr ad) (fun q => N0 ≤ q)) [.ref (ad 10 0 0), .int a1].toArray s 0 0 (fun q => N0 ≤ q)) Y 37 [(0, .ref (ad 10 0 0)), (1, .int a1)] [.int s0, .int s1, .ref (ad 10 0 0)] := by
  unfold X12_addSalt_b37 at h
  refine fw_iconst C dX12_addSalt_37 (v := 0) rfl ?_
  obtain ⟨r6, Y8, q7, h⟩ := bd2_some h
  refine fw_callVi C (ci := 10) (Cn := RX12) (Tc := TX12) (N := 19) (As := [.int s1, .int s0, .int 0]) (c_X12_fails (gac (hG _ (List.mem_of_getElem? (i := 0) rfl)) ga0) q7) (cwV 3 (cx_ts C) gX12_addSalt_X12_fails rfl rfl rfl (by decide +kernel) ⟨Nat.le_of_ble_eq_true rfl, Nat.le_of_ble_eq_true rfl⟩) rfl (hG _ (List.mem_of_getElem? (i := 0) rfl)) (of10_0 _) (ce10 T ad _ _) rfl (st := []) rfl (Nat.le_of_ble_eq_true rfl) ⟨Nat.le_refl 0, Nat.le_refl 0⟩ dX12_addSalt_38 (ppw ?_)
  refine fw_if_eq C dX12_addSalt_41 (tgt := 46) rfl (fun c9 => ?_) (fun c9 => ?_)
  · have h := ite_t c9 h
    refine fw_aload_n C dX12_addSalt_46 rfl 0 rfl ?_
    refine fw_iconst C dX12_addSalt_47 (v := 0) rfl ?_
    obtain ⟨Y12, q11, h⟩ := bd1_some h
    refine fw_callVv C (ci := 10) (Cn := RX12) (Tc := TX12) (N := 19) (As := [.int 0]) (c_X12_remember (gac (hG _ (List.mem_of_getElem? (i := 0) rfl)) ga0) q11) (cwV 1 (cx_ts C) gX12_addSalt_X12_remember rfl rfl rfl (by decide +kernel) ⟨Nat.le_of_ble_eq_true rfl, Nat.le_of_ble_eq_true rfl⟩) rfl (hG _ (List.mem_of_getElem? (i := 0) rfl)) (of10_0 _) (ce10 T ad _ _) rfl (st := []) rfl (Nat.le_of_ble_eq_true rfl) ⟨Nat.le_refl 0, Nat.le_refl 0⟩ dX12_addSalt_48 (ppv ?_)
    refine fw_aload_n C dX12_addSalt_51 rfl 0 rfl ?_
    refine fw_get C (ci := 10) (Cn := RX12) (Tc := TX12) (N := 19) (j := 0) ly_X12_addSalt_12 rfl (hG _ (List.mem_of_getElem? (i := 0) rfl)) (of10_0 _) (ce10 T ad _ _) (by decide) (cx_ts C _ fl_X12_addSalt_13) (fun _ h => h) (v := .ref (ad 10 0 1)) rfl dX12_addSalt_52 ?_
    refine fw_iconst C dX12_addSalt_55 (v := 5) rfl ?_
    refine fw_dup2 C dX12_addSalt_56 rfl rfl ?_
    obtain ⟨b13, h⟩ := gd_some h
    refine fw_iald2 C (hG _ (List.mem_of_getElem? (i := 0) rfl)) (of10_1 _) (ca10_1 T ad _ _) b13 (Nat.le_of_ble_eq_true rfl) dX12_addSalt_57 ?_
    refine fw_iload_n C dX12_addSalt_58 rfl 1 rfl ?_
    refine fw_iadd C dX12_addSalt_59 ?_
    obtain ⟨Y14, e15, h⟩ := lt_some h
    refine fw_iast2 C (hG _ (List.mem_of_getElem? (i := 0) rfl)) (of10_1 _) (ca10_1 T ad _) b13 (Nat.le_of_ble_eq_true rfl) dX12_addSalt_60 ?_
    refine fw_mem e15 ?_
    refine fw_aload_n C dX12_addSalt_61 rfl 0 rfl ?_
    obtain ⟨r16, q17, h⟩ := bd1_some h
    refine fw_callVi C (ci := 10) (Cn := RX12) (Tc := TX12) (N := 19) (As := []) (c_X12_tasteNow (gac (hG _ (List.mem_of_getElem? (i := 0) rfl)) ga0) q17) (cwV 0 (cx_ts C) gX12_addSalt_X12_tasteNow rfl rfl rfl (by decide +kernel) ⟨Nat.le_of_ble_eq_true rfl, Nat.le_of_ble_eq_true rfl⟩) rfl (hG _ (List.mem_of_getElem? (i := 0) rfl)) (of10_0 _) (ce10 T ad _ _) rfl (st := []) rfl (Nat.le_of_ble_eq_true rfl) ⟨Nat.le_refl 0, Nat.le_refl 0⟩ dX12_addSalt_62 (pp2 ?_)
    exact fw_iret C hrt Y14 (Option.some.inj h) (fun t ht => ht) dX12_addSalt_65
  · have h := ite_f c9 h
    refine fw_iconst C dX12_addSalt_44 (v := 0) rfl ?_
    exact fw_iret C hrt Y8 (Option.some.inj h) (fun t ht => ht) dX12_addSalt_45
set_option maxRecDepth 100000 in
set_option maxHeartbeats 4000000 in
theorem w_X12_addSalt_b21 {a1 : Int32} (C : Cx p s m [.ref (ad 10 0 0), .int a1].toArray meth c cX12_addSalt 2 wsX12_addSalt RX12 N0 T D gr ad) (hrt : meth.sig.returnType = (some .int)) (hG : ∀ q ∈ [(10, 0)], q ∈ gr) {res : Int32 × Mem} (Y : Mem) (s0 : Int32) (h : X12_addSalt_b21 a1  Y s0 = some res) : FW p l e (Rm 2) s m [.ref (ad 10 0 0), .int a1].toArray below meth c 2 N0 T D gr ad 0 0 (MQ below (va_Qi (fun r Y1 => (r, Y1) = res) (WB T D gr ad) (fun q => N0 ≤ q)) [.ref (ad 10 0 0), .int a1].toArray s 0 0 (fun q => N0 ≤ q)) Y 21 [(0, .ref (ad 10 0 0)), (1, .int a1)] [.int s0, .ref (ad 10 0 0)] := by
  unfold X12_addSalt_b21 at h
  refine fw_aload_n C dX12_addSalt_21 rfl 0 rfl ?_
  refine fw_get C (ci := 10) (Cn := RX12) (Tc := TX12) (N := 19) (j := 0) ly_X12_addSalt_12 rfl (hG _ (List.mem_of_getElem? (i := 0) rfl)) (of10_0 _) (ce10 T ad _ _) (by decide) (cx_ts C _ fl_X12_addSalt_13) (fun _ h => h) (v := .ref (ad 10 0 1)) rfl dX12_addSalt_22 ?_
  refine fw_bipush C dX12_addSalt_25 (v := 6) rfl ?_
  obtain ⟨b4, h⟩ := gd_some h
  refine fw_iald2 C (hG _ (List.mem_of_getElem? (i := 0) rfl)) (of10_1 _) (ca10_1 T ad _ _) b4 (Nat.le_of_ble_eq_true rfl) dX12_addSalt_27 ?_
  refine fw_iconst C dX12_addSalt_28 (v := 1) rfl ?_
  refine fw_icmp_ne C dX12_addSalt_29 (tgt := 36) rfl (fun c5 => ?_) (fun c5 => ?_)
  · have h := ite_f c5 h
    refine fw_iconst C dX12_addSalt_36 (v := 0) rfl ?_
    exact w_X12_addSalt_b37 C hrt hG   _ _ _ h
  · have h := ite_t c5 h
    refine fw_iconst C dX12_addSalt_32 (v := 1) rfl ?_
    refine fw_goto C dX12_addSalt_33 (tgt := 37) rfl ?_
    exact w_X12_addSalt_b37 C hrt hG   _ _ _ h
set_option maxRecDepth 100000 in
set_option maxHeartbeats 4000000 in
theorem w_X12_addSalt_b16 {a1 : Int32} (C : Cx p s m [.ref (ad 10 0 0), .int a1].toArray meth c cX12_addSalt 2 wsX12_addSalt RX12 N0 T D gr ad) (hrt : meth.sig.returnType = (some .int)) (hG : ∀ q ∈ [(10, 0)], q ∈ gr) {res : Int32 × Mem} (Y : Mem) (h : X12_addSalt_b16 a1  Y = some res) : FW p l e (Rm 2) s m [.ref (ad 10 0 0), .int a1].toArray below meth c 2 N0 T D gr ad 0 0 (MQ below (va_Qi (fun r Y1 => (r, Y1) = res) (WB T D gr ad) (fun q => N0 ≤ q)) [.ref (ad 10 0 0), .int a1].toArray s 0 0 (fun q => N0 ≤ q)) Y 16 [(0, .ref (ad 10 0 0)), (1, .int a1)] [.ref (ad 10 0 0)] := by
  unfold X12_addSalt_b16 at h
  refine fw_iconst C dX12_addSalt_16 (v := 1) rfl ?_
  refine fw_goto C dX12_addSalt_17 (tgt := 21) rfl ?_
  exact w_X12_addSalt_b21 C hrt hG   _ _ h
set_option maxRecDepth 100000 in
set_option maxHeartbeats 4000000 in
theorem w_X12_addSalt {Y : Mem} {a1 : Int32} (C : Cx p s m [.ref (ad 10 0 0), .int a1].toArray meth c cX12_addSalt 2 wsX12_addSalt RX12 N0 T D gr ad) (hrt : meth.sig.returnType = (some .int)) (hG : ∀ q ∈ [(10, 0)], q ∈ gr) {res : Int32 × Mem} (h : X12_addSalt Y a1 = some res) : FW p l e (Rm 2) s m [.ref (ad 10 0 0), .int a1].toArray below meth c 2 N0 T D gr ad 0 0 (MQ below (va_Qi (fun r Y1 => (r, Y1) = res) (WB T D gr ad) (fun q => N0 ≤ q)) [.ref (ad 10 0 0), .int a1].toArray s 0 0 (fun q => N0 ≤ q)) Y 0 [(0, .ref (ad 10 0 0)), (1, .int a1)] [] := by
  unfold X12_addSalt at h
  refine fw_aload_n C dX12_addSalt_0 rfl 0 rfl ?_
  refine fw_iload_n C dX12_addSalt_1 rfl 1 rfl ?_
  refine fw_bipush C dX12_addSalt_2 (v := (-9)) rfl ?_
  refine fw_bipush C dX12_addSalt_4 (v := 9) rfl ?_
  obtain ⟨r1, q2, h⟩ := bd1_some h
  refine fw_callSi C (As := [.int a1, .int ((-9)), .int 9]) (c_X12_in ga0 q2) (va_cwS 3 (cx_ts C) gX12_addSalt_X12_in rfl rfl rfl (by decide +kernel) ⟨Nat.le_of_ble_eq_true rfl, Nat.le_of_ble_eq_true rfl⟩) rfl (st := [.ref (ad 10 0 0)]) rfl (Nat.le_of_ble_eq_true rfl) ⟨Nat.le_refl 0, Nat.le_refl 0⟩ dX12_addSalt_6 (pp2 ?_)
  refine fw_if_eq C dX12_addSalt_9 (tgt := 16) rfl (fun c3 => ?_) (fun c3 => ?_)
  · have h := ite_t c3 h
    exact w_X12_addSalt_b16 C hrt hG   _ h
  · have h := ite_f c3 h
    refine fw_iload_n C dX12_addSalt_12 rfl 1 rfl ?_
    refine fw_if_ne C dX12_addSalt_13 (tgt := 20) rfl (fun c18 => ?_) (fun c18 => ?_)
    · have h := ite_f c18 h
      refine fw_iconst C dX12_addSalt_20 (v := 0) rfl ?_
      exact w_X12_addSalt_b21 C hrt hG   _ _ h
    · have h := ite_t c18 h
      exact w_X12_addSalt_b16 C hrt hG   _ h
end
set_option maxRecDepth 100000 in
set_option maxHeartbeats 4000000 in
theorem c_X12_addSalt {l : Launch} {N0 : Nat} {T : Nat → ClassId} {D : va_G} {gr : List (Nat × Nat)} {ad : Nat → Nat → Nat → Nat} {Y : Mem} {a1 : Int32} {res : Int32 × Mem} (hG : ∀ q ∈ [(10, 0)], q ∈ gr) (h : X12_addSalt Y a1 = some res) : CI l yX12_addSalt wsX12_addSalt (Rm 2) N0 T D gr ad Y [.ref (ad 10 0 0), .int a1] (fun r Y1 => (r, Y1) = res) :=
  fw_body (by decide +kernel) rfl (Nat.le_of_ble_eq_true rfl) (fun p e s m below meth c C hrt => w_X12_addSalt C hrt hG  h)
theorem ly_X12_isStep_12 : ∀ w ∈ u_ws RX12 TX12 19, w ∈ wsX12_isStep := by decide +kernel
theorem fl_X12_isStep_13 : Cond.fieldLink RX12 13 "RecipeSchedulerModel" "m" "[I" ∈ wsX12_isStep := by decide +kernel
section
variable {p : Program} {l : Launch} {e : Env} {s : State} {m : MethodId} {below : List Frame} {meth : Method} {c : Code} {N0 : Nat} {T : Nat → ClassId} {D : va_G} {gr : List (Nat × Nat)} {ad : Nat → Nat → Nat → Nat}
set_option maxRecDepth 100000 in
set_option maxHeartbeats 4000000 in
theorem w_X12_isStep {Y : Mem} {a1 : Int32} (C : Cx p s m [.ref (ad 10 0 0), .int a1].toArray meth c cX12_isStep 2 wsX12_isStep RX12 N0 T D gr ad) (hrt : meth.sig.returnType = (some .boolean)) (hG : ∀ q ∈ [(10, 0)], q ∈ gr) {res : Int32} (h : X12_isStep Y a1 = some res) : FW p l e (Rm 1) s m [.ref (ad 10 0 0), .int a1].toArray below meth c 2 N0 T D gr ad 0 0 (MQ below (va_Qi (fun r Y1 => r = res ∧ Y1 = Y) (WB T D gr ad) (fun q => N0 ≤ q)) [.ref (ad 10 0 0), .int a1].toArray s 0 0 (fun q => N0 ≤ q)) Y 0 [(0, .ref (ad 10 0 0)), (1, .int a1)] [] := by
  unfold X12_isStep at h
  refine fw_iload_n C dX12_isStep_0 rfl 1 rfl ?_
  refine fw_iconst C dX12_isStep_1 (v := 0) rfl ?_
  refine fw_aload_n C dX12_isStep_2 rfl 0 rfl ?_
  refine fw_get C (ci := 10) (Cn := RX12) (Tc := TX12) (N := 19) (j := 0) ly_X12_isStep_12 rfl (hG _ (List.mem_of_getElem? (i := 0) rfl)) (of10_0 _) (ce10 T ad _ _) (by decide) (cx_ts C _ fl_X12_isStep_13) (fun _ h => h) (v := .ref (ad 10 0 1)) rfl dX12_isStep_3 ?_
  refine fw_bipush C dX12_isStep_6 (v := 13) rfl ?_
  obtain ⟨b1, h⟩ := gd_some h
  refine fw_iald2 C (hG _ (List.mem_of_getElem? (i := 0) rfl)) (of10_1 _) (ca10_1 T ad _ _) b1 (Nat.le_of_ble_eq_true rfl) dX12_isStep_8 ?_
  refine fw_iconst C dX12_isStep_9 (v := 1) rfl ?_
  refine fw_isub C dX12_isStep_10 ?_
  obtain ⟨r2, q3, h⟩ := bd1_some h
  refine fw_callSi C (As := [.int a1, .int 0, .int ((Y 10 0 1 (ix 13)) - 1)]) (c_X12_in ga0 q3) (va_cwS 3 (cx_ts C) gX12_isStep_X12_in rfl rfl rfl (by decide +kernel) ⟨Nat.le_of_ble_eq_true rfl, Nat.le_of_ble_eq_true rfl⟩) rfl (st := []) rfl (Nat.le_of_ble_eq_true rfl) ⟨Nat.le_refl 0, Nat.le_refl 0⟩ dX12_isStep_11 (pp2 ?_)
  obtain ⟨b4, h⟩ := gd_some h
  exact fw_zret C hrt (of_decide_eq_true b4) Y ⟨Option.some.inj h, rfl⟩ (fun t ht => ht) dX12_isStep_14
end
set_option maxRecDepth 100000 in
set_option maxHeartbeats 4000000 in
theorem c_X12_isStep {l : Launch} {N0 : Nat} {T : Nat → ClassId} {D : va_G} {gr : List (Nat × Nat)} {ad : Nat → Nat → Nat → Nat} {Y : Mem} {a1 : Int32} {res : Int32} (hG : ∀ q ∈ [(10, 0)], q ∈ gr) (h : X12_isStep Y a1 = some res) : CI l yX12_isStep wsX12_isStep (Rm 1) N0 T D gr ad Y [.ref (ad 10 0 0), .int a1] (fun r Y1 => r = res ∧ Y1 = Y) :=
  fw_body (by decide +kernel) rfl (Nat.le_of_ble_eq_true rfl) (fun p e s m below meth c C hrt => w_X12_isStep C hrt hG  h)
