section
variable {p : Program} {l : Launch} {e : Env} {s : State} {m : MethodId} {below : List Frame} {meth : Method} {c : Code} {N0 : Nat} {T : Nat → ClassId} {D : va_G} {gr : List (Nat × Nat)} {ad : Nat → Nat → Nat → Nat}
set_option maxRecDepth 100000 in
set_option maxHeartbeats 4000000 in
theorem w_X12_in {Y : Mem} {a0 : Int32} {a1 : Int32} {a2 : Int32} (C : Cx p s m [.int a0, .int a1, .int a2].toArray meth c cX12_in 3 wsX12_in RX12 N0 T D gr ad) (hrt : meth.sig.returnType = (some .boolean)) (hG : ∀ q ∈ [], q ∈ gr) {res : Int32} (h : X12_in Y a0 a1 a2 = some res) : FW p l e (Rm 0) s m [.int a0, .int a1, .int a2].toArray below meth c 3 N0 T D gr ad 0 0 (MQ below (va_Qi (fun r Y1 => r = res ∧ Y1 = Y) (WB T D gr ad) (fun q => N0 ≤ q)) [.int a0, .int a1, .int a2].toArray s 0 0 (fun q => N0 ≤ q)) Y 0 [(0, .int a0), (1, .int a1), (2, .int a2)] [] := by
  unfold X12_in at h
  refine fw_iload_n C dX12_in_0 rfl 0 rfl ?_
  refine fw_iload_n C dX12_in_1 rfl 1 rfl ?_
  refine fw_icmp_lt C dX12_in_2 (tgt := 14) rfl (fun c1 => ?_) (fun c1 => ?_)
  · have h := ite_t c1 h
    refine fw_iconst C dX12_in_14 (v := 0) rfl ?_
    exact fw_zret C hrt (by decide) Y ⟨Option.some.inj h, rfl⟩ (fun t ht => ht) dX12_in_15
  · have h := ite_f c1 h
    refine fw_iload_n C dX12_in_5 rfl 0 rfl ?_
    refine fw_iload_n C dX12_in_6 rfl 2 rfl ?_
    refine fw_icmp_gt C dX12_in_7 (tgt := 14) rfl (fun c2 => ?_) (fun c2 => ?_)
    · have h := ite_t c2 h
      refine fw_iconst C dX12_in_14 (v := 0) rfl ?_
      exact fw_zret C hrt (by decide) Y ⟨Option.some.inj h, rfl⟩ (fun t ht => ht) dX12_in_15
    · have h := ite_f c2 h
      refine fw_iconst C dX12_in_10 (v := 1) rfl ?_
      refine fw_goto C dX12_in_11 (tgt := 15) rfl ?_
      exact fw_zret C hrt (by decide) Y ⟨Option.some.inj h, rfl⟩ (fun t ht => ht) dX12_in_15
end
set_option maxRecDepth 100000 in
set_option maxHeartbeats 4000000 in
theorem c_X12_in {l : Launch} {N0 : Nat} {T : Nat → ClassId} {D : va_G} {gr : List (Nat × Nat)} {ad : Nat → Nat → Nat → Nat} {Y : Mem} {a0 : Int32} {a1 : Int32} {a2 : Int32} {res : Int32} (hG : ∀ q ∈ [], q ∈ gr) (h : X12_in Y a0 a1 a2 = some res) : CI l yX12_in wsX12_in (Rm 0) N0 T D gr ad Y [.int a0, .int a1, .int a2] (fun r Y1 => r = res ∧ Y1 = Y) :=
  fw_body (by decide +kernel) rfl (Nat.le_of_ble_eq_true rfl) (fun p e s m below meth c C hrt => w_X12_in C hrt hG  h)
theorem ly_X12_fails_12 : ∀ w ∈ u_ws RX12 TX12 19, w ∈ wsX12_fails := by decide +kernel
theorem fl_X12_fails_1 : Cond.fieldLink RX12 1 "RecipeSchedulerModel" "thrown" "I" ∈ wsX12_fails := by decide +kernel
section
variable {p : Program} {l : Launch} {e : Env} {s : State} {m : MethodId} {below : List Frame} {meth : Method} {c : Code} {N0 : Nat} {T : Nat → ClassId} {D : va_G} {gr : List (Nat × Nat)} {ad : Nat → Nat → Nat → Nat}
set_option maxRecDepth 100000 in
set_option maxHeartbeats 4000000 in
theorem w_X12_fails_b26 {a1 : Int32} {a2 : Int32} {a3 : Int32} (C : Cx p s m [.ref (ad 10 0 0), .int a1, .int a2, .int a3].toArray meth c cX12_fails 4 wsX12_fails RX12 N0 T D gr ad) (hrt : meth.sig.returnType = (some .boolean)) (hG : ∀ q ∈ [(10, 0)], q ∈ gr) {res : Int32 × Mem} (Y : Mem) (s0 : Int32) (h : X12_fails_b26 a1 a2 a3  Y s0 = some res) : FW p l e (Rm 0) s m [.ref (ad 10 0 0), .int a1, .int a2, .int a3].toArray below meth c 4 N0 T D gr ad 0 0 (MQ below (va_Qi (fun r Y1 => (r, Y1) = res) (WB T D gr ad) (fun q => N0 ≤ q)) [.ref (ad 10 0 0), .int a1, .int a2, .int a3].toArray s 0 0 (fun q => N0 ≤ q)) Y 26 [(0, .ref (ad 10 0 0))] [.int s0, .ref (ad 10 0 0)] := by
  unfold X12_fails_b26 at h
  obtain ⟨Y4, e5, h⟩ := lt_some h
  refine fw_put C (ci := 10) (Cn := RX12) (Tc := TX12) (N := 19) (j := 9) (ty := .int) (upd (Y 10 0 0) 9 s0) ly_X12_fails_12 rfl tyX12_ok nmX12 (hG _ (List.mem_of_getElem? (i := 0) rfl)) (of10_0 _) (ce10 T ad _ _) (by decide) (cx_ts C _ fl_X12_fails_1) (fun _ h => h) rfl (by decide +kernel) rfl rfl (Nat.le_of_ble_eq_true rfl) (ce10_put9 T ad _ _ _) dX12_fails_26 ?_
  refine fw_mem ((up_eq _ _ _ _ _ _).symm.trans e5) ?_
  refine fw_aload_n C dX12_fails_29 rfl 0 rfl ?_
  refine fw_get C (ci := 10) (Cn := RX12) (Tc := TX12) (N := 19) (j := 9) ly_X12_fails_12 rfl (hG _ (List.mem_of_getElem? (i := 0) rfl)) (of10_0 _) (ce10 T ad _ _) (by decide) (cx_ts C _ fl_X12_fails_1) (fun _ h => h) (v := .int (Y4 10 0 0 9)) rfl dX12_fails_30 ?_
  refine fw_if_le C dX12_fails_33 (tgt := 40) rfl (fun c6 => ?_) (fun c6 => ?_)
  · have h := ite_t c6 h
    refine fw_iconst C dX12_fails_40 (v := 0) rfl ?_
    exact fw_zret C hrt (by decide) Y4 (Option.some.inj h) (fun t ht => ht) dX12_fails_41
  · have h := ite_f c6 h
    refine fw_iconst C dX12_fails_36 (v := 1) rfl ?_
    refine fw_goto C dX12_fails_37 (tgt := 41) rfl ?_
    exact fw_zret C hrt (by decide) Y4 (Option.some.inj h) (fun t ht => ht) dX12_fails_41
set_option maxRecDepth 100000 in
set_option maxHeartbeats 4000000 in
theorem w_X12_fails {Y : Mem} {a1 : Int32} {a2 : Int32} {a3 : Int32} (C : Cx p s m [.ref (ad 10 0 0), .int a1, .int a2, .int a3].toArray meth c cX12_fails 4 wsX12_fails RX12 N0 T D gr ad) (hrt : meth.sig.returnType = (some .boolean)) (hG : ∀ q ∈ [(10, 0)], q ∈ gr) {res : Int32 × Mem} (h : X12_fails Y a1 a2 a3 = some res) : FW p l e (Rm 0) s m [.ref (ad 10 0 0), .int a1, .int a2, .int a3].toArray below meth c 4 N0 T D gr ad 0 0 (MQ below (va_Qi (fun r Y1 => (r, Y1) = res) (WB T D gr ad) (fun q => N0 ≤ q)) [.ref (ad 10 0 0), .int a1, .int a2, .int a3].toArray s 0 0 (fun q => N0 ≤ q)) Y 0 [(0, .ref (ad 10 0 0)), (1, .int a1), (2, .int a2), (3, .int a3)] [] := by
  unfold X12_fails at h
  refine fw_aload_n C dX12_fails_0 rfl 0 rfl ?_
  refine fw_iload_n C dX12_fails_1 rfl 1 rfl ?_
  refine fw_if_eq C dX12_fails_2 (tgt := 9) rfl (fun c1 => ?_) (fun c1 => ?_)
  · have h := ite_t c1 h
    refine fw_iload_n C dX12_fails_9 rfl 2 rfl ?_
    refine fw_if_eq C dX12_fails_10 (tgt := 17) rfl (fun c2 => ?_) (fun c2 => ?_)
    · have h := ite_t c2 h
      refine fw_iload_n C dX12_fails_17 rfl 3 rfl ?_
      refine fw_if_eq C dX12_fails_18 (tgt := 25) rfl (fun c3 => ?_) (fun c3 => ?_)
      · have h := ite_t c3 h
        refine fw_iconst C dX12_fails_25 (v := 0) rfl ?_
        refine fw_sub [0] (L' := [(0, .ref (ad 10 0 0))]) rfl ?_
        exact w_X12_fails_b26 C hrt hG   _ _ h
      · have h := ite_f c3 h
        refine fw_iconst C dX12_fails_21 (v := 3) rfl ?_
        refine fw_goto C dX12_fails_22 (tgt := 26) rfl ?_
        refine fw_sub [0] (L' := [(0, .ref (ad 10 0 0))]) rfl ?_
        exact w_X12_fails_b26 C hrt hG   _ _ h
    · have h := ite_f c2 h
      refine fw_iconst C dX12_fails_13 (v := 2) rfl ?_
      refine fw_goto C dX12_fails_14 (tgt := 26) rfl ?_
      refine fw_sub [0] (L' := [(0, .ref (ad 10 0 0))]) rfl ?_
      exact w_X12_fails_b26 C hrt hG   _ _ h
  · have h := ite_f c1 h
    refine fw_iconst C dX12_fails_5 (v := 1) rfl ?_
    refine fw_goto C dX12_fails_6 (tgt := 26) rfl ?_
    refine fw_sub [0] (L' := [(0, .ref (ad 10 0 0))]) rfl ?_
    exact w_X12_fails_b26 C hrt hG   _ _ h
end
set_option maxRecDepth 100000 in
set_option maxHeartbeats 4000000 in
theorem c_X12_fails {l : Launch} {N0 : Nat} {T : Nat → ClassId} {D : va_G} {gr : List (Nat × Nat)} {ad : Nat → Nat → Nat → Nat} {Y : Mem} {a1 : Int32} {a2 : Int32} {a3 : Int32} {res : Int32 × Mem} (hG : ∀ q ∈ [(10, 0)], q ∈ gr) (h : X12_fails Y a1 a2 a3 = some res) : CI l yX12_fails wsX12_fails (Rm 0) N0 T D gr ad Y [.ref (ad 10 0 0), .int a1, .int a2, .int a3] (fun r Y1 => (r, Y1) = res) :=
  fw_body (by decide +kernel) rfl (Nat.le_of_ble_eq_true rfl) (fun p e s m below meth c C hrt => w_X12_fails C hrt hG  h)
theorem ly_X12_copyBlock_12 : ∀ w ∈ u_ws RX12 TX12 19, w ∈ wsX12_copyBlock := by decide +kernel
theorem fl_X12_copyBlock_13 : Cond.fieldLink RX12 13 "RecipeSchedulerModel" "m" "[I" ∈ wsX12_copyBlock := by decide +kernel
section
variable {p : Program} {l : Launch} {e : Env} {s : State} {m : MethodId} {below : List Frame} {meth : Method} {c : Code} {N0 : Nat} {T : Nat → ClassId} {D : va_G} {gr : List (Nat × Nat)} {ad : Nat → Nat → Nat → Nat}
set_option maxRecDepth 100000 in
set_option maxHeartbeats 4000000 in
theorem w_X12_copyBlock_b2 {a1 : Int32} {a2 : Int32} (C : Cx p s m [.ref (ad 10 0 0), .int a1, .int a2].toArray meth c cX12_copyBlock 4 wsX12_copyBlock RX12 N0 T D gr ad) (hrt : meth.sig.returnType = none) (hG : ∀ q ∈ [(10, 0)], q ∈ gr) {res : Mem} : ∀ (n : Nat) (Y : Mem) (l3 : Int32), X12_copyBlock_b2 a1 a2  n Y l3 = some res → FW p l e (Rm 0) s m [.ref (ad 10 0 0), .int a1, .int a2].toArray below meth c 4 N0 T D gr ad 0 0 (MQ below (va_Qv (fun Y1 => Y1 = res) (WB T D gr ad) (fun q => N0 ≤ q)) [.ref (ad 10 0 0), .int a1, .int a2].toArray s 0 0 (fun q => N0 ≤ q)) Y 2 [(3, .int l3), (0, .ref (ad 10 0 0)), (1, .int a1), (2, .int a2)] [] := by
  intro n
  induction n with
  | zero =>
    intro Y l3 h
    unfold X12_copyBlock_b2 at h
    cases h
  | succ n ih =>
    intro Y l3 h
    unfold X12_copyBlock_b2 at h
    refine fw_iload_n C dX12_copyBlock_2 rfl 0 rfl ?_
    refine fw_sipush C dX12_copyBlock_3 (v := 382) rfl ?_
    refine fw_icmp_ge C dX12_copyBlock_6 (tgt := 39) rfl (fun c1 => ?_) (fun c1 => ?_)
    · have h := ite_t c1 h
      exact fw_vret C hrt Y (Option.some.inj h) (fun t ht => ht) dX12_copyBlock_39
    · have h := ite_f c1 h
      refine fw_aload_n C dX12_copyBlock_9 rfl 1 rfl ?_
      refine fw_get C (ci := 10) (Cn := RX12) (Tc := TX12) (N := 19) (j := 0) ly_X12_copyBlock_12 rfl (hG _ (List.mem_of_getElem? (i := 0) rfl)) (of10_0 _) (ce10 T ad _ _) (by decide) (cx_ts C _ fl_X12_copyBlock_13) (fun _ h => h) (v := .ref (ad 10 0 1)) rfl dX12_copyBlock_10 ?_
      refine fw_iload_n C dX12_copyBlock_13 rfl 3 rfl ?_
      refine fw_sipush C dX12_copyBlock_14 (v := 382) rfl ?_
      refine fw_imul C dX12_copyBlock_17 ?_
      refine fw_iload_n C dX12_copyBlock_18 rfl 0 rfl ?_
      refine fw_iadd C dX12_copyBlock_19 ?_
      refine fw_aload_n C dX12_copyBlock_20 rfl 1 rfl ?_
      refine fw_get C (ci := 10) (Cn := RX12) (Tc := TX12) (N := 19) (j := 0) ly_X12_copyBlock_12 rfl (hG _ (List.mem_of_getElem? (i := 0) rfl)) (of10_0 _) (ce10 T ad _ _) (by decide) (cx_ts C _ fl_X12_copyBlock_13) (fun _ h => h) (v := .ref (ad 10 0 1)) rfl dX12_copyBlock_21 ?_
      refine fw_iload_n C dX12_copyBlock_24 rfl 2 rfl ?_
      refine fw_sipush C dX12_copyBlock_25 (v := 382) rfl ?_
      refine fw_imul C dX12_copyBlock_28 ?_
      refine fw_iload_n C dX12_copyBlock_29 rfl 0 rfl ?_
      refine fw_iadd C dX12_copyBlock_30 ?_
      obtain ⟨b2, h⟩ := gd_some h
      refine fw_iald2 C (hG _ (List.mem_of_getElem? (i := 0) rfl)) (of10_1 _) (ca10_1 T ad _ _) b2 (Nat.le_of_ble_eq_true rfl) dX12_copyBlock_31 ?_
      obtain ⟨b3, h⟩ := gd_some h
      obtain ⟨Y4, e5, h⟩ := lt_some h
      refine fw_iast2 C (hG _ (List.mem_of_getElem? (i := 0) rfl)) (of10_1 _) (ca10_1 T ad _) b3 (Nat.le_of_ble_eq_true rfl) dX12_copyBlock_32 ?_
      refine fw_mem e5 ?_
      refine fw_iinc C dX12_copyBlock_33 (kk := 0) (v := l3 + 1) rfl rfl (by decide) (L' := [(3, .int (l3 + 1)), (0, .ref (ad 10 0 0)), (1, .int a1), (2, .int a2)]) rfl ?_
      refine fw_goto C dX12_copyBlock_36 (tgt := 2) rfl ?_
      exact ih _ _ h
set_option maxRecDepth 100000 in
set_option maxHeartbeats 4000000 in
theorem w_X12_copyBlock {Y : Mem} {a1 : Int32} {a2 : Int32} (C : Cx p s m [.ref (ad 10 0 0), .int a1, .int a2].toArray meth c cX12_copyBlock 4 wsX12_copyBlock RX12 N0 T D gr ad) (hrt : meth.sig.returnType = none) (hG : ∀ q ∈ [(10, 0)], q ∈ gr) {res : Mem} (h : X12_copyBlock Y a1 a2 = some res) : FW p l e (Rm 0) s m [.ref (ad 10 0 0), .int a1, .int a2].toArray below meth c 4 N0 T D gr ad 0 0 (MQ below (va_Qv (fun Y1 => Y1 = res) (WB T D gr ad) (fun q => N0 ≤ q)) [.ref (ad 10 0 0), .int a1, .int a2].toArray s 0 0 (fun q => N0 ≤ q)) Y 0 [(0, .ref (ad 10 0 0)), (1, .int a1), (2, .int a2)] [] := by
  unfold X12_copyBlock at h
  refine fw_iconst C dX12_copyBlock_0 (v := 0) rfl ?_
  refine fw_istore_n C dX12_copyBlock_1 rfl (by decide) (L' := [(3, .int 0), (0, .ref (ad 10 0 0)), (1, .int a1), (2, .int a2)]) rfl ?_
  exact w_X12_copyBlock_b2 C hrt hG   _ _ _ h
end
set_option maxRecDepth 100000 in
set_option maxHeartbeats 4000000 in
theorem c_X12_copyBlock {l : Launch} {N0 : Nat} {T : Nat → ClassId} {D : va_G} {gr : List (Nat × Nat)} {ad : Nat → Nat → Nat → Nat} {Y : Mem} {a1 : Int32} {a2 : Int32} {res : Mem} (hG : ∀ q ∈ [(10, 0)], q ∈ gr) (h : X12_copyBlock Y a1 a2 = some res) : CV l yX12_copyBlock wsX12_copyBlock (Rm 0) N0 T D gr ad Y [.ref (ad 10 0 0), .int a1, .int a2] (fun Y1 => Y1 = res) :=
  fw_body (by decide +kernel) rfl (Nat.le_of_ble_eq_true rfl) (fun p e s m below meth c C hrt => w_X12_copyBlock C hrt hG  h)
theorem ly_X12_remember_12 : ∀ w ∈ u_ws RX12 TX12 19, w ∈ wsX12_remember := by decide +kernel
theorem fl_X12_remember_21 : Cond.fieldLink RX12 21 "RecipeSchedulerModel" "undoable" "I" ∈ wsX12_remember := by decide +kernel
section
variable {p : Program} {l : Launch} {e : Env} {s : State} {m : MethodId} {below : List Frame} {meth : Method} {c : Code} {N0 : Nat} {T : Nat → ClassId} {D : va_G} {gr : List (Nat × Nat)} {ad : Nat → Nat → Nat → Nat}
set_option maxRecDepth 100000 in
set_option maxHeartbeats 4000000 in
theorem w_X12_remember_b41 {a1 : Int32} (C : Cx p s m [.ref (ad 10 0 0), .int a1].toArray meth c cX12_remember 3 wsX12_remember RX12 N0 T D gr ad) (hrt : meth.sig.returnType = none) (hG : ∀ q ∈ [(10, 0)], q ∈ gr) {res : Mem} (Y : Mem) (h : X12_remember_b41 a1  Y = some res) : FW p l e (Rm 1) s m [.ref (ad 10 0 0), .int a1].toArray below meth c 3 N0 T D gr ad 0 0 (MQ below (va_Qv (fun Y1 => Y1 = res) (WB T D gr ad) (fun q => N0 ≤ q)) [.ref (ad 10 0 0), .int a1].toArray s 0 0 (fun q => N0 ≤ q)) Y 41 [(0, .ref (ad 10 0 0)), (1, .int a1)] [] := by
  unfold X12_remember_b41 at h
  refine fw_aload_n C dX12_remember_41 rfl 0 rfl ?_
  refine fw_dup C dX12_remember_42 rfl ?_
  refine fw_get C (ci := 10) (Cn := RX12) (Tc := TX12) (N := 19) (j := 2) ly_X12_remember_12 rfl (hG _ (List.mem_of_getElem? (i := 0) rfl)) (of10_0 _) (ce10 T ad _ _) (by decide) (cx_ts C _ fl_X12_remember_21) (fun _ h => h) (v := .int (Y 10 0 0 2)) rfl dX12_remember_43 ?_
  refine fw_iconst C dX12_remember_46 (v := 1) rfl ?_
  refine fw_iadd C dX12_remember_47 ?_
  obtain ⟨Y2, e3, h⟩ := lt_some h
  refine fw_put C (ci := 10) (Cn := RX12) (Tc := TX12) (N := 19) (j := 2) (ty := .int) (upd (Y 10 0 0) 2 ((Y 10 0 0 2) + 1)) ly_X12_remember_12 rfl tyX12_ok nmX12 (hG _ (List.mem_of_getElem? (i := 0) rfl)) (of10_0 _) (ce10 T ad _ _) (by decide) (cx_ts C _ fl_X12_remember_21) (fun _ h => h) rfl (by decide +kernel) rfl rfl (Nat.le_of_ble_eq_true rfl) (ce10_put2 T ad _ _ _) dX12_remember_48 ?_
  refine fw_mem ((up_eq _ _ _ _ _ _).symm.trans e3) ?_
  refine fw_aload_n C dX12_remember_51 rfl 0 rfl ?_
  refine fw_iload_n C dX12_remember_52 rfl 1 rfl ?_
  refine fw_aload_n C dX12_remember_53 rfl 0 rfl ?_
  refine fw_get C (ci := 10) (Cn := RX12) (Tc := TX12) (N := 19) (j := 2) ly_X12_remember_12 rfl (hG _ (List.mem_of_getElem? (i := 0) rfl)) (of10_0 _) (ce10 T ad _ _) (by decide) (cx_ts C _ fl_X12_remember_21) (fun _ h => h) (v := .int (Y2 10 0 0 2)) rfl dX12_remember_54 ?_
  obtain ⟨Y6, q5, h⟩ := bd1_some h
  refine fw_callVv C (ci := 10) (Cn := RX12) (Tc := TX12) (N := 19) (As := [.int a1, .int (Y2 10 0 0 2)]) (c_X12_copyBlock (gac (hG _ (List.mem_of_getElem? (i := 0) rfl)) ga0) q5) (cwV 2 (cx_ts C) gX12_remember_X12_copyBlock rfl rfl rfl (by decide +kernel) ⟨Nat.le_of_ble_eq_true rfl, Nat.le_of_ble_eq_true rfl⟩) rfl (hG _ (List.mem_of_getElem? (i := 0) rfl)) (of10_0 _) (ce10 T ad _ _) rfl (st := []) rfl (Nat.le_of_ble_eq_true rfl) ⟨Nat.le_refl 0, Nat.le_refl 0⟩ dX12_remember_57 (ppv ?_)
  exact fw_vret C hrt Y6 (Option.some.inj h) (fun t ht => ht) dX12_remember_60
set_option maxRecDepth 100000 in
set_option maxHeartbeats 4000000 in
theorem w_X12_remember_b11 {a1 : Int32} (C : Cx p s m [.ref (ad 10 0 0), .int a1].toArray meth c cX12_remember 3 wsX12_remember RX12 N0 T D gr ad) (hrt : meth.sig.returnType = none) (hG : ∀ q ∈ [(10, 0)], q ∈ gr) {res : Mem} : ∀ (n : Nat) (Y : Mem) (l2 : Int32), X12_remember_b11 a1  n Y l2 = some res → FW p l e (Rm 1) s m [.ref (ad 10 0 0), .int a1].toArray below meth c 3 N0 T D gr ad 0 0 (MQ below (va_Qv (fun Y1 => Y1 = res) (WB T D gr ad) (fun q => N0 ≤ q)) [.ref (ad 10 0 0), .int a1].toArray s 0 0 (fun q => N0 ≤ q)) Y 11 [(2, .int l2), (0, .ref (ad 10 0 0)), (1, .int a1)] [] := by
  intro n
  induction n with
  | zero =>
    intro Y l2 h
    unfold X12_remember_b11 at h
    cases h
  | succ n ih =>
    intro Y l2 h
    unfold X12_remember_b11 at h
    refine fw_iload_n C dX12_remember_11 rfl 0 rfl ?_
    refine fw_bipush C dX12_remember_12 (v := 6) rfl ?_
    refine fw_icmp_ge C dX12_remember_14 (tgt := 31) rfl (fun c7 => ?_) (fun c7 => ?_)
    · have h := ite_t c7 h
      refine fw_aload_n C dX12_remember_31 rfl 1 rfl ?_
      refine fw_dup C dX12_remember_32 rfl ?_
      refine fw_get C (ci := 10) (Cn := RX12) (Tc := TX12) (N := 19) (j := 2) ly_X12_remember_12 rfl (hG _ (List.mem_of_getElem? (i := 0) rfl)) (of10_0 _) (ce10 T ad _ _) (by decide) (cx_ts C _ fl_X12_remember_21) (fun _ h => h) (v := .int (Y 10 0 0 2)) rfl dX12_remember_33 ?_
      refine fw_iconst C dX12_remember_36 (v := 1) rfl ?_
      refine fw_isub C dX12_remember_37 ?_
      obtain ⟨Y8, e9, h⟩ := lt_some h
      refine fw_put C (ci := 10) (Cn := RX12) (Tc := TX12) (N := 19) (j := 2) (ty := .int) (upd (Y 10 0 0) 2 ((Y 10 0 0 2) - 1)) ly_X12_remember_12 rfl tyX12_ok nmX12 (hG _ (List.mem_of_getElem? (i := 0) rfl)) (of10_0 _) (ce10 T ad _ _) (by decide) (cx_ts C _ fl_X12_remember_21) (fun _ h => h) rfl (by decide +kernel) rfl rfl (Nat.le_of_ble_eq_true rfl) (ce10_put2 T ad _ _ _) dX12_remember_38 ?_
      refine fw_mem ((up_eq _ _ _ _ _ _).symm.trans e9) ?_
      refine fw_sub [1, 2] (L' := [(0, .ref (ad 10 0 0)), (1, .int a1)]) rfl ?_
      exact w_X12_remember_b41 C hrt hG   _ h
    · have h := ite_f c7 h
      refine fw_aload_n C dX12_remember_17 rfl 1 rfl ?_
      refine fw_iload_n C dX12_remember_18 rfl 0 rfl ?_
      refine fw_iconst C dX12_remember_19 (v := 1) rfl ?_
      refine fw_iadd C dX12_remember_20 ?_
      refine fw_iload_n C dX12_remember_21 rfl 0 rfl ?_
      obtain ⟨Y12, q11, h⟩ := bd1_some h
      refine fw_callVv C (ci := 10) (Cn := RX12) (Tc := TX12) (N := 19) (As := [.int (l2 + 1), .int l2]) (c_X12_copyBlock (gac (hG _ (List.mem_of_getElem? (i := 0) rfl)) ga0) q11) (cwV 2 (cx_ts C) gX12_remember_X12_copyBlock rfl rfl rfl (by decide +kernel) ⟨Nat.le_of_ble_eq_true rfl, Nat.le_of_ble_eq_true rfl⟩) rfl (hG _ (List.mem_of_getElem? (i := 0) rfl)) (of10_0 _) (ce10 T ad _ _) rfl (st := []) rfl (Nat.le_of_ble_eq_true rfl) ⟨Nat.le_refl 0, Nat.le_refl 0⟩ dX12_remember_22 (ppv ?_)
      refine fw_iinc C dX12_remember_25 (kk := 0) (v := l2 + 1) rfl rfl (by decide) (L' := [(2, .int (l2 + 1)), (0, .ref (ad 10 0 0)), (1, .int a1)]) rfl ?_
      refine fw_goto C dX12_remember_28 (tgt := 11) rfl ?_
      exact ih _ _ h
set_option maxRecDepth 100000 in
set_option maxHeartbeats 4000000 in
theorem w_X12_remember {Y : Mem} {a1 : Int32} (C : Cx p s m [.ref (ad 10 0 0), .int a1].toArray meth c cX12_remember 3 wsX12_remember RX12 N0 T D gr ad) (hrt : meth.sig.returnType = none) (hG : ∀ q ∈ [(10, 0)], q ∈ gr) {res : Mem} (h : X12_remember Y a1 = some res) : FW p l e (Rm 1) s m [.ref (ad 10 0 0), .int a1].toArray below meth c 3 N0 T D gr ad 0 0 (MQ below (va_Qv (fun Y1 => Y1 = res) (WB T D gr ad) (fun q => N0 ≤ q)) [.ref (ad 10 0 0), .int a1].toArray s 0 0 (fun q => N0 ≤ q)) Y 0 [(0, .ref (ad 10 0 0)), (1, .int a1)] [] := by
  unfold X12_remember at h
  refine fw_aload_n C dX12_remember_0 rfl 0 rfl ?_
  refine fw_get C (ci := 10) (Cn := RX12) (Tc := TX12) (N := 19) (j := 2) ly_X12_remember_12 rfl (hG _ (List.mem_of_getElem? (i := 0) rfl)) (of10_0 _) (ce10 T ad _ _) (by decide) (cx_ts C _ fl_X12_remember_21) (fun _ h => h) (v := .int (Y 10 0 0 2)) rfl dX12_remember_1 ?_
  refine fw_bipush C dX12_remember_4 (v := 6) rfl ?_
  refine fw_icmp_ne C dX12_remember_6 (tgt := 41) rfl (fun c1 => ?_) (fun c1 => ?_)
  · have h := ite_f c1 h
    exact w_X12_remember_b41 C hrt hG   _ h
  · have h := ite_t c1 h
    refine fw_iconst C dX12_remember_9 (v := 1) rfl ?_
    refine fw_istore_n C dX12_remember_10 rfl (by decide) (L' := [(2, .int 1), (0, .ref (ad 10 0 0)), (1, .int a1)]) rfl ?_
    exact w_X12_remember_b11 C hrt hG   _ _ _ h
end
set_option maxRecDepth 100000 in
set_option maxHeartbeats 4000000 in
theorem c_X12_remember {l : Launch} {N0 : Nat} {T : Nat → ClassId} {D : va_G} {gr : List (Nat × Nat)} {ad : Nat → Nat → Nat → Nat} {Y : Mem} {a1 : Int32} {res : Mem} (hG : ∀ q ∈ [(10, 0)], q ∈ gr) (h : X12_remember Y a1 = some res) : CV l yX12_remember wsX12_remember (Rm 1) N0 T D gr ad Y [.ref (ad 10 0 0), .int a1] (fun Y1 => Y1 = res) :=
  fw_body (by decide +kernel) rfl (Nat.le_of_ble_eq_true rfl) (fun p e s m below meth c C hrt => w_X12_remember C hrt hG  h)
theorem ly_X12_of_12 : ∀ w ∈ u_ws RX12 TX12 19, w ∈ wsX12_of := by decide +kernel
theorem fl_X12_of_13 : Cond.fieldLink RX12 13 "RecipeSchedulerModel" "m" "[I" ∈ wsX12_of := by decide +kernel
section
variable {p : Program} {l : Launch} {e : Env} {s : State} {m : MethodId} {below : List Frame} {meth : Method} {c : Code} {N0 : Nat} {T : Nat → ClassId} {D : va_G} {gr : List (Nat × Nat)} {ad : Nat → Nat → Nat → Nat}
set_option maxRecDepth 100000 in
set_option maxHeartbeats 4000000 in
theorem w_X12_of {Y : Mem} {a1 : Int32} {a2 : Int32} (C : Cx p s m [.ref (ad 10 0 0), .int a1, .int a2].toArray meth c cX12_of 3 wsX12_of RX12 N0 T D gr ad) (hrt : meth.sig.returnType = (some .int)) (hG : ∀ q ∈ [(10, 0)], q ∈ gr) {res : Int32} (h : X12_of Y a1 a2 = some res) : FW p l e (Rm 0) s m [.ref (ad 10 0 0), .int a1, .int a2].toArray below meth c 3 N0 T D gr ad 0 0 (MQ below (va_Qi (fun r Y1 => r = res ∧ Y1 = Y) (WB T D gr ad) (fun q => N0 ≤ q)) [.ref (ad 10 0 0), .int a1, .int a2].toArray s 0 0 (fun q => N0 ≤ q)) Y 0 [(0, .ref (ad 10 0 0)), (1, .int a1), (2, .int a2)] [] := by
  unfold X12_of at h
  refine fw_aload_n C dX12_of_0 rfl 0 rfl ?_
  refine fw_get C (ci := 10) (Cn := RX12) (Tc := TX12) (N := 19) (j := 0) ly_X12_of_12 rfl (hG _ (List.mem_of_getElem? (i := 0) rfl)) (of10_0 _) (ce10 T ad _ _) (by decide) (cx_ts C _ fl_X12_of_13) (fun _ h => h) (v := .ref (ad 10 0 1)) rfl dX12_of_1 ?_
  refine fw_bipush C dX12_of_4 (v := 46) rfl ?_
  refine fw_iload_n C dX12_of_6 rfl 1 rfl ?_
  refine fw_bipush C dX12_of_7 (v := 24) rfl ?_
  refine fw_imul C dX12_of_9 ?_
  refine fw_iadd C dX12_of_10 ?_
  refine fw_iload_n C dX12_of_11 rfl 2 rfl ?_
  refine fw_iadd C dX12_of_12 ?_
  obtain ⟨b1, h⟩ := gd_some h
  refine fw_iald2 C (hG _ (List.mem_of_getElem? (i := 0) rfl)) (of10_1 _) (ca10_1 T ad _ _) b1 (Nat.le_of_ble_eq_true rfl) dX12_of_13 ?_
  exact fw_iret C hrt Y ⟨Option.some.inj h, rfl⟩ (fun t ht => ht) dX12_of_14
end
set_option maxRecDepth 100000 in
set_option maxHeartbeats 4000000 in
theorem c_X12_of {l : Launch} {N0 : Nat} {T : Nat → ClassId} {D : va_G} {gr : List (Nat × Nat)} {ad : Nat → Nat → Nat → Nat} {Y : Mem} {a1 : Int32} {a2 : Int32} {res : Int32} (hG : ∀ q ∈ [(10, 0)], q ∈ gr) (h : X12_of Y a1 a2 = some res) : CI l yX12_of wsX12_of (Rm 0) N0 T D gr ad Y [.ref (ad 10 0 0), .int a1, .int a2] (fun r Y1 => r = res ∧ Y1 = Y) :=
  fw_body (by decide +kernel) rfl (Nat.le_of_ble_eq_true rfl) (fun p e s m below meth c C hrt => w_X12_of C hrt hG  h)
theorem ly_X12_tasteNow_12 : ∀ w ∈ u_ws RX12 TX12 19, w ∈ wsX12_tasteNow := by decide +kernel
theorem fl_X12_tasteNow_13 : Cond.fieldLink RX12 13 "RecipeSchedulerModel" "m" "[I" ∈ wsX12_tasteNow := by decide +kernel
section
variable {p : Program} {l : Launch} {e : Env} {s : State} {m : MethodId} {below : List Frame} {meth : Method} {c : Code} {N0 : Nat} {T : Nat → ClassId} {D : va_G} {gr : List (Nat × Nat)} {ad : Nat → Nat → Nat → Nat}
set_option maxRecDepth 100000 in
set_option maxHeartbeats 4000000 in
theorem w_X12_tasteNow_b43 {Y : Mem} (C : Cx p s m [.ref (ad 10 0 0)].toArray meth c cX12_tasteNow 3 wsX12_tasteNow RX12 N0 T D gr ad) (hrt : meth.sig.returnType = (some .int)) (hG : ∀ q ∈ [(10, 0)], q ∈ gr) {res : Int32} {k9 : Int32 → Int32 → Option (Int32)} (hk9 : ∀ (l2 : Int32) (l1 : Int32), k9 l2 l1 = some res → FW p l e (Rm 1) s m [.ref (ad 10 0 0)].toArray below meth c 3 N0 T D gr ad 0 0 (MQ below (va_Qi (fun r Y1 => r = res ∧ Y1 = Y) (WB T D gr ad) (fun q => N0 ≤ q)) [.ref (ad 10 0 0)].toArray s 0 0 (fun q => N0 ≤ q)) Y 9 [(2, .int l2), (1, .int l1), (0, .ref (ad 10 0 0))] []) (l2 : Int32) (s0 : Int32) (s1 : Int32) (h : X12_tasteNow_b43 Y k9 l2 s0 s1 = some res) : FW p l e (Rm 1) s m [.ref (ad 10 0 0)].toArray below meth c 3 N0 T D gr ad 0 0 (MQ below (va_Qi (fun r Y1 => r = res ∧ Y1 = Y) (WB T D gr ad) (fun q => N0 ≤ q)) [.ref (ad 10 0 0)].toArray s 0 0 (fun q => N0 ≤ q)) Y 43 [(2, .int l2), (0, .ref (ad 10 0 0))] [.int s0, .int s1] := by
  unfold X12_tasteNow_b43 at h
  refine fw_iadd C dX12_tasteNow_43 ?_
  obtain ⟨v9, e10, h⟩ := lt_some h
  refine fw_top (v' := .int v9) (by rw [e10]) ?_
  refine fw_istore_n C dX12_tasteNow_44 rfl (by decide) (L' := [(1, .int v9), (2, .int l2), (0, .ref (ad 10 0 0))]) rfl ?_
  refine fw_iinc C dX12_tasteNow_45 (kk := 1) (v := l2 + 1) rfl rfl (by decide) (L' := [(2, .int (l2 + 1)), (1, .int v9), (0, .ref (ad 10 0 0))]) rfl ?_
  refine fw_goto C dX12_tasteNow_48 (tgt := 9) rfl ?_
  exact hk9 _ _ h
set_option maxRecDepth 100000 in
set_option maxHeartbeats 4000000 in
theorem w_X12_tasteNow_b9 {Y : Mem} (C : Cx p s m [.ref (ad 10 0 0)].toArray meth c cX12_tasteNow 3 wsX12_tasteNow RX12 N0 T D gr ad) (hrt : meth.sig.returnType = (some .int)) (hG : ∀ q ∈ [(10, 0)], q ∈ gr) {res : Int32} : ∀ (n : Nat) (l2 : Int32) (l1 : Int32), X12_tasteNow_b9 Y  n l2 l1 = some res → FW p l e (Rm 1) s m [.ref (ad 10 0 0)].toArray below meth c 3 N0 T D gr ad 0 0 (MQ below (va_Qi (fun r Y1 => r = res ∧ Y1 = Y) (WB T D gr ad) (fun q => N0 ≤ q)) [.ref (ad 10 0 0)].toArray s 0 0 (fun q => N0 ≤ q)) Y 9 [(2, .int l2), (1, .int l1), (0, .ref (ad 10 0 0))] [] := by
  intro n
  induction n with
  | zero =>
    intro l2 l1 h
    unfold X12_tasteNow_b9 at h
    cases h
  | succ n ih =>
    intro l2 l1 h
    unfold X12_tasteNow_b9 at h
    refine fw_iload_n C dX12_tasteNow_9 rfl 0 rfl ?_
    refine fw_aload_n C dX12_tasteNow_10 rfl 2 rfl ?_
    refine fw_get C (ci := 10) (Cn := RX12) (Tc := TX12) (N := 19) (j := 0) ly_X12_tasteNow_12 rfl (hG _ (List.mem_of_getElem? (i := 0) rfl)) (of10_0 _) (ce10 T ad _ _) (by decide) (cx_ts C _ fl_X12_tasteNow_13) (fun _ h => h) (v := .ref (ad 10 0 1)) rfl dX12_tasteNow_11 ?_
    refine fw_bipush C dX12_tasteNow_14 (v := 13) rfl ?_
    obtain ⟨b4, h⟩ := gd_some h
    refine fw_iald2 C (hG _ (List.mem_of_getElem? (i := 0) rfl)) (of10_1 _) (ca10_1 T ad _ _) b4 (Nat.le_of_ble_eq_true rfl) dX12_tasteNow_16 ?_
    refine fw_icmp_ge C dX12_tasteNow_17 (tgt := 51) rfl (fun c5 => ?_) (fun c5 => ?_)
    · have h := ite_t c5 h
      refine fw_iload_n C dX12_tasteNow_51 rfl 1 rfl ?_
      exact fw_iret C hrt Y ⟨Option.some.inj h, rfl⟩ (fun t ht => ht) dX12_tasteNow_52
    · have h := ite_f c5 h
      refine fw_iload_n C dX12_tasteNow_20 rfl 1 rfl ?_
      refine fw_aload_n C dX12_tasteNow_21 rfl 2 rfl ?_
      refine fw_iload_n C dX12_tasteNow_22 rfl 0 rfl ?_
      refine fw_bipush C dX12_tasteNow_23 (v := 17) rfl ?_
      obtain ⟨r6, q7, h⟩ := bd1_some h
      refine fw_callVi C (ci := 10) (Cn := RX12) (Tc := TX12) (N := 19) (As := [.int l2, .int 17]) (c_X12_of (gac (hG _ (List.mem_of_getElem? (i := 0) rfl)) ga0) q7) (cwV 2 (cx_ts C) gX12_tasteNow_X12_of rfl rfl rfl (by decide +kernel) ⟨Nat.le_of_ble_eq_true rfl, Nat.le_of_ble_eq_true rfl⟩) rfl (hG _ (List.mem_of_getElem? (i := 0) rfl)) (of10_0 _) (ce10 T ad _ _) rfl (st := [.int l1]) rfl (Nat.le_of_ble_eq_true rfl) ⟨Nat.le_refl 0, Nat.le_refl 0⟩ dX12_tasteNow_25 (pp2 ?_)
      refine fw_iconst C dX12_tasteNow_28 (v := 2) rfl ?_
      refine fw_icmp_ne C dX12_tasteNow_29 (tgt := 42) rfl (fun c8 => ?_) (fun c8 => ?_)
      · have h := ite_f c8 h
        refine fw_iconst C dX12_tasteNow_42 (v := 0) rfl ?_
        refine fw_sub [0, 2] (L' := [(2, .int l2), (0, .ref (ad 10 0 0))]) rfl ?_
        exact w_X12_tasteNow_b43 C hrt hG  ih _ _ _ h
      · have h := ite_t c8 h
        refine fw_aload_n C dX12_tasteNow_32 rfl 2 rfl ?_
        refine fw_iload_n C dX12_tasteNow_33 rfl 0 rfl ?_
        refine fw_bipush C dX12_tasteNow_34 (v := 8) rfl ?_
        obtain ⟨r11, q12, h⟩ := bd1_some h
        refine fw_callVi C (ci := 10) (Cn := RX12) (Tc := TX12) (N := 19) (As := [.int l2, .int 8]) (c_X12_of (gac (hG _ (List.mem_of_getElem? (i := 0) rfl)) ga0) q12) (cwV 2 (cx_ts C) gX12_tasteNow_X12_of rfl rfl rfl (by decide +kernel) ⟨Nat.le_of_ble_eq_true rfl, Nat.le_of_ble_eq_true rfl⟩) rfl (hG _ (List.mem_of_getElem? (i := 0) rfl)) (of10_0 _) (ce10 T ad _ _) rfl (st := [.int l1]) rfl (Nat.le_of_ble_eq_true rfl) ⟨Nat.le_refl 0, Nat.le_refl 0⟩ dX12_tasteNow_36 (pp2 ?_)
        refine fw_goto C dX12_tasteNow_39 (tgt := 43) rfl ?_
        refine fw_sub [0, 2] (L' := [(2, .int l2), (0, .ref (ad 10 0 0))]) rfl ?_
        exact w_X12_tasteNow_b43 C hrt hG  ih _ _ _ h
set_option maxRecDepth 100000 in
set_option maxHeartbeats 4000000 in
theorem w_X12_tasteNow {Y : Mem} (C : Cx p s m [.ref (ad 10 0 0)].toArray meth c cX12_tasteNow 3 wsX12_tasteNow RX12 N0 T D gr ad) (hrt : meth.sig.returnType = (some .int)) (hG : ∀ q ∈ [(10, 0)], q ∈ gr) {res : Int32} (h : X12_tasteNow Y = some res) : FW p l e (Rm 1) s m [.ref (ad 10 0 0)].toArray below meth c 3 N0 T D gr ad 0 0 (MQ below (va_Qi (fun r Y1 => r = res ∧ Y1 = Y) (WB T D gr ad) (fun q => N0 ≤ q)) [.ref (ad 10 0 0)].toArray s 0 0 (fun q => N0 ≤ q)) Y 0 [(0, .ref (ad 10 0 0))] [] := by
  unfold X12_tasteNow at h
  refine fw_aload_n C dX12_tasteNow_0 rfl 0 rfl ?_
  refine fw_get C (ci := 10) (Cn := RX12) (Tc := TX12) (N := 19) (j := 0) ly_X12_tasteNow_12 rfl (hG _ (List.mem_of_getElem? (i := 0) rfl)) (of10_0 _) (ce10 T ad _ _) (by decide) (cx_ts C _ fl_X12_tasteNow_13) (fun _ h => h) (v := .ref (ad 10 0 1)) rfl dX12_tasteNow_1 ?_
  refine fw_iconst C dX12_tasteNow_4 (v := 5) rfl ?_
  obtain ⟨b1, h⟩ := gd_some h
  refine fw_iald2 C (hG _ (List.mem_of_getElem? (i := 0) rfl)) (of10_1 _) (ca10_1 T ad _ _) b1 (Nat.le_of_ble_eq_true rfl) dX12_tasteNow_5 ?_
  obtain ⟨v2, e3, h⟩ := lt_some h
  refine fw_top (v' := .int v2) (by rw [e3]) ?_
  refine fw_istore_n C dX12_tasteNow_6 rfl (by decide) (L' := [(1, .int v2), (0, .ref (ad 10 0 0))]) rfl ?_
  refine fw_iconst C dX12_tasteNow_7 (v := 0) rfl ?_
  refine fw_istore_n C dX12_tasteNow_8 rfl (by decide) (L' := [(2, .int 0), (1, .int v2), (0, .ref (ad 10 0 0))]) rfl ?_
  exact w_X12_tasteNow_b9 C hrt hG   _ _ _ h
end
set_option maxRecDepth 100000 in
set_option maxHeartbeats 4000000 in
theorem c_X12_tasteNow {l : Launch} {N0 : Nat} {T : Nat → ClassId} {D : va_G} {gr : List (Nat × Nat)} {ad : Nat → Nat → Nat → Nat} {Y : Mem} {res : Int32} (hG : ∀ q ∈ [(10, 0)], q ∈ gr) (h : X12_tasteNow Y = some res) : CI l yX12_tasteNow wsX12_tasteNow (Rm 1) N0 T D gr ad Y [.ref (ad 10 0 0)] (fun r Y1 => r = res ∧ Y1 = Y) :=
  fw_body (by decide +kernel) rfl (Nat.le_of_ble_eq_true rfl) (fun p e s m below meth c C hrt => w_X12_tasteNow C hrt hG  h)
theorem ly_X12_addSalt_12 : ∀ w ∈ u_ws RX12 TX12 19, w ∈ wsX12_addSalt := by decide +kernel
theorem fl_X12_addSalt_13 : Cond.fieldLink RX12 13 "RecipeSchedulerModel" "m" "[I" ∈ wsX12_addSalt := by decide +kernel
section
variable {p : Program} {l : Launch} {e : Env} {s : State} {m : MethodId} {below : List Frame} {meth : Method} {c : Code} {N0 : Nat} {T : Nat → ClassId} {D : va_G} {gr : List (Nat × Nat)} {ad : Nat → Nat → Nat → Nat}
set_option maxRecDepth 100000 in
set_option maxHeartbeats 4000000 in
theorem w_X12_addSalt_b37 {a1 : Int32} (C : Cx p s m [.ref (ad 10 0 0), .int a1].toArray meth c cX12_addSalt 2 wsX12_addSalt RX12 N0 T D gr ad) (hrt : meth.sig.returnType = (some .int)) (hG : ∀ q ∈ [(10, 0)], q ∈ gr) {res : Int32 × Mem} (Y : Mem) (s0 : Int32) (s1 : Int32) (h : X12_addSalt_b37 a1  Y s0 s1 = some res) : FW p l e (Rm 2) s m [.ref (ad 10 0 0), .int a1].toArray below meth c 2 N0 T D gr ad 0 0 (MQ below (va_Qi (fun r Y1 => (r, Y1) = res) (WB T D gr ad) (fun q => N0 ≤ q)) [.ref (ad 10 0 0), .int a1].toArray s 0 0 (fun q => N0 ≤ q)) Y 37 [(0, .ref (ad 10 0 0)), (1, .int a1)] [.int s0, .int s1, .ref (ad 10 0 0)] := by
  unfold X12_addSalt_b37 at h
  refine fw_iconst C dX12_addSalt_37 (v := 0) rfl ?_
  obtain ⟨r6, Y8, q7, h⟩ := bd2_some h
  refine fw_callVi C (ci := 10) (Cn := RX12) (Tc := TX12) (N := 19) (As := [.int s1, .int s0, .int 0]) (c_X12_fails (gac (hG _ (List.mem_of_getElem? (i := 0) rfl)) ga0) q7) (cwV 3 (cx_ts C) gX12_addSalt_X12_fails rfl rfl rfl (by decide +kernel) ⟨Nat.le_of_ble_eq_true rfl, Nat.le_of_ble_eq_true rfl⟩) rfl (hG _ (List.mem_of_getElem? (i := 0) rfl)) (of10_0 _) (ce10 T ad _ _) rfl (st := []) rfl (Nat.le_of_ble_eq_true rfl) ⟨Nat.le_refl 0, Nat.le_refl 0⟩ dX12_addSalt_38 (ppw ?_)
  refine fw_if_eq C dX12_addSalt_41 (tgt := 46) rfl (fun c9 => ?_) (fun c9 => ?_)
  · have h := ite_t c9 h
    refine fw_aload_n C dX12_addSalt_46 rfl 0 rfl ?_
    refine fw_iconst C dX12_addSalt_47 (v := 0) rfl ?_
    obtain ⟨Y12, q11, h⟩ := bd1_some h
    refine fw_callVv C (ci := 10) (Cn := RX12) (Tc := TX12) (N := 19) (As := [.int 0]) (c_X12_remember (gac (hG _ (List.mem_of_getElem? (i := 0) rfl)) ga0) q11) (cwV 1 (cx_ts C) gX12_addSalt_X12_remember rfl rfl rfl (by decide +kernel) ⟨Nat.le_of_ble_eq_true rfl, Nat.le_of_ble_eq_true rfl⟩) rfl (hG _ (List.mem_of_getElem? (i := 0) rfl)) (of10_0 _) (ce10 T ad _ _) rfl (st := []) rfl (Nat.le_of_ble_eq_true rfl) ⟨Nat.le_refl 0, Nat.le_refl 0⟩ dX12_addSalt_48 (ppv ?_)
    refine fw_aload_n C dX12_addSalt_51 rfl 0 rfl ?_
    refine fw_get C (ci := 10) (Cn := RX12) (Tc := TX12) (N := 19) (j := 0) ly_X12_addSalt_12 rfl (hG _ (List.mem_of_getElem? (i := 0) rfl)) (of10_0 _) (ce10 T ad _ _) (by decide) (cx_ts C _ fl_X12_addSalt_13) (fun _ h => h) (v := .ref (ad 10 0 1)) rfl dX12_addSalt_52 ?_
    refine fw_iconst C dX12_addSalt_55 (v := 5) rfl ?_
    refine fw_dup2 C dX12_addSalt_56 rfl rfl ?_
    obtain ⟨b13, h⟩ := gd_some h
    refine fw_iald2 C (hG _ (List.mem_of_getElem? (i := 0) rfl)) (of10_1 _) (ca10_1 T ad _ _) b13 (Nat.le_of_ble_eq_true rfl) dX12_addSalt_57 ?_
    refine fw_iload_n C dX12_addSalt_58 rfl 1 rfl ?_
    refine fw_iadd C dX12_addSalt_59 ?_
    obtain ⟨Y14, e15, h⟩ := lt_some h
    refine fw_iast2 C (hG _ (List.mem_of_getElem? (i := 0) rfl)) (of10_1 _) (ca10_1 T ad _) b13 (Nat.le_of_ble_eq_true rfl) dX12_addSalt_60 ?_
    refine fw_mem e15 ?_
    refine fw_aload_n C dX12_addSalt_61 rfl 0 rfl ?_
    obtain ⟨r16, q17, h⟩ := bd1_some h
    refine fw_callVi C (ci := 10) (Cn := RX12) (Tc := TX12) (N := 19) (As := []) (c_X12_tasteNow (gac (hG _ (List.mem_of_getElem? (i := 0) rfl)) ga0) q17) (cwV 0 (cx_ts C) gX12_addSalt_X12_tasteNow rfl rfl rfl (by decide +kernel) ⟨Nat.le_of_ble_eq_true rfl, Nat.le_of_ble_eq_true rfl⟩) rfl (hG _ (List.mem_of_getElem? (i := 0) rfl)) (of10_0 _) (ce10 T ad _ _) rfl (st := []) rfl (Nat.le_of_ble_eq_true rfl) ⟨Nat.le_refl 0, Nat.le_refl 0⟩ dX12_addSalt_62 (pp2 ?_)
    exact fw_iret C hrt Y14 (Option.some.inj h) (fun t ht => ht) dX12_addSalt_65
  · have h := ite_f c9 h
    refine fw_iconst C dX12_addSalt_44 (v := 0) rfl ?_
    exact fw_iret C hrt Y8 (Option.some.inj h) (fun t ht => ht) dX12_addSalt_45
set_option maxRecDepth 100000 in
set_option maxHeartbeats 4000000 in
theorem w_X12_addSalt_b21 {a1 : Int32} (C : Cx p s m [.ref (ad 10 0 0), .int a1].toArray meth c cX12_addSalt 2 wsX12_addSalt RX12 N0 T D gr ad) (hrt : meth.sig.returnType = (some .int)) (hG : ∀ q ∈ [(10, 0)], q ∈ gr) {res : Int32 × Mem} (Y : Mem) (s0 : Int32) (h : X12_addSalt_b21 a1  Y s0 = some res) : FW p l e (Rm 2) s m [.ref (ad 10 0 0), .int a1].toArray below meth c 2 N0 T D gr ad 0 0 (MQ below (va_Qi (fun r Y1 => (r, Y1) = res) (WB T D gr ad) (fun q => N0 ≤ q)) [.ref (ad 10 0 0), .int a1].toArray s 0 0 (fun q => N0 ≤ q)) Y 21 [(0, .ref (ad 10 0 0)), (1, .int a1)] [.int s0, .ref (ad 10 0 0)] := by
  unfold X12_addSalt_b21 at h
  refine fw_aload_n C dX12_addSalt_21 rfl 0 rfl ?_
  refine fw_get C (ci := 10) (Cn := RX12) (Tc := TX12) (N := 19) (j := 0) ly_X12_addSalt_12 rfl (hG _ (List.mem_of_getElem? (i := 0) rfl)) (of10_0 _) (ce10 T ad _ _) (by decide) (cx_ts C _ fl_X12_addSalt_13) (fun _ h => h) (v := .ref (ad 10 0 1)) rfl dX12_addSalt_22 ?_
  refine fw_bipush C dX12_addSalt_25 (v := 6) rfl ?_
  obtain ⟨b4, h⟩ := gd_some h
  refine fw_iald2 C (hG _ (List.mem_of_getElem? (i := 0) rfl)) (of10_1 _) (ca10_1 T ad _ _) b4 (Nat.le_of_ble_eq_true rfl) dX12_addSalt_27 ?_
  refine fw_iconst C dX12_addSalt_28 (v := 1) rfl ?_
  refine fw_icmp_ne C dX12_addSalt_29 (tgt := 36) rfl (fun c5 => ?_) (fun c5 => ?_)
  · have h := ite_f c5 h
    refine fw_iconst C dX12_addSalt_36 (v := 0) rfl ?_
    exact w_X12_addSalt_b37 C hrt hG   _ _ _ h
  · have h := ite_t c5 h
    refine fw_iconst C dX12_addSalt_32 (v := 1) rfl ?_
    refine fw_goto C dX12_addSalt_33 (tgt := 37) rfl ?_
    exact w_X12_addSalt_b37 C hrt hG   _ _ _ h
set_option maxRecDepth 100000 in
set_option maxHeartbeats 4000000 in
theorem w_X12_addSalt_b16 {a1 : Int32} (C : Cx p s m [.ref (ad 10 0 0), .int a1].toArray meth c cX12_addSalt 2 wsX12_addSalt RX12 N0 T D gr ad) (hrt : meth.sig.returnType = (some .int)) (hG : ∀ q ∈ [(10, 0)], q ∈ gr) {res : Int32 × Mem} (Y : Mem) (h : X12_addSalt_b16 a1  Y = some res) : FW p l e (Rm 2) s m [.ref (ad 10 0 0), .int a1].toArray below meth c 2 N0 T D gr ad 0 0 (MQ below (va_Qi (fun r Y1 => (r, Y1) = res) (WB T D gr ad) (fun q => N0 ≤ q)) [.ref (ad 10 0 0), .int a1].toArray s 0 0 (fun q => N0 ≤ q)) Y 16 [(0, .ref (ad 10 0 0)), (1, .int a1)] [.ref (ad 10 0 0)] := by
  unfold X12_addSalt_b16 at h
  refine fw_iconst C dX12_addSalt_16 (v := 1) rfl ?_
  refine fw_goto C dX12_addSalt_17 (tgt := 21) rfl ?_
  exact w_X12_addSalt_b21 C hrt hG   _ _ h
set_option maxRecDepth 100000 in
set_option maxHeartbeats 4000000 in
theorem w_X12_addSalt {Y : Mem} {a1 : Int32} (C : Cx p s m [.ref (ad 10 0 0), .int a1].toArray meth c cX12_addSalt 2 wsX12_addSalt RX12 N0 T D gr ad) (hrt : meth.sig.returnType = (some .int)) (hG : ∀ q ∈ [(10, 0)], q ∈ gr) {res : Int32 × Mem} (h : X12_addSalt Y a1 = some res) : FW p l e (Rm 2) s m [.ref (ad 10 0 0), .int a1].toArray below meth c 2 N0 T D gr ad 0 0 (MQ below (va_Qi (fun r Y1 => (r, Y1) = res) (WB T D gr ad) (fun q => N0 ≤ q)) [.ref (ad 10 0 0), .int a1].toArray s 0 0 (fun q => N0 ≤ q)) Y 0 [(0, .ref (ad 10 0 0)), (1, .int a1)] [] := by
  unfold X12_addSalt at h
  refine fw_aload_n C dX12_addSalt_0 rfl 0 rfl ?_
  refine fw_iload_n C dX12_addSalt_1 rfl 1 rfl ?_
  refine fw_bipush C dX12_addSalt_2 (v := (-9)) rfl ?_
  refine fw_bipush C dX12_addSalt_4 (v := 9) rfl ?_
  obtain ⟨r1, q2, h⟩ := bd1_some h
  refine fw_callSi C (As := [.int a1, .int ((-9)), .int 9]) (c_X12_in ga0 q2) (va_cwS 3 (cx_ts C) gX12_addSalt_X12_in rfl rfl rfl (by decide +kernel) ⟨Nat.le_of_ble_eq_true rfl, Nat.le_of_ble_eq_true rfl⟩) rfl (st := [.ref (ad 10 0 0)]) rfl (Nat.le_of_ble_eq_true rfl) ⟨Nat.le_refl 0, Nat.le_refl 0⟩ dX12_addSalt_6 (pp2 ?_)
  refine fw_if_eq C dX12_addSalt_9 (tgt := 16) rfl (fun c3 => ?_) (fun c3 => ?_)
  · have h := ite_t c3 h
    exact w_X12_addSalt_b16 C hrt hG   _ h
  · have h := ite_f c3 h
    refine fw_iload_n C dX12_addSalt_12 rfl 1 rfl ?_
    refine fw_if_ne C dX12_addSalt_13 (tgt := 20) rfl (fun c18 => ?_) (fun c18 => ?_)
    · have h := ite_f c18 h
      refine fw_iconst C dX12_addSalt_20 (v := 0) rfl ?_
      exact w_X12_addSalt_b21 C hrt hG   _ _ h
    · have h := ite_t c18 h
      exact w_X12_addSalt_b16 C hrt hG   _ h
end
set_option maxRecDepth 100000 in
set_option maxHeartbeats 4000000 in
theorem c_X12_addSalt {l : Launch} {N0 : Nat} {T : Nat → ClassId} {D : va_G} {gr : List (Nat × Nat)} {ad : Nat → Nat → Nat → Nat} {Y : Mem} {a1 : Int32} {res : Int32 × Mem} (hG : ∀ q ∈ [(10, 0)], q ∈ gr) (h : X12_addSalt Y a1 = some res) : CI l yX12_addSalt wsX12_addSalt (Rm 2) N0 T D gr ad Y [.ref (ad 10 0 0), .int a1] (fun r Y1 => (r, Y1) = res) :=
  fw_body (by decide +kernel) rfl (Nat.le_of_ble_eq_true rfl) (fun p e s m below meth c C hrt => w_X12_addSalt C hrt hG  h)
theorem ly_X12_isStep_12 : ∀ w ∈ u_ws RX12 TX12 19, w ∈ wsX12_isStep := by decide +kernel
theorem fl_X12_isStep_13 : Cond.fieldLink RX12 13 "RecipeSchedulerModel" "m" "[I" ∈ wsX12_isStep := by decide +kernel
section
variable {p : Program} {l : Launch} {e : Env} {s : State} {m : MethodId} {below : List Frame} {meth : Method} {c : Code} {N0 : Nat} {T : Nat → ClassId} {D : va_G} {gr : List (Nat × Nat)} {ad : Nat → Nat → Nat → Nat}
set_option maxRecDepth 100000 in
set_option maxHeartbeats 4000000 in
theorem w_X12_isStep {Y : Mem} {a1 : Int32} (C : Cx p s m [.ref (ad 10 0 0), .int a1].toArray meth c cX12_isStep 2 wsX12_isStep RX12 N0 T D gr ad) (hrt : meth.sig.returnType = (some .boolean)) (hG : ∀ q ∈ [(10, 0)], q ∈ gr) {res : Int32} (h : X12_isStep Y a1 = some res) : FW p l e (Rm 1) s m [.ref (ad 10 0 0), .int a1].toArray below meth c 2 N0 T D gr ad 0 0 (MQ below (va_Qi (fun r Y1 => r = res ∧ Y1 = Y) (WB T D gr ad) (fun q => N0 ≤ q)) [.ref (ad 10 0 0), .int a1].toArray s 0 0 (fun q => N0 ≤ q)) Y 0 [(0, .ref (ad 10 0 0)), (1, .int a1)] [] := by
  unfold X12_isStep at h
  refine fw_iload_n C dX12_isStep_0 rfl 1 rfl ?_
  refine fw_iconst C dX12_isStep_1 (v := 0) rfl ?_
  refine fw_aload_n C dX12_isStep_2 rfl 0 rfl ?_
  refine fw_get C (ci := 10) (Cn := RX12) (Tc := TX12) (N := 19) (j := 0) ly_X12_isStep_12 rfl (hG _ (List.mem_of_getElem? (i := 0) rfl)) (of10_0 _) (ce10 T ad _ _) (by decide) (cx_ts C _ fl_X12_isStep_13) (fun _ h => h) (v := .ref (ad 10 0 1)) rfl dX12_isStep_3 ?_
  refine fw_bipush C dX12_isStep_6 (v := 13) rfl ?_
  obtain ⟨b1, h⟩ := gd_some h
  refine fw_iald2 C (hG _ (List.mem_of_getElem? (i := 0) rfl)) (of10_1 _) (ca10_1 T ad _ _) b1 (Nat.le_of_ble_eq_true rfl) dX12_isStep_8 ?_
  refine fw_iconst C dX12_isStep_9 (v := 1) rfl ?_
  refine fw_isub C dX12_isStep_10 ?_
  obtain ⟨r2, q3, h⟩ := bd1_some h
  refine fw_callSi C (As := [.int a1, .int 0, .int ((Y 10 0 1 (ix 13)) - 1)]) (c_X12_in ga0 q3) (va_cwS 3 (cx_ts C) gX12_isStep_X12_in rfl rfl rfl (by decide +kernel) ⟨Nat.le_of_ble_eq_true rfl, Nat.le_of_ble_eq_true rfl⟩) rfl (st := []) rfl (Nat.le_of_ble_eq_true rfl) ⟨Nat.le_refl 0, Nat.le_refl 0⟩ dX12_isStep_11 (pp2 ?_)
  obtain ⟨b4, h⟩ := gd_some h
  exact fw_zret C hrt (of_decide_eq_true b4) Y ⟨Option.some.inj h, rfl⟩ (fun t ht => ht) dX12_isStep_14
end
set_option maxRecDepth 100000 in
set_option maxHeartbeats 4000000 in
theorem c_X12_isStep {l : Launch} {N0 : Nat} {T : Nat → ClassId} {D : va_G} {gr : List (Nat × Nat)} {ad : Nat → Nat → Nat → Nat} {Y : Mem} {a1 : Int32} {res : Int32} (hG : ∀ q ∈ [(10, 0)], q ∈ gr) (h : X12_isStep Y a1 = some res) : CI l yX12_isStep wsX12_isStep (Rm 1) N0 T D gr ad Y [.ref (ad 10 0 0), .int a1] (fun r Y1 => r = res ∧ Y1 = Y) :=
  fw_body (by decide +kernel) rfl (Nat.le_of_ble_eq_true rfl) (fun p e s m below meth c C hrt => w_X12_isStep C hrt hG  h)
section
variable {p : Program} {l : Launch} {e : Env} {s : State} {m : MethodId} {below : List Frame} {meth : Method} {c : Code} {N0 : Nat} {T : Nat → ClassId} {D : va_G} {gr : List (Nat × Nat)} {ad : Nat → Nat → Nat → Nat}
set_option maxRecDepth 100000 in
set_option maxHeartbeats 4000000 in
theorem w_X12_field_b14 {a1 : Int32} {a2 : Int32} (C : Cx p s m [.ref (ad 10 0 0), .int a1, .int a2].toArray meth c cX12_field 3 wsX12_field RX12 N0 T D gr ad) (hrt : meth.sig.returnType = (some .int)) (hG : ∀ q ∈ [(10, 0)], q ∈ gr) {res : Int32 × Mem} (Y : Mem) (s0 : Int32) (h : X12_field_b14 a1 a2  Y s0 = some res) : FW p l e (Rm 2) s m [.ref (ad 10 0 0), .int a1, .int a2].toArray below meth c 3 N0 T D gr ad 0 0 (MQ below (va_Qi (fun r Y1 => (r, Y1) = res) (WB T D gr ad) (fun q => N0 ≤ q)) [.ref (ad 10 0 0), .int a1, .int a2].toArray s 0 0 (fun q => N0 ≤ q)) Y 14 [(0, .ref (ad 10 0 0)), (1, .int a1), (2, .int a2)] [.int s0, .ref (ad 10 0 0)] := by
  unfold X12_field_b14 at h
  refine fw_iconst C dX12_field_14 (v := 0) rfl ?_
  refine fw_iconst C dX12_field_15 (v := 0) rfl ?_
  obtain ⟨r4, Y6, q5, h⟩ := bd2_some h
  refine fw_callVi C (ci := 10) (Cn := RX12) (Tc := TX12) (N := 19) (As := [.int s0, .int 0, .int 0]) (c_X12_fails (gac (hG _ (List.mem_of_getElem? (i := 0) rfl)) ga0) q5) (cwV 3 (cx_ts C) gX12_field_X12_fails rfl rfl rfl (by decide +kernel) ⟨Nat.le_of_ble_eq_true rfl, Nat.le_of_ble_eq_true rfl⟩) rfl (hG _ (List.mem_of_getElem? (i := 0) rfl)) (of10_0 _) (ce10 T ad _ _) rfl (st := []) rfl (Nat.le_of_ble_eq_true rfl) ⟨Nat.le_refl 0, Nat.le_refl 0⟩ dX12_field_16 (ppw ?_)
  refine fw_if_eq C dX12_field_19 (tgt := 24) rfl (fun c7 => ?_) (fun c7 => ?_)
  · have h := ite_t c7 h
    refine fw_aload_n C dX12_field_24 rfl 0 rfl ?_
    refine fw_iload_n C dX12_field_25 rfl 1 rfl ?_
    refine fw_iload_n C dX12_field_26 rfl 2 rfl ?_
    obtain ⟨r8, q9, h⟩ := bd1_some h
    refine fw_callVi C (ci := 10) (Cn := RX12) (Tc := TX12) (N := 19) (As := [.int a1, .int a2]) (c_X12_of (gac (hG _ (List.mem_of_getElem? (i := 0) rfl)) ga0) q9) (cwV 2 (cx_ts C) gX12_field_X12_of rfl rfl rfl (by decide +kernel) ⟨Nat.le_of_ble_eq_true rfl, Nat.le_of_ble_eq_true rfl⟩) rfl (hG _ (List.mem_of_getElem? (i := 0) rfl)) (of10_0 _) (ce10 T ad _ _) rfl (st := []) rfl (Nat.le_of_ble_eq_true rfl) ⟨Nat.le_refl 0, Nat.le_refl 0⟩ dX12_field_27 (pp2 ?_)
    exact fw_iret C hrt Y6 (Option.some.inj h) (fun t ht => ht) dX12_field_30
  · have h := ite_f c7 h
    refine fw_iconst C dX12_field_22 (v := 0) rfl ?_
    exact fw_iret C hrt Y6 (Option.some.inj h) (fun t ht => ht) dX12_field_23
set_option maxRecDepth 100000 in
set_option maxHeartbeats 4000000 in
theorem w_X12_field {Y : Mem} {a1 : Int32} {a2 : Int32} (C : Cx p s m [.ref (ad 10 0 0), .int a1, .int a2].toArray meth c cX12_field 3 wsX12_field RX12 N0 T D gr ad) (hrt : meth.sig.returnType = (some .int)) (hG : ∀ q ∈ [(10, 0)], q ∈ gr) {res : Int32 × Mem} (h : X12_field Y a1 a2 = some res) : FW p l e (Rm 2) s m [.ref (ad 10 0 0), .int a1, .int a2].toArray below meth c 3 N0 T D gr ad 0 0 (MQ below (va_Qi (fun r Y1 => (r, Y1) = res) (WB T D gr ad) (fun q => N0 ≤ q)) [.ref (ad 10 0 0), .int a1, .int a2].toArray s 0 0 (fun q => N0 ≤ q)) Y 0 [(0, .ref (ad 10 0 0)), (1, .int a1), (2, .int a2)] [] := by
  unfold X12_field at h
  refine fw_aload_n C dX12_field_0 rfl 0 rfl ?_
  refine fw_aload_n C dX12_field_1 rfl 0 rfl ?_
  refine fw_iload_n C dX12_field_2 rfl 1 rfl ?_
  obtain ⟨r1, q2, h⟩ := bd1_some h
  refine fw_callVi C (ci := 10) (Cn := RX12) (Tc := TX12) (N := 19) (As := [.int a1]) (c_X12_isStep (gac (hG _ (List.mem_of_getElem? (i := 0) rfl)) ga0) q2) (cwV 1 (cx_ts C) gX12_field_X12_isStep rfl rfl rfl (by decide +kernel) ⟨Nat.le_of_ble_eq_true rfl, Nat.le_of_ble_eq_true rfl⟩) rfl (hG _ (List.mem_of_getElem? (i := 0) rfl)) (of10_0 _) (ce10 T ad _ _) rfl (st := [.ref (ad 10 0 0)]) rfl (Nat.le_of_ble_eq_true rfl) ⟨Nat.le_refl 0, Nat.le_refl 0⟩ dX12_field_3 (pp2 ?_)
  refine fw_if_ne C dX12_field_6 (tgt := 13) rfl (fun c3 => ?_) (fun c3 => ?_)
  · have h := ite_f c3 h
    refine fw_iconst C dX12_field_13 (v := 0) rfl ?_
    exact w_X12_field_b14 C hrt hG   _ _ h
  · have h := ite_t c3 h
    refine fw_iconst C dX12_field_9 (v := 1) rfl ?_
    refine fw_goto C dX12_field_10 (tgt := 14) rfl ?_
    exact w_X12_field_b14 C hrt hG   _ _ h
end
set_option maxRecDepth 100000 in
set_option maxHeartbeats 4000000 in
theorem c_X12_field {l : Launch} {N0 : Nat} {T : Nat → ClassId} {D : va_G} {gr : List (Nat × Nat)} {ad : Nat → Nat → Nat → Nat} {Y : Mem} {a1 : Int32} {a2 : Int32} {res : Int32 × Mem} (hG : ∀ q ∈ [(10, 0)], q ∈ gr) (h : X12_field Y a1 a2 = some res) : CI l yX12_field wsX12_field (Rm 2) N0 T D gr ad Y [.ref (ad 10 0 0), .int a1, .int a2] (fun r Y1 => (r, Y1) = res) :=
  fw_body (by decide +kernel) rfl (Nat.le_of_ble_eq_true rfl) (fun p e s m below meth c C hrt => w_X12_field C hrt hG  h)
section
variable {p : Program} {l : Launch} {e : Env} {s : State} {m : MethodId} {below : List Frame} {meth : Method} {c : Code} {N0 : Nat} {T : Nat → ClassId} {D : va_G} {gr : List (Nat × Nat)} {ad : Nat → Nat → Nat → Nat}
set_option maxRecDepth 100000 in
set_option maxHeartbeats 4000000 in
theorem w_X12_age {Y : Mem} {a1 : Int32} (C : Cx p s m [.ref (ad 10 0 0), .int a1].toArray meth c cX12_age 2 wsX12_age RX12 N0 T D gr ad) (hrt : meth.sig.returnType = (some .int)) (hG : ∀ q ∈ [(10, 0)], q ∈ gr) {res : Int32 × Mem} (h : X12_age Y a1 = some res) : FW p l e (Rm 3) s m [.ref (ad 10 0 0), .int a1].toArray below meth c 2 N0 T D gr ad 0 0 (MQ below (va_Qi (fun r Y1 => (r, Y1) = res) (WB T D gr ad) (fun q => N0 ≤ q)) [.ref (ad 10 0 0), .int a1].toArray s 0 0 (fun q => N0 ≤ q)) Y 0 [(0, .ref (ad 10 0 0)), (1, .int a1)] [] := by
  unfold X12_age at h
  refine fw_aload_n C dX12_age_0 rfl 0 rfl ?_
  refine fw_iload_n C dX12_age_1 rfl 1 rfl ?_
  refine fw_bipush C dX12_age_2 (v := 19) rfl ?_
  obtain ⟨r1, Y3, q2, h⟩ := bd2_some h
  refine fw_callVi C (ci := 10) (Cn := RX12) (Tc := TX12) (N := 19) (As := [.int a1, .int 19]) (c_X12_field (gac (hG _ (List.mem_of_getElem? (i := 0) rfl)) ga0) q2) (cwV 2 (cx_ts C) gX12_age_X12_field rfl rfl rfl (by decide +kernel) ⟨Nat.le_of_ble_eq_true rfl, Nat.le_of_ble_eq_true rfl⟩) rfl (hG _ (List.mem_of_getElem? (i := 0) rfl)) (of10_0 _) (ce10 T ad _ _) rfl (st := []) rfl (Nat.le_of_ble_eq_true rfl) ⟨Nat.le_refl 0, Nat.le_refl 0⟩ dX12_age_4 (ppw ?_)
  exact fw_iret C hrt Y3 (Option.some.inj h) (fun t ht => ht) dX12_age_7
end
set_option maxRecDepth 100000 in
set_option maxHeartbeats 4000000 in
theorem c_X12_age {l : Launch} {N0 : Nat} {T : Nat → ClassId} {D : va_G} {gr : List (Nat × Nat)} {ad : Nat → Nat → Nat → Nat} {Y : Mem} {a1 : Int32} {res : Int32 × Mem} (hG : ∀ q ∈ [(10, 0)], q ∈ gr) (h : X12_age Y a1 = some res) : CI l yX12_age wsX12_age (Rm 3) N0 T D gr ad Y [.ref (ad 10 0 0), .int a1] (fun r Y1 => (r, Y1) = res) :=
  fw_body (by decide +kernel) rfl (Nat.le_of_ble_eq_true rfl) (fun p e s m below meth c C hrt => w_X12_age C hrt hG  h)
theorem ly_X12_appendWord_12 : ∀ w ∈ u_ws RX12 TX12 19, w ∈ wsX12_appendWord := by decide +kernel
theorem fl_X12_appendWord_24 : Cond.fieldLink RX12 24 "RecipeSchedulerModel" "buffer" "[I" ∈ wsX12_appendWord := by decide +kernel
theorem fl_X12_appendWord_27 : Cond.fieldLink RX12 27 "RecipeSchedulerModel" "length" "I" ∈ wsX12_appendWord := by decide +kernel
section
variable {p : Program} {l : Launch} {e : Env} {s : State} {m : MethodId} {below : List Frame} {meth : Method} {c : Code} {N0 : Nat} {T : Nat → ClassId} {D : va_G} {gr : List (Nat × Nat)} {ad : Nat → Nat → Nat → Nat}
set_option maxRecDepth 100000 in
set_option maxHeartbeats 4000000 in
theorem w_X12_appendWord_b3 {a1 : Int32} (C : Cx p s m [.ref (ad 10 0 0), .int a1].toArray meth c cX12_appendWord 3 wsX12_appendWord RX12 N0 T D gr ad) (hrt : meth.sig.returnType = none) (hG : ∀ q ∈ [(10, 0)], q ∈ gr) {res : Mem} : ∀ (n : Nat) (Y : Mem) (l2 : Int32), X12_appendWord_b3 a1  n Y l2 = some res → FW p l e (Rm 0) s m [.ref (ad 10 0 0), .int a1].toArray below meth c 3 N0 T D gr ad 0 0 (MQ below (va_Qv (fun Y1 => Y1 = res) (WB T D gr ad) (fun q => N0 ≤ q)) [.ref (ad 10 0 0), .int a1].toArray s 0 0 (fun q => N0 ≤ q)) Y 3 [(2, .int l2), (0, .ref (ad 10 0 0)), (1, .int a1)] [] := by
  intro n
  induction n with
  | zero =>
    intro Y l2 h
    unfold X12_appendWord_b3 at h
    cases h
  | succ n ih =>
    intro Y l2 h
    unfold X12_appendWord_b3 at h
    refine fw_iload_n C dX12_appendWord_3 rfl 0 rfl ?_
    refine fw_if_lt C dX12_appendWord_4 (tgt := 39) rfl (fun c1 => ?_) (fun c1 => ?_)
    · have h := ite_t c1 h
      exact fw_vret C hrt Y (Option.some.inj h) (fun t ht => ht) dX12_appendWord_39
    · have h := ite_f c1 h
      refine fw_aload_n C dX12_appendWord_7 rfl 1 rfl ?_
      refine fw_get C (ci := 10) (Cn := RX12) (Tc := TX12) (N := 19) (j := 3) ly_X12_appendWord_12 rfl (hG _ (List.mem_of_getElem? (i := 0) rfl)) (of10_0 _) (ce10 T ad _ _) (by decide) (cx_ts C _ fl_X12_appendWord_24) (fun _ h => h) (v := .ref (ad 10 0 3)) rfl dX12_appendWord_8 ?_
      refine fw_aload_n C dX12_appendWord_11 rfl 1 rfl ?_
      refine fw_get C (ci := 10) (Cn := RX12) (Tc := TX12) (N := 19) (j := 4) ly_X12_appendWord_12 rfl (hG _ (List.mem_of_getElem? (i := 0) rfl)) (of10_0 _) (ce10 T ad _ _) (by decide) (cx_ts C _ fl_X12_appendWord_27) (fun _ h => h) (v := .int (Y 10 0 0 4)) rfl dX12_appendWord_12 ?_
      refine fw_iload_n C dX12_appendWord_15 rfl 2 rfl ?_
      refine fw_iload_n C dX12_appendWord_16 rfl 0 rfl ?_
      refine fw_ishr C dX12_appendWord_17 ?_
      refine fw_sipush C dX12_appendWord_18 (v := 255) rfl ?_
      refine fw_iand C dX12_appendWord_21 ?_
      obtain ⟨b2, h⟩ := gd_some h
      obtain ⟨Y3, e4, h⟩ := lt_some h
      refine fw_iast2 C (hG _ (List.mem_of_getElem? (i := 0) rfl)) (of10_3 _) (ca10_3 T ad _) b2 (Nat.le_of_ble_eq_true rfl) dX12_appendWord_22 ?_
      refine fw_mem e4 ?_
      refine fw_aload_n C dX12_appendWord_23 rfl 1 rfl ?_
      refine fw_dup C dX12_appendWord_24 rfl ?_
      refine fw_get C (ci := 10) (Cn := RX12) (Tc := TX12) (N := 19) (j := 4) ly_X12_appendWord_12 rfl (hG _ (List.mem_of_getElem? (i := 0) rfl)) (of10_0 _) (ce10 T ad _ _) (by decide) (cx_ts C _ fl_X12_appendWord_27) (fun _ h => h) (v := .int (Y3 10 0 0 4)) rfl dX12_appendWord_25 ?_
      refine fw_iconst C dX12_appendWord_28 (v := 1) rfl ?_
      refine fw_iadd C dX12_appendWord_29 ?_
      obtain ⟨Y5, e6, h⟩ := lt_some h
      refine fw_put C (ci := 10) (Cn := RX12) (Tc := TX12) (N := 19) (j := 4) (ty := .int) (upd (Y3 10 0 0) 4 ((Y3 10 0 0 4) + 1)) ly_X12_appendWord_12 rfl tyX12_ok nmX12 (hG _ (List.mem_of_getElem? (i := 0) rfl)) (of10_0 _) (ce10 T ad _ _) (by decide) (cx_ts C _ fl_X12_appendWord_27) (fun _ h => h) rfl (by decide +kernel) rfl rfl (Nat.le_of_ble_eq_true rfl) (ce10_put4 T ad _ _ _) dX12_appendWord_30 ?_
      refine fw_mem ((up_eq _ _ _ _ _ _).symm.trans e6) ?_
      refine fw_iinc C dX12_appendWord_33 (kk := 0) (v := l2 + (-8)) rfl rfl (by decide) (L' := [(2, .int (l2 + (-8))), (0, .ref (ad 10 0 0)), (1, .int a1)]) rfl ?_
      refine fw_goto C dX12_appendWord_36 (tgt := 3) rfl ?_
      exact ih _ _ h
set_option maxRecDepth 100000 in
set_option maxHeartbeats 4000000 in
theorem w_X12_appendWord {Y : Mem} {a1 : Int32} (C : Cx p s m [.ref (ad 10 0 0), .int a1].toArray meth c cX12_appendWord 3 wsX12_appendWord RX12 N0 T D gr ad) (hrt : meth.sig.returnType = none) (hG : ∀ q ∈ [(10, 0)], q ∈ gr) {res : Mem} (h : X12_appendWord Y a1 = some res) : FW p l e (Rm 0) s m [.ref (ad 10 0 0), .int a1].toArray below meth c 3 N0 T D gr ad 0 0 (MQ below (va_Qv (fun Y1 => Y1 = res) (WB T D gr ad) (fun q => N0 ≤ q)) [.ref (ad 10 0 0), .int a1].toArray s 0 0 (fun q => N0 ≤ q)) Y 0 [(0, .ref (ad 10 0 0)), (1, .int a1)] [] := by
  unfold X12_appendWord at h
  refine fw_bipush C dX12_appendWord_0 (v := 24) rfl ?_
  refine fw_istore_n C dX12_appendWord_2 rfl (by decide) (L' := [(2, .int 24), (0, .ref (ad 10 0 0)), (1, .int a1)]) rfl ?_
  exact w_X12_appendWord_b3 C hrt hG   _ _ _ h
end
set_option maxRecDepth 100000 in
set_option maxHeartbeats 4000000 in
theorem c_X12_appendWord {l : Launch} {N0 : Nat} {T : Nat → ClassId} {D : va_G} {gr : List (Nat × Nat)} {ad : Nat → Nat → Nat → Nat} {Y : Mem} {a1 : Int32} {res : Mem} (hG : ∀ q ∈ [(10, 0)], q ∈ gr) (h : X12_appendWord Y a1 = some res) : CV l yX12_appendWord wsX12_appendWord (Rm 0) N0 T D gr ad Y [.ref (ad 10 0 0), .int a1] (fun Y1 => Y1 = res) :=
  fw_body (by decide +kernel) rfl (Nat.le_of_ble_eq_true rfl) (fun p e s m below meth c C hrt => w_X12_appendWord C hrt hG  h)
theorem ly_X12_append_12 : ∀ w ∈ u_ws RX12 TX12 19, w ∈ wsX12_append := by decide +kernel
theorem fl_X12_append_27 : Cond.fieldLink RX12 27 "RecipeSchedulerModel" "length" "I" ∈ wsX12_append := by decide +kernel
section
variable {p : Program} {l : Launch} {e : Env} {s : State} {m : MethodId} {below : List Frame} {meth : Method} {c : Code} {N0 : Nat} {T : Nat → ClassId} {D : va_G} {gr : List (Nat × Nat)} {ad : Nat → Nat → Nat → Nat}
set_option maxRecDepth 100000 in
set_option maxHeartbeats 4000000 in
theorem w_X12_append_b19 {a1 : Int32} {a2 : Int32} {a3 : Int32} {a4 : Int32} {a5 : Int32} (C : Cx p s m [.ref (ad 10 0 0), .int a1, .int a2, .int a3, .int a4, .int a5].toArray meth c cX12_append 6 wsX12_append RX12 N0 T D gr ad) (hrt : meth.sig.returnType = (some .int)) (hG : ∀ q ∈ [(10, 0)], q ∈ gr) {res : Int32 × Mem} (Y : Mem) (s0 : Int32) (h : X12_append_b19 a1 a2 a3 a4 a5  Y s0 = some res) : FW p l e (Rm 1) s m [.ref (ad 10 0 0), .int a1, .int a2, .int a3, .int a4, .int a5].toArray below meth c 6 N0 T D gr ad 0 0 (MQ below (va_Qi (fun r Y1 => (r, Y1) = res) (WB T D gr ad) (fun q => N0 ≤ q)) [.ref (ad 10 0 0), .int a1, .int a2, .int a3, .int a4, .int a5].toArray s 0 0 (fun q => N0 ≤ q)) Y 19 [(0, .ref (ad 10 0 0)), (1, .int a1), (2, .int a2), (3, .int a3), (4, .int a4), (5, .int a5)] [.int s0, .ref (ad 10 0 0)] := by
  unfold X12_append_b19 at h
  refine fw_iconst C dX12_append_19 (v := 0) rfl ?_
  refine fw_iconst C dX12_append_20 (v := 0) rfl ?_
  obtain ⟨r2, Y4, q3, h⟩ := bd2_some h
  refine fw_callVi C (ci := 10) (Cn := RX12) (Tc := TX12) (N := 19) (As := [.int s0, .int 0, .int 0]) (c_X12_fails (gac (hG _ (List.mem_of_getElem? (i := 0) rfl)) ga0) q3) (cwV 3 (cx_ts C) gX12_append_X12_fails rfl rfl rfl (by decide +kernel) ⟨Nat.le_of_ble_eq_true rfl, Nat.le_of_ble_eq_true rfl⟩) rfl (hG _ (List.mem_of_getElem? (i := 0) rfl)) (of10_0 _) (ce10 T ad _ _) rfl (st := []) rfl (Nat.le_of_ble_eq_true rfl) ⟨Nat.le_refl 0, Nat.le_refl 0⟩ dX12_append_21 (ppw ?_)
  refine fw_if_eq C dX12_append_24 (tgt := 29) rfl (fun c5 => ?_) (fun c5 => ?_)
  · have h := ite_t c5 h
    refine fw_aload_n C dX12_append_29 rfl 0 rfl ?_
    refine fw_iload_n C dX12_append_30 rfl 1 rfl ?_
    obtain ⟨Y8, q7, h⟩ := bd1_some h
    refine fw_callVv C (ci := 10) (Cn := RX12) (Tc := TX12) (N := 19) (As := [.int a1]) (c_X12_appendWord (gac (hG _ (List.mem_of_getElem? (i := 0) rfl)) ga0) q7) (cwV 1 (cx_ts C) gX12_append_X12_appendWord rfl rfl rfl (by decide +kernel) ⟨Nat.le_of_ble_eq_true rfl, Nat.le_of_ble_eq_true rfl⟩) rfl (hG _ (List.mem_of_getElem? (i := 0) rfl)) (of10_0 _) (ce10 T ad _ _) rfl (st := []) rfl (Nat.le_of_ble_eq_true rfl) ⟨Nat.le_refl 0, Nat.le_refl 0⟩ dX12_append_31 (ppv ?_)
    refine fw_aload_n C dX12_append_34 rfl 0 rfl ?_
    refine fw_iload_n C dX12_append_35 rfl 2 rfl ?_
    obtain ⟨Y11, q10, h⟩ := bd1_some h
    refine fw_callVv C (ci := 10) (Cn := RX12) (Tc := TX12) (N := 19) (As := [.int a2]) (c_X12_appendWord (gac (hG _ (List.mem_of_getElem? (i := 0) rfl)) ga0) q10) (cwV 1 (cx_ts C) gX12_append_X12_appendWord rfl rfl rfl (by decide +kernel) ⟨Nat.le_of_ble_eq_true rfl, Nat.le_of_ble_eq_true rfl⟩) rfl (hG _ (List.mem_of_getElem? (i := 0) rfl)) (of10_0 _) (ce10 T ad _ _) rfl (st := []) rfl (Nat.le_of_ble_eq_true rfl) ⟨Nat.le_refl 0, Nat.le_refl 0⟩ dX12_append_36 (ppv ?_)
    refine fw_aload_n C dX12_append_39 rfl 0 rfl ?_
    refine fw_iload_n C dX12_append_40 rfl 3 rfl ?_
    obtain ⟨Y14, q13, h⟩ := bd1_some h
    refine fw_callVv C (ci := 10) (Cn := RX12) (Tc := TX12) (N := 19) (As := [.int a3]) (c_X12_appendWord (gac (hG _ (List.mem_of_getElem? (i := 0) rfl)) ga0) q13) (cwV 1 (cx_ts C) gX12_append_X12_appendWord rfl rfl rfl (by decide +kernel) ⟨Nat.le_of_ble_eq_true rfl, Nat.le_of_ble_eq_true rfl⟩) rfl (hG _ (List.mem_of_getElem? (i := 0) rfl)) (of10_0 _) (ce10 T ad _ _) rfl (st := []) rfl (Nat.le_of_ble_eq_true rfl) ⟨Nat.le_refl 0, Nat.le_refl 0⟩ dX12_append_41 (ppv ?_)
    refine fw_aload_n C dX12_append_44 rfl 0 rfl ?_
    refine fw_iload C dX12_append_45 4 rfl ?_
    obtain ⟨Y17, q16, h⟩ := bd1_some h
    refine fw_callVv C (ci := 10) (Cn := RX12) (Tc := TX12) (N := 19) (As := [.int a4]) (c_X12_appendWord (gac (hG _ (List.mem_of_getElem? (i := 0) rfl)) ga0) q16) (cwV 1 (cx_ts C) gX12_append_X12_appendWord rfl rfl rfl (by decide +kernel) ⟨Nat.le_of_ble_eq_true rfl, Nat.le_of_ble_eq_true rfl⟩) rfl (hG _ (List.mem_of_getElem? (i := 0) rfl)) (of10_0 _) (ce10 T ad _ _) rfl (st := []) rfl (Nat.le_of_ble_eq_true rfl) ⟨Nat.le_refl 0, Nat.le_refl 0⟩ dX12_append_47 (ppv ?_)
    refine fw_aload_n C dX12_append_50 rfl 0 rfl ?_
    refine fw_iload C dX12_append_51 5 rfl ?_
    obtain ⟨Y20, q19, h⟩ := bd1_some h
    refine fw_callVv C (ci := 10) (Cn := RX12) (Tc := TX12) (N := 19) (As := [.int a5]) (c_X12_appendWord (gac (hG _ (List.mem_of_getElem? (i := 0) rfl)) ga0) q19) (cwV 1 (cx_ts C) gX12_append_X12_appendWord rfl rfl rfl (by decide +kernel) ⟨Nat.le_of_ble_eq_true rfl, Nat.le_of_ble_eq_true rfl⟩) rfl (hG _ (List.mem_of_getElem? (i := 0) rfl)) (of10_0 _) (ce10 T ad _ _) rfl (st := []) rfl (Nat.le_of_ble_eq_true rfl) ⟨Nat.le_refl 0, Nat.le_refl 0⟩ dX12_append_53 (ppv ?_)
    refine fw_aload_n C dX12_append_56 rfl 0 rfl ?_
    refine fw_get C (ci := 10) (Cn := RX12) (Tc := TX12) (N := 19) (j := 4) ly_X12_append_12 rfl (hG _ (List.mem_of_getElem? (i := 0) rfl)) (of10_0 _) (ce10 T ad _ _) (by decide) (cx_ts C _ fl_X12_append_27) (fun _ h => h) (v := .int (Y20 10 0 0 4)) rfl dX12_append_57 ?_
    exact fw_iret C hrt Y20 (Option.some.inj h) (fun t ht => ht) dX12_append_60
  · have h := ite_f c5 h
    refine fw_iconst C dX12_append_27 (v := 0) rfl ?_
    exact fw_iret C hrt Y4 (Option.some.inj h) (fun t ht => ht) dX12_append_28
set_option maxRecDepth 100000 in
set_option maxHeartbeats 4000000 in
theorem w_X12_append {Y : Mem} {a1 : Int32} {a2 : Int32} {a3 : Int32} {a4 : Int32} {a5 : Int32} (C : Cx p s m [.ref (ad 10 0 0), .int a1, .int a2, .int a3, .int a4, .int a5].toArray meth c cX12_append 6 wsX12_append RX12 N0 T D gr ad) (hrt : meth.sig.returnType = (some .int)) (hG : ∀ q ∈ [(10, 0)], q ∈ gr) {res : Int32 × Mem} (h : X12_append Y a1 a2 a3 a4 a5 = some res) : FW p l e (Rm 1) s m [.ref (ad 10 0 0), .int a1, .int a2, .int a3, .int a4, .int a5].toArray below meth c 6 N0 T D gr ad 0 0 (MQ below (va_Qi (fun r Y1 => (r, Y1) = res) (WB T D gr ad) (fun q => N0 ≤ q)) [.ref (ad 10 0 0), .int a1, .int a2, .int a3, .int a4, .int a5].toArray s 0 0 (fun q => N0 ≤ q)) Y 0 [(0, .ref (ad 10 0 0)), (1, .int a1), (2, .int a2), (3, .int a3), (4, .int a4), (5, .int a5)] [] := by
  unfold X12_append at h
  refine fw_aload_n C dX12_append_0 rfl 0 rfl ?_
  refine fw_aload_n C dX12_append_1 rfl 0 rfl ?_
  refine fw_get C (ci := 10) (Cn := RX12) (Tc := TX12) (N := 19) (j := 4) ly_X12_append_12 rfl (hG _ (List.mem_of_getElem? (i := 0) rfl)) (of10_0 _) (ce10 T ad _ _) (by decide) (cx_ts C _ fl_X12_append_27) (fun _ h => h) (v := .int (Y 10 0 0 4)) rfl dX12_append_2 ?_
  refine fw_bipush C dX12_append_5 (v := 20) rfl ?_
  refine fw_iadd C dX12_append_7 ?_
  refine fw_sipush C dX12_append_8 (v := 700) rfl ?_
  refine fw_icmp_le C dX12_append_11 (tgt := 18) rfl (fun c1 => ?_) (fun c1 => ?_)
  · have h := ite_t c1 h
    refine fw_iconst C dX12_append_18 (v := 0) rfl ?_
    exact w_X12_append_b19 C hrt hG   _ _ h
  · have h := ite_f c1 h
    refine fw_iconst C dX12_append_14 (v := 1) rfl ?_
    refine fw_goto C dX12_append_15 (tgt := 19) rfl ?_
    exact w_X12_append_b19 C hrt hG   _ _ h
end
set_option maxRecDepth 100000 in
set_option maxHeartbeats 4000000 in
theorem c_X12_append {l : Launch} {N0 : Nat} {T : Nat → ClassId} {D : va_G} {gr : List (Nat × Nat)} {ad : Nat → Nat → Nat → Nat} {Y : Mem} {a1 : Int32} {a2 : Int32} {a3 : Int32} {a4 : Int32} {a5 : Int32} {res : Int32 × Mem} (hG : ∀ q ∈ [(10, 0)], q ∈ gr) (h : X12_append Y a1 a2 a3 a4 a5 = some res) : CI l yX12_append wsX12_append (Rm 1) N0 T D gr ad Y [.ref (ad 10 0 0), .int a1, .int a2, .int a3, .int a4, .int a5] (fun r Y1 => (r, Y1) = res) :=
  fw_body (by decide +kernel) rfl (Nat.le_of_ble_eq_true rfl) (fun p e s m below meth c C hrt => w_X12_append C hrt hG  h)
section
variable {p : Program} {l : Launch} {e : Env} {s : State} {m : MethodId} {below : List Frame} {meth : Method} {c : Code} {N0 : Nat} {T : Nat → ClassId} {D : va_G} {gr : List (Nat × Nat)} {ad : Nat → Nat → Nat → Nat}
set_option maxRecDepth 100000 in
set_option maxHeartbeats 4000000 in
theorem w_X12_isSmall {Y : Mem} {a0 : Int32} (C : Cx p s m [.int a0].toArray meth c cX12_isSmall 1 wsX12_isSmall RX12 N0 T D gr ad) (hrt : meth.sig.returnType = (some .boolean)) (hG : ∀ q ∈ [], q ∈ gr) {res : Int32} (h : X12_isSmall Y a0 = some res) : FW p l e (Rm 0) s m [.int a0].toArray below meth c 1 N0 T D gr ad 0 0 (MQ below (va_Qi (fun r Y1 => r = res ∧ Y1 = Y) (WB T D gr ad) (fun q => N0 ≤ q)) [.int a0].toArray s 0 0 (fun q => N0 ≤ q)) Y 0 [(0, .int a0)] [] := by
  unfold X12_isSmall at h
  refine fw_iload_n C dX12_isSmall_0 rfl 0 rfl ?_
  refine fw_bipush C dX12_isSmall_1 (v := 97) rfl ?_
  refine fw_icmp_lt C dX12_isSmall_3 (tgt := 16) rfl (fun c1 => ?_) (fun c1 => ?_)
  · have h := ite_t c1 h
    refine fw_iconst C dX12_isSmall_16 (v := 0) rfl ?_
    exact fw_zret C hrt (by decide) Y ⟨Option.some.inj h, rfl⟩ (fun t ht => ht) dX12_isSmall_17
  · have h := ite_f c1 h
    refine fw_iload_n C dX12_isSmall_6 rfl 0 rfl ?_
    refine fw_bipush C dX12_isSmall_7 (v := 122) rfl ?_
    refine fw_icmp_gt C dX12_isSmall_9 (tgt := 16) rfl (fun c2 => ?_) (fun c2 => ?_)
    · have h := ite_t c2 h
      refine fw_iconst C dX12_isSmall_16 (v := 0) rfl ?_
      exact fw_zret C hrt (by decide) Y ⟨Option.some.inj h, rfl⟩ (fun t ht => ht) dX12_isSmall_17
    · have h := ite_f c2 h
      refine fw_iconst C dX12_isSmall_12 (v := 1) rfl ?_
      refine fw_goto C dX12_isSmall_13 (tgt := 17) rfl ?_
      exact fw_zret C hrt (by decide) Y ⟨Option.some.inj h, rfl⟩ (fun t ht => ht) dX12_isSmall_17
end
set_option maxRecDepth 100000 in
set_option maxHeartbeats 4000000 in
theorem c_X12_isSmall {l : Launch} {N0 : Nat} {T : Nat → ClassId} {D : va_G} {gr : List (Nat × Nat)} {ad : Nat → Nat → Nat → Nat} {Y : Mem} {a0 : Int32} {res : Int32} (hG : ∀ q ∈ [], q ∈ gr) (h : X12_isSmall Y a0 = some res) : CI l yX12_isSmall wsX12_isSmall (Rm 0) N0 T D gr ad Y [.int a0] (fun r Y1 => r = res ∧ Y1 = Y) :=
  fw_body (by decide +kernel) rfl (Nat.le_of_ble_eq_true rfl) (fun p e s m below meth c C hrt => w_X12_isSmall C hrt hG  h)
section
variable {p : Program} {l : Launch} {e : Env} {s : State} {m : MethodId} {below : List Frame} {meth : Method} {c : Code} {N0 : Nat} {T : Nat → ClassId} {D : va_G} {gr : List (Nat × Nat)} {ad : Nat → Nat → Nat → Nat}
set_option maxRecDepth 100000 in
set_option maxHeartbeats 4000000 in
theorem w_X12_isDigit {Y : Mem} {a0 : Int32} (C : Cx p s m [.int a0].toArray meth c cX12_isDigit 1 wsX12_isDigit RX12 N0 T D gr ad) (hrt : meth.sig.returnType = (some .boolean)) (hG : ∀ q ∈ [], q ∈ gr) {res : Int32} (h : X12_isDigit Y a0 = some res) : FW p l e (Rm 0) s m [.int a0].toArray below meth c 1 N0 T D gr ad 0 0 (MQ below (va_Qi (fun r Y1 => r = res ∧ Y1 = Y) (WB T D gr ad) (fun q => N0 ≤ q)) [.int a0].toArray s 0 0 (fun q => N0 ≤ q)) Y 0 [(0, .int a0)] [] := by
  unfold X12_isDigit at h
  refine fw_iload_n C dX12_isDigit_0 rfl 0 rfl ?_
  refine fw_bipush C dX12_isDigit_1 (v := 48) rfl ?_
  refine fw_icmp_lt C dX12_isDigit_3 (tgt := 16) rfl (fun c1 => ?_) (fun c1 => ?_)
  · have h := ite_t c1 h
    refine fw_iconst C dX12_isDigit_16 (v := 0) rfl ?_
    exact fw_zret C hrt (by decide) Y ⟨Option.some.inj h, rfl⟩ (fun t ht => ht) dX12_isDigit_17
  · have h := ite_f c1 h
    refine fw_iload_n C dX12_isDigit_6 rfl 0 rfl ?_
    refine fw_bipush C dX12_isDigit_7 (v := 57) rfl ?_
    refine fw_icmp_gt C dX12_isDigit_9 (tgt := 16) rfl (fun c2 => ?_) (fun c2 => ?_)
    · have h := ite_t c2 h
      refine fw_iconst C dX12_isDigit_16 (v := 0) rfl ?_
      exact fw_zret C hrt (by decide) Y ⟨Option.some.inj h, rfl⟩ (fun t ht => ht) dX12_isDigit_17
    · have h := ite_f c2 h
      refine fw_iconst C dX12_isDigit_12 (v := 1) rfl ?_
      refine fw_goto C dX12_isDigit_13 (tgt := 17) rfl ?_
      exact fw_zret C hrt (by decide) Y ⟨Option.some.inj h, rfl⟩ (fun t ht => ht) dX12_isDigit_17
end
set_option maxRecDepth 100000 in
set_option maxHeartbeats 4000000 in
theorem c_X12_isDigit {l : Launch} {N0 : Nat} {T : Nat → ClassId} {D : va_G} {gr : List (Nat × Nat)} {ad : Nat → Nat → Nat → Nat} {Y : Mem} {a0 : Int32} {res : Int32} (hG : ∀ q ∈ [], q ∈ gr) (h : X12_isDigit Y a0 = some res) : CI l yX12_isDigit wsX12_isDigit (Rm 0) N0 T D gr ad Y [.int a0] (fun r Y1 => r = res ∧ Y1 = Y) :=
  fw_body (by decide +kernel) rfl (Nat.le_of_ble_eq_true rfl) (fun p e s m below meth c C hrt => w_X12_isDigit C hrt hG  h)
theorem ly_X12_token_12 : ∀ w ∈ u_ws RX12 TX12 19, w ∈ wsX12_token := by decide +kernel
theorem fl_X12_token_54 : Cond.fieldLink RX12 54 "RecipeSchedulerModel" "ahead" "I" ∈ wsX12_token := by decide +kernel
theorem fl_X12_token_27 : Cond.fieldLink RX12 27 "RecipeSchedulerModel" "length" "I" ∈ wsX12_token := by decide +kernel
theorem fl_X12_token_60 : Cond.fieldLink RX12 60 "RecipeSchedulerModel" "from" "I" ∈ wsX12_token := by decide +kernel
theorem fl_X12_token_24 : Cond.fieldLink RX12 24 "RecipeSchedulerModel" "buffer" "[I" ∈ wsX12_token := by decide +kernel
theorem fl_X12_token_57 : Cond.fieldLink RX12 57 "RecipeSchedulerModel" "type" "I" ∈ wsX12_token := by decide +kernel
theorem fl_X12_token_63 : Cond.fieldLink RX12 63 "RecipeSchedulerModel" "value" "I" ∈ wsX12_token := by decide +kernel
section
variable {p : Program} {l : Launch} {e : Env} {s : State} {m : MethodId} {below : List Frame} {meth : Method} {c : Code} {N0 : Nat} {T : Nat → ClassId} {D : va_G} {gr : List (Nat × Nat)} {ad : Nat → Nat → Nat → Nat}
set_option maxRecDepth 100000 in
set_option maxHeartbeats 4000000 in
theorem w_X12_token_b294  (C : Cx p s m [.ref (ad 10 0 0)].toArray meth c cX12_token 1 wsX12_token RX12 N0 T D gr ad) (hrt : meth.sig.returnType = none) (hG : ∀ q ∈ [(10, 0)], q ∈ gr) {res : Mem} (Y : Mem) (s0 : Int32) (h : X12_token_b294   Y s0 = some res) : FW p l e (Rm 1) s m [.ref (ad 10 0 0)].toArray below meth c 1 N0 T D gr ad 0 0 (MQ below (va_Qv (fun Y1 => Y1 = res) (WB T D gr ad) (fun q => N0 ≤ q)) [.ref (ad 10 0 0)].toArray s 0 0 (fun q => N0 ≤ q)) Y 294 [(0, .ref (ad 10 0 0))] [.int s0, .ref (ad 10 0 0)] := by
  unfold X12_token_b294 at h
  obtain ⟨Y13, e14, h⟩ := lt_some h
  refine fw_put C (ci := 10) (Cn := RX12) (Tc := TX12) (N := 19) (j := 15) (ty := .int) (upd (Y 10 0 0) 15 s0) ly_X12_token_12 rfl tyX12_ok nmX12 (hG _ (List.mem_of_getElem? (i := 0) rfl)) (of10_0 _) (ce10 T ad _ _) (by decide) (cx_ts C _ fl_X12_token_57) (fun _ h => h) rfl (by decide +kernel) rfl rfl (Nat.le_of_ble_eq_true rfl) (ce10_put15 T ad _ _ _) dX12_token_294 ?_
  refine fw_mem ((up_eq _ _ _ _ _ _).symm.trans e14) ?_
  refine fw_aload_n C dX12_token_297 rfl 0 rfl ?_
  refine fw_dup C dX12_token_298 rfl ?_
  refine fw_get C (ci := 10) (Cn := RX12) (Tc := TX12) (N := 19) (j := 14) ly_X12_token_12 rfl (hG _ (List.mem_of_getElem? (i := 0) rfl)) (of10_0 _) (ce10 T ad _ _) (by decide) (cx_ts C _ fl_X12_token_54) (fun _ h => h) (v := .int (Y13 10 0 0 14)) rfl dX12_token_299 ?_
  refine fw_iconst C dX12_token_302 (v := 1) rfl ?_
  refine fw_iadd C dX12_token_303 ?_
  obtain ⟨Y15, e16, h⟩ := lt_some h
  refine fw_put C (ci := 10) (Cn := RX12) (Tc := TX12) (N := 19) (j := 14) (ty := .int) (upd (Y13 10 0 0) 14 ((Y13 10 0 0 14) + 1)) ly_X12_token_12 rfl tyX12_ok nmX12 (hG _ (List.mem_of_getElem? (i := 0) rfl)) (of10_0 _) (ce10 T ad _ _) (by decide) (cx_ts C _ fl_X12_token_54) (fun _ h => h) rfl (by decide +kernel) rfl rfl (Nat.le_of_ble_eq_true rfl) (ce10_put14 T ad _ _ _) dX12_token_304 ?_
  refine fw_mem ((up_eq _ _ _ _ _ _).symm.trans e16) ?_
  exact fw_vret C hrt Y15 (Option.some.inj h) (fun t ht => ht) dX12_token_307
set_option maxRecDepth 100000 in
set_option maxHeartbeats 4000000 in
theorem w_X12_token_b270  (C : Cx p s m [.ref (ad 10 0 0)].toArray meth c cX12_token 1 wsX12_token RX12 N0 T D gr ad) (hrt : meth.sig.returnType = none) (hG : ∀ q ∈ [(10, 0)], q ∈ gr) {res : Mem} (Y : Mem) (s0 : Int32) (h : X12_token_b270   Y s0 = some res) : FW p l e (Rm 1) s m [.ref (ad 10 0 0)].toArray below meth c 1 N0 T D gr ad 0 0 (MQ below (va_Qv (fun Y1 => Y1 = res) (WB T D gr ad) (fun q => N0 ≤ q)) [.ref (ad 10 0 0)].toArray s 0 0 (fun q => N0 ≤ q)) Y 270 [] [.int s0, .ref (ad 10 0 0)] := by
  unfold X12_token_b270 at h
  obtain ⟨Y21, e22, h⟩ := lt_some h
  refine fw_put C (ci := 10) (Cn := RX12) (Tc := TX12) (N := 19) (j := 15) (ty := .int) (upd (Y 10 0 0) 15 s0) ly_X12_token_12 rfl tyX12_ok nmX12 (hG _ (List.mem_of_getElem? (i := 0) rfl)) (of10_0 _) (ce10 T ad _ _) (by decide) (cx_ts C _ fl_X12_token_57) (fun _ h => h) rfl (by decide +kernel) rfl rfl (Nat.le_of_ble_eq_true rfl) (ce10_put15 T ad _ _ _) dX12_token_270 ?_
  refine fw_mem ((up_eq _ _ _ _ _ _).symm.trans e22) ?_
  exact fw_vret C hrt Y21 (Option.some.inj h) (fun t ht => ht) dX12_token_273
set_option maxRecDepth 100000 in
set_option maxHeartbeats 4000000 in
theorem w_X12_token_b251  (C : Cx p s m [.ref (ad 10 0 0)].toArray meth c cX12_token 1 wsX12_token RX12 N0 T D gr ad) (hrt : meth.sig.returnType = none) (hG : ∀ q ∈ [(10, 0)], q ∈ gr) {res : Mem} (Y : Mem) (h : X12_token_b251   Y = some res) : FW p l e (Rm 1) s m [.ref (ad 10 0 0)].toArray below meth c 1 N0 T D gr ad 0 0 (MQ below (va_Qv (fun Y1 => Y1 = res) (WB T D gr ad) (fun q => N0 ≤ q)) [.ref (ad 10 0 0)].toArray s 0 0 (fun q => N0 ≤ q)) Y 251 [(0, .ref (ad 10 0 0))] [] := by
  unfold X12_token_b251 at h
  refine fw_aload_n C dX12_token_251 rfl 0 rfl ?_
  refine fw_aload_n C dX12_token_252 rfl 0 rfl ?_
  refine fw_get C (ci := 10) (Cn := RX12) (Tc := TX12) (N := 19) (j := 14) ly_X12_token_12 rfl (hG _ (List.mem_of_getElem? (i := 0) rfl)) (of10_0 _) (ce10 T ad _ _) (by decide) (cx_ts C _ fl_X12_token_54) (fun _ h => h) (v := .int (Y 10 0 0 14)) rfl dX12_token_253 ?_
  refine fw_aload_n C dX12_token_256 rfl 0 rfl ?_
  refine fw_get C (ci := 10) (Cn := RX12) (Tc := TX12) (N := 19) (j := 16) ly_X12_token_12 rfl (hG _ (List.mem_of_getElem? (i := 0) rfl)) (of10_0 _) (ce10 T ad _ _) (by decide) (cx_ts C _ fl_X12_token_60) (fun _ h => h) (v := .int (Y 10 0 0 16)) rfl dX12_token_257 ?_
  refine fw_isub C dX12_token_260 ?_
  refine fw_iconst C dX12_token_261 (v := 3) rfl ?_
  refine fw_icmp_le C dX12_token_262 (tgt := 269) rfl (fun c20 => ?_) (fun c20 => ?_)
  · have h := ite_t c20 h
    refine fw_iconst C dX12_token_269 (v := 2) rfl ?_
    refine fw_sub [] (L' := []) rfl ?_
    exact w_X12_token_b270 C hrt hG   _ _ h
  · have h := ite_f c20 h
    refine fw_iconst C dX12_token_265 (v := 4) rfl ?_
    refine fw_goto C dX12_token_266 (tgt := 270) rfl ?_
    refine fw_sub [] (L' := []) rfl ?_
    exact w_X12_token_b270 C hrt hG   _ _ h
set_option maxRecDepth 100000 in
set_option maxHeartbeats 4000000 in
theorem w_X12_token_b238  (C : Cx p s m [.ref (ad 10 0 0)].toArray meth c cX12_token 1 wsX12_token RX12 N0 T D gr ad) (hrt : meth.sig.returnType = none) (hG : ∀ q ∈ [(10, 0)], q ∈ gr) {res : Mem} {k175 : Mem → Option (Mem)} (hk175 : ∀ (Y : Mem), k175 Y = some res → FW p l e (Rm 1) s m [.ref (ad 10 0 0)].toArray below meth c 1 N0 T D gr ad 0 0 (MQ below (va_Qv (fun Y1 => Y1 = res) (WB T D gr ad) (fun q => N0 ≤ q)) [.ref (ad 10 0 0)].toArray s 0 0 (fun q => N0 ≤ q)) Y 175 [(0, .ref (ad 10 0 0))] []) (Y : Mem) (h : X12_token_b238  k175 Y = some res) : FW p l e (Rm 1) s m [.ref (ad 10 0 0)].toArray below meth c 1 N0 T D gr ad 0 0 (MQ below (va_Qv (fun Y1 => Y1 = res) (WB T D gr ad) (fun q => N0 ≤ q)) [.ref (ad 10 0 0)].toArray s 0 0 (fun q => N0 ≤ q)) Y 238 [(0, .ref (ad 10 0 0))] [] := by
  unfold X12_token_b238 at h
  refine fw_aload_n C dX12_token_238 rfl 0 rfl ?_
  refine fw_dup C dX12_token_239 rfl ?_
  refine fw_get C (ci := 10) (Cn := RX12) (Tc := TX12) (N := 19) (j := 14) ly_X12_token_12 rfl (hG _ (List.mem_of_getElem? (i := 0) rfl)) (of10_0 _) (ce10 T ad _ _) (by decide) (cx_ts C _ fl_X12_token_54) (fun _ h => h) (v := .int (Y 10 0 0 14)) rfl dX12_token_240 ?_
  refine fw_iconst C dX12_token_243 (v := 1) rfl ?_
  refine fw_iadd C dX12_token_244 ?_
  obtain ⟨Y28, e29, h⟩ := lt_some h
  refine fw_put C (ci := 10) (Cn := RX12) (Tc := TX12) (N := 19) (j := 14) (ty := .int) (upd (Y 10 0 0) 14 ((Y 10 0 0 14) + 1)) ly_X12_token_12 rfl tyX12_ok nmX12 (hG _ (List.mem_of_getElem? (i := 0) rfl)) (of10_0 _) (ce10 T ad _ _) (by decide) (cx_ts C _ fl_X12_token_54) (fun _ h => h) rfl (by decide +kernel) rfl rfl (Nat.le_of_ble_eq_true rfl) (ce10_put14 T ad _ _ _) dX12_token_245 ?_
  refine fw_mem ((up_eq _ _ _ _ _ _).symm.trans e29) ?_
  refine fw_goto C dX12_token_248 (tgt := 175) rfl ?_
  exact hk175 _ h
set_option maxRecDepth 100000 in
set_option maxHeartbeats 4000000 in
theorem w_X12_token_b175  (C : Cx p s m [.ref (ad 10 0 0)].toArray meth c cX12_token 1 wsX12_token RX12 N0 T D gr ad) (hrt : meth.sig.returnType = none) (hG : ∀ q ∈ [(10, 0)], q ∈ gr) {res : Mem} : ∀ (n : Nat) (Y : Mem), X12_token_b175   n Y = some res → FW p l e (Rm 1) s m [.ref (ad 10 0 0)].toArray below meth c 1 N0 T D gr ad 0 0 (MQ below (va_Qv (fun Y1 => Y1 = res) (WB T D gr ad) (fun q => N0 ≤ q)) [.ref (ad 10 0 0)].toArray s 0 0 (fun q => N0 ≤ q)) Y 175 [(0, .ref (ad 10 0 0))] [] := by
  intro n
  induction n with
  | zero =>
    intro Y h
    unfold X12_token_b175 at h
    cases h
  | succ n ih =>
    intro Y h
    unfold X12_token_b175 at h
    refine fw_aload_n C dX12_token_175 rfl 0 rfl ?_
    refine fw_get C (ci := 10) (Cn := RX12) (Tc := TX12) (N := 19) (j := 14) ly_X12_token_12 rfl (hG _ (List.mem_of_getElem? (i := 0) rfl)) (of10_0 _) (ce10 T ad _ _) (by decide) (cx_ts C _ fl_X12_token_54) (fun _ h => h) (v := .int (Y 10 0 0 14)) rfl dX12_token_176 ?_
    refine fw_aload_n C dX12_token_179 rfl 0 rfl ?_
    refine fw_get C (ci := 10) (Cn := RX12) (Tc := TX12) (N := 19) (j := 4) ly_X12_token_12 rfl (hG _ (List.mem_of_getElem? (i := 0) rfl)) (of10_0 _) (ce10 T ad _ _) (by decide) (cx_ts C _ fl_X12_token_27) (fun _ h => h) (v := .int (Y 10 0 0 4)) rfl dX12_token_180 ?_
    refine fw_icmp_ge C dX12_token_183 (tgt := 251) rfl (fun c19 => ?_) (fun c19 => ?_)
    · have h := ite_t c19 h
      exact w_X12_token_b251 C hrt hG   _ h
    · have h := ite_f c19 h
      refine fw_aload_n C dX12_token_186 rfl 0 rfl ?_
      refine fw_get C (ci := 10) (Cn := RX12) (Tc := TX12) (N := 19) (j := 3) ly_X12_token_12 rfl (hG _ (List.mem_of_getElem? (i := 0) rfl)) (of10_0 _) (ce10 T ad _ _) (by decide) (cx_ts C _ fl_X12_token_24) (fun _ h => h) (v := .ref (ad 10 0 3)) rfl dX12_token_187 ?_
      refine fw_aload_n C dX12_token_190 rfl 0 rfl ?_
      refine fw_get C (ci := 10) (Cn := RX12) (Tc := TX12) (N := 19) (j := 14) ly_X12_token_12 rfl (hG _ (List.mem_of_getElem? (i := 0) rfl)) (of10_0 _) (ce10 T ad _ _) (by decide) (cx_ts C _ fl_X12_token_54) (fun _ h => h) (v := .int (Y 10 0 0 14)) rfl dX12_token_191 ?_
      obtain ⟨b23, h⟩ := gd_some h
      refine fw_iald2 C (hG _ (List.mem_of_getElem? (i := 0) rfl)) (of10_3 _) (ca10_3 T ad _ _) b23 (Nat.le_of_ble_eq_true rfl) dX12_token_194 ?_
      obtain ⟨r24, q25, h⟩ := bd1_some h
      refine fw_callSi C (As := [.int (Y 10 0 3 (ix (Y 10 0 0 14)))]) (c_X12_isDigit ga0 q25) (va_cwS 1 (cx_ts C) gX12_token_X12_isDigit rfl rfl rfl (by decide +kernel) ⟨Nat.le_of_ble_eq_true rfl, Nat.le_of_ble_eq_true rfl⟩) rfl (st := []) rfl (Nat.le_of_ble_eq_true rfl) ⟨Nat.le_refl 0, Nat.le_refl 0⟩ dX12_token_195 (pp2 ?_)
      refine fw_if_eq C dX12_token_198 (tgt := 251) rfl (fun c26 => ?_) (fun c26 => ?_)
      · have h := ite_t c26 h
        exact w_X12_token_b251 C hrt hG   _ h
      · have h := ite_f c26 h
        refine fw_aload_n C dX12_token_201 rfl 0 rfl ?_
        refine fw_get C (ci := 10) (Cn := RX12) (Tc := TX12) (N := 19) (j := 14) ly_X12_token_12 rfl (hG _ (List.mem_of_getElem? (i := 0) rfl)) (of10_0 _) (ce10 T ad _ _) (by decide) (cx_ts C _ fl_X12_token_54) (fun _ h => h) (v := .int (Y 10 0 0 14)) rfl dX12_token_202 ?_
        refine fw_aload_n C dX12_token_205 rfl 0 rfl ?_
        refine fw_get C (ci := 10) (Cn := RX12) (Tc := TX12) (N := 19) (j := 16) ly_X12_token_12 rfl (hG _ (List.mem_of_getElem? (i := 0) rfl)) (of10_0 _) (ce10 T ad _ _) (by decide) (cx_ts C _ fl_X12_token_60) (fun _ h => h) (v := .int (Y 10 0 0 16)) rfl dX12_token_206 ?_
        refine fw_isub C dX12_token_209 ?_
        refine fw_iconst C dX12_token_210 (v := 3) rfl ?_
        refine fw_icmp_ge C dX12_token_211 (tgt := 238) rfl (fun c27 => ?_) (fun c27 => ?_)
        · have h := ite_t c27 h
          exact w_X12_token_b238 C hrt hG  ih _ h
        · have h := ite_f c27 h
          refine fw_aload_n C dX12_token_214 rfl 0 rfl ?_
          refine fw_aload_n C dX12_token_215 rfl 0 rfl ?_
          refine fw_get C (ci := 10) (Cn := RX12) (Tc := TX12) (N := 19) (j := 17) ly_X12_token_12 rfl (hG _ (List.mem_of_getElem? (i := 0) rfl)) (of10_0 _) (ce10 T ad _ _) (by decide) (cx_ts C _ fl_X12_token_63) (fun _ h => h) (v := .int (Y 10 0 0 17)) rfl dX12_token_216 ?_
          refine fw_bipush C dX12_token_219 (v := 10) rfl ?_
          refine fw_imul C dX12_token_221 ?_
          refine fw_aload_n C dX12_token_222 rfl 0 rfl ?_
          refine fw_get C (ci := 10) (Cn := RX12) (Tc := TX12) (N := 19) (j := 3) ly_X12_token_12 rfl (hG _ (List.mem_of_getElem? (i := 0) rfl)) (of10_0 _) (ce10 T ad _ _) (by decide) (cx_ts C _ fl_X12_token_24) (fun _ h => h) (v := .ref (ad 10 0 3)) rfl dX12_token_223 ?_
          refine fw_aload_n C dX12_token_226 rfl 0 rfl ?_
          refine fw_get C (ci := 10) (Cn := RX12) (Tc := TX12) (N := 19) (j := 14) ly_X12_token_12 rfl (hG _ (List.mem_of_getElem? (i := 0) rfl)) (of10_0 _) (ce10 T ad _ _) (by decide) (cx_ts C _ fl_X12_token_54) (fun _ h => h) (v := .int (Y 10 0 0 14)) rfl dX12_token_227 ?_
          refine fw_iald2 C (hG _ (List.mem_of_getElem? (i := 0) rfl)) (of10_3 _) (ca10_3 T ad _ _) b23 (Nat.le_of_ble_eq_true rfl) dX12_token_230 ?_
          refine fw_iadd C dX12_token_231 ?_
          refine fw_bipush C dX12_token_232 (v := 48) rfl ?_
          refine fw_isub C dX12_token_234 ?_
          obtain ⟨Y30, e31, h⟩ := lt_some h
          refine fw_put C (ci := 10) (Cn := RX12) (Tc := TX12) (N := 19) (j := 17) (ty := .int) (upd (Y 10 0 0) 17 ((((Y 10 0 0 17) * 10) + (Y 10 0 3 (ix (Y 10 0 0 14)))) - 48)) ly_X12_token_12 rfl tyX12_ok nmX12 (hG _ (List.mem_of_getElem? (i := 0) rfl)) (of10_0 _) (ce10 T ad _ _) (by decide) (cx_ts C _ fl_X12_token_63) (fun _ h => h) rfl (by decide +kernel) rfl rfl (Nat.le_of_ble_eq_true rfl) (ce10_put17 T ad _ _ _) dX12_token_235 ?_
          refine fw_mem ((up_eq _ _ _ _ _ _).symm.trans e31) ?_
          exact w_X12_token_b238 C hrt hG  ih _ h
set_option maxRecDepth 100000 in
set_option maxHeartbeats 4000000 in
theorem w_X12_token_b151  (C : Cx p s m [.ref (ad 10 0 0)].toArray meth c cX12_token 1 wsX12_token RX12 N0 T D gr ad) (hrt : meth.sig.returnType = none) (hG : ∀ q ∈ [(10, 0)], q ∈ gr) {res : Mem} (Y : Mem) (s0 : Int32) (h : X12_token_b151   Y s0 = some res) : FW p l e (Rm 1) s m [.ref (ad 10 0 0)].toArray below meth c 1 N0 T D gr ad 0 0 (MQ below (va_Qv (fun Y1 => Y1 = res) (WB T D gr ad) (fun q => N0 ≤ q)) [.ref (ad 10 0 0)].toArray s 0 0 (fun q => N0 ≤ q)) Y 151 [] [.int s0, .ref (ad 10 0 0)] := by
  unfold X12_token_b151 at h
  obtain ⟨Y34, e35, h⟩ := lt_some h
  refine fw_put C (ci := 10) (Cn := RX12) (Tc := TX12) (N := 19) (j := 15) (ty := .int) (upd (Y 10 0 0) 15 s0) ly_X12_token_12 rfl tyX12_ok nmX12 (hG _ (List.mem_of_getElem? (i := 0) rfl)) (of10_0 _) (ce10 T ad _ _) (by decide) (cx_ts C _ fl_X12_token_57) (fun _ h => h) rfl (by decide +kernel) rfl rfl (Nat.le_of_ble_eq_true rfl) (ce10_put15 T ad _ _ _) dX12_token_151 ?_
  refine fw_mem ((up_eq _ _ _ _ _ _).symm.trans e35) ?_
  exact fw_vret C hrt Y34 (Option.some.inj h) (fun t ht => ht) dX12_token_154
set_option maxRecDepth 100000 in
set_option maxHeartbeats 4000000 in
theorem w_X12_token_b131  (C : Cx p s m [.ref (ad 10 0 0)].toArray meth c cX12_token 1 wsX12_token RX12 N0 T D gr ad) (hrt : meth.sig.returnType = none) (hG : ∀ q ∈ [(10, 0)], q ∈ gr) {res : Mem} (Y : Mem) (h : X12_token_b131   Y = some res) : FW p l e (Rm 1) s m [.ref (ad 10 0 0)].toArray below meth c 1 N0 T D gr ad 0 0 (MQ below (va_Qv (fun Y1 => Y1 = res) (WB T D gr ad) (fun q => N0 ≤ q)) [.ref (ad 10 0 0)].toArray s 0 0 (fun q => N0 ≤ q)) Y 131 [(0, .ref (ad 10 0 0))] [] := by
  unfold X12_token_b131 at h
  refine fw_aload_n C dX12_token_131 rfl 0 rfl ?_
  refine fw_aload_n C dX12_token_132 rfl 0 rfl ?_
  refine fw_get C (ci := 10) (Cn := RX12) (Tc := TX12) (N := 19) (j := 14) ly_X12_token_12 rfl (hG _ (List.mem_of_getElem? (i := 0) rfl)) (of10_0 _) (ce10 T ad _ _) (by decide) (cx_ts C _ fl_X12_token_54) (fun _ h => h) (v := .int (Y 10 0 0 14)) rfl dX12_token_133 ?_
  refine fw_aload_n C dX12_token_136 rfl 0 rfl ?_
  refine fw_get C (ci := 10) (Cn := RX12) (Tc := TX12) (N := 19) (j := 16) ly_X12_token_12 rfl (hG _ (List.mem_of_getElem? (i := 0) rfl)) (of10_0 _) (ce10 T ad _ _) (by decide) (cx_ts C _ fl_X12_token_60) (fun _ h => h) (v := .int (Y 10 0 0 16)) rfl dX12_token_137 ?_
  refine fw_isub C dX12_token_140 ?_
  refine fw_bipush C dX12_token_141 (v := 8) rfl ?_
  refine fw_icmp_le C dX12_token_143 (tgt := 150) rfl (fun c33 => ?_) (fun c33 => ?_)
  · have h := ite_t c33 h
    refine fw_iconst C dX12_token_150 (v := 1) rfl ?_
    refine fw_sub [] (L' := []) rfl ?_
    exact w_X12_token_b151 C hrt hG   _ _ h
  · have h := ite_f c33 h
    refine fw_iconst C dX12_token_146 (v := 4) rfl ?_
    refine fw_goto C dX12_token_147 (tgt := 151) rfl ?_
    refine fw_sub [] (L' := []) rfl ?_
    exact w_X12_token_b151 C hrt hG   _ _ h
set_option maxRecDepth 100000 in
set_option maxHeartbeats 4000000 in
theorem w_X12_token_b92  (C : Cx p s m [.ref (ad 10 0 0)].toArray meth c cX12_token 1 wsX12_token RX12 N0 T D gr ad) (hrt : meth.sig.returnType = none) (hG : ∀ q ∈ [(10, 0)], q ∈ gr) {res : Mem} : ∀ (n : Nat) (Y : Mem), X12_token_b92   n Y = some res → FW p l e (Rm 1) s m [.ref (ad 10 0 0)].toArray below meth c 1 N0 T D gr ad 0 0 (MQ below (va_Qv (fun Y1 => Y1 = res) (WB T D gr ad) (fun q => N0 ≤ q)) [.ref (ad 10 0 0)].toArray s 0 0 (fun q => N0 ≤ q)) Y 92 [(0, .ref (ad 10 0 0))] [] := by
  intro n
  induction n with
  | zero =>
    intro Y h
    unfold X12_token_b92 at h
    cases h
  | succ n ih =>
    intro Y h
    unfold X12_token_b92 at h
    refine fw_aload_n C dX12_token_92 rfl 0 rfl ?_
    refine fw_get C (ci := 10) (Cn := RX12) (Tc := TX12) (N := 19) (j := 14) ly_X12_token_12 rfl (hG _ (List.mem_of_getElem? (i := 0) rfl)) (of10_0 _) (ce10 T ad _ _) (by decide) (cx_ts C _ fl_X12_token_54) (fun _ h => h) (v := .int (Y 10 0 0 14)) rfl dX12_token_93 ?_
    refine fw_aload_n C dX12_token_96 rfl 0 rfl ?_
    refine fw_get C (ci := 10) (Cn := RX12) (Tc := TX12) (N := 19) (j := 4) ly_X12_token_12 rfl (hG _ (List.mem_of_getElem? (i := 0) rfl)) (of10_0 _) (ce10 T ad _ _) (by decide) (cx_ts C _ fl_X12_token_27) (fun _ h => h) (v := .int (Y 10 0 0 4)) rfl dX12_token_97 ?_
    refine fw_icmp_ge C dX12_token_100 (tgt := 131) rfl (fun c32 => ?_) (fun c32 => ?_)
    · have h := ite_t c32 h
      exact w_X12_token_b131 C hrt hG   _ h
    · have h := ite_f c32 h
      refine fw_aload_n C dX12_token_103 rfl 0 rfl ?_
      refine fw_get C (ci := 10) (Cn := RX12) (Tc := TX12) (N := 19) (j := 3) ly_X12_token_12 rfl (hG _ (List.mem_of_getElem? (i := 0) rfl)) (of10_0 _) (ce10 T ad _ _) (by decide) (cx_ts C _ fl_X12_token_24) (fun _ h => h) (v := .ref (ad 10 0 3)) rfl dX12_token_104 ?_
      refine fw_aload_n C dX12_token_107 rfl 0 rfl ?_
      refine fw_get C (ci := 10) (Cn := RX12) (Tc := TX12) (N := 19) (j := 14) ly_X12_token_12 rfl (hG _ (List.mem_of_getElem? (i := 0) rfl)) (of10_0 _) (ce10 T ad _ _) (by decide) (cx_ts C _ fl_X12_token_54) (fun _ h => h) (v := .int (Y 10 0 0 14)) rfl dX12_token_108 ?_
      obtain ⟨b36, h⟩ := gd_some h
      refine fw_iald2 C (hG _ (List.mem_of_getElem? (i := 0) rfl)) (of10_3 _) (ca10_3 T ad _ _) b36 (Nat.le_of_ble_eq_true rfl) dX12_token_111 ?_
      obtain ⟨r37, q38, h⟩ := bd1_some h
      refine fw_callSi C (As := [.int (Y 10 0 3 (ix (Y 10 0 0 14)))]) (c_X12_isSmall ga0 q38) (va_cwS 1 (cx_ts C) gX12_token_X12_isSmall rfl rfl rfl (by decide +kernel) ⟨Nat.le_of_ble_eq_true rfl, Nat.le_of_ble_eq_true rfl⟩) rfl (st := []) rfl (Nat.le_of_ble_eq_true rfl) ⟨Nat.le_refl 0, Nat.le_refl 0⟩ dX12_token_112 (pp2 ?_)
      refine fw_if_eq C dX12_token_115 (tgt := 131) rfl (fun c39 => ?_) (fun c39 => ?_)
      · have h := ite_t c39 h
        exact w_X12_token_b131 C hrt hG   _ h
      · have h := ite_f c39 h
        refine fw_aload_n C dX12_token_118 rfl 0 rfl ?_
        refine fw_dup C dX12_token_119 rfl ?_
        refine fw_get C (ci := 10) (Cn := RX12) (Tc := TX12) (N := 19) (j := 14) ly_X12_token_12 rfl (hG _ (List.mem_of_getElem? (i := 0) rfl)) (of10_0 _) (ce10 T ad _ _) (by decide) (cx_ts C _ fl_X12_token_54) (fun _ h => h) (v := .int (Y 10 0 0 14)) rfl dX12_token_120 ?_
        refine fw_iconst C dX12_token_123 (v := 1) rfl ?_
        refine fw_iadd C dX12_token_124 ?_
        obtain ⟨Y40, e41, h⟩ := lt_some h
        refine fw_put C (ci := 10) (Cn := RX12) (Tc := TX12) (N := 19) (j := 14) (ty := .int) (upd (Y 10 0 0) 14 ((Y 10 0 0 14) + 1)) ly_X12_token_12 rfl tyX12_ok nmX12 (hG _ (List.mem_of_getElem? (i := 0) rfl)) (of10_0 _) (ce10 T ad _ _) (by decide) (cx_ts C _ fl_X12_token_54) (fun _ h => h) rfl (by decide +kernel) rfl rfl (Nat.le_of_ble_eq_true rfl) (ce10_put14 T ad _ _ _) dX12_token_125 ?_
        refine fw_mem ((up_eq _ _ _ _ _ _).symm.trans e41) ?_
        refine fw_goto C dX12_token_128 (tgt := 92) rfl ?_
        exact ih _ h
set_option maxRecDepth 100000 in
set_option maxHeartbeats 4000000 in
theorem w_X12_token_b52  (C : Cx p s m [.ref (ad 10 0 0)].toArray meth c cX12_token 1 wsX12_token RX12 N0 T D gr ad) (hrt : meth.sig.returnType = none) (hG : ∀ q ∈ [(10, 0)], q ∈ gr) {res : Mem} (Y : Mem) (h : X12_token_b52   Y = some res) : FW p l e (Rm 1) s m [.ref (ad 10 0 0)].toArray below meth c 1 N0 T D gr ad 0 0 (MQ below (va_Qv (fun Y1 => Y1 = res) (WB T D gr ad) (fun q => N0 ≤ q)) [.ref (ad 10 0 0)].toArray s 0 0 (fun q => N0 ≤ q)) Y 52 [(0, .ref (ad 10 0 0))] [] := by
  unfold X12_token_b52 at h
  refine fw_aload_n C dX12_token_52 rfl 0 rfl ?_
  refine fw_aload_n C dX12_token_53 rfl 0 rfl ?_
  refine fw_get C (ci := 10) (Cn := RX12) (Tc := TX12) (N := 19) (j := 14) ly_X12_token_12 rfl (hG _ (List.mem_of_getElem? (i := 0) rfl)) (of10_0 _) (ce10 T ad _ _) (by decide) (cx_ts C _ fl_X12_token_54) (fun _ h => h) (v := .int (Y 10 0 0 14)) rfl dX12_token_54 ?_
  obtain ⟨Y2, e3, h⟩ := lt_some h
  refine fw_put C (ci := 10) (Cn := RX12) (Tc := TX12) (N := 19) (j := 16) (ty := .int) (upd (Y 10 0 0) 16 (Y 10 0 0 14)) ly_X12_token_12 rfl tyX12_ok nmX12 (hG _ (List.mem_of_getElem? (i := 0) rfl)) (of10_0 _) (ce10 T ad _ _) (by decide) (cx_ts C _ fl_X12_token_60) (fun _ h => h) rfl (by decide +kernel) rfl rfl (Nat.le_of_ble_eq_true rfl) (ce10_put16 T ad _ _ _) dX12_token_57 ?_
  refine fw_mem ((up_eq _ _ _ _ _ _).symm.trans e3) ?_
  refine fw_aload_n C dX12_token_60 rfl 0 rfl ?_
  refine fw_get C (ci := 10) (Cn := RX12) (Tc := TX12) (N := 19) (j := 14) ly_X12_token_12 rfl (hG _ (List.mem_of_getElem? (i := 0) rfl)) (of10_0 _) (ce10 T ad _ _) (by decide) (cx_ts C _ fl_X12_token_54) (fun _ h => h) (v := .int (Y2 10 0 0 14)) rfl dX12_token_61 ?_
  refine fw_aload_n C dX12_token_64 rfl 0 rfl ?_
  refine fw_get C (ci := 10) (Cn := RX12) (Tc := TX12) (N := 19) (j := 4) ly_X12_token_12 rfl (hG _ (List.mem_of_getElem? (i := 0) rfl)) (of10_0 _) (ce10 T ad _ _) (by decide) (cx_ts C _ fl_X12_token_27) (fun _ h => h) (v := .int (Y2 10 0 0 4)) rfl dX12_token_65 ?_
  refine fw_icmp_ne C dX12_token_68 (tgt := 77) rfl (fun c4 => ?_) (fun c4 => ?_)
  · have h := ite_f c4 h
    refine fw_aload_n C dX12_token_77 rfl 0 rfl ?_
    refine fw_get C (ci := 10) (Cn := RX12) (Tc := TX12) (N := 19) (j := 3) ly_X12_token_12 rfl (hG _ (List.mem_of_getElem? (i := 0) rfl)) (of10_0 _) (ce10 T ad _ _) (by decide) (cx_ts C _ fl_X12_token_24) (fun _ h => h) (v := .ref (ad 10 0 3)) rfl dX12_token_78 ?_
    refine fw_aload_n C dX12_token_81 rfl 0 rfl ?_
    refine fw_get C (ci := 10) (Cn := RX12) (Tc := TX12) (N := 19) (j := 14) ly_X12_token_12 rfl (hG _ (List.mem_of_getElem? (i := 0) rfl)) (of10_0 _) (ce10 T ad _ _) (by decide) (cx_ts C _ fl_X12_token_54) (fun _ h => h) (v := .int (Y2 10 0 0 14)) rfl dX12_token_82 ?_
    obtain ⟨b5, h⟩ := gd_some h
    refine fw_iald2 C (hG _ (List.mem_of_getElem? (i := 0) rfl)) (of10_3 _) (ca10_3 T ad _ _) b5 (Nat.le_of_ble_eq_true rfl) dX12_token_85 ?_
    obtain ⟨r6, q7, h⟩ := bd1_some h
    refine fw_callSi C (As := [.int (Y2 10 0 3 (ix (Y2 10 0 0 14)))]) (c_X12_isSmall ga0 q7) (va_cwS 1 (cx_ts C) gX12_token_X12_isSmall rfl rfl rfl (by decide +kernel) ⟨Nat.le_of_ble_eq_true rfl, Nat.le_of_ble_eq_true rfl⟩) rfl (st := []) rfl (Nat.le_of_ble_eq_true rfl) ⟨Nat.le_refl 0, Nat.le_refl 0⟩ dX12_token_86 (pp2 ?_)
    refine fw_if_eq C dX12_token_89 (tgt := 155) rfl (fun c8 => ?_) (fun c8 => ?_)
    · have h := ite_t c8 h
      refine fw_aload_n C dX12_token_155 rfl 0 rfl ?_
      refine fw_get C (ci := 10) (Cn := RX12) (Tc := TX12) (N := 19) (j := 3) ly_X12_token_12 rfl (hG _ (List.mem_of_getElem? (i := 0) rfl)) (of10_0 _) (ce10 T ad _ _) (by decide) (cx_ts C _ fl_X12_token_24) (fun _ h => h) (v := .ref (ad 10 0 3)) rfl dX12_token_156 ?_
      refine fw_aload_n C dX12_token_159 rfl 0 rfl ?_
      refine fw_get C (ci := 10) (Cn := RX12) (Tc := TX12) (N := 19) (j := 14) ly_X12_token_12 rfl (hG _ (List.mem_of_getElem? (i := 0) rfl)) (of10_0 _) (ce10 T ad _ _) (by decide) (cx_ts C _ fl_X12_token_54) (fun _ h => h) (v := .int (Y2 10 0 0 14)) rfl dX12_token_160 ?_
      refine fw_iald2 C (hG _ (List.mem_of_getElem? (i := 0) rfl)) (of10_3 _) (ca10_3 T ad _ _) b5 (Nat.le_of_ble_eq_true rfl) dX12_token_163 ?_
      obtain ⟨r9, q10, h⟩ := bd1_some h
      refine fw_callSi C (As := [.int (Y2 10 0 3 (ix (Y2 10 0 0 14)))]) (c_X12_isDigit ga0 q10) (va_cwS 1 (cx_ts C) gX12_token_X12_isDigit rfl rfl rfl (by decide +kernel) ⟨Nat.le_of_ble_eq_true rfl, Nat.le_of_ble_eq_true rfl⟩) rfl (st := []) rfl (Nat.le_of_ble_eq_true rfl) ⟨Nat.le_refl 0, Nat.le_refl 0⟩ dX12_token_164 (pp2 ?_)
      refine fw_if_eq C dX12_token_167 (tgt := 274) rfl (fun c11 => ?_) (fun c11 => ?_)
      · have h := ite_t c11 h
        refine fw_aload_n C dX12_token_274 rfl 0 rfl ?_
        refine fw_aload_n C dX12_token_275 rfl 0 rfl ?_
        refine fw_get C (ci := 10) (Cn := RX12) (Tc := TX12) (N := 19) (j := 3) ly_X12_token_12 rfl (hG _ (List.mem_of_getElem? (i := 0) rfl)) (of10_0 _) (ce10 T ad _ _) (by decide) (cx_ts C _ fl_X12_token_24) (fun _ h => h) (v := .ref (ad 10 0 3)) rfl dX12_token_276 ?_
        refine fw_aload_n C dX12_token_279 rfl 0 rfl ?_
        refine fw_get C (ci := 10) (Cn := RX12) (Tc := TX12) (N := 19) (j := 14) ly_X12_token_12 rfl (hG _ (List.mem_of_getElem? (i := 0) rfl)) (of10_0 _) (ce10 T ad _ _) (by decide) (cx_ts C _ fl_X12_token_54) (fun _ h => h) (v := .int (Y2 10 0 0 14)) rfl dX12_token_280 ?_
        refine fw_iald2 C (hG _ (List.mem_of_getElem? (i := 0) rfl)) (of10_3 _) (ca10_3 T ad _ _) b5 (Nat.le_of_ble_eq_true rfl) dX12_token_283 ?_
        refine fw_bipush C dX12_token_284 (v := 59) rfl ?_
        refine fw_icmp_ne C dX12_token_286 (tgt := 293) rfl (fun c12 => ?_) (fun c12 => ?_)
        · have h := ite_f c12 h
          refine fw_iconst C dX12_token_293 (v := 4) rfl ?_
          exact w_X12_token_b294 C hrt hG   _ _ h
        · have h := ite_t c12 h
          refine fw_iconst C dX12_token_289 (v := 3) rfl ?_
          refine fw_goto C dX12_token_290 (tgt := 294) rfl ?_
          exact w_X12_token_b294 C hrt hG   _ _ h
      · have h := ite_f c11 h
        refine fw_aload_n C dX12_token_170 rfl 0 rfl ?_
        refine fw_iconst C dX12_token_171 (v := 0) rfl ?_
        obtain ⟨Y17, e18, h⟩ := lt_some h
        refine fw_put C (ci := 10) (Cn := RX12) (Tc := TX12) (N := 19) (j := 17) (ty := .int) (upd (Y2 10 0 0) 17 0) ly_X12_token_12 rfl tyX12_ok nmX12 (hG _ (List.mem_of_getElem? (i := 0) rfl)) (of10_0 _) (ce10 T ad _ _) (by decide) (cx_ts C _ fl_X12_token_63) (fun _ h => h) rfl (by decide +kernel) rfl rfl (Nat.le_of_ble_eq_true rfl) (ce10_put17 T ad _ _ _) dX12_token_172 ?_
        refine fw_mem ((up_eq _ _ _ _ _ _).symm.trans e18) ?_
        exact w_X12_token_b175 C hrt hG   _ _ h
    · have h := ite_f c8 h
      exact w_X12_token_b92 C hrt hG   _ _ h
  · have h := ite_t c4 h
    refine fw_aload_n C dX12_token_71 rfl 0 rfl ?_
    refine fw_iconst C dX12_token_72 (v := 0) rfl ?_
    obtain ⟨Y42, e43, h⟩ := lt_some h
    refine fw_put C (ci := 10) (Cn := RX12) (Tc := TX12) (N := 19) (j := 15) (ty := .int) (upd (Y2 10 0 0) 15 0) ly_X12_token_12 rfl tyX12_ok nmX12 (hG _ (List.mem_of_getElem? (i := 0) rfl)) (of10_0 _) (ce10 T ad _ _) (by decide) (cx_ts C _ fl_X12_token_57) (fun _ h => h) rfl (by decide +kernel) rfl rfl (Nat.le_of_ble_eq_true rfl) (ce10_put15 T ad _ _ _) dX12_token_73 ?_
    refine fw_mem ((up_eq _ _ _ _ _ _).symm.trans e43) ?_
    exact fw_vret C hrt Y42 (Option.some.inj h) (fun t ht => ht) dX12_token_76
set_option maxRecDepth 100000 in
set_option maxHeartbeats 4000000 in
theorem w_X12_token_b39  (C : Cx p s m [.ref (ad 10 0 0)].toArray meth c cX12_token 1 wsX12_token RX12 N0 T D gr ad) (hrt : meth.sig.returnType = none) (hG : ∀ q ∈ [(10, 0)], q ∈ gr) {res : Mem} {k0 : Mem → Option (Mem)} (hk0 : ∀ (Y : Mem), k0 Y = some res → FW p l e (Rm 1) s m [.ref (ad 10 0 0)].toArray below meth c 1 N0 T D gr ad 0 0 (MQ below (va_Qv (fun Y1 => Y1 = res) (WB T D gr ad) (fun q => N0 ≤ q)) [.ref (ad 10 0 0)].toArray s 0 0 (fun q => N0 ≤ q)) Y 0 [(0, .ref (ad 10 0 0))] []) (Y : Mem) (h : X12_token_b39  k0 Y = some res) : FW p l e (Rm 1) s m [.ref (ad 10 0 0)].toArray below meth c 1 N0 T D gr ad 0 0 (MQ below (va_Qv (fun Y1 => Y1 = res) (WB T D gr ad) (fun q => N0 ≤ q)) [.ref (ad 10 0 0)].toArray s 0 0 (fun q => N0 ≤ q)) Y 39 [(0, .ref (ad 10 0 0))] [] := by
  unfold X12_token_b39 at h
  refine fw_aload_n C dX12_token_39 rfl 0 rfl ?_
  refine fw_dup C dX12_token_40 rfl ?_
  refine fw_get C (ci := 10) (Cn := RX12) (Tc := TX12) (N := 19) (j := 14) ly_X12_token_12 rfl (hG _ (List.mem_of_getElem? (i := 0) rfl)) (of10_0 _) (ce10 T ad _ _) (by decide) (cx_ts C _ fl_X12_token_54) (fun _ h => h) (v := .int (Y 10 0 0 14)) rfl dX12_token_41 ?_
  refine fw_iconst C dX12_token_44 (v := 1) rfl ?_
  refine fw_iadd C dX12_token_45 ?_
  obtain ⟨Y46, e47, h⟩ := lt_some h
  refine fw_put C (ci := 10) (Cn := RX12) (Tc := TX12) (N := 19) (j := 14) (ty := .int) (upd (Y 10 0 0) 14 ((Y 10 0 0 14) + 1)) ly_X12_token_12 rfl tyX12_ok nmX12 (hG _ (List.mem_of_getElem? (i := 0) rfl)) (of10_0 _) (ce10 T ad _ _) (by decide) (cx_ts C _ fl_X12_token_54) (fun _ h => h) rfl (by decide +kernel) rfl rfl (Nat.le_of_ble_eq_true rfl) (ce10_put14 T ad _ _ _) dX12_token_46 ?_
  refine fw_mem ((up_eq _ _ _ _ _ _).symm.trans e47) ?_
  refine fw_goto C dX12_token_49 (tgt := 0) rfl ?_
  exact hk0 _ h
set_option maxRecDepth 100000 in
set_option maxHeartbeats 4000000 in
theorem w_X12_token_b0  (C : Cx p s m [.ref (ad 10 0 0)].toArray meth c cX12_token 1 wsX12_token RX12 N0 T D gr ad) (hrt : meth.sig.returnType = none) (hG : ∀ q ∈ [(10, 0)], q ∈ gr) {res : Mem} : ∀ (n : Nat) (Y : Mem), X12_token_b0   n Y = some res → FW p l e (Rm 1) s m [.ref (ad 10 0 0)].toArray below meth c 1 N0 T D gr ad 0 0 (MQ below (va_Qv (fun Y1 => Y1 = res) (WB T D gr ad) (fun q => N0 ≤ q)) [.ref (ad 10 0 0)].toArray s 0 0 (fun q => N0 ≤ q)) Y 0 [(0, .ref (ad 10 0 0))] [] := by
  intro n
  induction n with
  | zero =>
    intro Y h
    unfold X12_token_b0 at h
    cases h
  | succ n ih =>
    intro Y h
    unfold X12_token_b0 at h
    refine fw_aload_n C dX12_token_0 rfl 0 rfl ?_
    refine fw_get C (ci := 10) (Cn := RX12) (Tc := TX12) (N := 19) (j := 14) ly_X12_token_12 rfl (hG _ (List.mem_of_getElem? (i := 0) rfl)) (of10_0 _) (ce10 T ad _ _) (by decide) (cx_ts C _ fl_X12_token_54) (fun _ h => h) (v := .int (Y 10 0 0 14)) rfl dX12_token_1 ?_
    refine fw_aload_n C dX12_token_4 rfl 0 rfl ?_
    refine fw_get C (ci := 10) (Cn := RX12) (Tc := TX12) (N := 19) (j := 4) ly_X12_token_12 rfl (hG _ (List.mem_of_getElem? (i := 0) rfl)) (of10_0 _) (ce10 T ad _ _) (by decide) (cx_ts C _ fl_X12_token_27) (fun _ h => h) (v := .int (Y 10 0 0 4)) rfl dX12_token_5 ?_
    refine fw_icmp_ge C dX12_token_8 (tgt := 52) rfl (fun c1 => ?_) (fun c1 => ?_)
    · have h := ite_t c1 h
      exact w_X12_token_b52 C hrt hG   _ h
    · have h := ite_f c1 h
      refine fw_aload_n C dX12_token_11 rfl 0 rfl ?_
      refine fw_get C (ci := 10) (Cn := RX12) (Tc := TX12) (N := 19) (j := 3) ly_X12_token_12 rfl (hG _ (List.mem_of_getElem? (i := 0) rfl)) (of10_0 _) (ce10 T ad _ _) (by decide) (cx_ts C _ fl_X12_token_24) (fun _ h => h) (v := .ref (ad 10 0 3)) rfl dX12_token_12 ?_
      refine fw_aload_n C dX12_token_15 rfl 0 rfl ?_
      refine fw_get C (ci := 10) (Cn := RX12) (Tc := TX12) (N := 19) (j := 14) ly_X12_token_12 rfl (hG _ (List.mem_of_getElem? (i := 0) rfl)) (of10_0 _) (ce10 T ad _ _) (by decide) (cx_ts C _ fl_X12_token_54) (fun _ h => h) (v := .int (Y 10 0 0 14)) rfl dX12_token_16 ?_
      obtain ⟨b44, h⟩ := gd_some h
      refine fw_iald2 C (hG _ (List.mem_of_getElem? (i := 0) rfl)) (of10_3 _) (ca10_3 T ad _ _) b44 (Nat.le_of_ble_eq_true rfl) dX12_token_19 ?_
      refine fw_bipush C dX12_token_20 (v := 32) rfl ?_
      refine fw_icmp_eq C dX12_token_22 (tgt := 39) rfl (fun c45 => ?_) (fun c45 => ?_)
      · have h := ite_t c45 h
        exact w_X12_token_b39 C hrt hG  ih _ h
      · have h := ite_f c45 h
        refine fw_aload_n C dX12_token_25 rfl 0 rfl ?_
        refine fw_get C (ci := 10) (Cn := RX12) (Tc := TX12) (N := 19) (j := 3) ly_X12_token_12 rfl (hG _ (List.mem_of_getElem? (i := 0) rfl)) (of10_0 _) (ce10 T ad _ _) (by decide) (cx_ts C _ fl_X12_token_24) (fun _ h => h) (v := .ref (ad 10 0 3)) rfl dX12_token_26 ?_
        refine fw_aload_n C dX12_token_29 rfl 0 rfl ?_
        refine fw_get C (ci := 10) (Cn := RX12) (Tc := TX12) (N := 19) (j := 14) ly_X12_token_12 rfl (hG _ (List.mem_of_getElem? (i := 0) rfl)) (of10_0 _) (ce10 T ad _ _) (by decide) (cx_ts C _ fl_X12_token_54) (fun _ h => h) (v := .int (Y 10 0 0 14)) rfl dX12_token_30 ?_
        refine fw_iald2 C (hG _ (List.mem_of_getElem? (i := 0) rfl)) (of10_3 _) (ca10_3 T ad _ _) b44 (Nat.le_of_ble_eq_true rfl) dX12_token_33 ?_
        refine fw_bipush C dX12_token_34 (v := 10) rfl ?_
        refine fw_icmp_ne C dX12_token_36 (tgt := 52) rfl (fun c48 => ?_) (fun c48 => ?_)
        · have h := ite_f c48 h
          exact w_X12_token_b52 C hrt hG   _ h
        · have h := ite_t c48 h
          exact w_X12_token_b39 C hrt hG  ih _ h
set_option maxRecDepth 100000 in
set_option maxHeartbeats 4000000 in
theorem w_X12_token {Y : Mem} (C : Cx p s m [.ref (ad 10 0 0)].toArray meth c cX12_token 1 wsX12_token RX12 N0 T D gr ad) (hrt : meth.sig.returnType = none) (hG : ∀ q ∈ [(10, 0)], q ∈ gr) {res : Mem} (h : X12_token Y = some res) : FW p l e (Rm 1) s m [.ref (ad 10 0 0)].toArray below meth c 1 N0 T D gr ad 0 0 (MQ below (va_Qv (fun Y1 => Y1 = res) (WB T D gr ad) (fun q => N0 ≤ q)) [.ref (ad 10 0 0)].toArray s 0 0 (fun q => N0 ≤ q)) Y 0 [(0, .ref (ad 10 0 0))] [] := by
  unfold X12_token at h
  exact w_X12_token_b0 C hrt hG   _ _ h
end
set_option maxRecDepth 100000 in
set_option maxHeartbeats 4000000 in
theorem c_X12_token {l : Launch} {N0 : Nat} {T : Nat → ClassId} {D : va_G} {gr : List (Nat × Nat)} {ad : Nat → Nat → Nat → Nat} {Y : Mem} {res : Mem} (hG : ∀ q ∈ [(10, 0)], q ∈ gr) (h : X12_token Y = some res) : CV l yX12_token wsX12_token (Rm 1) N0 T D gr ad Y [.ref (ad 10 0 0)] (fun Y1 => Y1 = res) :=
  fw_body (by decide +kernel) rfl (Nat.le_of_ble_eq_true rfl) (fun p e s m below meth c C hrt => w_X12_token C hrt hG  h)
theorem ly_X12_begin_12 : ∀ w ∈ u_ws RX12 TX12 19, w ∈ wsX12_begin := by decide +kernel
theorem fl_X12_begin_30 : Cond.fieldLink RX12 30 "RecipeSchedulerModel" "errorCode" "I" ∈ wsX12_begin := by decide +kernel
theorem fl_X12_begin_33 : Cond.fieldLink RX12 33 "RecipeSchedulerModel" "errorPosition" "I" ∈ wsX12_begin := by decide +kernel
theorem fl_X12_begin_54 : Cond.fieldLink RX12 54 "RecipeSchedulerModel" "ahead" "I" ∈ wsX12_begin := by decide +kernel
section
variable {p : Program} {l : Launch} {e : Env} {s : State} {m : MethodId} {below : List Frame} {meth : Method} {c : Code} {N0 : Nat} {T : Nat → ClassId} {D : va_G} {gr : List (Nat × Nat)} {ad : Nat → Nat → Nat → Nat}
set_option maxRecDepth 100000 in
set_option maxHeartbeats 4000000 in
theorem w_X12_begin {Y : Mem} (C : Cx p s m [.ref (ad 10 0 0)].toArray meth c cX12_begin 1 wsX12_begin RX12 N0 T D gr ad) (hrt : meth.sig.returnType = none) (hG : ∀ q ∈ [(10, 0)], q ∈ gr) {res : Mem} (h : X12_begin Y = some res) : FW p l e (Rm 2) s m [.ref (ad 10 0 0)].toArray below meth c 1 N0 T D gr ad 0 0 (MQ below (va_Qv (fun Y1 => Y1 = res) (WB T D gr ad) (fun q => N0 ≤ q)) [.ref (ad 10 0 0)].toArray s 0 0 (fun q => N0 ≤ q)) Y 0 [(0, .ref (ad 10 0 0))] [] := by
  unfold X12_begin at h
  refine fw_aload_n C dX12_begin_0 rfl 0 rfl ?_
  refine fw_iconst C dX12_begin_1 (v := 0) rfl ?_
  obtain ⟨Y1, e2, h⟩ := lt_some h
  refine fw_put C (ci := 10) (Cn := RX12) (Tc := TX12) (N := 19) (j := 5) (ty := .int) (upd (Y 10 0 0) 5 0) ly_X12_begin_12 rfl tyX12_ok nmX12 (hG _ (List.mem_of_getElem? (i := 0) rfl)) (of10_0 _) (ce10 T ad _ _) (by decide) (cx_ts C _ fl_X12_begin_30) (fun _ h => h) rfl (by decide +kernel) rfl rfl (Nat.le_of_ble_eq_true rfl) (ce10_put5 T ad _ _ _) dX12_begin_2 ?_
  refine fw_mem ((up_eq _ _ _ _ _ _).symm.trans e2) ?_
  refine fw_aload_n C dX12_begin_5 rfl 0 rfl ?_
  refine fw_iconst C dX12_begin_6 (v := (-1)) rfl ?_
  obtain ⟨Y3, e4, h⟩ := lt_some h
  refine fw_put C (ci := 10) (Cn := RX12) (Tc := TX12) (N := 19) (j := 6) (ty := .int) (upd (Y1 10 0 0) 6 ((-1))) ly_X12_begin_12 rfl tyX12_ok nmX12 (hG _ (List.mem_of_getElem? (i := 0) rfl)) (of10_0 _) (ce10 T ad _ _) (by decide) (cx_ts C _ fl_X12_begin_33) (fun _ h => h) rfl (by decide +kernel) rfl rfl (Nat.le_of_ble_eq_true rfl) (ce10_put6 T ad _ _ _) dX12_begin_7 ?_
  refine fw_mem ((up_eq _ _ _ _ _ _).symm.trans e4) ?_
  refine fw_aload_n C dX12_begin_10 rfl 0 rfl ?_
  refine fw_iconst C dX12_begin_11 (v := 0) rfl ?_
  obtain ⟨Y5, e6, h⟩ := lt_some h
  refine fw_put C (ci := 10) (Cn := RX12) (Tc := TX12) (N := 19) (j := 14) (ty := .int) (upd (Y3 10 0 0) 14 0) ly_X12_begin_12 rfl tyX12_ok nmX12 (hG _ (List.mem_of_getElem? (i := 0) rfl)) (of10_0 _) (ce10 T ad _ _) (by decide) (cx_ts C _ fl_X12_begin_54) (fun _ h => h) rfl (by decide +kernel) rfl rfl (Nat.le_of_ble_eq_true rfl) (ce10_put14 T ad _ _ _) dX12_begin_12 ?_
  refine fw_mem ((up_eq _ _ _ _ _ _).symm.trans e6) ?_
  refine fw_aload_n C dX12_begin_15 rfl 0 rfl ?_
  obtain ⟨Y9, q8, h⟩ := bd1_some h
  refine fw_callVv C (ci := 10) (Cn := RX12) (Tc := TX12) (N := 19) (As := []) (c_X12_token (gac (hG _ (List.mem_of_getElem? (i := 0) rfl)) ga0) q8) (cwV 0 (cx_ts C) gX12_begin_X12_token rfl rfl rfl (by decide +kernel) ⟨Nat.le_of_ble_eq_true rfl, Nat.le_of_ble_eq_true rfl⟩) rfl (hG _ (List.mem_of_getElem? (i := 0) rfl)) (of10_0 _) (ce10 T ad _ _) rfl (st := []) rfl (Nat.le_of_ble_eq_true rfl) ⟨Nat.le_refl 0, Nat.le_refl 0⟩ dX12_begin_16 (ppv ?_)
  exact fw_vret C hrt Y9 (Option.some.inj h) (fun t ht => ht) dX12_begin_19
end
set_option maxRecDepth 100000 in
set_option maxHeartbeats 4000000 in
theorem c_X12_begin {l : Launch} {N0 : Nat} {T : Nat → ClassId} {D : va_G} {gr : List (Nat × Nat)} {ad : Nat → Nat → Nat → Nat} {Y : Mem} {res : Mem} (hG : ∀ q ∈ [(10, 0)], q ∈ gr) (h : X12_begin Y = some res) : CV l yX12_begin wsX12_begin (Rm 2) N0 T D gr ad Y [.ref (ad 10 0 0)] (fun Y1 => Y1 = res) :=
  fw_body (by decide +kernel) rfl (Nat.le_of_ble_eq_true rfl) (fun p e s m below meth c C hrt => w_X12_begin C hrt hG  h)
section
variable {p : Program} {l : Launch} {e : Env} {s : State} {m : MethodId} {below : List Frame} {meth : Method} {c : Code} {N0 : Nat} {T : Nat → ClassId} {D : va_G} {gr : List (Nat × Nat)} {ad : Nat → Nat → Nat → Nat}
set_option maxRecDepth 100000 in
set_option maxHeartbeats 4000000 in
theorem w_X12_firstOpen_b2 {Y : Mem} {a1 : Int32} (C : Cx p s m [.ref (ad 10 0 0), .int a1].toArray meth c cX12_firstOpen 3 wsX12_firstOpen RX12 N0 T D gr ad) (hrt : meth.sig.returnType = (some .int)) (hG : ∀ q ∈ [(10, 0)], q ∈ gr) {res : Int32} : ∀ (n : Nat) (l2 : Int32), X12_firstOpen_b2 Y a1  n l2 = some res → FW p l e (Rm 1) s m [.ref (ad 10 0 0), .int a1].toArray below meth c 3 N0 T D gr ad 0 0 (MQ below (va_Qi (fun r Y1 => r = res ∧ Y1 = Y) (WB T D gr ad) (fun q => N0 ≤ q)) [.ref (ad 10 0 0), .int a1].toArray s 0 0 (fun q => N0 ≤ q)) Y 2 [(2, .int l2), (0, .ref (ad 10 0 0)), (1, .int a1)] [] := by
  intro n
  induction n with
  | zero =>
    intro l2 h
    unfold X12_firstOpen_b2 at h
    cases h
  | succ n ih =>
    intro l2 h
    unfold X12_firstOpen_b2 at h
    refine fw_iload_n C dX12_firstOpen_2 rfl 0 rfl ?_
    refine fw_aload_n C dX12_firstOpen_3 rfl 1 rfl ?_
    refine fw_iload_n C dX12_firstOpen_4 rfl 2 rfl ?_
    refine fw_bipush C dX12_firstOpen_5 (v := 12) rfl ?_
    obtain ⟨r1, q2, h⟩ := bd1_some h
    refine fw_callVi C (ci := 10) (Cn := RX12) (Tc := TX12) (N := 19) (As := [.int a1, .int 12]) (c_X12_of (gac (hG _ (List.mem_of_getElem? (i := 0) rfl)) ga0) q2) (cwV 2 (cx_ts C) gX12_firstOpen_X12_of rfl rfl rfl (by decide +kernel) ⟨Nat.le_of_ble_eq_true rfl, Nat.le_of_ble_eq_true rfl⟩) rfl (hG _ (List.mem_of_getElem? (i := 0) rfl)) (of10_0 _) (ce10 T ad _ _) rfl (st := [.int l2]) rfl (Nat.le_of_ble_eq_true rfl) ⟨Nat.le_refl 0, Nat.le_refl 0⟩ dX12_firstOpen_7 (pp2 ?_)
    refine fw_icmp_ge C dX12_firstOpen_10 (tgt := 48) rfl (fun c3 => ?_) (fun c3 => ?_)
    · have h := ite_t c3 h
      refine fw_iconst C dX12_firstOpen_48 (v := (-1)) rfl ?_
      exact fw_iret C hrt Y ⟨Option.some.inj h, rfl⟩ (fun t ht => ht) dX12_firstOpen_49
    · have h := ite_f c3 h
      refine fw_aload_n C dX12_firstOpen_13 rfl 1 rfl ?_
      refine fw_aload_n C dX12_firstOpen_14 rfl 1 rfl ?_
      refine fw_iload_n C dX12_firstOpen_15 rfl 2 rfl ?_
      refine fw_bipush C dX12_firstOpen_16 (v := 13) rfl ?_
      refine fw_iload_n C dX12_firstOpen_18 rfl 0 rfl ?_
      refine fw_iadd C dX12_firstOpen_19 ?_
      obtain ⟨r4, q5, h⟩ := bd1_some h
      refine fw_callVi C (ci := 10) (Cn := RX12) (Tc := TX12) (N := 19) (As := [.int a1, .int (13 + l2)]) (c_X12_of (gac (hG _ (List.mem_of_getElem? (i := 0) rfl)) ga0) q5) (cwV 2 (cx_ts C) gX12_firstOpen_X12_of rfl rfl rfl (by decide +kernel) ⟨Nat.le_of_ble_eq_true rfl, Nat.le_of_ble_eq_true rfl⟩) rfl (hG _ (List.mem_of_getElem? (i := 0) rfl)) (of10_0 _) (ce10 T ad _ _) rfl (st := [.ref (ad 10 0 0)]) rfl (Nat.le_of_ble_eq_true rfl) ⟨Nat.le_refl 0, Nat.le_refl 0⟩ dX12_firstOpen_20 (pp2 ?_)
      refine fw_bipush C dX12_firstOpen_23 (v := 17) rfl ?_
      obtain ⟨r6, q7, h⟩ := bd1_some h
      refine fw_callVi C (ci := 10) (Cn := RX12) (Tc := TX12) (N := 19) (As := [.int r4, .int 17]) (c_X12_of (gac (hG _ (List.mem_of_getElem? (i := 0) rfl)) ga0) q7) (cwV 2 (cx_ts C) gX12_firstOpen_X12_of rfl rfl rfl (by decide +kernel) ⟨Nat.le_of_ble_eq_true rfl, Nat.le_of_ble_eq_true rfl⟩) rfl (hG _ (List.mem_of_getElem? (i := 0) rfl)) (of10_0 _) (ce10 T ad _ _) rfl (st := []) rfl (Nat.le_of_ble_eq_true rfl) ⟨Nat.le_refl 0, Nat.le_refl 0⟩ dX12_firstOpen_25 (pp2 ?_)
      refine fw_iconst C dX12_firstOpen_28 (v := 2) rfl ?_
      refine fw_icmp_eq C dX12_firstOpen_29 (tgt := 42) rfl (fun c8 => ?_) (fun c8 => ?_)
      · have h := ite_t c8 h
        refine fw_iinc C dX12_firstOpen_42 (kk := 0) (v := l2 + 1) rfl rfl (by decide) (L' := [(2, .int (l2 + 1)), (0, .ref (ad 10 0 0)), (1, .int a1)]) rfl ?_
        refine fw_goto C dX12_firstOpen_45 (tgt := 2) rfl ?_
        exact ih _ h
      · have h := ite_f c8 h
        refine fw_aload_n C dX12_firstOpen_32 rfl 1 rfl ?_
        refine fw_iload_n C dX12_firstOpen_33 rfl 2 rfl ?_
        refine fw_bipush C dX12_firstOpen_34 (v := 13) rfl ?_
        refine fw_iload_n C dX12_firstOpen_36 rfl 0 rfl ?_
        refine fw_iadd C dX12_firstOpen_37 ?_
        obtain ⟨r9, q10, h⟩ := bd1_some h
        refine fw_callVi C (ci := 10) (Cn := RX12) (Tc := TX12) (N := 19) (As := [.int a1, .int (13 + l2)]) (c_X12_of (gac (hG _ (List.mem_of_getElem? (i := 0) rfl)) ga0) q10) (cwV 2 (cx_ts C) gX12_firstOpen_X12_of rfl rfl rfl (by decide +kernel) ⟨Nat.le_of_ble_eq_true rfl, Nat.le_of_ble_eq_true rfl⟩) rfl (hG _ (List.mem_of_getElem? (i := 0) rfl)) (of10_0 _) (ce10 T ad _ _) rfl (st := []) rfl (Nat.le_of_ble_eq_true rfl) ⟨Nat.le_refl 0, Nat.le_refl 0⟩ dX12_firstOpen_38 (pp2 ?_)
        exact fw_iret C hrt Y ⟨Option.some.inj h, rfl⟩ (fun t ht => ht) dX12_firstOpen_41
set_option maxRecDepth 100000 in
set_option maxHeartbeats 4000000 in
theorem w_X12_firstOpen {Y : Mem} {a1 : Int32} (C : Cx p s m [.ref (ad 10 0 0), .int a1].toArray meth c cX12_firstOpen 3 wsX12_firstOpen RX12 N0 T D gr ad) (hrt : meth.sig.returnType = (some .int)) (hG : ∀ q ∈ [(10, 0)], q ∈ gr) {res : Int32} (h : X12_firstOpen Y a1 = some res) : FW p l e (Rm 1) s m [.ref (ad 10 0 0), .int a1].toArray below meth c 3 N0 T D gr ad 0 0 (MQ below (va_Qi (fun r Y1 => r = res ∧ Y1 = Y) (WB T D gr ad) (fun q => N0 ≤ q)) [.ref (ad 10 0 0), .int a1].toArray s 0 0 (fun q => N0 ≤ q)) Y 0 [(0, .ref (ad 10 0 0)), (1, .int a1)] [] := by
  unfold X12_firstOpen at h
  refine fw_iconst C dX12_firstOpen_0 (v := 0) rfl ?_
  refine fw_istore_n C dX12_firstOpen_1 rfl (by decide) (L' := [(2, .int 0), (0, .ref (ad 10 0 0)), (1, .int a1)]) rfl ?_
  exact w_X12_firstOpen_b2 C hrt hG   _ _ h
end
set_option maxRecDepth 100000 in
set_option maxHeartbeats 4000000 in
theorem c_X12_firstOpen {l : Launch} {N0 : Nat} {T : Nat → ClassId} {D : va_G} {gr : List (Nat × Nat)} {ad : Nat → Nat → Nat → Nat} {Y : Mem} {a1 : Int32} {res : Int32} (hG : ∀ q ∈ [(10, 0)], q ∈ gr) (h : X12_firstOpen Y a1 = some res) : CI l yX12_firstOpen wsX12_firstOpen (Rm 1) N0 T D gr ad Y [.ref (ad 10 0 0), .int a1] (fun r Y1 => r = res ∧ Y1 = Y) :=
  fw_body (by decide +kernel) rfl (Nat.le_of_ble_eq_true rfl) (fun p e s m below meth c C hrt => w_X12_firstOpen C hrt hG  h)
section
variable {p : Program} {l : Launch} {e : Env} {s : State} {m : MethodId} {below : List Frame} {meth : Method} {c : Code} {N0 : Nat} {T : Nat → ClassId} {D : va_G} {gr : List (Nat × Nat)} {ad : Nat → Nat → Nat → Nat}
set_option maxRecDepth 100000 in
set_option maxHeartbeats 4000000 in
theorem w_X12_isPredecessor_b2 {Y : Mem} {a1 : Int32} {a2 : Int32} (C : Cx p s m [.ref (ad 10 0 0), .int a1, .int a2].toArray meth c cX12_isPredecessor 4 wsX12_isPredecessor RX12 N0 T D gr ad) (hrt : meth.sig.returnType = (some .boolean)) (hG : ∀ q ∈ [(10, 0)], q ∈ gr) {res : Int32} : ∀ (n : Nat) (l3 : Int32), X12_isPredecessor_b2 Y a1 a2  n l3 = some res → FW p l e (Rm 1) s m [.ref (ad 10 0 0), .int a1, .int a2].toArray below meth c 4 N0 T D gr ad 0 0 (MQ below (va_Qi (fun r Y1 => r = res ∧ Y1 = Y) (WB T D gr ad) (fun q => N0 ≤ q)) [.ref (ad 10 0 0), .int a1, .int a2].toArray s 0 0 (fun q => N0 ≤ q)) Y 2 [(3, .int l3), (0, .ref (ad 10 0 0)), (1, .int a1), (2, .int a2)] [] := by
  intro n
  induction n with
  | zero =>
    intro l3 h
    unfold X12_isPredecessor_b2 at h
    cases h
  | succ n ih =>
    intro l3 h
    unfold X12_isPredecessor_b2 at h
    refine fw_iload_n C dX12_isPredecessor_2 rfl 0 rfl ?_
    refine fw_aload_n C dX12_isPredecessor_3 rfl 1 rfl ?_
    refine fw_iload_n C dX12_isPredecessor_4 rfl 3 rfl ?_
    refine fw_bipush C dX12_isPredecessor_5 (v := 12) rfl ?_
    obtain ⟨r1, q2, h⟩ := bd1_some h
    refine fw_callVi C (ci := 10) (Cn := RX12) (Tc := TX12) (N := 19) (As := [.int a2, .int 12]) (c_X12_of (gac (hG _ (List.mem_of_getElem? (i := 0) rfl)) ga0) q2) (cwV 2 (cx_ts C) gX12_isPredecessor_X12_of rfl rfl rfl (by decide +kernel) ⟨Nat.le_of_ble_eq_true rfl, Nat.le_of_ble_eq_true rfl⟩) rfl (hG _ (List.mem_of_getElem? (i := 0) rfl)) (of10_0 _) (ce10 T ad _ _) rfl (st := [.int l3]) rfl (Nat.le_of_ble_eq_true rfl) ⟨Nat.le_refl 0, Nat.le_refl 0⟩ dX12_isPredecessor_7 (pp2 ?_)
    refine fw_icmp_ge C dX12_isPredecessor_10 (tgt := 34) rfl (fun c3 => ?_) (fun c3 => ?_)
    · have h := ite_t c3 h
      refine fw_iconst C dX12_isPredecessor_34 (v := 0) rfl ?_
      exact fw_zret C hrt (by decide) Y ⟨Option.some.inj h, rfl⟩ (fun t ht => ht) dX12_isPredecessor_35
    · have h := ite_f c3 h
      refine fw_aload_n C dX12_isPredecessor_13 rfl 1 rfl ?_
      refine fw_iload_n C dX12_isPredecessor_14 rfl 3 rfl ?_
      refine fw_bipush C dX12_isPredecessor_15 (v := 13) rfl ?_
      refine fw_iload_n C dX12_isPredecessor_17 rfl 0 rfl ?_
      refine fw_iadd C dX12_isPredecessor_18 ?_
      obtain ⟨r4, q5, h⟩ := bd1_some h
      refine fw_callVi C (ci := 10) (Cn := RX12) (Tc := TX12) (N := 19) (As := [.int a2, .int (13 + l3)]) (c_X12_of (gac (hG _ (List.mem_of_getElem? (i := 0) rfl)) ga0) q5) (cwV 2 (cx_ts C) gX12_isPredecessor_X12_of rfl rfl rfl (by decide +kernel) ⟨Nat.le_of_ble_eq_true rfl, Nat.le_of_ble_eq_true rfl⟩) rfl (hG _ (List.mem_of_getElem? (i := 0) rfl)) (of10_0 _) (ce10 T ad _ _) rfl (st := []) rfl (Nat.le_of_ble_eq_true rfl) ⟨Nat.le_refl 0, Nat.le_refl 0⟩ dX12_isPredecessor_19 (pp2 ?_)
      refine fw_iload_n C dX12_isPredecessor_22 rfl 2 rfl ?_
      refine fw_icmp_ne C dX12_isPredecessor_23 (tgt := 28) rfl (fun c6 => ?_) (fun c6 => ?_)
      · have h := ite_f c6 h
        refine fw_iinc C dX12_isPredecessor_28 (kk := 0) (v := l3 + 1) rfl rfl (by decide) (L' := [(3, .int (l3 + 1)), (0, .ref (ad 10 0 0)), (1, .int a1), (2, .int a2)]) rfl ?_
        refine fw_goto C dX12_isPredecessor_31 (tgt := 2) rfl ?_
        exact ih _ h
      · have h := ite_t c6 h
        refine fw_iconst C dX12_isPredecessor_26 (v := 1) rfl ?_
        exact fw_zret C hrt (by decide) Y ⟨Option.some.inj h, rfl⟩ (fun t ht => ht) dX12_isPredecessor_27
set_option maxRecDepth 100000 in
set_option maxHeartbeats 4000000 in
theorem w_X12_isPredecessor {Y : Mem} {a1 : Int32} {a2 : Int32} (C : Cx p s m [.ref (ad 10 0 0), .int a1, .int a2].toArray meth c cX12_isPredecessor 4 wsX12_isPredecessor RX12 N0 T D gr ad) (hrt : meth.sig.returnType = (some .boolean)) (hG : ∀ q ∈ [(10, 0)], q ∈ gr) {res : Int32} (h : X12_isPredecessor Y a1 a2 = some res) : FW p l e (Rm 1) s m [.ref (ad 10 0 0), .int a1, .int a2].toArray below meth c 4 N0 T D gr ad 0 0 (MQ below (va_Qi (fun r Y1 => r = res ∧ Y1 = Y) (WB T D gr ad) (fun q => N0 ≤ q)) [.ref (ad 10 0 0), .int a1, .int a2].toArray s 0 0 (fun q => N0 ≤ q)) Y 0 [(0, .ref (ad 10 0 0)), (1, .int a1), (2, .int a2)] [] := by
  unfold X12_isPredecessor at h
  refine fw_iconst C dX12_isPredecessor_0 (v := 0) rfl ?_
  refine fw_istore_n C dX12_isPredecessor_1 rfl (by decide) (L' := [(3, .int 0), (0, .ref (ad 10 0 0)), (1, .int a1), (2, .int a2)]) rfl ?_
  exact w_X12_isPredecessor_b2 C hrt hG   _ _ h
end
set_option maxRecDepth 100000 in
set_option maxHeartbeats 4000000 in
theorem c_X12_isPredecessor {l : Launch} {N0 : Nat} {T : Nat → ClassId} {D : va_G} {gr : List (Nat × Nat)} {ad : Nat → Nat → Nat → Nat} {Y : Mem} {a1 : Int32} {a2 : Int32} {res : Int32} (hG : ∀ q ∈ [(10, 0)], q ∈ gr) (h : X12_isPredecessor Y a1 a2 = some res) : CI l yX12_isPredecessor wsX12_isPredecessor (Rm 1) N0 T D gr ad Y [.ref (ad 10 0 0), .int a1, .int a2] (fun r Y1 => r = res ∧ Y1 = Y) :=
  fw_body (by decide +kernel) rfl (Nat.le_of_ble_eq_true rfl) (fun p e s m below meth c C hrt => w_X12_isPredecessor C hrt hG  h)
