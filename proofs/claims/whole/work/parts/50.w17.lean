theorem ly_X12_meanDuration_12 : ∀ w ∈ u_ws RX12 TX12 19, w ∈ wsX12_meanDuration := by decide +kernel
theorem fl_X12_meanDuration_1 : Cond.fieldLink RX12 1 "RecipeSchedulerModel" "thrown" "I" ∈ wsX12_meanDuration := by decide +kernel
theorem fl_X12_meanDuration_13 : Cond.fieldLink RX12 13 "RecipeSchedulerModel" "m" "[I" ∈ wsX12_meanDuration := by decide +kernel
section
variable {p : Program} {l : Launch} {e : Env} {s : State} {m : MethodId} {below : List Frame} {meth : Method} {c : Code} {N0 : Nat} {T : Nat → ClassId} {D : va_G} {gr : List (Nat × Nat)} {ad : Nat → Nat → Nat → Nat}
set_option maxRecDepth 100000 in
set_option maxHeartbeats 4000000 in
theorem w_X12_meanDuration_b9  (C : Cx p s m [.ref (ad 10 0 0)].toArray meth c cX12_meanDuration 3 wsX12_meanDuration RX12 N0 T D gr ad) (hrt : meth.sig.returnType = (some .double)) (hG : ∀ q ∈ [(10, 0)], q ∈ gr) {res : UInt64 × Mem} : ∀ (n : Nat) (Y : Mem) (l2 : Int32) (l1 : Int32), X12_meanDuration_b9   n Y l2 l1 = some res → FW p l e (Rm 1) s m [.ref (ad 10 0 0)].toArray below meth c 3 N0 T D gr ad 0 0 (MQ below (va_Qd (fun r Y1 => (r, Y1) = res) (WB T D gr ad) (fun q => N0 ≤ q)) [.ref (ad 10 0 0)].toArray s 0 0 (fun q => N0 ≤ q)) Y 9 [(2, .int l2), (1, .int l1), (0, .ref (ad 10 0 0))] [] := by
  intro n
  induction n with
  | zero =>
    intro Y l2 l1 h
    unfold X12_meanDuration_b9 at h
    cases h
  | succ n ih =>
    intro Y l2 l1 h
    unfold X12_meanDuration_b9 at h
    refine fw_iload_n C dX12_meanDuration_9 rfl 0 rfl ?_
    refine fw_aload_n C dX12_meanDuration_10 rfl 2 rfl ?_
    refine fw_get C (ci := 10) (Cn := RX12) (Tc := TX12) (N := 19) (j := 0) ly_X12_meanDuration_12 rfl (hG _ (List.mem_of_getElem? (i := 0) rfl)) (of10_0 _) (ce10 T ad _ _) (by decide) (cx_ts C _ fl_X12_meanDuration_13) (fun _ h => h) (v := .ref (ad 10 0 1)) rfl dX12_meanDuration_11 ?_
    refine fw_bipush C dX12_meanDuration_14 (v := 13) rfl ?_
    obtain ⟨b3, h⟩ := gd_some h
    refine fw_iald2 C (hG _ (List.mem_of_getElem? (i := 0) rfl)) (of10_1 _) (ca10_1 T ad _ _) b3 (Nat.le_of_ble_eq_true rfl) dX12_meanDuration_16 ?_
    refine fw_icmp_ge C dX12_meanDuration_17 (tgt := 36) rfl (fun c4 => ?_) (fun c4 => ?_)
    · have h := ite_t c4 h
      refine fw_iload_n C dX12_meanDuration_36 rfl 1 rfl ?_
      refine fw_i2d C dX12_meanDuration_37 ?_
      refine fw_aload_n C dX12_meanDuration_38 rfl 2 rfl ?_
      refine fw_get C (ci := 10) (Cn := RX12) (Tc := TX12) (N := 19) (j := 0) ly_X12_meanDuration_12 rfl (hG _ (List.mem_of_getElem? (i := 0) rfl)) (of10_0 _) (ce10 T ad _ _) (by decide) (cx_ts C _ fl_X12_meanDuration_13) (fun _ h => h) (v := .ref (ad 10 0 1)) rfl dX12_meanDuration_39 ?_
      refine fw_bipush C dX12_meanDuration_42 (v := 13) rfl ?_
      refine fw_iald2 C (hG _ (List.mem_of_getElem? (i := 0) rfl)) (of10_1 _) (ca10_1 T ad _ _) b3 (Nat.le_of_ble_eq_true rfl) dX12_meanDuration_44 ?_
      refine fw_i2d C dX12_meanDuration_45 ?_
      obtain ⟨b5, h⟩ := gd_some h
      refine fw_ddiv C (of_decide_eq_true b5) dX12_meanDuration_46 ?_
      exact fw_dret C hrt Y (Option.some.inj h) (fun t ht => ht) dX12_meanDuration_47
    · have h := ite_f c4 h
      refine fw_iload_n C dX12_meanDuration_20 rfl 1 rfl ?_
      refine fw_aload_n C dX12_meanDuration_21 rfl 2 rfl ?_
      refine fw_iload_n C dX12_meanDuration_22 rfl 0 rfl ?_
      refine fw_bipush C dX12_meanDuration_23 (v := 7) rfl ?_
      obtain ⟨r6, q7, h⟩ := bd1_some h
      refine fw_callVi C (ci := 10) (Cn := RX12) (Tc := TX12) (N := 19) (As := [.int l2, .int 7]) (c_X12_of (gac (hG _ (List.mem_of_getElem? (i := 0) rfl)) ga0) q7) (cwV 2 (cx_ts C) gX12_meanDuration_X12_of rfl rfl rfl (by decide +kernel) ⟨Nat.le_of_ble_eq_true rfl, Nat.le_of_ble_eq_true rfl⟩) rfl (hG _ (List.mem_of_getElem? (i := 0) rfl)) (of10_0 _) (ce10 T ad _ _) rfl (st := [.int l1]) rfl (Nat.le_of_ble_eq_true rfl) ⟨Nat.le_refl 0, Nat.le_refl 0⟩ dX12_meanDuration_25 (pp2 ?_)
      refine fw_iadd C dX12_meanDuration_28 ?_
      obtain ⟨v8, e9, h⟩ := lt_some h
      refine fw_top (v' := .int v8) (by rw [e9]) ?_
      refine fw_istore_n C dX12_meanDuration_29 rfl (by decide) (L' := [(1, .int v8), (2, .int l2), (0, .ref (ad 10 0 0))]) rfl ?_
      refine fw_iinc C dX12_meanDuration_30 (kk := 1) (v := l2 + 1) rfl rfl (by decide) (L' := [(2, .int (l2 + 1)), (1, .int v8), (0, .ref (ad 10 0 0))]) rfl ?_
      refine fw_goto C dX12_meanDuration_33 (tgt := 9) rfl ?_
      exact ih _ _ _ h
set_option maxRecDepth 100000 in
set_option maxHeartbeats 4000000 in
theorem w_X12_meanDuration {Y : Mem} (C : Cx p s m [.ref (ad 10 0 0)].toArray meth c cX12_meanDuration 3 wsX12_meanDuration RX12 N0 T D gr ad) (hrt : meth.sig.returnType = (some .double)) (hG : ∀ q ∈ [(10, 0)], q ∈ gr) {res : UInt64 × Mem} (h : X12_meanDuration Y = some res) : FW p l e (Rm 1) s m [.ref (ad 10 0 0)].toArray below meth c 3 N0 T D gr ad 0 0 (MQ below (va_Qd (fun r Y1 => (r, Y1) = res) (WB T D gr ad) (fun q => N0 ≤ q)) [.ref (ad 10 0 0)].toArray s 0 0 (fun q => N0 ≤ q)) Y 0 [(0, .ref (ad 10 0 0))] [] := by
  unfold X12_meanDuration at h
  refine fw_aload_n C dX12_meanDuration_0 rfl 0 rfl ?_
  refine fw_iconst C dX12_meanDuration_1 (v := 0) rfl ?_
  obtain ⟨Y1, e2, h⟩ := lt_some h
  refine fw_put C (ci := 10) (Cn := RX12) (Tc := TX12) (N := 19) (j := 9) (ty := .int) (upd (Y 10 0 0) 9 0) ly_X12_meanDuration_12 rfl tyX12_ok nmX12 (hG _ (List.mem_of_getElem? (i := 0) rfl)) (of10_0 _) (ce10 T ad _ _) (by decide) (cx_ts C _ fl_X12_meanDuration_1) (fun _ h => h) rfl (by decide +kernel) rfl rfl (Nat.le_of_ble_eq_true rfl) (ce10_put9 T ad _ _ _) dX12_meanDuration_2 ?_
  refine fw_mem ((up_eq _ _ _ _ _ _).symm.trans e2) ?_
  refine fw_iconst C dX12_meanDuration_5 (v := 0) rfl ?_
  refine fw_istore_n C dX12_meanDuration_6 rfl (by decide) (L' := [(1, .int 0), (0, .ref (ad 10 0 0))]) rfl ?_
  refine fw_iconst C dX12_meanDuration_7 (v := 0) rfl ?_
  refine fw_istore_n C dX12_meanDuration_8 rfl (by decide) (L' := [(2, .int 0), (1, .int 0), (0, .ref (ad 10 0 0))]) rfl ?_
  exact w_X12_meanDuration_b9 C hrt hG   _ _ _ _ h
end
set_option maxRecDepth 100000 in
set_option maxHeartbeats 4000000 in
theorem c_X12_meanDuration {l : Launch} {N0 : Nat} {T : Nat → ClassId} {D : va_G} {gr : List (Nat × Nat)} {ad : Nat → Nat → Nat → Nat} {Y : Mem} {res : UInt64 × Mem} (hG : ∀ q ∈ [(10, 0)], q ∈ gr) (h : X12_meanDuration Y = some res) : CD l yX12_meanDuration wsX12_meanDuration (Rm 1) N0 T D gr ad Y [.ref (ad 10 0 0)] (fun r Y1 => (r, Y1) = res) :=
  fw_body (by decide +kernel) rfl (Nat.le_of_ble_eq_true rfl) (fun p e s m below meth c C hrt => w_X12_meanDuration C hrt hG  h)
theorem ly_X12_minute_12 : ∀ w ∈ u_ws RX12 TX12 19, w ∈ wsX12_minute := by decide +kernel
theorem fl_X12_minute_13 : Cond.fieldLink RX12 13 "RecipeSchedulerModel" "m" "[I" ∈ wsX12_minute := by decide +kernel
section
variable {p : Program} {l : Launch} {e : Env} {s : State} {m : MethodId} {below : List Frame} {meth : Method} {c : Code} {N0 : Nat} {T : Nat → ClassId} {D : va_G} {gr : List (Nat × Nat)} {ad : Nat → Nat → Nat → Nat}
set_option maxRecDepth 100000 in
set_option maxHeartbeats 4000000 in
theorem w_X12_minute {Y : Mem} (C : Cx p s m [.ref (ad 10 0 0)].toArray meth c cX12_minute 1 wsX12_minute RX12 N0 T D gr ad) (hrt : meth.sig.returnType = (some .int)) (hG : ∀ q ∈ [(10, 0)], q ∈ gr) {res : Int32 × Mem} (h : X12_minute Y = some res) : FW p l e (Rm 1) s m [.ref (ad 10 0 0)].toArray below meth c 1 N0 T D gr ad 0 0 (MQ below (va_Qi (fun r Y1 => (r, Y1) = res) (WB T D gr ad) (fun q => N0 ≤ q)) [.ref (ad 10 0 0)].toArray s 0 0 (fun q => N0 ≤ q)) Y 0 [(0, .ref (ad 10 0 0))] [] := by
  unfold X12_minute at h
  refine fw_aload_n C dX12_minute_0 rfl 0 rfl ?_
  refine fw_aload_n C dX12_minute_1 rfl 0 rfl ?_
  refine fw_get C (ci := 10) (Cn := RX12) (Tc := TX12) (N := 19) (j := 0) ly_X12_minute_12 rfl (hG _ (List.mem_of_getElem? (i := 0) rfl)) (of10_0 _) (ce10 T ad _ _) (by decide) (cx_ts C _ fl_X12_minute_13) (fun _ h => h) (v := .ref (ad 10 0 1)) rfl dX12_minute_2 ?_
  refine fw_iconst C dX12_minute_5 (v := 4) rfl ?_
  obtain ⟨b1, h⟩ := gd_some h
  refine fw_iald2 C (hG _ (List.mem_of_getElem? (i := 0) rfl)) (of10_1 _) (ca10_1 T ad _ _) b1 (Nat.le_of_ble_eq_true rfl) dX12_minute_6 ?_
  obtain ⟨r2, Y4, q3, h⟩ := bd2_some h
  refine fw_callVi C (ci := 10) (Cn := RX12) (Tc := TX12) (N := 19) (As := [.int (Y 10 0 1 (ix 4))]) (c_X12_plain (gac (hG _ (List.mem_of_getElem? (i := 0) rfl)) ga0) q3) (cwV 1 (cx_ts C) gX12_minute_X12_plain rfl rfl rfl (by decide +kernel) ⟨Nat.le_of_ble_eq_true rfl, Nat.le_of_ble_eq_true rfl⟩) rfl (hG _ (List.mem_of_getElem? (i := 0) rfl)) (of10_0 _) (ce10 T ad _ _) rfl (st := []) rfl (Nat.le_of_ble_eq_true rfl) ⟨Nat.le_refl 0, Nat.le_refl 0⟩ dX12_minute_7 (ppw ?_)
  exact fw_iret C hrt Y4 (Option.some.inj h) (fun t ht => ht) dX12_minute_10
end
set_option maxRecDepth 100000 in
set_option maxHeartbeats 4000000 in
theorem c_X12_minute {l : Launch} {N0 : Nat} {T : Nat → ClassId} {D : va_G} {gr : List (Nat × Nat)} {ad : Nat → Nat → Nat → Nat} {Y : Mem} {res : Int32 × Mem} (hG : ∀ q ∈ [(10, 0)], q ∈ gr) (h : X12_minute Y = some res) : CI l yX12_minute wsX12_minute (Rm 1) N0 T D gr ad Y [.ref (ad 10 0 0)] (fun r Y1 => (r, Y1) = res) :=
  fw_body (by decide +kernel) rfl (Nat.le_of_ble_eq_true rfl) (fun p e s m below meth c C hrt => w_X12_minute C hrt hG  h)
section
variable {p : Program} {l : Launch} {e : Env} {s : State} {m : MethodId} {below : List Frame} {meth : Method} {c : Code} {N0 : Nat} {T : Nat → ClassId} {D : va_G} {gr : List (Nat × Nat)} {ad : Nat → Nat → Nat → Nat}
set_option maxRecDepth 100000 in
set_option maxHeartbeats 4000000 in
theorem w_X12_minutesToBurn_b85 {a1 : Int32} (C : Cx p s m [.ref (ad 10 0 0), .int a1].toArray meth c cX12_minutesToBurn 5 wsX12_minutesToBurn RX12 N0 T D gr ad) (hrt : meth.sig.returnType = (some .int)) (hG : ∀ q ∈ [(10, 0)], q ∈ gr) {res : Int32 × Mem} (Y : Mem) (l3 : Int32) (s0 : Int32) (h : X12_minutesToBurn_b85 a1  Y l3 s0 = some res) : FW p l e (Rm 8) s m [.ref (ad 10 0 0), .int a1].toArray below meth c 5 N0 T D gr ad 0 0 (MQ below (va_Qi (fun r Y1 => (r, Y1) = res) (WB T D gr ad) (fun q => N0 ≤ q)) [.ref (ad 10 0 0), .int a1].toArray s 0 0 (fun q => N0 ≤ q)) Y 85 [(3, .int l3), (0, .ref (ad 10 0 0))] [.int s0] := by
  unfold X12_minutesToBurn_b85 at h
  refine fw_istore C dX12_minutesToBurn_85 (by decide) (L' := [(4, .int s0), (3, .int l3), (0, .ref (ad 10 0 0))]) rfl ?_
  refine fw_aload_n C dX12_minutesToBurn_87 rfl 2 rfl ?_
  refine fw_bipush C dX12_minutesToBurn_88 (v := 9) rfl ?_
  refine fw_iconst C dX12_minutesToBurn_90 (v := 0) rfl ?_
  obtain ⟨Y19, q18, h⟩ := bd1_some h
  refine fw_callVv C (ci := 10) (Cn := RX12) (Tc := TX12) (N := 19) (As := [.int 9, .int 0]) (c_X12_copyBlock (gac (hG _ (List.mem_of_getElem? (i := 0) rfl)) ga0) q18) (cwV 2 (cx_ts C) gX12_minutesToBurn_X12_copyBlock rfl rfl rfl (by decide +kernel) ⟨Nat.le_of_ble_eq_true rfl, Nat.le_of_ble_eq_true rfl⟩) rfl (hG _ (List.mem_of_getElem? (i := 0) rfl)) (of10_0 _) (ce10 T ad _ _) rfl (st := []) rfl (Nat.le_of_ble_eq_true rfl) ⟨Nat.le_refl 0, Nat.le_refl 0⟩ dX12_minutesToBurn_91 (ppv ?_)
  refine fw_iload C dX12_minutesToBurn_94 0 rfl ?_
  refine fw_if_eq C dX12_minutesToBurn_96 (tgt := 103) rfl (fun c20 => ?_) (fun c20 => ?_)
  · have h := ite_t c20 h
    refine fw_iconst C dX12_minutesToBurn_103 (v := (-1)) rfl ?_
    exact fw_iret C hrt Y19 (Option.some.inj h) (fun t ht => ht) dX12_minutesToBurn_104
  · have h := ite_f c20 h
    refine fw_iload_n C dX12_minutesToBurn_99 rfl 1 rfl ?_
    refine fw_goto C dX12_minutesToBurn_100 (tgt := 104) rfl ?_
    exact fw_iret C hrt Y19 (Option.some.inj h) (fun t ht => ht) dX12_minutesToBurn_104
set_option maxRecDepth 100000 in
set_option maxHeartbeats 4000000 in
theorem w_X12_minutesToBurn_b69 {a1 : Int32} (C : Cx p s m [.ref (ad 10 0 0), .int a1].toArray meth c cX12_minutesToBurn 5 wsX12_minutesToBurn RX12 N0 T D gr ad) (hrt : meth.sig.returnType = (some .int)) (hG : ∀ q ∈ [(10, 0)], q ∈ gr) {res : Int32 × Mem} (Y : Mem) (l3 : Int32) (l2 : Int32) (h : X12_minutesToBurn_b69 a1  Y l3 l2 = some res) : FW p l e (Rm 8) s m [.ref (ad 10 0 0), .int a1].toArray below meth c 5 N0 T D gr ad 0 0 (MQ below (va_Qi (fun r Y1 => (r, Y1) = res) (WB T D gr ad) (fun q => N0 ≤ q)) [.ref (ad 10 0 0), .int a1].toArray s 0 0 (fun q => N0 ≤ q)) Y 69 [(3, .int l3), (2, .int l2), (0, .ref (ad 10 0 0)), (1, .int a1)] [] := by
  unfold X12_minutesToBurn_b69 at h
  refine fw_aload_n C dX12_minutesToBurn_69 rfl 2 rfl ?_
  refine fw_iload_n C dX12_minutesToBurn_70 rfl 3 rfl ?_
  refine fw_bipush C dX12_minutesToBurn_71 (v := 22) rfl ?_
  obtain ⟨r14, q15, h⟩ := bd1_some h
  refine fw_callVi C (ci := 10) (Cn := RX12) (Tc := TX12) (N := 19) (As := [.int a1, .int 22]) (c_X12_of (gac (hG _ (List.mem_of_getElem? (i := 0) rfl)) ga0) q15) (cwV 2 (cx_ts C) gX12_minutesToBurn_X12_of rfl rfl rfl (by decide +kernel) ⟨Nat.le_of_ble_eq_true rfl, Nat.le_of_ble_eq_true rfl⟩) rfl (hG _ (List.mem_of_getElem? (i := 0) rfl)) (of10_0 _) (ce10 T ad _ _) rfl (st := []) rfl (Nat.le_of_ble_eq_true rfl) ⟨Nat.le_refl 0, Nat.le_refl 0⟩ dX12_minutesToBurn_73 (pp2 ?_)
  refine fw_iload_n C dX12_minutesToBurn_76 rfl 1 rfl ?_
  refine fw_icmp_le C dX12_minutesToBurn_77 (tgt := 84) rfl (fun c16 => ?_) (fun c16 => ?_)
  · have h := ite_t c16 h
    refine fw_iconst C dX12_minutesToBurn_84 (v := 0) rfl ?_
    refine fw_sub [0, 2] (L' := [(3, .int l3), (0, .ref (ad 10 0 0))]) rfl ?_
    exact w_X12_minutesToBurn_b85 C hrt hG   _ _ _ h
  · have h := ite_f c16 h
    refine fw_iconst C dX12_minutesToBurn_80 (v := 1) rfl ?_
    refine fw_goto C dX12_minutesToBurn_81 (tgt := 85) rfl ?_
    refine fw_sub [0, 2] (L' := [(3, .int l3), (0, .ref (ad 10 0 0))]) rfl ?_
    exact w_X12_minutesToBurn_b85 C hrt hG   _ _ _ h
set_option maxRecDepth 100000 in
set_option maxHeartbeats 4000000 in
theorem w_X12_minutesToBurn_b41 {a1 : Int32} (C : Cx p s m [.ref (ad 10 0 0), .int a1].toArray meth c cX12_minutesToBurn 5 wsX12_minutesToBurn RX12 N0 T D gr ad) (hrt : meth.sig.returnType = (some .int)) (hG : ∀ q ∈ [(10, 0)], q ∈ gr) {res : Int32 × Mem} : ∀ (n : Nat) (Y : Mem) (l3 : Int32) (l2 : Int32), X12_minutesToBurn_b41 a1  n Y l3 l2 = some res → FW p l e (Rm 8) s m [.ref (ad 10 0 0), .int a1].toArray below meth c 5 N0 T D gr ad 0 0 (MQ below (va_Qi (fun r Y1 => (r, Y1) = res) (WB T D gr ad) (fun q => N0 ≤ q)) [.ref (ad 10 0 0), .int a1].toArray s 0 0 (fun q => N0 ≤ q)) Y 41 [(3, .int l3), (2, .int l2), (0, .ref (ad 10 0 0)), (1, .int a1)] [] := by
  intro n
  induction n with
  | zero =>
    intro Y l3 l2 h
    unfold X12_minutesToBurn_b41 at h
    cases h
  | succ n ih =>
    intro Y l3 l2 h
    unfold X12_minutesToBurn_b41 at h
    refine fw_iload_n C dX12_minutesToBurn_41 rfl 0 rfl ?_
    refine fw_sipush C dX12_minutesToBurn_42 (v := 500) rfl ?_
    refine fw_icmp_ge C dX12_minutesToBurn_45 (tgt := 69) rfl (fun c13 => ?_) (fun c13 => ?_)
    · have h := ite_t c13 h
      exact w_X12_minutesToBurn_b69 C hrt hG   _ _ _ h
    · have h := ite_f c13 h
      refine fw_aload_n C dX12_minutesToBurn_48 rfl 2 rfl ?_
      refine fw_iload_n C dX12_minutesToBurn_49 rfl 3 rfl ?_
      refine fw_bipush C dX12_minutesToBurn_50 (v := 22) rfl ?_
      obtain ⟨r21, q22, h⟩ := bd1_some h
      refine fw_callVi C (ci := 10) (Cn := RX12) (Tc := TX12) (N := 19) (As := [.int a1, .int 22]) (c_X12_of (gac (hG _ (List.mem_of_getElem? (i := 0) rfl)) ga0) q22) (cwV 2 (cx_ts C) gX12_minutesToBurn_X12_of rfl rfl rfl (by decide +kernel) ⟨Nat.le_of_ble_eq_true rfl, Nat.le_of_ble_eq_true rfl⟩) rfl (hG _ (List.mem_of_getElem? (i := 0) rfl)) (of10_0 _) (ce10 T ad _ _) rfl (st := []) rfl (Nat.le_of_ble_eq_true rfl) ⟨Nat.le_refl 0, Nat.le_refl 0⟩ dX12_minutesToBurn_52 (pp2 ?_)
      refine fw_iload_n C dX12_minutesToBurn_55 rfl 1 rfl ?_
      refine fw_icmp_ne C dX12_minutesToBurn_56 (tgt := 69) rfl (fun c23 => ?_) (fun c23 => ?_)
      · have h := ite_f c23 h
        exact w_X12_minutesToBurn_b69 C hrt hG   _ _ _ h
      · have h := ite_t c23 h
        refine fw_aload_n C dX12_minutesToBurn_59 rfl 2 rfl ?_
        obtain ⟨Y26, q25, h⟩ := bd1_some h
        refine fw_callVv C (ci := 10) (Cn := RX12) (Tc := TX12) (N := 19) (As := []) (c_X12_passMinute (gac (hG _ (List.mem_of_getElem? (i := 0) rfl)) ga0) q25) (cwV 0 (cx_ts C) gX12_minutesToBurn_X12_passMinute rfl rfl rfl (by decide +kernel) ⟨Nat.le_of_ble_eq_true rfl, Nat.le_of_ble_eq_true rfl⟩) rfl (hG _ (List.mem_of_getElem? (i := 0) rfl)) (of10_0 _) (ce10 T ad _ _) rfl (st := []) rfl (Nat.le_of_ble_eq_true rfl) ⟨Nat.le_refl 0, Nat.le_refl 0⟩ dX12_minutesToBurn_60 (ppv ?_)
        refine fw_iinc C dX12_minutesToBurn_63 (kk := 0) (v := l3 + 1) rfl rfl (by decide) (L' := [(3, .int (l3 + 1)), (2, .int l2), (0, .ref (ad 10 0 0)), (1, .int a1)]) rfl ?_
        refine fw_goto C dX12_minutesToBurn_66 (tgt := 41) rfl ?_
        exact ih _ _ _ h
set_option maxRecDepth 100000 in
set_option maxHeartbeats 4000000 in
theorem w_X12_minutesToBurn_b14 {a1 : Int32} (C : Cx p s m [.ref (ad 10 0 0), .int a1].toArray meth c cX12_minutesToBurn 5 wsX12_minutesToBurn RX12 N0 T D gr ad) (hrt : meth.sig.returnType = (some .int)) (hG : ∀ q ∈ [(10, 0)], q ∈ gr) {res : Int32 × Mem} (Y : Mem) (s0 : Int32) (h : X12_minutesToBurn_b14 a1  Y s0 = some res) : FW p l e (Rm 8) s m [.ref (ad 10 0 0), .int a1].toArray below meth c 5 N0 T D gr ad 0 0 (MQ below (va_Qi (fun r Y1 => (r, Y1) = res) (WB T D gr ad) (fun q => N0 ≤ q)) [.ref (ad 10 0 0), .int a1].toArray s 0 0 (fun q => N0 ≤ q)) Y 14 [(0, .ref (ad 10 0 0)), (1, .int a1)] [.int s0, .ref (ad 10 0 0)] := by
  unfold X12_minutesToBurn_b14 at h
  refine fw_iconst C dX12_minutesToBurn_14 (v := 0) rfl ?_
  refine fw_iconst C dX12_minutesToBurn_15 (v := 0) rfl ?_
  obtain ⟨r4, Y6, q5, h⟩ := bd2_some h
  refine fw_callVi C (ci := 10) (Cn := RX12) (Tc := TX12) (N := 19) (As := [.int s0, .int 0, .int 0]) (c_X12_fails (gac (hG _ (List.mem_of_getElem? (i := 0) rfl)) ga0) q5) (cwV 3 (cx_ts C) gX12_minutesToBurn_X12_fails rfl rfl rfl (by decide +kernel) ⟨Nat.le_of_ble_eq_true rfl, Nat.le_of_ble_eq_true rfl⟩) rfl (hG _ (List.mem_of_getElem? (i := 0) rfl)) (of10_0 _) (ce10 T ad _ _) rfl (st := []) rfl (Nat.le_of_ble_eq_true rfl) ⟨Nat.le_refl 0, Nat.le_refl 0⟩ dX12_minutesToBurn_16 (ppw ?_)
  refine fw_if_eq C dX12_minutesToBurn_19 (tgt := 24) rfl (fun c7 => ?_) (fun c7 => ?_)
  · have h := ite_t c7 h
    refine fw_aload_n C dX12_minutesToBurn_24 rfl 0 rfl ?_
    refine fw_iconst C dX12_minutesToBurn_25 (v := 0) rfl ?_
    refine fw_bipush C dX12_minutesToBurn_26 (v := 9) rfl ?_
    obtain ⟨Y10, q9, h⟩ := bd1_some h
    refine fw_callVv C (ci := 10) (Cn := RX12) (Tc := TX12) (N := 19) (As := [.int 0, .int 9]) (c_X12_copyBlock (gac (hG _ (List.mem_of_getElem? (i := 0) rfl)) ga0) q9) (cwV 2 (cx_ts C) gX12_minutesToBurn_X12_copyBlock rfl rfl rfl (by decide +kernel) ⟨Nat.le_of_ble_eq_true rfl, Nat.le_of_ble_eq_true rfl⟩) rfl (hG _ (List.mem_of_getElem? (i := 0) rfl)) (of10_0 _) (ce10 T ad _ _) rfl (st := []) rfl (Nat.le_of_ble_eq_true rfl) ⟨Nat.le_refl 0, Nat.le_refl 0⟩ dX12_minutesToBurn_28 (ppv ?_)
    refine fw_aload_n C dX12_minutesToBurn_31 rfl 0 rfl ?_
    refine fw_iload_n C dX12_minutesToBurn_32 rfl 1 rfl ?_
    refine fw_bipush C dX12_minutesToBurn_33 (v := 22) rfl ?_
    obtain ⟨r11, q12, h⟩ := bd1_some h
    refine fw_callVi C (ci := 10) (Cn := RX12) (Tc := TX12) (N := 19) (As := [.int a1, .int 22]) (c_X12_of (gac (hG _ (List.mem_of_getElem? (i := 0) rfl)) ga0) q12) (cwV 2 (cx_ts C) gX12_minutesToBurn_X12_of rfl rfl rfl (by decide +kernel) ⟨Nat.le_of_ble_eq_true rfl, Nat.le_of_ble_eq_true rfl⟩) rfl (hG _ (List.mem_of_getElem? (i := 0) rfl)) (of10_0 _) (ce10 T ad _ _) rfl (st := []) rfl (Nat.le_of_ble_eq_true rfl) ⟨Nat.le_refl 0, Nat.le_refl 0⟩ dX12_minutesToBurn_35 (pp2 ?_)
    refine fw_istore_n C dX12_minutesToBurn_38 rfl (by decide) (L' := [(2, .int r11), (0, .ref (ad 10 0 0)), (1, .int a1)]) rfl ?_
    refine fw_iconst C dX12_minutesToBurn_39 (v := 0) rfl ?_
    refine fw_istore_n C dX12_minutesToBurn_40 rfl (by decide) (L' := [(3, .int 0), (2, .int r11), (0, .ref (ad 10 0 0)), (1, .int a1)]) rfl ?_
    exact w_X12_minutesToBurn_b41 C hrt hG   _ _ _ _ h
  · have h := ite_f c7 h
    refine fw_iconst C dX12_minutesToBurn_22 (v := 0) rfl ?_
    exact fw_iret C hrt Y6 (Option.some.inj h) (fun t ht => ht) dX12_minutesToBurn_23
set_option maxRecDepth 100000 in
set_option maxHeartbeats 4000000 in
theorem w_X12_minutesToBurn {Y : Mem} {a1 : Int32} (C : Cx p s m [.ref (ad 10 0 0), .int a1].toArray meth c cX12_minutesToBurn 5 wsX12_minutesToBurn RX12 N0 T D gr ad) (hrt : meth.sig.returnType = (some .int)) (hG : ∀ q ∈ [(10, 0)], q ∈ gr) {res : Int32 × Mem} (h : X12_minutesToBurn Y a1 = some res) : FW p l e (Rm 8) s m [.ref (ad 10 0 0), .int a1].toArray below meth c 5 N0 T D gr ad 0 0 (MQ below (va_Qi (fun r Y1 => (r, Y1) = res) (WB T D gr ad) (fun q => N0 ≤ q)) [.ref (ad 10 0 0), .int a1].toArray s 0 0 (fun q => N0 ≤ q)) Y 0 [(0, .ref (ad 10 0 0)), (1, .int a1)] [] := by
  unfold X12_minutesToBurn at h
  refine fw_aload_n C dX12_minutesToBurn_0 rfl 0 rfl ?_
  refine fw_aload_n C dX12_minutesToBurn_1 rfl 0 rfl ?_
  refine fw_iload_n C dX12_minutesToBurn_2 rfl 1 rfl ?_
  obtain ⟨r1, q2, h⟩ := bd1_some h
  refine fw_callVi C (ci := 10) (Cn := RX12) (Tc := TX12) (N := 19) (As := [.int a1]) (c_X12_isStep (gac (hG _ (List.mem_of_getElem? (i := 0) rfl)) ga0) q2) (cwV 1 (cx_ts C) gX12_minutesToBurn_X12_isStep rfl rfl rfl (by decide +kernel) ⟨Nat.le_of_ble_eq_true rfl, Nat.le_of_ble_eq_true rfl⟩) rfl (hG _ (List.mem_of_getElem? (i := 0) rfl)) (of10_0 _) (ce10 T ad _ _) rfl (st := [.ref (ad 10 0 0)]) rfl (Nat.le_of_ble_eq_true rfl) ⟨Nat.le_refl 0, Nat.le_refl 0⟩ dX12_minutesToBurn_3 (pp2 ?_)
  refine fw_if_ne C dX12_minutesToBurn_6 (tgt := 13) rfl (fun c3 => ?_) (fun c3 => ?_)
  · have h := ite_f c3 h
    refine fw_iconst C dX12_minutesToBurn_13 (v := 0) rfl ?_
    exact w_X12_minutesToBurn_b14 C hrt hG   _ _ h
  · have h := ite_t c3 h
    refine fw_iconst C dX12_minutesToBurn_9 (v := 1) rfl ?_
    refine fw_goto C dX12_minutesToBurn_10 (tgt := 14) rfl ?_
    exact w_X12_minutesToBurn_b14 C hrt hG   _ _ h
end
set_option maxRecDepth 100000 in
set_option maxHeartbeats 4000000 in
theorem c_X12_minutesToBurn {l : Launch} {N0 : Nat} {T : Nat → ClassId} {D : va_G} {gr : List (Nat × Nat)} {ad : Nat → Nat → Nat → Nat} {Y : Mem} {a1 : Int32} {res : Int32 × Mem} (hG : ∀ q ∈ [(10, 0)], q ∈ gr) (h : X12_minutesToBurn Y a1 = some res) : CI l yX12_minutesToBurn wsX12_minutesToBurn (Rm 8) N0 T D gr ad Y [.ref (ad 10 0 0), .int a1] (fun r Y1 => (r, Y1) = res) :=
  fw_body (by decide +kernel) rfl (Nat.le_of_ble_eq_true rfl) (fun p e s m below meth c C hrt => w_X12_minutesToBurn C hrt hG  h)
theorem ly_X12_minutesToFinish_12 : ∀ w ∈ u_ws RX12 TX12 19, w ∈ wsX12_minutesToFinish := by decide +kernel
theorem fl_X12_minutesToFinish_1 : Cond.fieldLink RX12 1 "RecipeSchedulerModel" "thrown" "I" ∈ wsX12_minutesToFinish := by decide +kernel
section
variable {p : Program} {l : Launch} {e : Env} {s : State} {m : MethodId} {below : List Frame} {meth : Method} {c : Code} {N0 : Nat} {T : Nat → ClassId} {D : va_G} {gr : List (Nat × Nat)} {ad : Nat → Nat → Nat → Nat}
set_option maxRecDepth 100000 in
set_option maxHeartbeats 4000000 in
theorem w_X12_minutesToFinish {Y : Mem} (C : Cx p s m [.ref (ad 10 0 0)].toArray meth c cX12_minutesToFinish 2 wsX12_minutesToFinish RX12 N0 T D gr ad) (hrt : meth.sig.returnType = (some .int)) (hG : ∀ q ∈ [(10, 0)], q ∈ gr) {res : Int32 × Mem} (h : X12_minutesToFinish Y = some res) : FW p l e (Rm 9) s m [.ref (ad 10 0 0)].toArray below meth c 2 N0 T D gr ad 0 0 (MQ below (va_Qi (fun r Y1 => (r, Y1) = res) (WB T D gr ad) (fun q => N0 ≤ q)) [.ref (ad 10 0 0)].toArray s 0 0 (fun q => N0 ≤ q)) Y 0 [(0, .ref (ad 10 0 0))] [] := by
  unfold X12_minutesToFinish at h
  refine fw_aload_n C dX12_minutesToFinish_0 rfl 0 rfl ?_
  refine fw_iconst C dX12_minutesToFinish_1 (v := 0) rfl ?_
  obtain ⟨Y1, e2, h⟩ := lt_some h
  refine fw_put C (ci := 10) (Cn := RX12) (Tc := TX12) (N := 19) (j := 9) (ty := .int) (upd (Y 10 0 0) 9 0) ly_X12_minutesToFinish_12 rfl tyX12_ok nmX12 (hG _ (List.mem_of_getElem? (i := 0) rfl)) (of10_0 _) (ce10 T ad _ _) (by decide) (cx_ts C _ fl_X12_minutesToFinish_1) (fun _ h => h) rfl (by decide +kernel) rfl rfl (Nat.le_of_ble_eq_true rfl) (ce10_put9 T ad _ _ _) dX12_minutesToFinish_2 ?_
  refine fw_mem ((up_eq _ _ _ _ _ _).symm.trans e2) ?_
  refine fw_aload_n C dX12_minutesToFinish_5 rfl 0 rfl ?_
  refine fw_iconst C dX12_minutesToFinish_6 (v := 0) rfl ?_
  refine fw_bipush C dX12_minutesToFinish_7 (v := 9) rfl ?_
  obtain ⟨Y5, q4, h⟩ := bd1_some h
  refine fw_callVv C (ci := 10) (Cn := RX12) (Tc := TX12) (N := 19) (As := [.int 0, .int 9]) (c_X12_copyBlock (gac (hG _ (List.mem_of_getElem? (i := 0) rfl)) ga0) q4) (cwV 2 (cx_ts C) gX12_minutesToFinish_X12_copyBlock rfl rfl rfl (by decide +kernel) ⟨Nat.le_of_ble_eq_true rfl, Nat.le_of_ble_eq_true rfl⟩) rfl (hG _ (List.mem_of_getElem? (i := 0) rfl)) (of10_0 _) (ce10 T ad _ _) rfl (st := []) rfl (Nat.le_of_ble_eq_true rfl) ⟨Nat.le_refl 0, Nat.le_refl 0⟩ dX12_minutesToFinish_9 (ppv ?_)
  refine fw_aload_n C dX12_minutesToFinish_12 rfl 0 rfl ?_
  obtain ⟨r6, Y8, q7, h⟩ := bd2_some h
  refine fw_callVi C (ci := 10) (Cn := RX12) (Tc := TX12) (N := 19) (As := []) (c_X12_simulate (gac (hG _ (List.mem_of_getElem? (i := 0) rfl)) ga0) q7) (cwV 0 (cx_ts C) gX12_minutesToFinish_X12_simulate rfl rfl rfl (by decide +kernel) ⟨Nat.le_of_ble_eq_true rfl, Nat.le_of_ble_eq_true rfl⟩) rfl (hG _ (List.mem_of_getElem? (i := 0) rfl)) (of10_0 _) (ce10 T ad _ _) rfl (st := []) rfl (Nat.le_of_ble_eq_true rfl) ⟨Nat.le_refl 0, Nat.le_refl 0⟩ dX12_minutesToFinish_13 (ppw ?_)
  refine fw_istore_n C dX12_minutesToFinish_16 rfl (by decide) (L' := [(1, .int r6), (0, .ref (ad 10 0 0))]) rfl ?_
  refine fw_aload_n C dX12_minutesToFinish_17 rfl 1 rfl ?_
  refine fw_bipush C dX12_minutesToFinish_18 (v := 9) rfl ?_
  refine fw_iconst C dX12_minutesToFinish_20 (v := 0) rfl ?_
  obtain ⟨Y11, q10, h⟩ := bd1_some h
  refine fw_callVv C (ci := 10) (Cn := RX12) (Tc := TX12) (N := 19) (As := [.int 9, .int 0]) (c_X12_copyBlock (gac (hG _ (List.mem_of_getElem? (i := 0) rfl)) ga0) q10) (cwV 2 (cx_ts C) gX12_minutesToFinish_X12_copyBlock rfl rfl rfl (by decide +kernel) ⟨Nat.le_of_ble_eq_true rfl, Nat.le_of_ble_eq_true rfl⟩) rfl (hG _ (List.mem_of_getElem? (i := 0) rfl)) (of10_0 _) (ce10 T ad _ _) rfl (st := []) rfl (Nat.le_of_ble_eq_true rfl) ⟨Nat.le_refl 0, Nat.le_refl 0⟩ dX12_minutesToFinish_21 (ppv ?_)
  refine fw_iload_n C dX12_minutesToFinish_24 rfl 0 rfl ?_
  exact fw_iret C hrt Y11 (Option.some.inj h) (fun t ht => ht) dX12_minutesToFinish_25
end
set_option maxRecDepth 100000 in
set_option maxHeartbeats 4000000 in
theorem c_X12_minutesToFinish {l : Launch} {N0 : Nat} {T : Nat → ClassId} {D : va_G} {gr : List (Nat × Nat)} {ad : Nat → Nat → Nat → Nat} {Y : Mem} {res : Int32 × Mem} (hG : ∀ q ∈ [(10, 0)], q ∈ gr) (h : X12_minutesToFinish Y = some res) : CI l yX12_minutesToFinish wsX12_minutesToFinish (Rm 9) N0 T D gr ad Y [.ref (ad 10 0 0)] (fun r Y1 => (r, Y1) = res) :=
  fw_body (by decide +kernel) rfl (Nat.le_of_ble_eq_true rfl) (fun p e s m below meth c C hrt => w_X12_minutesToFinish C hrt hG  h)
section
variable {p : Program} {l : Launch} {e : Env} {s : State} {m : MethodId} {below : List Frame} {meth : Method} {c : Code} {N0 : Nat} {T : Nat → ClassId} {D : va_G} {gr : List (Nat × Nat)} {ad : Nat → Nat → Nat → Nat}
set_option maxRecDepth 100000 in
set_option maxHeartbeats 4000000 in
theorem w_X12_minutesWithCooks_b15 {a1 : Int32} (C : Cx p s m [.ref (ad 10 0 0), .int a1].toArray meth c cX12_minutesWithCooks 2 wsX12_minutesWithCooks RX12 N0 T D gr ad) (hrt : meth.sig.returnType = (some .int)) (hG : ∀ q ∈ [(10, 0)], q ∈ gr) {res : Int32 × Mem} (Y : Mem) (s0 : Int32) (h : X12_minutesWithCooks_b15 a1  Y s0 = some res) : FW p l e (Rm 10) s m [.ref (ad 10 0 0), .int a1].toArray below meth c 2 N0 T D gr ad 0 0 (MQ below (va_Qi (fun r Y1 => (r, Y1) = res) (WB T D gr ad) (fun q => N0 ≤ q)) [.ref (ad 10 0 0), .int a1].toArray s 0 0 (fun q => N0 ≤ q)) Y 15 [(0, .ref (ad 10 0 0)), (1, .int a1)] [.int s0, .ref (ad 10 0 0)] := by
  unfold X12_minutesWithCooks_b15 at h
  refine fw_iconst C dX12_minutesWithCooks_15 (v := 0) rfl ?_
  refine fw_iconst C dX12_minutesWithCooks_16 (v := 0) rfl ?_
  obtain ⟨r4, Y6, q5, h⟩ := bd2_some h
  refine fw_callVi C (ci := 10) (Cn := RX12) (Tc := TX12) (N := 19) (As := [.int s0, .int 0, .int 0]) (c_X12_fails (gac (hG _ (List.mem_of_getElem? (i := 0) rfl)) ga0) q5) (cwV 3 (cx_ts C) gX12_minutesWithCooks_X12_fails rfl rfl rfl (by decide +kernel) ⟨Nat.le_of_ble_eq_true rfl, Nat.le_of_ble_eq_true rfl⟩) rfl (hG _ (List.mem_of_getElem? (i := 0) rfl)) (of10_0 _) (ce10 T ad _ _) rfl (st := []) rfl (Nat.le_of_ble_eq_true rfl) ⟨Nat.le_refl 0, Nat.le_refl 0⟩ dX12_minutesWithCooks_17 (ppw ?_)
  refine fw_if_eq C dX12_minutesWithCooks_20 (tgt := 25) rfl (fun c7 => ?_) (fun c7 => ?_)
  · have h := ite_t c7 h
    refine fw_aload_n C dX12_minutesWithCooks_25 rfl 0 rfl ?_
    refine fw_iload_n C dX12_minutesWithCooks_26 rfl 1 rfl ?_
    obtain ⟨r8, Y10, q9, h⟩ := bd2_some h
    refine fw_callVi C (ci := 10) (Cn := RX12) (Tc := TX12) (N := 19) (As := [.int a1]) (c_X12_finishWith (gac (hG _ (List.mem_of_getElem? (i := 0) rfl)) ga0) q9) (cwV 1 (cx_ts C) gX12_minutesWithCooks_X12_finishWith rfl rfl rfl (by decide +kernel) ⟨Nat.le_of_ble_eq_true rfl, Nat.le_of_ble_eq_true rfl⟩) rfl (hG _ (List.mem_of_getElem? (i := 0) rfl)) (of10_0 _) (ce10 T ad _ _) rfl (st := []) rfl (Nat.le_of_ble_eq_true rfl) ⟨Nat.le_refl 0, Nat.le_refl 0⟩ dX12_minutesWithCooks_27 (ppw ?_)
    exact fw_iret C hrt Y10 (Option.some.inj h) (fun t ht => ht) dX12_minutesWithCooks_30
  · have h := ite_f c7 h
    refine fw_iconst C dX12_minutesWithCooks_23 (v := 0) rfl ?_
    exact fw_iret C hrt Y6 (Option.some.inj h) (fun t ht => ht) dX12_minutesWithCooks_24
set_option maxRecDepth 100000 in
set_option maxHeartbeats 4000000 in
theorem w_X12_minutesWithCooks {Y : Mem} {a1 : Int32} (C : Cx p s m [.ref (ad 10 0 0), .int a1].toArray meth c cX12_minutesWithCooks 2 wsX12_minutesWithCooks RX12 N0 T D gr ad) (hrt : meth.sig.returnType = (some .int)) (hG : ∀ q ∈ [(10, 0)], q ∈ gr) {res : Int32 × Mem} (h : X12_minutesWithCooks Y a1 = some res) : FW p l e (Rm 10) s m [.ref (ad 10 0 0), .int a1].toArray below meth c 2 N0 T D gr ad 0 0 (MQ below (va_Qi (fun r Y1 => (r, Y1) = res) (WB T D gr ad) (fun q => N0 ≤ q)) [.ref (ad 10 0 0), .int a1].toArray s 0 0 (fun q => N0 ≤ q)) Y 0 [(0, .ref (ad 10 0 0)), (1, .int a1)] [] := by
  unfold X12_minutesWithCooks at h
  refine fw_aload_n C dX12_minutesWithCooks_0 rfl 0 rfl ?_
  refine fw_iload_n C dX12_minutesWithCooks_1 rfl 1 rfl ?_
  refine fw_iconst C dX12_minutesWithCooks_2 (v := 1) rfl ?_
  refine fw_iconst C dX12_minutesWithCooks_3 (v := 4) rfl ?_
  obtain ⟨r1, q2, h⟩ := bd1_some h
  refine fw_callSi C (As := [.int a1, .int 1, .int 4]) (c_X12_in ga0 q2) (va_cwS 3 (cx_ts C) gX12_minutesWithCooks_X12_in rfl rfl rfl (by decide +kernel) ⟨Nat.le_of_ble_eq_true rfl, Nat.le_of_ble_eq_true rfl⟩) rfl (st := [.ref (ad 10 0 0)]) rfl (Nat.le_of_ble_eq_true rfl) ⟨Nat.le_refl 0, Nat.le_refl 0⟩ dX12_minutesWithCooks_4 (pp2 ?_)
  refine fw_if_ne C dX12_minutesWithCooks_7 (tgt := 14) rfl (fun c3 => ?_) (fun c3 => ?_)
  · have h := ite_f c3 h
    refine fw_iconst C dX12_minutesWithCooks_14 (v := 0) rfl ?_
    exact w_X12_minutesWithCooks_b15 C hrt hG   _ _ h
  · have h := ite_t c3 h
    refine fw_iconst C dX12_minutesWithCooks_10 (v := 1) rfl ?_
    refine fw_goto C dX12_minutesWithCooks_11 (tgt := 15) rfl ?_
    exact w_X12_minutesWithCooks_b15 C hrt hG   _ _ h
end
set_option maxRecDepth 100000 in
set_option maxHeartbeats 4000000 in
theorem c_X12_minutesWithCooks {l : Launch} {N0 : Nat} {T : Nat → ClassId} {D : va_G} {gr : List (Nat × Nat)} {ad : Nat → Nat → Nat → Nat} {Y : Mem} {a1 : Int32} {res : Int32 × Mem} (hG : ∀ q ∈ [(10, 0)], q ∈ gr) (h : X12_minutesWithCooks Y a1 = some res) : CI l yX12_minutesWithCooks wsX12_minutesWithCooks (Rm 10) N0 T D gr ad Y [.ref (ad 10 0 0), .int a1] (fun r Y1 => (r, Y1) = res) :=
  fw_body (by decide +kernel) rfl (Nat.le_of_ble_eq_true rfl) (fun p e s m below meth c C hrt => w_X12_minutesWithCooks C hrt hG  h)
section
variable {p : Program} {l : Launch} {e : Env} {s : State} {m : MethodId} {below : List Frame} {meth : Method} {c : Code} {N0 : Nat} {T : Nat → ClassId} {D : va_G} {gr : List (Nat × Nat)} {ad : Nat → Nat → Nat → Nat}
set_option maxRecDepth 100000 in
set_option maxHeartbeats 4000000 in
theorem w_X12_nameLetter_b42 {a1 : Int32} {a2 : Int32} (C : Cx p s m [.ref (ad 10 0 0), .int a1, .int a2].toArray meth c cX12_nameLetter 3 wsX12_nameLetter RX12 N0 T D gr ad) (hrt : meth.sig.returnType = (some .int)) (hG : ∀ q ∈ [(10, 0)], q ∈ gr) {res : Int32 × Mem} (Y : Mem) (s0 : Int32) (h : X12_nameLetter_b42 a1 a2  Y s0 = some res) : FW p l e (Rm 2) s m [.ref (ad 10 0 0), .int a1, .int a2].toArray below meth c 3 N0 T D gr ad 0 0 (MQ below (va_Qi (fun r Y1 => (r, Y1) = res) (WB T D gr ad) (fun q => N0 ≤ q)) [.ref (ad 10 0 0), .int a1, .int a2].toArray s 0 0 (fun q => N0 ≤ q)) Y 42 [(0, .ref (ad 10 0 0)), (1, .int a1), (2, .int a2)] [.int s0, .ref (ad 10 0 0)] := by
  unfold X12_nameLetter_b42 at h
  refine fw_iconst C dX12_nameLetter_42 (v := 0) rfl ?_
  refine fw_iconst C dX12_nameLetter_43 (v := 0) rfl ?_
  obtain ⟨r4, Y6, q5, h⟩ := bd2_some h
  refine fw_callVi C (ci := 10) (Cn := RX12) (Tc := TX12) (N := 19) (As := [.int s0, .int 0, .int 0]) (c_X12_fails (gac (hG _ (List.mem_of_getElem? (i := 0) rfl)) ga0) q5) (cwV 3 (cx_ts C) gX12_nameLetter_X12_fails rfl rfl rfl (by decide +kernel) ⟨Nat.le_of_ble_eq_true rfl, Nat.le_of_ble_eq_true rfl⟩) rfl (hG _ (List.mem_of_getElem? (i := 0) rfl)) (of10_0 _) (ce10 T ad _ _) rfl (st := []) rfl (Nat.le_of_ble_eq_true rfl) ⟨Nat.le_refl 0, Nat.le_refl 0⟩ dX12_nameLetter_44 (ppw ?_)
  refine fw_if_eq C dX12_nameLetter_47 (tgt := 52) rfl (fun c7 => ?_) (fun c7 => ?_)
  · have h := ite_t c7 h
    refine fw_aload_n C dX12_nameLetter_52 rfl 0 rfl ?_
    refine fw_iload_n C dX12_nameLetter_53 rfl 1 rfl ?_
    refine fw_iconst C dX12_nameLetter_54 (v := 1) rfl ?_
    refine fw_iload_n C dX12_nameLetter_55 rfl 2 rfl ?_
    refine fw_iadd C dX12_nameLetter_56 ?_
    obtain ⟨r8, q9, h⟩ := bd1_some h
    refine fw_callVi C (ci := 10) (Cn := RX12) (Tc := TX12) (N := 19) (As := [.int a1, .int (1 + a2)]) (c_X12_of (gac (hG _ (List.mem_of_getElem? (i := 0) rfl)) ga0) q9) (cwV 2 (cx_ts C) gX12_nameLetter_X12_of rfl rfl rfl (by decide +kernel) ⟨Nat.le_of_ble_eq_true rfl, Nat.le_of_ble_eq_true rfl⟩) rfl (hG _ (List.mem_of_getElem? (i := 0) rfl)) (of10_0 _) (ce10 T ad _ _) rfl (st := []) rfl (Nat.le_of_ble_eq_true rfl) ⟨Nat.le_refl 0, Nat.le_refl 0⟩ dX12_nameLetter_57 (pp2 ?_)
    exact fw_iret C hrt Y6 (Option.some.inj h) (fun t ht => ht) dX12_nameLetter_60
  · have h := ite_f c7 h
    refine fw_iconst C dX12_nameLetter_50 (v := 0) rfl ?_
    exact fw_iret C hrt Y6 (Option.some.inj h) (fun t ht => ht) dX12_nameLetter_51
set_option maxRecDepth 100000 in
set_option maxHeartbeats 4000000 in
theorem w_X12_nameLetter_b37 {a1 : Int32} {a2 : Int32} (C : Cx p s m [.ref (ad 10 0 0), .int a1, .int a2].toArray meth c cX12_nameLetter 3 wsX12_nameLetter RX12 N0 T D gr ad) (hrt : meth.sig.returnType = (some .int)) (hG : ∀ q ∈ [(10, 0)], q ∈ gr) {res : Int32 × Mem} (Y : Mem) (h : X12_nameLetter_b37 a1 a2  Y = some res) : FW p l e (Rm 2) s m [.ref (ad 10 0 0), .int a1, .int a2].toArray below meth c 3 N0 T D gr ad 0 0 (MQ below (va_Qi (fun r Y1 => (r, Y1) = res) (WB T D gr ad) (fun q => N0 ≤ q)) [.ref (ad 10 0 0), .int a1, .int a2].toArray s 0 0 (fun q => N0 ≤ q)) Y 37 [(0, .ref (ad 10 0 0)), (1, .int a1), (2, .int a2)] [.ref (ad 10 0 0)] := by
  unfold X12_nameLetter_b37 at h
  refine fw_iconst C dX12_nameLetter_37 (v := 1) rfl ?_
  refine fw_goto C dX12_nameLetter_38 (tgt := 42) rfl ?_
  exact w_X12_nameLetter_b42 C hrt hG   _ _ h
set_option maxRecDepth 100000 in
set_option maxHeartbeats 4000000 in
theorem w_X12_nameLetter_b25 {a1 : Int32} {a2 : Int32} (C : Cx p s m [.ref (ad 10 0 0), .int a1, .int a2].toArray meth c cX12_nameLetter 3 wsX12_nameLetter RX12 N0 T D gr ad) (hrt : meth.sig.returnType = (some .int)) (hG : ∀ q ∈ [(10, 0)], q ∈ gr) {res : Int32 × Mem} (Y : Mem) (s0 : Int32) (s2 : Int32) (s3 : Int32) (h : X12_nameLetter_b25 a1 a2  Y s0 s2 s3 = some res) : FW p l e (Rm 2) s m [.ref (ad 10 0 0), .int a1, .int a2].toArray below meth c 3 N0 T D gr ad 0 0 (MQ below (va_Qi (fun r Y1 => (r, Y1) = res) (WB T D gr ad) (fun q => N0 ≤ q)) [.ref (ad 10 0 0), .int a1, .int a2].toArray s 0 0 (fun q => N0 ≤ q)) Y 25 [(0, .ref (ad 10 0 0)), (1, .int a1), (2, .int a2)] [.int s0, .ref (ad 10 0 0), .int s2, .int s3, .ref (ad 10 0 0)] := by
  unfold X12_nameLetter_b25 at h
  refine fw_iconst C dX12_nameLetter_25 (v := 0) rfl ?_
  obtain ⟨r13, q14, h⟩ := bd1_some h
  refine fw_callVi C (ci := 10) (Cn := RX12) (Tc := TX12) (N := 19) (As := [.int s0, .int 0]) (c_X12_of (gac (hG _ (List.mem_of_getElem? (i := 0) rfl)) ga0) q14) (cwV 2 (cx_ts C) gX12_nameLetter_X12_of rfl rfl rfl (by decide +kernel) ⟨Nat.le_of_ble_eq_true rfl, Nat.le_of_ble_eq_true rfl⟩) rfl (hG _ (List.mem_of_getElem? (i := 0) rfl)) (of10_0 _) (ce10 T ad _ _) rfl (st := [.int s2, .int s3, .ref (ad 10 0 0)]) rfl (Nat.le_of_ble_eq_true rfl) ⟨Nat.le_refl 0, Nat.le_refl 0⟩ dX12_nameLetter_26 (pp2 ?_)
  refine fw_iconst C dX12_nameLetter_29 (v := 1) rfl ?_
  refine fw_isub C dX12_nameLetter_30 ?_
  obtain ⟨r15, q16, h⟩ := bd1_some h
  refine fw_callSi C (As := [.int s3, .int s2, .int (r13 - 1)]) (c_X12_in ga0 q16) (va_cwS 3 (cx_ts C) gX12_nameLetter_X12_in rfl rfl rfl (by decide +kernel) ⟨Nat.le_of_ble_eq_true rfl, Nat.le_of_ble_eq_true rfl⟩) rfl (st := [.ref (ad 10 0 0)]) rfl (Nat.le_of_ble_eq_true rfl) ⟨Nat.le_refl 0, Nat.le_refl 0⟩ dX12_nameLetter_31 (pp2 ?_)
  refine fw_if_ne C dX12_nameLetter_34 (tgt := 41) rfl (fun c17 => ?_) (fun c17 => ?_)
  · have h := ite_f c17 h
    refine fw_iconst C dX12_nameLetter_41 (v := 0) rfl ?_
    exact w_X12_nameLetter_b42 C hrt hG   _ _ h
  · have h := ite_t c17 h
    exact w_X12_nameLetter_b37 C hrt hG   _ h
set_option maxRecDepth 100000 in
set_option maxHeartbeats 4000000 in
theorem w_X12_nameLetter {Y : Mem} {a1 : Int32} {a2 : Int32} (C : Cx p s m [.ref (ad 10 0 0), .int a1, .int a2].toArray meth c cX12_nameLetter 3 wsX12_nameLetter RX12 N0 T D gr ad) (hrt : meth.sig.returnType = (some .int)) (hG : ∀ q ∈ [(10, 0)], q ∈ gr) {res : Int32 × Mem} (h : X12_nameLetter Y a1 a2 = some res) : FW p l e (Rm 2) s m [.ref (ad 10 0 0), .int a1, .int a2].toArray below meth c 3 N0 T D gr ad 0 0 (MQ below (va_Qi (fun r Y1 => (r, Y1) = res) (WB T D gr ad) (fun q => N0 ≤ q)) [.ref (ad 10 0 0), .int a1, .int a2].toArray s 0 0 (fun q => N0 ≤ q)) Y 0 [(0, .ref (ad 10 0 0)), (1, .int a1), (2, .int a2)] [] := by
  unfold X12_nameLetter at h
  refine fw_aload_n C dX12_nameLetter_0 rfl 0 rfl ?_
  refine fw_aload_n C dX12_nameLetter_1 rfl 0 rfl ?_
  refine fw_iload_n C dX12_nameLetter_2 rfl 1 rfl ?_
  obtain ⟨r1, q2, h⟩ := bd1_some h
  refine fw_callVi C (ci := 10) (Cn := RX12) (Tc := TX12) (N := 19) (As := [.int a1]) (c_X12_isStep (gac (hG _ (List.mem_of_getElem? (i := 0) rfl)) ga0) q2) (cwV 1 (cx_ts C) gX12_nameLetter_X12_isStep rfl rfl rfl (by decide +kernel) ⟨Nat.le_of_ble_eq_true rfl, Nat.le_of_ble_eq_true rfl⟩) rfl (hG _ (List.mem_of_getElem? (i := 0) rfl)) (of10_0 _) (ce10 T ad _ _) rfl (st := [.ref (ad 10 0 0)]) rfl (Nat.le_of_ble_eq_true rfl) ⟨Nat.le_refl 0, Nat.le_refl 0⟩ dX12_nameLetter_3 (pp2 ?_)
  refine fw_if_eq C dX12_nameLetter_6 (tgt := 37) rfl (fun c3 => ?_) (fun c3 => ?_)
  · have h := ite_t c3 h
    exact w_X12_nameLetter_b37 C hrt hG   _ h
  · have h := ite_f c3 h
    refine fw_iload_n C dX12_nameLetter_9 rfl 2 rfl ?_
    refine fw_iconst C dX12_nameLetter_10 (v := 0) rfl ?_
    refine fw_aload_n C dX12_nameLetter_11 rfl 0 rfl ?_
    refine fw_aload_n C dX12_nameLetter_12 rfl 0 rfl ?_
    refine fw_iload_n C dX12_nameLetter_13 rfl 1 rfl ?_
    obtain ⟨r10, q11, h⟩ := bd1_some h
    refine fw_callVi C (ci := 10) (Cn := RX12) (Tc := TX12) (N := 19) (As := [.int a1]) (c_X12_isStep (gac (hG _ (List.mem_of_getElem? (i := 0) rfl)) ga0) q11) (cwV 1 (cx_ts C) gX12_nameLetter_X12_isStep rfl rfl rfl (by decide +kernel) ⟨Nat.le_of_ble_eq_true rfl, Nat.le_of_ble_eq_true rfl⟩) rfl (hG _ (List.mem_of_getElem? (i := 0) rfl)) (of10_0 _) (ce10 T ad _ _) rfl (st := [.ref (ad 10 0 0), .int 0, .int a2, .ref (ad 10 0 0)]) rfl (Nat.le_of_ble_eq_true rfl) ⟨Nat.le_refl 0, Nat.le_refl 0⟩ dX12_nameLetter_14 (pp2 ?_)
    refine fw_if_eq C dX12_nameLetter_17 (tgt := 24) rfl (fun c12 => ?_) (fun c12 => ?_)
    · have h := ite_t c12 h
      refine fw_iconst C dX12_nameLetter_24 (v := 0) rfl ?_
      exact w_X12_nameLetter_b25 C hrt hG   _ _ _ _ h
    · have h := ite_f c12 h
      refine fw_iload_n C dX12_nameLetter_20 rfl 1 rfl ?_
      refine fw_goto C dX12_nameLetter_21 (tgt := 25) rfl ?_
      exact w_X12_nameLetter_b25 C hrt hG   _ _ _ _ h
end
set_option maxRecDepth 100000 in
set_option maxHeartbeats 4000000 in
theorem c_X12_nameLetter {l : Launch} {N0 : Nat} {T : Nat → ClassId} {D : va_G} {gr : List (Nat × Nat)} {ad : Nat → Nat → Nat → Nat} {Y : Mem} {a1 : Int32} {a2 : Int32} {res : Int32 × Mem} (hG : ∀ q ∈ [(10, 0)], q ∈ gr) (h : X12_nameLetter Y a1 a2 = some res) : CI l yX12_nameLetter wsX12_nameLetter (Rm 2) N0 T D gr ad Y [.ref (ad 10 0 0), .int a1, .int a2] (fun r Y1 => (r, Y1) = res) :=
  fw_body (by decide +kernel) rfl (Nat.le_of_ble_eq_true rfl) (fun p e s m below meth c C hrt => w_X12_nameLetter C hrt hG  h)
