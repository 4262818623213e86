section
variable {p : Program} {l : Launch} {e : Env} {s : State} {m : MethodId} {below : List Frame} {meth : Method} {c : Code} {N0 : Nat} {T : Nat → ClassId} {D : va_G} {gr : List (Nat × Nat)} {ad : Nat → Nat → Nat → Nat}
set_option maxRecDepth 100000 in
set_option maxHeartbeats 4000000 in
theorem w_X12_minutesWithCooks_b15 {a1 : Int32} (C : Cx p s m [.ref (ad 10 0 0), .int a1].toArray meth c cX12_minutesWithCooks 2 wsX12_minutesWithCooks RX12 N0 T D gr ad) (hrt : meth.sig.returnType = (some .int)) (hG : ∀ q ∈ [(10, 0)], q ∈ gr) {res : Int32 × Mem} (Y : Mem) (s0 : Int32) (h : X12_minutesWithCooks_b15 a1  Y s0 = some res) : FW p l e (Rm 10) s m [.ref (ad 10 0 0), .int a1].toArray below meth c 2 N0 T D gr ad 0 0 (MQ below (va_Qi (fun r Y1 => (r, Y1) = res) (WB T D gr ad) (fun q => N0 ≤ q)) [.ref (ad 10 0 0), .int a1].toArray s 0 0 (fun q => N0 ≤ q)) Y 15 [(0, .ref (ad 10 0 0)), (1, .int a1)] [.int s0, .ref (ad 10 0 0)] := by
  unfold X12_minutesWithCooks_b15 at h
  refine fw_iconst C dX12_minutesWithCooks_15 (v := 0) rfl ?_
  refine fw_iconst C dX12_minutesWithCooks_16 (v := 0) rfl ?_
  obtain ⟨r4, Y6, q5, h⟩ := bd2_some h
  refine fw_callVi C (ci := 10) (Cn := RX12) (Tc := TX12) (N := 19) (As := [.int s0, .int 0, .int 0]) (c_X12_fails (gac (hG _ (List.mem_of_getElem? (i := 0) rfl)) ga0) q5) (cwV 3 (cx_ts C) gX12_minutesWithCooks_X12_fails rfl rfl rfl (by decide +kernel) ⟨Nat.le_of_ble_eq_true rfl, Nat.le_of_ble_eq_true rfl⟩) rfl (hG _ (List.mem_of_getElem? (i := 0) rfl)) (of10_0 _) (ce10 T ad _ _) rfl (st := []) rfl (Nat.le_of_ble_eq_true rfl) ⟨Nat.le_refl 0, Nat.le_refl 0⟩ dX12_minutesWithCooks_17 (ppw ?_)
  refine fw_if_eq C dX12_minutesWithCooks_20 (tgt := 25) rfl (fun c7 => ?_) (fun c7 => ?_)
  · have h := ite_t c7 h
    refine fw_aload_n C dX12_minutesWithCooks_25 rfl 0 rfl ?_
    refine fw_iload_n C dX12_minutesWithCooks_26 rfl 1 rfl ?_
    obtain ⟨r8, Y10, q9, h⟩ := bd2_some h
    refine fw_callVi C (ci := 10) (Cn := RX12) (Tc := TX12) (N := 19) (As := [.int a1]) (c_X12_finishWith (gac (hG _ (List.mem_of_getElem? (i := 0) rfl)) ga0) q9) (cwV 1 (cx_ts C) gX12_minutesWithCooks_X12_finishWith rfl rfl rfl (by decide +kernel) ⟨Nat.le_of_ble_eq_true rfl, Nat.le_of_ble_eq_true rfl⟩) rfl (hG _ (List.mem_of_getElem? (i := 0) rfl)) (of10_0 _) (ce10 T ad _ _) rfl (st := []) rfl (Nat.le_of_ble_eq_true rfl) ⟨Nat.le_refl 0, Nat.le_refl 0⟩ dX12_minutesWithCooks_27 (ppw ?_)
    exact fw_iret C hrt Y10 (Option.some.inj h) (fun t ht => ht) dX12_minutesWithCooks_30
  · have h := ite_f c7 h
    refine fw_iconst C dX12_minutesWithCooks_23 (v := 0) rfl ?_
    exact fw_iret C hrt Y6 (Option.some.inj h) (fun t ht => ht) dX12_minutesWithCooks_24
set_option maxRecDepth 100000 in
set_option maxHeartbeats 4000000 in
theorem w_X12_minutesWithCooks {Y : Mem} {a1 : Int32} (C : Cx p s m [.ref (ad 10 0 0), .int a1].toArray meth c cX12_minutesWithCooks 2 wsX12_minutesWithCooks RX12 N0 T D gr ad) (hrt : meth.sig.returnType = (some .int)) (hG : ∀ q ∈ [(10, 0)], q ∈ gr) {res : Int32 × Mem} (h : X12_minutesWithCooks Y a1 = some res) : FW p l e (Rm 10) s m [.ref (ad 10 0 0), .int a1].toArray below meth c 2 N0 T D gr ad 0 0 (MQ below (va_Qi (fun r Y1 => (r, Y1) = res) (WB T D gr ad) (fun q => N0 ≤ q)) [.ref (ad 10 0 0), .int a1].toArray s 0 0 (fun q => N0 ≤ q)) Y 0 [(0, .ref (ad 10 0 0)), (1, .int a1)] [] := by
  unfold X12_minutesWithCooks at h
  refine fw_aload_n C dX12_minutesWithCooks_0 rfl 0 rfl ?_
  refine fw_iload_n C dX12_minutesWithCooks_1 rfl 1 rfl ?_
  refine fw_iconst C dX12_minutesWithCooks_2 (v := 1) rfl ?_
  refine fw_iconst C dX12_minutesWithCooks_3 (v := 4) rfl ?_
  obtain ⟨r1, q2, h⟩ := bd1_some h
  refine fw_callSi C (As := [.int a1, .int 1, .int 4]) (c_X12_in ga0 q2) (va_cwS 3 (cx_ts C) gX12_minutesWithCooks_X12_in rfl rfl rfl (by decide +kernel) ⟨Nat.le_of_ble_eq_true rfl, Nat.le_of_ble_eq_true rfl⟩) rfl (st := [.ref (ad 10 0 0)]) rfl (Nat.le_of_ble_eq_true rfl) ⟨Nat.le_refl 0, Nat.le_refl 0⟩ dX12_minutesWithCooks_4 (pp2 ?_)
  refine fw_if_ne C dX12_minutesWithCooks_7 (tgt := 14) rfl (fun c3 => ?_) (fun c3 => ?_)
  · have h := ite_f c3 h
    refine fw_iconst C dX12_minutesWithCooks_14 (v := 0) rfl ?_
    exact w_X12_minutesWithCooks_b15 C hrt hG   _ _ h
  · have h := ite_t c3 h
    refine fw_iconst C dX12_minutesWithCooks_10 (v := 1) rfl ?_
    refine fw_goto C dX12_minutesWithCooks_11 (tgt := 15) rfl ?_
    exact w_X12_minutesWithCooks_b15 C hrt hG   _ _ h
end
set_option maxRecDepth 100000 in
set_option maxHeartbeats 4000000 in
theorem c_X12_minutesWithCooks {l : Launch} {N0 : Nat} {T : Nat → ClassId} {D : va_G} {gr : List (Nat × Nat)} {ad : Nat → Nat → Nat → Nat} {Y : Mem} {a1 : Int32} {res : Int32 × Mem} (hG : ∀ q ∈ [(10, 0)], q ∈ gr) (h : X12_minutesWithCooks Y a1 = some res) : CI l yX12_minutesWithCooks wsX12_minutesWithCooks (Rm 10) N0 T D gr ad Y [.ref (ad 10 0 0), .int a1] (fun r Y1 => (r, Y1) = res) :=
  fw_body (by decide +kernel) rfl (Nat.le_of_ble_eq_true rfl) (fun p e s m below meth c C hrt => w_X12_minutesWithCooks C hrt hG  h)
section
variable {p : Program} {l : Launch} {e : Env} {s : State} {m : MethodId} {below : List Frame} {meth : Method} {c : Code} {N0 : Nat} {T : Nat → ClassId} {D : va_G} {gr : List (Nat × Nat)} {ad : Nat → Nat → Nat → Nat}
set_option maxRecDepth 100000 in
set_option maxHeartbeats 4000000 in
theorem w_X12_nameLetter_b42 {a1 : Int32} {a2 : Int32} (C : Cx p s m [.ref (ad 10 0 0), .int a1, .int a2].toArray meth c cX12_nameLetter 3 wsX12_nameLetter RX12 N0 T D gr ad) (hrt : meth.sig.returnType = (some .int)) (hG : ∀ q ∈ [(10, 0)], q ∈ gr) {res : Int32 × Mem} (Y : Mem) (s0 : Int32) (h : X12_nameLetter_b42 a1 a2  Y s0 = some res) : FW p l e (Rm 2) s m [.ref (ad 10 0 0), .int a1, .int a2].toArray below meth c 3 N0 T D gr ad 0 0 (MQ below (va_Qi (fun r Y1 => (r, Y1) = res) (WB T D gr ad) (fun q => N0 ≤ q)) [.ref (ad 10 0 0), .int a1, .int a2].toArray s 0 0 (fun q => N0 ≤ q)) Y 42 [(0, .ref (ad 10 0 0)), (1, .int a1), (2, .int a2)] [.int s0, .ref (ad 10 0 0)] := by
  unfold X12_nameLetter_b42 at h
  refine fw_iconst C dX12_nameLetter_42 (v := 0) rfl ?_
  refine fw_iconst C dX12_nameLetter_43 (v := 0) rfl ?_
  obtain ⟨r4, Y6, q5, h⟩ := bd2_some h
  refine fw_callVi C (ci := 10) (Cn := RX12) (Tc := TX12) (N := 19) (As := [.int s0, .int 0, .int 0]) (c_X12_fails (gac (hG _ (List.mem_of_getElem? (i := 0) rfl)) ga0) q5) (cwV 3 (cx_ts C) gX12_nameLetter_X12_fails rfl rfl rfl (by decide +kernel) ⟨Nat.le_of_ble_eq_true rfl, Nat.le_of_ble_eq_true rfl⟩) rfl (hG _ (List.mem_of_getElem? (i := 0) rfl)) (of10_0 _) (ce10 T ad _ _) rfl (st := []) rfl (Nat.le_of_ble_eq_true rfl) ⟨Nat.le_refl 0, Nat.le_refl 0⟩ dX12_nameLetter_44 (ppw ?_)
  refine fw_if_eq C dX12_nameLetter_47 (tgt := 52) rfl (fun c7 => ?_) (fun c7 => ?_)
  · have h := ite_t c7 h
    refine fw_aload_n C dX12_nameLetter_52 rfl 0 rfl ?_
    refine fw_iload_n C dX12_nameLetter_53 rfl 1 rfl ?_
    refine fw_iconst C dX12_nameLetter_54 (v := 1) rfl ?_
    refine fw_iload_n C dX12_nameLetter_55 rfl 2 rfl ?_
    refine fw_iadd C dX12_nameLetter_56 ?_
    obtain ⟨r8, q9, h⟩ := bd1_some h
    refine fw_callVi C (ci := 10) (Cn := RX12) (Tc := TX12) (N := 19) (As := [.int a1, .int (1 + a2)]) (c_X12_of (gac (hG _ (List.mem_of_getElem? (i := 0) rfl)) ga0) q9) (cwV 2 (cx_ts C) gX12_nameLetter_X12_of rfl rfl rfl (by decide +kernel) ⟨Nat.le_of_ble_eq_true rfl, Nat.le_of_ble_eq_true rfl⟩) rfl (hG _ (List.mem_of_getElem? (i := 0) rfl)) (of10_0 _) (ce10 T ad _ _) rfl (st := []) rfl (Nat.le_of_ble_eq_true rfl) ⟨Nat.le_refl 0, Nat.le_refl 0⟩ dX12_nameLetter_57 (pp2 ?_)
    exact fw_iret C hrt Y6 (Option.some.inj h) (fun t ht => ht) dX12_nameLetter_60
  · have h := ite_f c7 h
    refine fw_iconst C dX12_nameLetter_50 (v := 0) rfl ?_
    exact fw_iret C hrt Y6 (Option.some.inj h) (fun t ht => ht) dX12_nameLetter_51
set_option maxRecDepth 100000 in
set_option maxHeartbeats 4000000 in
theorem w_X12_nameLetter_b37 {a1 : Int32} {a2 : Int32} (C : Cx p s m [.ref (ad 10 0 0), .int a1, .int a2].toArray meth c cX12_nameLetter 3 wsX12_nameLetter RX12 N0 T D gr ad) (hrt : meth.sig.returnType = (some .int)) (hG : ∀ q ∈ [(10, 0)], q ∈ gr) {res : Int32 × Mem} (Y : Mem) (h : X12_nameLetter_b37 a1 a2  Y = some res) : FW p l e (Rm 2) s m [.ref (ad 10 0 0), .int a1, .int a2].toArray below meth c 3 N0 T D gr ad 0 0 (MQ below (va_Qi (fun r Y1 => (r, Y1) = res) (WB T D gr ad) (fun q => N0 ≤ q)) [.ref (ad 10 0 0), .int a1, .int a2].toArray s 0 0 (fun q => N0 ≤ q)) Y 37 [(0, .ref (ad 10 0 0)), (1, .int a1), (2, .int a2)] [.ref (ad 10 0 0)] := by
  unfold X12_nameLetter_b37 at h
  refine fw_iconst C dX12_nameLetter_37 (v := 1) rfl ?_
  refine fw_goto C dX12_nameLetter_38 (tgt := 42) rfl ?_
  exact w_X12_nameLetter_b42 C hrt hG   _ _ h
set_option maxRecDepth 100000 in
set_option maxHeartbeats 4000000 in
theorem w_X12_nameLetter_b25 {a1 : Int32} {a2 : Int32} (C : Cx p s m [.ref (ad 10 0 0), .int a1, .int a2].toArray meth c cX12_nameLetter 3 wsX12_nameLetter RX12 N0 T D gr ad) (hrt : meth.sig.returnType = (some .int)) (hG : ∀ q ∈ [(10, 0)], q ∈ gr) {res : Int32 × Mem} (Y : Mem) (s0 : Int32) (s2 : Int32) (s3 : Int32) (h : X12_nameLetter_b25 a1 a2  Y s0 s2 s3 = some res) : FW p l e (Rm 2) s m [.ref (ad 10 0 0), .int a1, .int a2].toArray below meth c 3 N0 T D gr ad 0 0 (MQ below (va_Qi (fun r Y1 => (r, Y1) = res) (WB T D gr ad) (fun q => N0 ≤ q)) [.ref (ad 10 0 0), .int a1, .int a2].toArray s 0 0 (fun q => N0 ≤ q)) Y 25 [(0, .ref (ad 10 0 0)), (1, .int a1), (2, .int a2)] [.int s0, .ref (ad 10 0 0), .int s2, .int s3, .ref (ad 10 0 0)] := by
  unfold X12_nameLetter_b25 at h
  refine fw_iconst C dX12_nameLetter_25 (v := 0) rfl ?_
  obtain ⟨r13, q14, h⟩ := bd1_some h
  refine fw_callVi C (ci := 10) (Cn := RX12) (Tc := TX12) (N := 19) (As := [.int s0, .int 0]) (c_X12_of (gac (hG _ (List.mem_of_getElem? (i := 0) rfl)) ga0) q14) (cwV 2 (cx_ts C) gX12_nameLetter_X12_of rfl rfl rfl (by decide +kernel) ⟨Nat.le_of_ble_eq_true rfl, Nat.le_of_ble_eq_true rfl⟩) rfl (hG _ (List.mem_of_getElem? (i := 0) rfl)) (of10_0 _) (ce10 T ad _ _) rfl (st := [.int s2, .int s3, .ref (ad 10 0 0)]) rfl (Nat.le_of_ble_eq_true rfl) ⟨Nat.le_refl 0, Nat.le_refl 0⟩ dX12_nameLetter_26 (pp2 ?_)
  refine fw_iconst C dX12_nameLetter_29 (v := 1) rfl ?_
  refine fw_isub C dX12_nameLetter_30 ?_
  obtain ⟨r15, q16, h⟩ := bd1_some h
  refine fw_callSi C (As := [.int s3, .int s2, .int (r13 - 1)]) (c_X12_in ga0 q16) (va_cwS 3 (cx_ts C) gX12_nameLetter_X12_in rfl rfl rfl (by decide +kernel) ⟨Nat.le_of_ble_eq_true rfl, Nat.le_of_ble_eq_true rfl⟩) rfl (st := [.ref (ad 10 0 0)]) rfl (Nat.le_of_ble_eq_true rfl) ⟨Nat.le_refl 0, Nat.le_refl 0⟩ dX12_nameLetter_31 (pp2 ?_)
  refine fw_if_ne C dX12_nameLetter_34 (tgt := 41) rfl (fun c17 => ?_) (fun c17 => ?_)
  · have h := ite_f c17 h
    refine fw_iconst C dX12_nameLetter_41 (v := 0) rfl ?_
    exact w_X12_nameLetter_b42 C hrt hG   _ _ h
  · have h := ite_t c17 h
    exact w_X12_nameLetter_b37 C hrt hG   _ h
set_option maxRecDepth 100000 in
set_option maxHeartbeats 4000000 in
theorem w_X12_nameLetter {Y : Mem} {a1 : Int32} {a2 : Int32} (C : Cx p s m [.ref (ad 10 0 0), .int a1, .int a2].toArray meth c cX12_nameLetter 3 wsX12_nameLetter RX12 N0 T D gr ad) (hrt : meth.sig.returnType = (some .int)) (hG : ∀ q ∈ [(10, 0)], q ∈ gr) {res : Int32 × Mem} (h : X12_nameLetter Y a1 a2 = some res) : FW p l e (Rm 2) s m [.ref (ad 10 0 0), .int a1, .int a2].toArray below meth c 3 N0 T D gr ad 0 0 (MQ below (va_Qi (fun r Y1 => (r, Y1) = res) (WB T D gr ad) (fun q => N0 ≤ q)) [.ref (ad 10 0 0), .int a1, .int a2].toArray s 0 0 (fun q => N0 ≤ q)) Y 0 [(0, .ref (ad 10 0 0)), (1, .int a1), (2, .int a2)] [] := by
  unfold X12_nameLetter at h
  refine fw_aload_n C dX12_nameLetter_0 rfl 0 rfl ?_
  refine fw_aload_n C dX12_nameLetter_1 rfl 0 rfl ?_
  refine fw_iload_n C dX12_nameLetter_2 rfl 1 rfl ?_
  obtain ⟨r1, q2, h⟩ := bd1_some h
  refine fw_callVi C (ci := 10) (Cn := RX12) (Tc := TX12) (N := 19) (As := [.int a1]) (c_X12_isStep (gac (hG _ (List.mem_of_getElem? (i := 0) rfl)) ga0) q2) (cwV 1 (cx_ts C) gX12_nameLetter_X12_isStep rfl rfl rfl (by decide +kernel) ⟨Nat.le_of_ble_eq_true rfl, Nat.le_of_ble_eq_true rfl⟩) rfl (hG _ (List.mem_of_getElem? (i := 0) rfl)) (of10_0 _) (ce10 T ad _ _) rfl (st := [.ref (ad 10 0 0)]) rfl (Nat.le_of_ble_eq_true rfl) ⟨Nat.le_refl 0, Nat.le_refl 0⟩ dX12_nameLetter_3 (pp2 ?_)
  refine fw_if_eq C dX12_nameLetter_6 (tgt := 37) rfl (fun c3 => ?_) (fun c3 => ?_)
  · have h := ite_t c3 h
    exact w_X12_nameLetter_b37 C hrt hG   _ h
  · have h := ite_f c3 h
    refine fw_iload_n C dX12_nameLetter_9 rfl 2 rfl ?_
    refine fw_iconst C dX12_nameLetter_10 (v := 0) rfl ?_
    refine fw_aload_n C dX12_nameLetter_11 rfl 0 rfl ?_
    refine fw_aload_n C dX12_nameLetter_12 rfl 0 rfl ?_
    refine fw_iload_n C dX12_nameLetter_13 rfl 1 rfl ?_
    obtain ⟨r10, q11, h⟩ := bd1_some h
    refine fw_callVi C (ci := 10) (Cn := RX12) (Tc := TX12) (N := 19) (As := [.int a1]) (c_X12_isStep (gac (hG _ (List.mem_of_getElem? (i := 0) rfl)) ga0) q11) (cwV 1 (cx_ts C) gX12_nameLetter_X12_isStep rfl rfl rfl (by decide +kernel) ⟨Nat.le_of_ble_eq_true rfl, Nat.le_of_ble_eq_true rfl⟩) rfl (hG _ (List.mem_of_getElem? (i := 0) rfl)) (of10_0 _) (ce10 T ad _ _) rfl (st := [.ref (ad 10 0 0), .int 0, .int a2, .ref (ad 10 0 0)]) rfl (Nat.le_of_ble_eq_true rfl) ⟨Nat.le_refl 0, Nat.le_refl 0⟩ dX12_nameLetter_14 (pp2 ?_)
    refine fw_if_eq C dX12_nameLetter_17 (tgt := 24) rfl (fun c12 => ?_) (fun c12 => ?_)
    · have h := ite_t c12 h
      refine fw_iconst C dX12_nameLetter_24 (v := 0) rfl ?_
      exact w_X12_nameLetter_b25 C hrt hG   _ _ _ _ h
    · have h := ite_f c12 h
      refine fw_iload_n C dX12_nameLetter_20 rfl 1 rfl ?_
      refine fw_goto C dX12_nameLetter_21 (tgt := 25) rfl ?_
      exact w_X12_nameLetter_b25 C hrt hG   _ _ _ _ h
end
set_option maxRecDepth 100000 in
set_option maxHeartbeats 4000000 in
theorem c_X12_nameLetter {l : Launch} {N0 : Nat} {T : Nat → ClassId} {D : va_G} {gr : List (Nat × Nat)} {ad : Nat → Nat → Nat → Nat} {Y : Mem} {a1 : Int32} {a2 : Int32} {res : Int32 × Mem} (hG : ∀ q ∈ [(10, 0)], q ∈ gr) (h : X12_nameLetter Y a1 a2 = some res) : CI l yX12_nameLetter wsX12_nameLetter (Rm 2) N0 T D gr ad Y [.ref (ad 10 0 0), .int a1, .int a2] (fun r Y1 => (r, Y1) = res) :=
  fw_body (by decide +kernel) rfl (Nat.le_of_ble_eq_true rfl) (fun p e s m below meth c C hrt => w_X12_nameLetter C hrt hG  h)
theorem ly_X12_outputByte_12 : ∀ w ∈ u_ws RX12 TX12 19, w ∈ wsX12_outputByte := by decide +kernel
theorem fl_X12_outputByte_39 : Cond.fieldLink RX12 39 "RecipeSchedulerModel" "writtenLength" "I" ∈ wsX12_outputByte := by decide +kernel
theorem fl_X12_outputByte_36 : Cond.fieldLink RX12 36 "RecipeSchedulerModel" "written" "[I" ∈ wsX12_outputByte := by decide +kernel
section
variable {p : Program} {l : Launch} {e : Env} {s : State} {m : MethodId} {below : List Frame} {meth : Method} {c : Code} {N0 : Nat} {T : Nat → ClassId} {D : va_G} {gr : List (Nat × Nat)} {ad : Nat → Nat → Nat → Nat}
set_option maxRecDepth 100000 in
set_option maxHeartbeats 4000000 in
theorem w_X12_outputByte_b20 {a1 : Int32} (C : Cx p s m [.ref (ad 10 0 0), .int a1].toArray meth c cX12_outputByte 2 wsX12_outputByte RX12 N0 T D gr ad) (hrt : meth.sig.returnType = (some .int)) (hG : ∀ q ∈ [(10, 0)], q ∈ gr) {res : Int32 × Mem} (Y : Mem) (s0 : Int32) (h : X12_outputByte_b20 a1  Y s0 = some res) : FW p l e (Rm 1) s m [.ref (ad 10 0 0), .int a1].toArray below meth c 2 N0 T D gr ad 0 0 (MQ below (va_Qi (fun r Y1 => (r, Y1) = res) (WB T D gr ad) (fun q => N0 ≤ q)) [.ref (ad 10 0 0), .int a1].toArray s 0 0 (fun q => N0 ≤ q)) Y 20 [(0, .ref (ad 10 0 0)), (1, .int a1)] [.int s0, .ref (ad 10 0 0)] := by
  unfold X12_outputByte_b20 at h
  refine fw_iconst C dX12_outputByte_20 (v := 0) rfl ?_
  refine fw_iconst C dX12_outputByte_21 (v := 0) rfl ?_
  obtain ⟨r4, Y6, q5, h⟩ := bd2_some h
  refine fw_callVi C (ci := 10) (Cn := RX12) (Tc := TX12) (N := 19) (As := [.int s0, .int 0, .int 0]) (c_X12_fails (gac (hG _ (List.mem_of_getElem? (i := 0) rfl)) ga0) q5) (cwV 3 (cx_ts C) gX12_outputByte_X12_fails rfl rfl rfl (by decide +kernel) ⟨Nat.le_of_ble_eq_true rfl, Nat.le_of_ble_eq_true rfl⟩) rfl (hG _ (List.mem_of_getElem? (i := 0) rfl)) (of10_0 _) (ce10 T ad _ _) rfl (st := []) rfl (Nat.le_of_ble_eq_true rfl) ⟨Nat.le_refl 0, Nat.le_refl 0⟩ dX12_outputByte_22 (ppw ?_)
  refine fw_if_eq C dX12_outputByte_25 (tgt := 30) rfl (fun c7 => ?_) (fun c7 => ?_)
  · have h := ite_t c7 h
    refine fw_aload_n C dX12_outputByte_30 rfl 0 rfl ?_
    refine fw_get C (ci := 10) (Cn := RX12) (Tc := TX12) (N := 19) (j := 7) ly_X12_outputByte_12 rfl (hG _ (List.mem_of_getElem? (i := 0) rfl)) (of10_0 _) (ce10 T ad _ _) (by decide) (cx_ts C _ fl_X12_outputByte_36) (fun _ h => h) (v := .ref (ad 10 0 4)) rfl dX12_outputByte_31 ?_
    refine fw_iload_n C dX12_outputByte_34 rfl 1 rfl ?_
    obtain ⟨b8, h⟩ := gd_some h
    refine fw_iald2 C (hG _ (List.mem_of_getElem? (i := 0) rfl)) (of10_4 _) (ca10_4 T ad _ _) b8 (Nat.le_of_ble_eq_true rfl) dX12_outputByte_35 ?_
    exact fw_iret C hrt Y6 (Option.some.inj h) (fun t ht => ht) dX12_outputByte_36
  · have h := ite_f c7 h
    refine fw_iconst C dX12_outputByte_28 (v := 0) rfl ?_
    exact fw_iret C hrt Y6 (Option.some.inj h) (fun t ht => ht) dX12_outputByte_29
set_option maxRecDepth 100000 in
set_option maxHeartbeats 4000000 in
theorem w_X12_outputByte {Y : Mem} {a1 : Int32} (C : Cx p s m [.ref (ad 10 0 0), .int a1].toArray meth c cX12_outputByte 2 wsX12_outputByte RX12 N0 T D gr ad) (hrt : meth.sig.returnType = (some .int)) (hG : ∀ q ∈ [(10, 0)], q ∈ gr) {res : Int32 × Mem} (h : X12_outputByte Y a1 = some res) : FW p l e (Rm 1) s m [.ref (ad 10 0 0), .int a1].toArray below meth c 2 N0 T D gr ad 0 0 (MQ below (va_Qi (fun r Y1 => (r, Y1) = res) (WB T D gr ad) (fun q => N0 ≤ q)) [.ref (ad 10 0 0), .int a1].toArray s 0 0 (fun q => N0 ≤ q)) Y 0 [(0, .ref (ad 10 0 0)), (1, .int a1)] [] := by
  unfold X12_outputByte at h
  refine fw_aload_n C dX12_outputByte_0 rfl 0 rfl ?_
  refine fw_iload_n C dX12_outputByte_1 rfl 1 rfl ?_
  refine fw_iconst C dX12_outputByte_2 (v := 0) rfl ?_
  refine fw_aload_n C dX12_outputByte_3 rfl 0 rfl ?_
  refine fw_get C (ci := 10) (Cn := RX12) (Tc := TX12) (N := 19) (j := 8) ly_X12_outputByte_12 rfl (hG _ (List.mem_of_getElem? (i := 0) rfl)) (of10_0 _) (ce10 T ad _ _) (by decide) (cx_ts C _ fl_X12_outputByte_39) (fun _ h => h) (v := .int (Y 10 0 0 8)) rfl dX12_outputByte_4 ?_
  refine fw_iconst C dX12_outputByte_7 (v := 1) rfl ?_
  refine fw_isub C dX12_outputByte_8 ?_
  obtain ⟨r1, q2, h⟩ := bd1_some h
  refine fw_callSi C (As := [.int a1, .int 0, .int ((Y 10 0 0 8) - 1)]) (c_X12_in ga0 q2) (va_cwS 3 (cx_ts C) gX12_outputByte_X12_in rfl rfl rfl (by decide +kernel) ⟨Nat.le_of_ble_eq_true rfl, Nat.le_of_ble_eq_true rfl⟩) rfl (st := [.ref (ad 10 0 0)]) rfl (Nat.le_of_ble_eq_true rfl) ⟨Nat.le_refl 0, Nat.le_refl 0⟩ dX12_outputByte_9 (pp2 ?_)
  refine fw_if_ne C dX12_outputByte_12 (tgt := 19) rfl (fun c3 => ?_) (fun c3 => ?_)
  · have h := ite_f c3 h
    refine fw_iconst C dX12_outputByte_19 (v := 0) rfl ?_
    exact w_X12_outputByte_b20 C hrt hG   _ _ h
  · have h := ite_t c3 h
    refine fw_iconst C dX12_outputByte_15 (v := 1) rfl ?_
    refine fw_goto C dX12_outputByte_16 (tgt := 20) rfl ?_
    exact w_X12_outputByte_b20 C hrt hG   _ _ h
end
set_option maxRecDepth 100000 in
set_option maxHeartbeats 4000000 in
theorem c_X12_outputByte {l : Launch} {N0 : Nat} {T : Nat → ClassId} {D : va_G} {gr : List (Nat × Nat)} {ad : Nat → Nat → Nat → Nat} {Y : Mem} {a1 : Int32} {res : Int32 × Mem} (hG : ∀ q ∈ [(10, 0)], q ∈ gr) (h : X12_outputByte Y a1 = some res) : CI l yX12_outputByte wsX12_outputByte (Rm 1) N0 T D gr ad Y [.ref (ad 10 0 0), .int a1] (fun r Y1 => (r, Y1) = res) :=
  fw_body (by decide +kernel) rfl (Nat.le_of_ble_eq_true rfl) (fun p e s m below meth c C hrt => w_X12_outputByte C hrt hG  h)
section
variable {p : Program} {l : Launch} {e : Env} {s : State} {m : MethodId} {below : List Frame} {meth : Method} {c : Code} {N0 : Nat} {T : Nat → ClassId} {D : va_G} {gr : List (Nat × Nat)} {ad : Nat → Nat → Nat → Nat}
set_option maxRecDepth 100000 in
set_option maxHeartbeats 4000000 in
theorem w_X12_panCapacity_b14 {a1 : Int32} (C : Cx p s m [.ref (ad 10 0 0), .int a1].toArray meth c cX12_panCapacity 2 wsX12_panCapacity RX12 N0 T D gr ad) (hrt : meth.sig.returnType = (some .int)) (hG : ∀ q ∈ [(10, 0)], q ∈ gr) {res : Int32 × Mem} (Y : Mem) (s0 : Int32) (h : X12_panCapacity_b14 a1  Y s0 = some res) : FW p l e (Rm 2) s m [.ref (ad 10 0 0), .int a1].toArray below meth c 2 N0 T D gr ad 0 0 (MQ below (va_Qi (fun r Y1 => (r, Y1) = res) (WB T D gr ad) (fun q => N0 ≤ q)) [.ref (ad 10 0 0), .int a1].toArray s 0 0 (fun q => N0 ≤ q)) Y 14 [(0, .ref (ad 10 0 0)), (1, .int a1)] [.int s0, .ref (ad 10 0 0)] := by
  unfold X12_panCapacity_b14 at h
  refine fw_iconst C dX12_panCapacity_14 (v := 0) rfl ?_
  refine fw_iconst C dX12_panCapacity_15 (v := 0) rfl ?_
  obtain ⟨r4, Y6, q5, h⟩ := bd2_some h
  refine fw_callVi C (ci := 10) (Cn := RX12) (Tc := TX12) (N := 19) (As := [.int s0, .int 0, .int 0]) (c_X12_fails (gac (hG _ (List.mem_of_getElem? (i := 0) rfl)) ga0) q5) (cwV 3 (cx_ts C) gX12_panCapacity_X12_fails rfl rfl rfl (by decide +kernel) ⟨Nat.le_of_ble_eq_true rfl, Nat.le_of_ble_eq_true rfl⟩) rfl (hG _ (List.mem_of_getElem? (i := 0) rfl)) (of10_0 _) (ce10 T ad _ _) rfl (st := []) rfl (Nat.le_of_ble_eq_true rfl) ⟨Nat.le_refl 0, Nat.le_refl 0⟩ dX12_panCapacity_16 (ppw ?_)
  refine fw_if_eq C dX12_panCapacity_19 (tgt := 24) rfl (fun c7 => ?_) (fun c7 => ?_)
  · have h := ite_t c7 h
    refine fw_aload_n C dX12_panCapacity_24 rfl 0 rfl ?_
    refine fw_iload_n C dX12_panCapacity_25 rfl 1 rfl ?_
    obtain ⟨r8, q9, h⟩ := bd1_some h
    refine fw_callVi C (ci := 10) (Cn := RX12) (Tc := TX12) (N := 19) (As := [.int a1]) (c_X12_capacity (gac (hG _ (List.mem_of_getElem? (i := 0) rfl)) ga0) q9) (cwV 1 (cx_ts C) gX12_panCapacity_X12_capacity rfl rfl rfl (by decide +kernel) ⟨Nat.le_of_ble_eq_true rfl, Nat.le_of_ble_eq_true rfl⟩) rfl (hG _ (List.mem_of_getElem? (i := 0) rfl)) (of10_0 _) (ce10 T ad _ _) rfl (st := []) rfl (Nat.le_of_ble_eq_true rfl) ⟨Nat.le_refl 0, Nat.le_refl 0⟩ dX12_panCapacity_26 (pp2 ?_)
    exact fw_iret C hrt Y6 (Option.some.inj h) (fun t ht => ht) dX12_panCapacity_29
  · have h := ite_f c7 h
    refine fw_iconst C dX12_panCapacity_22 (v := 0) rfl ?_
    exact fw_iret C hrt Y6 (Option.some.inj h) (fun t ht => ht) dX12_panCapacity_23
set_option maxRecDepth 100000 in
set_option maxHeartbeats 4000000 in
theorem w_X12_panCapacity {Y : Mem} {a1 : Int32} (C : Cx p s m [.ref (ad 10 0 0), .int a1].toArray meth c cX12_panCapacity 2 wsX12_panCapacity RX12 N0 T D gr ad) (hrt : meth.sig.returnType = (some .int)) (hG : ∀ q ∈ [(10, 0)], q ∈ gr) {res : Int32 × Mem} (h : X12_panCapacity Y a1 = some res) : FW p l e (Rm 2) s m [.ref (ad 10 0 0), .int a1].toArray below meth c 2 N0 T D gr ad 0 0 (MQ below (va_Qi (fun r Y1 => (r, Y1) = res) (WB T D gr ad) (fun q => N0 ≤ q)) [.ref (ad 10 0 0), .int a1].toArray s 0 0 (fun q => N0 ≤ q)) Y 0 [(0, .ref (ad 10 0 0)), (1, .int a1)] [] := by
  unfold X12_panCapacity at h
  refine fw_aload_n C dX12_panCapacity_0 rfl 0 rfl ?_
  refine fw_aload_n C dX12_panCapacity_1 rfl 0 rfl ?_
  refine fw_iload_n C dX12_panCapacity_2 rfl 1 rfl ?_
  obtain ⟨r1, q2, h⟩ := bd1_some h
  refine fw_callVi C (ci := 10) (Cn := RX12) (Tc := TX12) (N := 19) (As := [.int a1]) (c_X12_isPan (gac (hG _ (List.mem_of_getElem? (i := 0) rfl)) ga0) q2) (cwV 1 (cx_ts C) gX12_panCapacity_X12_isPan rfl rfl rfl (by decide +kernel) ⟨Nat.le_of_ble_eq_true rfl, Nat.le_of_ble_eq_true rfl⟩) rfl (hG _ (List.mem_of_getElem? (i := 0) rfl)) (of10_0 _) (ce10 T ad _ _) rfl (st := [.ref (ad 10 0 0)]) rfl (Nat.le_of_ble_eq_true rfl) ⟨Nat.le_refl 0, Nat.le_refl 0⟩ dX12_panCapacity_3 (pp2 ?_)
  refine fw_if_ne C dX12_panCapacity_6 (tgt := 13) rfl (fun c3 => ?_) (fun c3 => ?_)
  · have h := ite_f c3 h
    refine fw_iconst C dX12_panCapacity_13 (v := 0) rfl ?_
    exact w_X12_panCapacity_b14 C hrt hG   _ _ h
  · have h := ite_t c3 h
    refine fw_iconst C dX12_panCapacity_9 (v := 1) rfl ?_
    refine fw_goto C dX12_panCapacity_10 (tgt := 14) rfl ?_
    exact w_X12_panCapacity_b14 C hrt hG   _ _ h
end
set_option maxRecDepth 100000 in
set_option maxHeartbeats 4000000 in
theorem c_X12_panCapacity {l : Launch} {N0 : Nat} {T : Nat → ClassId} {D : va_G} {gr : List (Nat × Nat)} {ad : Nat → Nat → Nat → Nat} {Y : Mem} {a1 : Int32} {res : Int32 × Mem} (hG : ∀ q ∈ [(10, 0)], q ∈ gr) (h : X12_panCapacity Y a1 = some res) : CI l yX12_panCapacity wsX12_panCapacity (Rm 2) N0 T D gr ad Y [.ref (ad 10 0 0), .int a1] (fun r Y1 => (r, Y1) = res) :=
  fw_body (by decide +kernel) rfl (Nat.le_of_ble_eq_true rfl) (fun p e s m below meth c C hrt => w_X12_panCapacity C hrt hG  h)
section
variable {p : Program} {l : Launch} {e : Env} {s : State} {m : MethodId} {below : List Frame} {meth : Method} {c : Code} {N0 : Nat} {T : Nat → ClassId} {D : va_G} {gr : List (Nat × Nat)} {ad : Nat → Nat → Nat → Nat}
set_option maxRecDepth 100000 in
set_option maxHeartbeats 4000000 in
theorem w_X12_panType {Y : Mem} {a1 : Int32} (C : Cx p s m [.ref (ad 10 0 0), .int a1].toArray meth c cX12_panType 2 wsX12_panType RX12 N0 T D gr ad) (hrt : meth.sig.returnType = (some .int)) (hG : ∀ q ∈ [(10, 0)], q ∈ gr) {res : Int32 × Mem} (h : X12_panType Y a1 = some res) : FW p l e (Rm 3) s m [.ref (ad 10 0 0), .int a1].toArray below meth c 2 N0 T D gr ad 0 0 (MQ below (va_Qi (fun r Y1 => (r, Y1) = res) (WB T D gr ad) (fun q => N0 ≤ q)) [.ref (ad 10 0 0), .int a1].toArray s 0 0 (fun q => N0 ≤ q)) Y 0 [(0, .ref (ad 10 0 0)), (1, .int a1)] [] := by
  unfold X12_panType at h
  refine fw_aload_n C dX12_panType_0 rfl 0 rfl ?_
  refine fw_iload_n C dX12_panType_1 rfl 1 rfl ?_
  refine fw_bipush C dX12_panType_2 (v := 9) rfl ?_
  obtain ⟨r1, Y3, q2, h⟩ := bd2_some h
  refine fw_callVi C (ci := 10) (Cn := RX12) (Tc := TX12) (N := 19) (As := [.int a1, .int 9]) (c_X12_field (gac (hG _ (List.mem_of_getElem? (i := 0) rfl)) ga0) q2) (cwV 2 (cx_ts C) gX12_panType_X12_field rfl rfl rfl (by decide +kernel) ⟨Nat.le_of_ble_eq_true rfl, Nat.le_of_ble_eq_true rfl⟩) rfl (hG _ (List.mem_of_getElem? (i := 0) rfl)) (of10_0 _) (ce10 T ad _ _) rfl (st := []) rfl (Nat.le_of_ble_eq_true rfl) ⟨Nat.le_refl 0, Nat.le_refl 0⟩ dX12_panType_4 (ppw ?_)
  exact fw_iret C hrt Y3 (Option.some.inj h) (fun t ht => ht) dX12_panType_7
end
set_option maxRecDepth 100000 in
set_option maxHeartbeats 4000000 in
theorem c_X12_panType {l : Launch} {N0 : Nat} {T : Nat → ClassId} {D : va_G} {gr : List (Nat × Nat)} {ad : Nat → Nat → Nat → Nat} {Y : Mem} {a1 : Int32} {res : Int32 × Mem} (hG : ∀ q ∈ [(10, 0)], q ∈ gr) (h : X12_panType Y a1 = some res) : CI l yX12_panType wsX12_panType (Rm 3) N0 T D gr ad Y [.ref (ad 10 0 0), .int a1] (fun r Y1 => (r, Y1) = res) :=
  fw_body (by decide +kernel) rfl (Nat.le_of_ble_eq_true rfl) (fun p e s m below meth c C hrt => w_X12_panType C hrt hG  h)
section
variable {p : Program} {l : Launch} {e : Env} {s : State} {m : MethodId} {below : List Frame} {meth : Method} {c : Code} {N0 : Nat} {T : Nat → ClassId} {D : va_G} {gr : List (Nat × Nat)} {ad : Nat → Nat → Nat → Nat}
set_option maxRecDepth 100000 in
set_option maxHeartbeats 4000000 in
theorem w_X12_pansInUse_b14 {a1 : Int32} (C : Cx p s m [.ref (ad 10 0 0), .int a1].toArray meth c cX12_pansInUse 2 wsX12_pansInUse RX12 N0 T D gr ad) (hrt : meth.sig.returnType = (some .int)) (hG : ∀ q ∈ [(10, 0)], q ∈ gr) {res : Int32 × Mem} (Y : Mem) (s0 : Int32) (h : X12_pansInUse_b14 a1  Y s0 = some res) : FW p l e (Rm 5) s m [.ref (ad 10 0 0), .int a1].toArray below meth c 2 N0 T D gr ad 0 0 (MQ below (va_Qi (fun r Y1 => (r, Y1) = res) (WB T D gr ad) (fun q => N0 ≤ q)) [.ref (ad 10 0 0), .int a1].toArray s 0 0 (fun q => N0 ≤ q)) Y 14 [(0, .ref (ad 10 0 0)), (1, .int a1)] [.int s0, .ref (ad 10 0 0)] := by
  unfold X12_pansInUse_b14 at h
  refine fw_iconst C dX12_pansInUse_14 (v := 0) rfl ?_
  refine fw_iconst C dX12_pansInUse_15 (v := 0) rfl ?_
  obtain ⟨r4, Y6, q5, h⟩ := bd2_some h
  refine fw_callVi C (ci := 10) (Cn := RX12) (Tc := TX12) (N := 19) (As := [.int s0, .int 0, .int 0]) (c_X12_fails (gac (hG _ (List.mem_of_getElem? (i := 0) rfl)) ga0) q5) (cwV 3 (cx_ts C) gX12_pansInUse_X12_fails rfl rfl rfl (by decide +kernel) ⟨Nat.le_of_ble_eq_true rfl, Nat.le_of_ble_eq_true rfl⟩) rfl (hG _ (List.mem_of_getElem? (i := 0) rfl)) (of10_0 _) (ce10 T ad _ _) rfl (st := []) rfl (Nat.le_of_ble_eq_true rfl) ⟨Nat.le_refl 0, Nat.le_refl 0⟩ dX12_pansInUse_16 (ppw ?_)
  refine fw_if_eq C dX12_pansInUse_19 (tgt := 24) rfl (fun c7 => ?_) (fun c7 => ?_)
  · have h := ite_t c7 h
    refine fw_aload_n C dX12_pansInUse_24 rfl 0 rfl ?_
    refine fw_iload_n C dX12_pansInUse_25 rfl 1 rfl ?_
    obtain ⟨r8, q9, h⟩ := bd1_some h
    refine fw_callVi C (ci := 10) (Cn := RX12) (Tc := TX12) (N := 19) (As := [.int a1]) (c_X12_usedPans (gac (hG _ (List.mem_of_getElem? (i := 0) rfl)) ga0) q9) (cwV 1 (cx_ts C) gX12_pansInUse_X12_usedPans rfl rfl rfl (by decide +kernel) ⟨Nat.le_of_ble_eq_true rfl, Nat.le_of_ble_eq_true rfl⟩) rfl (hG _ (List.mem_of_getElem? (i := 0) rfl)) (of10_0 _) (ce10 T ad _ _) rfl (st := []) rfl (Nat.le_of_ble_eq_true rfl) ⟨Nat.le_refl 0, Nat.le_refl 0⟩ dX12_pansInUse_26 (pp2 ?_)
    exact fw_iret C hrt Y6 (Option.some.inj h) (fun t ht => ht) dX12_pansInUse_29
  · have h := ite_f c7 h
    refine fw_iconst C dX12_pansInUse_22 (v := 0) rfl ?_
    exact fw_iret C hrt Y6 (Option.some.inj h) (fun t ht => ht) dX12_pansInUse_23
set_option maxRecDepth 100000 in
set_option maxHeartbeats 4000000 in
theorem w_X12_pansInUse {Y : Mem} {a1 : Int32} (C : Cx p s m [.ref (ad 10 0 0), .int a1].toArray meth c cX12_pansInUse 2 wsX12_pansInUse RX12 N0 T D gr ad) (hrt : meth.sig.returnType = (some .int)) (hG : ∀ q ∈ [(10, 0)], q ∈ gr) {res : Int32 × Mem} (h : X12_pansInUse Y a1 = some res) : FW p l e (Rm 5) s m [.ref (ad 10 0 0), .int a1].toArray below meth c 2 N0 T D gr ad 0 0 (MQ below (va_Qi (fun r Y1 => (r, Y1) = res) (WB T D gr ad) (fun q => N0 ≤ q)) [.ref (ad 10 0 0), .int a1].toArray s 0 0 (fun q => N0 ≤ q)) Y 0 [(0, .ref (ad 10 0 0)), (1, .int a1)] [] := by
  unfold X12_pansInUse at h
  refine fw_aload_n C dX12_pansInUse_0 rfl 0 rfl ?_
  refine fw_aload_n C dX12_pansInUse_1 rfl 0 rfl ?_
  refine fw_iload_n C dX12_pansInUse_2 rfl 1 rfl ?_
  obtain ⟨r1, q2, h⟩ := bd1_some h
  refine fw_callVi C (ci := 10) (Cn := RX12) (Tc := TX12) (N := 19) (As := [.int a1]) (c_X12_isPan (gac (hG _ (List.mem_of_getElem? (i := 0) rfl)) ga0) q2) (cwV 1 (cx_ts C) gX12_pansInUse_X12_isPan rfl rfl rfl (by decide +kernel) ⟨Nat.le_of_ble_eq_true rfl, Nat.le_of_ble_eq_true rfl⟩) rfl (hG _ (List.mem_of_getElem? (i := 0) rfl)) (of10_0 _) (ce10 T ad _ _) rfl (st := [.ref (ad 10 0 0)]) rfl (Nat.le_of_ble_eq_true rfl) ⟨Nat.le_refl 0, Nat.le_refl 0⟩ dX12_pansInUse_3 (pp2 ?_)
  refine fw_if_ne C dX12_pansInUse_6 (tgt := 13) rfl (fun c3 => ?_) (fun c3 => ?_)
  · have h := ite_f c3 h
    refine fw_iconst C dX12_pansInUse_13 (v := 0) rfl ?_
    exact w_X12_pansInUse_b14 C hrt hG   _ _ h
  · have h := ite_t c3 h
    refine fw_iconst C dX12_pansInUse_9 (v := 1) rfl ?_
    refine fw_goto C dX12_pansInUse_10 (tgt := 14) rfl ?_
    exact w_X12_pansInUse_b14 C hrt hG   _ _ h
end
set_option maxRecDepth 100000 in
set_option maxHeartbeats 4000000 in
theorem c_X12_pansInUse {l : Launch} {N0 : Nat} {T : Nat → ClassId} {D : va_G} {gr : List (Nat × Nat)} {ad : Nat → Nat → Nat → Nat} {Y : Mem} {a1 : Int32} {res : Int32 × Mem} (hG : ∀ q ∈ [(10, 0)], q ∈ gr) (h : X12_pansInUse Y a1 = some res) : CI l yX12_pansInUse wsX12_pansInUse (Rm 5) N0 T D gr ad Y [.ref (ad 10 0 0), .int a1] (fun r Y1 => (r, Y1) = res) :=
  fw_body (by decide +kernel) rfl (Nat.le_of_ble_eq_true rfl) (fun p e s m below meth c C hrt => w_X12_pansInUse C hrt hG  h)
theorem ly_X12_parseStepName_12 : ∀ w ∈ u_ws RX12 TX12 19, w ∈ wsX12_parseStepName := by decide +kernel
theorem fl_X12_parseStepName_66 : Cond.fieldLink RX12 66 "RecipeSchedulerModel" "commands" "[I" ∈ wsX12_parseStepName := by decide +kernel
theorem fl_X12_parseStepName_60 : Cond.fieldLink RX12 60 "RecipeSchedulerModel" "from" "I" ∈ wsX12_parseStepName := by decide +kernel
theorem fl_X12_parseStepName_54 : Cond.fieldLink RX12 54 "RecipeSchedulerModel" "ahead" "I" ∈ wsX12_parseStepName := by decide +kernel
section
variable {p : Program} {l : Launch} {e : Env} {s : State} {m : MethodId} {below : List Frame} {meth : Method} {c : Code} {N0 : Nat} {T : Nat → ClassId} {D : va_G} {gr : List (Nat × Nat)} {ad : Nat → Nat → Nat → Nat}
set_option maxRecDepth 100000 in
set_option maxHeartbeats 4000000 in
theorem w_X12_parseStepName {Y : Mem} {a1 : Int32} (C : Cx p s m [.ref (ad 10 0 0), .int a1].toArray meth c cX12_parseStepName 2 wsX12_parseStepName RX12 N0 T D gr ad) (hrt : meth.sig.returnType = (some .boolean)) (hG : ∀ q ∈ [(10, 0)], q ∈ gr) {res : Int32 × Mem} (h : X12_parseStepName Y a1 = some res) : FW p l e (Rm 2) s m [.ref (ad 10 0 0), .int a1].toArray below meth c 2 N0 T D gr ad 0 0 (MQ below (va_Qi (fun r Y1 => (r, Y1) = res) (WB T D gr ad) (fun q => N0 ≤ q)) [.ref (ad 10 0 0), .int a1].toArray s 0 0 (fun q => N0 ≤ q)) Y 0 [(0, .ref (ad 10 0 0)), (1, .int a1)] [] := by
  unfold X12_parseStepName at h
  refine fw_aload_n C dX12_parseStepName_0 rfl 0 rfl ?_
  obtain ⟨r1, Y3, q2, h⟩ := bd2_some h
  refine fw_callVi C (ci := 10) (Cn := RX12) (Tc := TX12) (N := 19) (As := []) (c_X12_isShortWord (gac (hG _ (List.mem_of_getElem? (i := 0) rfl)) ga0) q2) (cwV 0 (cx_ts C) gX12_parseStepName_X12_isShortWord rfl rfl rfl (by decide +kernel) ⟨Nat.le_of_ble_eq_true rfl, Nat.le_of_ble_eq_true rfl⟩) rfl (hG _ (List.mem_of_getElem? (i := 0) rfl)) (of10_0 _) (ce10 T ad _ _) rfl (st := []) rfl (Nat.le_of_ble_eq_true rfl) ⟨Nat.le_refl 0, Nat.le_refl 0⟩ dX12_parseStepName_1 (ppw ?_)
  refine fw_if_ne C dX12_parseStepName_4 (tgt := 9) rfl (fun c4 => ?_) (fun c4 => ?_)
  · have h := ite_f c4 h
    refine fw_aload_n C dX12_parseStepName_9 rfl 0 rfl ?_
    refine fw_get C (ci := 10) (Cn := RX12) (Tc := TX12) (N := 19) (j := 18) ly_X12_parseStepName_12 rfl (hG _ (List.mem_of_getElem? (i := 0) rfl)) (of10_0 _) (ce10 T ad _ _) (by decide) (cx_ts C _ fl_X12_parseStepName_66) (fun _ h => h) (v := .ref (ad 10 0 9)) rfl dX12_parseStepName_10 ?_
    refine fw_iload_n C dX12_parseStepName_13 rfl 1 rfl ?_
    refine fw_aload_n C dX12_parseStepName_14 rfl 0 rfl ?_
    refine fw_aload_n C dX12_parseStepName_15 rfl 0 rfl ?_
    refine fw_get C (ci := 10) (Cn := RX12) (Tc := TX12) (N := 19) (j := 16) ly_X12_parseStepName_12 rfl (hG _ (List.mem_of_getElem? (i := 0) rfl)) (of10_0 _) (ce10 T ad _ _) (by decide) (cx_ts C _ fl_X12_parseStepName_60) (fun _ h => h) (v := .int (Y3 10 0 0 16)) rfl dX12_parseStepName_16 ?_
    refine fw_aload_n C dX12_parseStepName_19 rfl 0 rfl ?_
    refine fw_get C (ci := 10) (Cn := RX12) (Tc := TX12) (N := 19) (j := 14) ly_X12_parseStepName_12 rfl (hG _ (List.mem_of_getElem? (i := 0) rfl)) (of10_0 _) (ce10 T ad _ _) (by decide) (cx_ts C _ fl_X12_parseStepName_54) (fun _ h => h) (v := .int (Y3 10 0 0 14)) rfl dX12_parseStepName_20 ?_
    refine fw_aload_n C dX12_parseStepName_23 rfl 0 rfl ?_
    refine fw_get C (ci := 10) (Cn := RX12) (Tc := TX12) (N := 19) (j := 16) ly_X12_parseStepName_12 rfl (hG _ (List.mem_of_getElem? (i := 0) rfl)) (of10_0 _) (ce10 T ad _ _) (by decide) (cx_ts C _ fl_X12_parseStepName_60) (fun _ h => h) (v := .int (Y3 10 0 0 16)) rfl dX12_parseStepName_24 ?_
    refine fw_isub C dX12_parseStepName_27 ?_
    obtain ⟨r5, q6, h⟩ := bd1_some h
    refine fw_callVi C (ci := 10) (Cn := RX12) (Tc := TX12) (N := 19) (As := [.int (Y3 10 0 0 16), .int ((Y3 10 0 0 14) - (Y3 10 0 0 16))]) (c_X12_stepNamed (gac (hG _ (List.mem_of_getElem? (i := 0) rfl)) ga0) q6) (cwV 2 (cx_ts C) gX12_parseStepName_X12_stepNamed rfl rfl rfl (by decide +kernel) ⟨Nat.le_of_ble_eq_true rfl, Nat.le_of_ble_eq_true rfl⟩) rfl (hG _ (List.mem_of_getElem? (i := 0) rfl)) (of10_0 _) (ce10 T ad _ _) rfl (st := [.int a1, .ref (ad 10 0 9)]) rfl (Nat.le_of_ble_eq_true rfl) ⟨Nat.le_refl 0, Nat.le_refl 0⟩ dX12_parseStepName_28 (pp2 ?_)
    obtain ⟨b7, h⟩ := gd_some h
    obtain ⟨Y8, e9, h⟩ := lt_some h
    refine fw_iast2 C (hG _ (List.mem_of_getElem? (i := 0) rfl)) (of10_9 _) (ca10_9 T ad _) b7 (Nat.le_of_ble_eq_true rfl) dX12_parseStepName_31 ?_
    refine fw_mem e9 ?_
    refine fw_aload_n C dX12_parseStepName_32 rfl 0 rfl ?_
    refine fw_get C (ci := 10) (Cn := RX12) (Tc := TX12) (N := 19) (j := 18) ly_X12_parseStepName_12 rfl (hG _ (List.mem_of_getElem? (i := 0) rfl)) (of10_0 _) (ce10 T ad _ _) (by decide) (cx_ts C _ fl_X12_parseStepName_66) (fun _ h => h) (v := .ref (ad 10 0 9)) rfl dX12_parseStepName_33 ?_
    refine fw_iload_n C dX12_parseStepName_36 rfl 1 rfl ?_
    refine fw_iald2 C (hG _ (List.mem_of_getElem? (i := 0) rfl)) (of10_9 _) (ca10_9 T ad _ _) b7 (Nat.le_of_ble_eq_true rfl) dX12_parseStepName_37 ?_
    refine fw_iconst C dX12_parseStepName_38 (v := (-1)) rfl ?_
    refine fw_icmp_ne C dX12_parseStepName_39 (tgt := 48) rfl (fun c10 => ?_) (fun c10 => ?_)
    · have h := ite_f c10 h
      refine fw_aload_n C dX12_parseStepName_48 rfl 0 rfl ?_
      obtain ⟨Y13, q12, h⟩ := bd1_some h
      refine fw_callVv C (ci := 10) (Cn := RX12) (Tc := TX12) (N := 19) (As := []) (c_X12_token (gac (hG _ (List.mem_of_getElem? (i := 0) rfl)) ga0) q12) (cwV 0 (cx_ts C) gX12_parseStepName_X12_token rfl rfl rfl (by decide +kernel) ⟨Nat.le_of_ble_eq_true rfl, Nat.le_of_ble_eq_true rfl⟩) rfl (hG _ (List.mem_of_getElem? (i := 0) rfl)) (of10_0 _) (ce10 T ad _ _) rfl (st := []) rfl (Nat.le_of_ble_eq_true rfl) ⟨Nat.le_refl 0, Nat.le_refl 0⟩ dX12_parseStepName_49 (ppv ?_)
      refine fw_iconst C dX12_parseStepName_52 (v := 1) rfl ?_
      exact fw_zret C hrt (by decide) Y13 (Option.some.inj h) (fun t ht => ht) dX12_parseStepName_53
    · have h := ite_t c10 h
      refine fw_aload_n C dX12_parseStepName_42 rfl 0 rfl ?_
      refine fw_iconst C dX12_parseStepName_43 (v := 3) rfl ?_
      obtain ⟨r14, Y16, q15, h⟩ := bd2_some h
      refine fw_callVi C (ci := 10) (Cn := RX12) (Tc := TX12) (N := 19) (As := [.int 3]) (c_X12_wrong (gac (hG _ (List.mem_of_getElem? (i := 0) rfl)) ga0) q15) (cwV 1 (cx_ts C) gX12_parseStepName_X12_wrong rfl rfl rfl (by decide +kernel) ⟨Nat.le_of_ble_eq_true rfl, Nat.le_of_ble_eq_true rfl⟩) rfl (hG _ (List.mem_of_getElem? (i := 0) rfl)) (of10_0 _) (ce10 T ad _ _) rfl (st := []) rfl (Nat.le_of_ble_eq_true rfl) ⟨Nat.le_refl 0, Nat.le_refl 0⟩ dX12_parseStepName_44 (ppw ?_)
      obtain ⟨b17, h⟩ := gd_some h
      exact fw_zret C hrt (of_decide_eq_true b17) Y16 (Option.some.inj h) (fun t ht => ht) dX12_parseStepName_47
  · have h := ite_t c4 h
    refine fw_iconst C dX12_parseStepName_7 (v := 0) rfl ?_
    exact fw_zret C hrt (by decide) Y3 (Option.some.inj h) (fun t ht => ht) dX12_parseStepName_8
end
set_option maxRecDepth 100000 in
set_option maxHeartbeats 4000000 in
theorem c_X12_parseStepName {l : Launch} {N0 : Nat} {T : Nat → ClassId} {D : va_G} {gr : List (Nat × Nat)} {ad : Nat → Nat → Nat → Nat} {Y : Mem} {a1 : Int32} {res : Int32 × Mem} (hG : ∀ q ∈ [(10, 0)], q ∈ gr) (h : X12_parseStepName Y a1 = some res) : CI l yX12_parseStepName wsX12_parseStepName (Rm 2) N0 T D gr ad Y [.ref (ad 10 0 0), .int a1] (fun r Y1 => (r, Y1) = res) :=
  fw_body (by decide +kernel) rfl (Nat.le_of_ble_eq_true rfl) (fun p e s m below meth c C hrt => w_X12_parseStepName C hrt hG  h)
theorem ly_X12_parseNumber_12 : ∀ w ∈ u_ws RX12 TX12 19, w ∈ wsX12_parseNumber := by decide +kernel
theorem fl_X12_parseNumber_57 : Cond.fieldLink RX12 57 "RecipeSchedulerModel" "type" "I" ∈ wsX12_parseNumber := by decide +kernel
theorem fl_X12_parseNumber_66 : Cond.fieldLink RX12 66 "RecipeSchedulerModel" "commands" "[I" ∈ wsX12_parseNumber := by decide +kernel
theorem fl_X12_parseNumber_63 : Cond.fieldLink RX12 63 "RecipeSchedulerModel" "value" "I" ∈ wsX12_parseNumber := by decide +kernel
section
variable {p : Program} {l : Launch} {e : Env} {s : State} {m : MethodId} {below : List Frame} {meth : Method} {c : Code} {N0 : Nat} {T : Nat → ClassId} {D : va_G} {gr : List (Nat × Nat)} {ad : Nat → Nat → Nat → Nat}
set_option maxRecDepth 100000 in
set_option maxHeartbeats 4000000 in
theorem w_X12_parseNumber {Y : Mem} {a1 : Int32} (C : Cx p s m [.ref (ad 10 0 0), .int a1].toArray meth c cX12_parseNumber 2 wsX12_parseNumber RX12 N0 T D gr ad) (hrt : meth.sig.returnType = (some .boolean)) (hG : ∀ q ∈ [(10, 0)], q ∈ gr) {res : Int32 × Mem} (h : X12_parseNumber Y a1 = some res) : FW p l e (Rm 2) s m [.ref (ad 10 0 0), .int a1].toArray below meth c 2 N0 T D gr ad 0 0 (MQ below (va_Qi (fun r Y1 => (r, Y1) = res) (WB T D gr ad) (fun q => N0 ≤ q)) [.ref (ad 10 0 0), .int a1].toArray s 0 0 (fun q => N0 ≤ q)) Y 0 [(0, .ref (ad 10 0 0)), (1, .int a1)] [] := by
  unfold X12_parseNumber at h
  refine fw_aload_n C dX12_parseNumber_0 rfl 0 rfl ?_
  refine fw_get C (ci := 10) (Cn := RX12) (Tc := TX12) (N := 19) (j := 15) ly_X12_parseNumber_12 rfl (hG _ (List.mem_of_getElem? (i := 0) rfl)) (of10_0 _) (ce10 T ad _ _) (by decide) (cx_ts C _ fl_X12_parseNumber_57) (fun _ h => h) (v := .int (Y 10 0 0 15)) rfl dX12_parseNumber_1 ?_
  refine fw_iconst C dX12_parseNumber_4 (v := 2) rfl ?_
  refine fw_icmp_eq C dX12_parseNumber_5 (tgt := 14) rfl (fun c1 => ?_) (fun c1 => ?_)
  · have h := ite_t c1 h
    refine fw_aload_n C dX12_parseNumber_14 rfl 0 rfl ?_
    refine fw_get C (ci := 10) (Cn := RX12) (Tc := TX12) (N := 19) (j := 18) ly_X12_parseNumber_12 rfl (hG _ (List.mem_of_getElem? (i := 0) rfl)) (of10_0 _) (ce10 T ad _ _) (by decide) (cx_ts C _ fl_X12_parseNumber_66) (fun _ h => h) (v := .ref (ad 10 0 9)) rfl dX12_parseNumber_15 ?_
    refine fw_iload_n C dX12_parseNumber_18 rfl 1 rfl ?_
    refine fw_aload_n C dX12_parseNumber_19 rfl 0 rfl ?_
    refine fw_get C (ci := 10) (Cn := RX12) (Tc := TX12) (N := 19) (j := 17) ly_X12_parseNumber_12 rfl (hG _ (List.mem_of_getElem? (i := 0) rfl)) (of10_0 _) (ce10 T ad _ _) (by decide) (cx_ts C _ fl_X12_parseNumber_63) (fun _ h => h) (v := .int (Y 10 0 0 17)) rfl dX12_parseNumber_20 ?_
    obtain ⟨b2, h⟩ := gd_some h
    obtain ⟨Y3, e4, h⟩ := lt_some h
    refine fw_iast2 C (hG _ (List.mem_of_getElem? (i := 0) rfl)) (of10_9 _) (ca10_9 T ad _) b2 (Nat.le_of_ble_eq_true rfl) dX12_parseNumber_23 ?_
    refine fw_mem e4 ?_
    refine fw_aload_n C dX12_parseNumber_24 rfl 0 rfl ?_
    obtain ⟨Y7, q6, h⟩ := bd1_some h
    refine fw_callVv C (ci := 10) (Cn := RX12) (Tc := TX12) (N := 19) (As := []) (c_X12_token (gac (hG _ (List.mem_of_getElem? (i := 0) rfl)) ga0) q6) (cwV 0 (cx_ts C) gX12_parseNumber_X12_token rfl rfl rfl (by decide +kernel) ⟨Nat.le_of_ble_eq_true rfl, Nat.le_of_ble_eq_true rfl⟩) rfl (hG _ (List.mem_of_getElem? (i := 0) rfl)) (of10_0 _) (ce10 T ad _ _) rfl (st := []) rfl (Nat.le_of_ble_eq_true rfl) ⟨Nat.le_refl 0, Nat.le_refl 0⟩ dX12_parseNumber_25 (ppv ?_)
    refine fw_iconst C dX12_parseNumber_28 (v := 1) rfl ?_
    exact fw_zret C hrt (by decide) Y7 (Option.some.inj h) (fun t ht => ht) dX12_parseNumber_29
  · have h := ite_f c1 h
    refine fw_aload_n C dX12_parseNumber_8 rfl 0 rfl ?_
    refine fw_iconst C dX12_parseNumber_9 (v := 1) rfl ?_
    obtain ⟨r8, Y10, q9, h⟩ := bd2_some h
    refine fw_callVi C (ci := 10) (Cn := RX12) (Tc := TX12) (N := 19) (As := [.int 1]) (c_X12_wrong (gac (hG _ (List.mem_of_getElem? (i := 0) rfl)) ga0) q9) (cwV 1 (cx_ts C) gX12_parseNumber_X12_wrong rfl rfl rfl (by decide +kernel) ⟨Nat.le_of_ble_eq_true rfl, Nat.le_of_ble_eq_true rfl⟩) rfl (hG _ (List.mem_of_getElem? (i := 0) rfl)) (of10_0 _) (ce10 T ad _ _) rfl (st := []) rfl (Nat.le_of_ble_eq_true rfl) ⟨Nat.le_refl 0, Nat.le_refl 0⟩ dX12_parseNumber_10 (ppw ?_)
    obtain ⟨b11, h⟩ := gd_some h
    exact fw_zret C hrt (of_decide_eq_true b11) Y10 (Option.some.inj h) (fun t ht => ht) dX12_parseNumber_13
end
set_option maxRecDepth 100000 in
set_option maxHeartbeats 4000000 in
theorem c_X12_parseNumber {l : Launch} {N0 : Nat} {T : Nat → ClassId} {D : va_G} {gr : List (Nat × Nat)} {ad : Nat → Nat → Nat → Nat} {Y : Mem} {a1 : Int32} {res : Int32 × Mem} (hG : ∀ q ∈ [(10, 0)], q ∈ gr) (h : X12_parseNumber Y a1 = some res) : CI l yX12_parseNumber wsX12_parseNumber (Rm 2) N0 T D gr ad Y [.ref (ad 10 0 0), .int a1] (fun r Y1 => (r, Y1) = res) :=
  fw_body (by decide +kernel) rfl (Nat.le_of_ble_eq_true rfl) (fun p e s m below meth c C hrt => w_X12_parseNumber C hrt hG  h)
section
variable {p : Program} {l : Launch} {e : Env} {s : State} {m : MethodId} {below : List Frame} {meth : Method} {c : Code} {N0 : Nat} {T : Nat → ClassId} {D : va_G} {gr : List (Nat × Nat)} {ad : Nat → Nat → Nat → Nat}
set_option maxRecDepth 100000 in
set_option maxHeartbeats 4000000 in
theorem w_X12_parseArguments {Y : Mem} {a1 : Int32} {a2 : Int32} (C : Cx p s m [.ref (ad 10 0 0), .int a1, .int a2].toArray meth c cX12_parseArguments 3 wsX12_parseArguments RX12 N0 T D gr ad) (hrt : meth.sig.returnType = (some .boolean)) (hG : ∀ q ∈ [(10, 0)], q ∈ gr) {res : Int32 × Mem} (h : X12_parseArguments Y a1 a2 = some res) : FW p l e (Rm 3) s m [.ref (ad 10 0 0), .int a1, .int a2].toArray below meth c 3 N0 T D gr ad 0 0 (MQ below (va_Qi (fun r Y1 => (r, Y1) = res) (WB T D gr ad) (fun q => N0 ≤ q)) [.ref (ad 10 0 0), .int a1, .int a2].toArray s 0 0 (fun q => N0 ≤ q)) Y 0 [(0, .ref (ad 10 0 0)), (1, .int a1), (2, .int a2)] [] := by
  unfold X12_parseArguments at h
  refine fw_iload_n C dX12_parseArguments_0 rfl 1 rfl ?_
  by_cases c1 : a1 = 3
  · have h := ite_t c1 h
    refine fw_tableIn C dX12_parseArguments_1 (by rw [c1]; decide) (by rw [c1]; decide) (off := 37) (by rw [c1]; rfl) (tgt := 38) rfl ?_
    refine fw_aload_n C dX12_parseArguments_38 rfl 0 rfl ?_
    refine fw_iload_n C dX12_parseArguments_39 rfl 2 rfl ?_
    obtain ⟨r2, Y4, q3, h⟩ := bd2_some h
    refine fw_callVi C (ci := 10) (Cn := RX12) (Tc := TX12) (N := 19) (As := [.int a2]) (c_X12_parseStepName (gac (hG _ (List.mem_of_getElem? (i := 0) rfl)) ga0) q3) (cwV 1 (cx_ts C) gX12_parseArguments_X12_parseStepName rfl rfl rfl (by decide +kernel) ⟨Nat.le_of_ble_eq_true rfl, Nat.le_of_ble_eq_true rfl⟩) rfl (hG _ (List.mem_of_getElem? (i := 0) rfl)) (of10_0 _) (ce10 T ad _ _) rfl (st := []) rfl (Nat.le_of_ble_eq_true rfl) ⟨Nat.le_refl 0, Nat.le_refl 0⟩ dX12_parseArguments_40 (ppw ?_)
    obtain ⟨b5, h⟩ := gd_some h
    exact fw_zret C hrt (of_decide_eq_true b5) Y4 (Option.some.inj h) (fun t ht => ht) dX12_parseArguments_43
  · have h := ite_f c1 h
    by_cases c6 : a1 = 4
    · have h := ite_t c6 h
      refine fw_tableIn C dX12_parseArguments_1 (by rw [c6]; decide) (by rw [c6]; decide) (off := 37) (by rw [c6]; rfl) (tgt := 38) rfl ?_
      refine fw_aload_n C dX12_parseArguments_38 rfl 0 rfl ?_
      refine fw_iload_n C dX12_parseArguments_39 rfl 2 rfl ?_
      obtain ⟨r7, Y9, q8, h⟩ := bd2_some h
      refine fw_callVi C (ci := 10) (Cn := RX12) (Tc := TX12) (N := 19) (As := [.int a2]) (c_X12_parseStepName (gac (hG _ (List.mem_of_getElem? (i := 0) rfl)) ga0) q8) (cwV 1 (cx_ts C) gX12_parseArguments_X12_parseStepName rfl rfl rfl (by decide +kernel) ⟨Nat.le_of_ble_eq_true rfl, Nat.le_of_ble_eq_true rfl⟩) rfl (hG _ (List.mem_of_getElem? (i := 0) rfl)) (of10_0 _) (ce10 T ad _ _) rfl (st := []) rfl (Nat.le_of_ble_eq_true rfl) ⟨Nat.le_refl 0, Nat.le_refl 0⟩ dX12_parseArguments_40 (ppw ?_)
      obtain ⟨b10, h⟩ := gd_some h
      exact fw_zret C hrt (of_decide_eq_true b10) Y9 (Option.some.inj h) (fun t ht => ht) dX12_parseArguments_43
    · have h := ite_f c6 h
      by_cases c11 : a1 = 5
      · have h := ite_t c11 h
        refine fw_tableIn C dX12_parseArguments_1 (by rw [c11]; decide) (by rw [c11]; decide) (off := 67) (by rw [c11]; rfl) (tgt := 68) rfl ?_
        refine fw_aload_n C dX12_parseArguments_68 rfl 0 rfl ?_
        refine fw_iload_n C dX12_parseArguments_69 rfl 2 rfl ?_
        obtain ⟨r12, Y14, q13, h⟩ := bd2_some h
        refine fw_callVi C (ci := 10) (Cn := RX12) (Tc := TX12) (N := 19) (As := [.int a2]) (c_X12_parseNumber (gac (hG _ (List.mem_of_getElem? (i := 0) rfl)) ga0) q13) (cwV 1 (cx_ts C) gX12_parseArguments_X12_parseNumber rfl rfl rfl (by decide +kernel) ⟨Nat.le_of_ble_eq_true rfl, Nat.le_of_ble_eq_true rfl⟩) rfl (hG _ (List.mem_of_getElem? (i := 0) rfl)) (of10_0 _) (ce10 T ad _ _) rfl (st := []) rfl (Nat.le_of_ble_eq_true rfl) ⟨Nat.le_refl 0, Nat.le_refl 0⟩ dX12_parseArguments_70 (ppw ?_)
        obtain ⟨b15, h⟩ := gd_some h
        exact fw_zret C hrt (of_decide_eq_true b15) Y14 (Option.some.inj h) (fun t ht => ht) dX12_parseArguments_73
      · have h := ite_f c11 h
        by_cases c16 : a1 = 6
        · have h := ite_t c16 h
          refine fw_tableIn C dX12_parseArguments_1 (by rw [c16]; decide) (by rw [c16]; decide) (off := 43) (by rw [c16]; rfl) (tgt := 44) rfl ?_
          refine fw_aload_n C dX12_parseArguments_44 rfl 0 rfl ?_
          refine fw_iload_n C dX12_parseArguments_45 rfl 2 rfl ?_
          obtain ⟨r17, Y19, q18, h⟩ := bd2_some h
          refine fw_callVi C (ci := 10) (Cn := RX12) (Tc := TX12) (N := 19) (As := [.int a2]) (c_X12_parseStepName (gac (hG _ (List.mem_of_getElem? (i := 0) rfl)) ga0) q18) (cwV 1 (cx_ts C) gX12_parseArguments_X12_parseStepName rfl rfl rfl (by decide +kernel) ⟨Nat.le_of_ble_eq_true rfl, Nat.le_of_ble_eq_true rfl⟩) rfl (hG _ (List.mem_of_getElem? (i := 0) rfl)) (of10_0 _) (ce10 T ad _ _) rfl (st := []) rfl (Nat.le_of_ble_eq_true rfl) ⟨Nat.le_refl 0, Nat.le_refl 0⟩ dX12_parseArguments_46 (ppw ?_)
          refine fw_if_eq C dX12_parseArguments_49 (tgt := 66) rfl (fun c20 => ?_) (fun c20 => ?_)
          · have h := ite_t c20 h
            refine fw_iconst C dX12_parseArguments_66 (v := 0) rfl ?_
            exact fw_zret C hrt (by decide) Y19 (Option.some.inj h) (fun t ht => ht) dX12_parseArguments_67
          · have h := ite_f c20 h
            refine fw_aload_n C dX12_parseArguments_52 rfl 0 rfl ?_
            refine fw_iload_n C dX12_parseArguments_53 rfl 2 rfl ?_
            refine fw_iconst C dX12_parseArguments_54 (v := 1) rfl ?_
            refine fw_iadd C dX12_parseArguments_55 ?_
            obtain ⟨r21, Y23, q22, h⟩ := bd2_some h
            refine fw_callVi C (ci := 10) (Cn := RX12) (Tc := TX12) (N := 19) (As := [.int (a2 + 1)]) (c_X12_parseNumber (gac (hG _ (List.mem_of_getElem? (i := 0) rfl)) ga0) q22) (cwV 1 (cx_ts C) gX12_parseArguments_X12_parseNumber rfl rfl rfl (by decide +kernel) ⟨Nat.le_of_ble_eq_true rfl, Nat.le_of_ble_eq_true rfl⟩) rfl (hG _ (List.mem_of_getElem? (i := 0) rfl)) (of10_0 _) (ce10 T ad _ _) rfl (st := []) rfl (Nat.le_of_ble_eq_true rfl) ⟨Nat.le_refl 0, Nat.le_refl 0⟩ dX12_parseArguments_56 (ppw ?_)
            refine fw_if_eq C dX12_parseArguments_59 (tgt := 66) rfl (fun c24 => ?_) (fun c24 => ?_)
            · have h := ite_t c24 h
              refine fw_iconst C dX12_parseArguments_66 (v := 0) rfl ?_
              exact fw_zret C hrt (by decide) Y23 (Option.some.inj h) (fun t ht => ht) dX12_parseArguments_67
            · have h := ite_f c24 h
              refine fw_iconst C dX12_parseArguments_62 (v := 1) rfl ?_
              refine fw_goto C dX12_parseArguments_63 (tgt := 67) rfl ?_
              exact fw_zret C hrt (by decide) Y23 (Option.some.inj h) (fun t ht => ht) dX12_parseArguments_67
        · have h := ite_f c16 h
          by_cases c25 : a1 = 7
          · have h := ite_t c25 h
            refine fw_tableIn C dX12_parseArguments_1 (by rw [c25]; decide) (by rw [c25]; decide) (off := 35) (by rw [c25]; rfl) (tgt := 36) rfl ?_
            refine fw_iconst C dX12_parseArguments_36 (v := 1) rfl ?_
            exact fw_zret C hrt (by decide) Y (Option.some.inj h) (fun t ht => ht) dX12_parseArguments_37
          · have h := ite_f c25 h
            have c1 : ¬ (a1).toInt = 3 := fun q => c1 (Int32.toInt_inj.mp (by rw [q]; rfl))
            have c6 : ¬ (a1).toInt = 4 := fun q => c6 (Int32.toInt_inj.mp (by rw [q]; rfl))
            have c11 : ¬ (a1).toInt = 5 := fun q => c11 (Int32.toInt_inj.mp (by rw [q]; rfl))
            have c16 : ¬ (a1).toInt = 6 := fun q => c16 (Int32.toInt_inj.mp (by rw [q]; rfl))
            have c25 : ¬ (a1).toInt = 7 := fun q => c25 (Int32.toInt_inj.mp (by rw [q]; rfl))
            refine fw_tableOut C dX12_parseArguments_1 (by omega) (tgt := 68) rfl ?_
            refine fw_aload_n C dX12_parseArguments_68 rfl 0 rfl ?_
            refine fw_iload_n C dX12_parseArguments_69 rfl 2 rfl ?_
            obtain ⟨r26, Y28, q27, h⟩ := bd2_some h
            refine fw_callVi C (ci := 10) (Cn := RX12) (Tc := TX12) (N := 19) (As := [.int a2]) (c_X12_parseNumber (gac (hG _ (List.mem_of_getElem? (i := 0) rfl)) ga0) q27) (cwV 1 (cx_ts C) gX12_parseArguments_X12_parseNumber rfl rfl rfl (by decide +kernel) ⟨Nat.le_of_ble_eq_true rfl, Nat.le_of_ble_eq_true rfl⟩) rfl (hG _ (List.mem_of_getElem? (i := 0) rfl)) (of10_0 _) (ce10 T ad _ _) rfl (st := []) rfl (Nat.le_of_ble_eq_true rfl) ⟨Nat.le_refl 0, Nat.le_refl 0⟩ dX12_parseArguments_70 (ppw ?_)
            obtain ⟨b29, h⟩ := gd_some h
            exact fw_zret C hrt (of_decide_eq_true b29) Y28 (Option.some.inj h) (fun t ht => ht) dX12_parseArguments_73
end
set_option maxRecDepth 100000 in
set_option maxHeartbeats 4000000 in
theorem c_X12_parseArguments {l : Launch} {N0 : Nat} {T : Nat → ClassId} {D : va_G} {gr : List (Nat × Nat)} {ad : Nat → Nat → Nat → Nat} {Y : Mem} {a1 : Int32} {a2 : Int32} {res : Int32 × Mem} (hG : ∀ q ∈ [(10, 0)], q ∈ gr) (h : X12_parseArguments Y a1 a2 = some res) : CI l yX12_parseArguments wsX12_parseArguments (Rm 3) N0 T D gr ad Y [.ref (ad 10 0 0), .int a1, .int a2] (fun r Y1 => (r, Y1) = res) :=
  fw_body (by decide +kernel) rfl (Nat.le_of_ble_eq_true rfl) (fun p e s m below meth c C hrt => w_X12_parseArguments C hrt hG  h)
theorem ly_X12_parseScript_12 : ∀ w ∈ u_ws RX12 TX12 19, w ∈ wsX12_parseScript := by decide +kernel
theorem fl_X12_parseScript_57 : Cond.fieldLink RX12 57 "RecipeSchedulerModel" "type" "I" ∈ wsX12_parseScript := by decide +kernel
theorem fl_X12_parseScript_66 : Cond.fieldLink RX12 66 "RecipeSchedulerModel" "commands" "[I" ∈ wsX12_parseScript := by decide +kernel
section
variable {p : Program} {l : Launch} {e : Env} {s : State} {m : MethodId} {below : List Frame} {meth : Method} {c : Code} {N0 : Nat} {T : Nat → ClassId} {D : va_G} {gr : List (Nat × Nat)} {ad : Nat → Nat → Nat → Nat}
set_option maxRecDepth 100000 in
set_option maxHeartbeats 4000000 in
theorem w_X12_parseScript_b46  (C : Cx p s m [.ref (ad 10 0 0)].toArray meth c cX12_parseScript 4 wsX12_parseScript RX12 N0 T D gr ad) (hrt : meth.sig.returnType = (some .int)) (hG : ∀ q ∈ [(10, 0)], q ∈ gr) {res : Int32 × Mem} {k2 : Mem → Int32 → Option (Int32 × Mem)} (hk2 : ∀ (Y : Mem) (l1 : Int32), k2 Y l1 = some res → FW p l e (Rm 6) s m [.ref (ad 10 0 0)].toArray below meth c 4 N0 T D gr ad 0 0 (MQ below (va_Qi (fun r Y1 => (r, Y1) = res) (WB T D gr ad) (fun q => N0 ≤ q)) [.ref (ad 10 0 0)].toArray s 0 0 (fun q => N0 ≤ q)) Y 2 [(1, .int l1), (0, .ref (ad 10 0 0))] []) (Y : Mem) (l2 : Int32) (l1 : Int32) (s0 : Int32) (h : X12_parseScript_b46  k2 Y l2 l1 s0 = some res) : FW p l e (Rm 6) s m [.ref (ad 10 0 0)].toArray below meth c 4 N0 T D gr ad 0 0 (MQ below (va_Qi (fun r Y1 => (r, Y1) = res) (WB T D gr ad) (fun q => N0 ≤ q)) [.ref (ad 10 0 0)].toArray s 0 0 (fun q => N0 ≤ q)) Y 46 [(2, .int l2), (1, .int l1), (0, .ref (ad 10 0 0))] [.int s0] := by
  unfold X12_parseScript_b46 at h
  refine fw_istore_n C dX12_parseScript_46 rfl (by decide) (L' := [(3, .int s0), (2, .int l2), (1, .int l1), (0, .ref (ad 10 0 0))]) rfl ?_
  refine fw_iload_n C dX12_parseScript_47 rfl 0 rfl ?_
  refine fw_if_ne C dX12_parseScript_48 (tgt := 53) rfl (fun c8 => ?_) (fun c8 => ?_)
  · have h := ite_f c8 h
    refine fw_aload_n C dX12_parseScript_53 rfl 3 rfl ?_
    obtain ⟨Y11, q10, h⟩ := bd1_some h
    refine fw_callVv C (ci := 10) (Cn := RX12) (Tc := TX12) (N := 19) (As := []) (c_X12_token (gac (hG _ (List.mem_of_getElem? (i := 0) rfl)) ga0) q10) (cwV 0 (cx_ts C) gX12_parseScript_X12_token rfl rfl rfl (by decide +kernel) ⟨Nat.le_of_ble_eq_true rfl, Nat.le_of_ble_eq_true rfl⟩) rfl (hG _ (List.mem_of_getElem? (i := 0) rfl)) (of10_0 _) (ce10 T ad _ _) rfl (st := []) rfl (Nat.le_of_ble_eq_true rfl) ⟨Nat.le_refl 0, Nat.le_refl 0⟩ dX12_parseScript_54 (ppv ?_)
    refine fw_aload_n C dX12_parseScript_57 rfl 3 rfl ?_
    refine fw_get C (ci := 10) (Cn := RX12) (Tc := TX12) (N := 19) (j := 18) ly_X12_parseScript_12 rfl (hG _ (List.mem_of_getElem? (i := 0) rfl)) (of10_0 _) (ce10 T ad _ _) (by decide) (cx_ts C _ fl_X12_parseScript_66) (fun _ h => h) (v := .ref (ad 10 0 9)) rfl dX12_parseScript_58 ?_
    refine fw_iload_n C dX12_parseScript_61 rfl 2 rfl ?_
    refine fw_iconst C dX12_parseScript_62 (v := 3) rfl ?_
    refine fw_imul C dX12_parseScript_63 ?_
    refine fw_iload_n C dX12_parseScript_64 rfl 1 rfl ?_
    obtain ⟨b12, h⟩ := gd_some h
    obtain ⟨Y13, e14, h⟩ := lt_some h
    refine fw_iast2 C (hG _ (List.mem_of_getElem? (i := 0) rfl)) (of10_9 _) (ca10_9 T ad _) b12 (Nat.le_of_ble_eq_true rfl) dX12_parseScript_65 ?_
    refine fw_mem e14 ?_
    refine fw_aload_n C dX12_parseScript_66 rfl 3 rfl ?_
    refine fw_iload_n C dX12_parseScript_67 rfl 1 rfl ?_
    refine fw_iload_n C dX12_parseScript_68 rfl 2 rfl ?_
    refine fw_iconst C dX12_parseScript_69 (v := 3) rfl ?_
    refine fw_imul C dX12_parseScript_70 ?_
    refine fw_iconst C dX12_parseScript_71 (v := 1) rfl ?_
    refine fw_iadd C dX12_parseScript_72 ?_
    obtain ⟨r15, Y17, q16, h⟩ := bd2_some h
    refine fw_callVi C (ci := 10) (Cn := RX12) (Tc := TX12) (N := 19) (As := [.int l2, .int ((l1 * 3) + 1)]) (c_X12_parseArguments (gac (hG _ (List.mem_of_getElem? (i := 0) rfl)) ga0) q16) (cwV 2 (cx_ts C) gX12_parseScript_X12_parseArguments rfl rfl rfl (by decide +kernel) ⟨Nat.le_of_ble_eq_true rfl, Nat.le_of_ble_eq_true rfl⟩) rfl (hG _ (List.mem_of_getElem? (i := 0) rfl)) (of10_0 _) (ce10 T ad _ _) rfl (st := []) rfl (Nat.le_of_ble_eq_true rfl) ⟨Nat.le_refl 0, Nat.le_refl 0⟩ dX12_parseScript_73 (ppw ?_)
    refine fw_if_eq C dX12_parseScript_76 (tgt := 86) rfl (fun c18 => ?_) (fun c18 => ?_)
    · have h := ite_t c18 h
      refine fw_iconst C dX12_parseScript_86 (v := (-1)) rfl ?_
      exact fw_iret C hrt Y17 (Option.some.inj h) (fun t ht => ht) dX12_parseScript_87
    · have h := ite_f c18 h
      refine fw_aload_n C dX12_parseScript_79 rfl 3 rfl ?_
      obtain ⟨r19, Y21, q20, h⟩ := bd2_some h
      refine fw_callVi C (ci := 10) (Cn := RX12) (Tc := TX12) (N := 19) (As := []) (c_X12_semicolon (gac (hG _ (List.mem_of_getElem? (i := 0) rfl)) ga0) q20) (cwV 0 (cx_ts C) gX12_parseScript_X12_semicolon rfl rfl rfl (by decide +kernel) ⟨Nat.le_of_ble_eq_true rfl, Nat.le_of_ble_eq_true rfl⟩) rfl (hG _ (List.mem_of_getElem? (i := 0) rfl)) (of10_0 _) (ce10 T ad _ _) rfl (st := []) rfl (Nat.le_of_ble_eq_true rfl) ⟨Nat.le_refl 0, Nat.le_refl 0⟩ dX12_parseScript_80 (ppw ?_)
      refine fw_if_ne C dX12_parseScript_83 (tgt := 88) rfl (fun c22 => ?_) (fun c22 => ?_)
      · have h := ite_f c22 h
        refine fw_iinc C dX12_parseScript_88 (kk := 2) (v := l1 + 1) rfl rfl (by decide) (L' := [(1, .int (l1 + 1)), (3, .int s0), (2, .int l2), (0, .ref (ad 10 0 0))]) rfl ?_
        refine fw_goto C dX12_parseScript_91 (tgt := 2) rfl ?_
        refine fw_sub [0, 3] (L' := [(1, .int (l1 + 1)), (0, .ref (ad 10 0 0))]) rfl ?_
        exact hk2 _ _ h
      · have h := ite_t c22 h
        refine fw_iconst C dX12_parseScript_86 (v := (-1)) rfl ?_
        exact fw_iret C hrt Y21 (Option.some.inj h) (fun t ht => ht) dX12_parseScript_87
  · have h := ite_t c8 h
    refine fw_iconst C dX12_parseScript_51 (v := (-1)) rfl ?_
    exact fw_iret C hrt Y (Option.some.inj h) (fun t ht => ht) dX12_parseScript_52
set_option maxRecDepth 100000 in
set_option maxHeartbeats 4000000 in
theorem w_X12_parseScript_b33  (C : Cx p s m [.ref (ad 10 0 0)].toArray meth c cX12_parseScript 4 wsX12_parseScript RX12 N0 T D gr ad) (hrt : meth.sig.returnType = (some .int)) (hG : ∀ q ∈ [(10, 0)], q ∈ gr) {res : Int32 × Mem} {k2 : Mem → Int32 → Option (Int32 × Mem)} (hk2 : ∀ (Y : Mem) (l1 : Int32), k2 Y l1 = some res → FW p l e (Rm 6) s m [.ref (ad 10 0 0)].toArray below meth c 4 N0 T D gr ad 0 0 (MQ below (va_Qi (fun r Y1 => (r, Y1) = res) (WB T D gr ad) (fun q => N0 ≤ q)) [.ref (ad 10 0 0)].toArray s 0 0 (fun q => N0 ≤ q)) Y 2 [(1, .int l1), (0, .ref (ad 10 0 0))] []) (Y : Mem) (l2 : Int32) (l1 : Int32) (h : X12_parseScript_b33  k2 Y l2 l1 = some res) : FW p l e (Rm 6) s m [.ref (ad 10 0 0)].toArray below meth c 4 N0 T D gr ad 0 0 (MQ below (va_Qi (fun r Y1 => (r, Y1) = res) (WB T D gr ad) (fun q => N0 ≤ q)) [.ref (ad 10 0 0)].toArray s 0 0 (fun q => N0 ≤ q)) Y 33 [(2, .int l2), (1, .int l1), (0, .ref (ad 10 0 0))] [] := by
  unfold X12_parseScript_b33 at h
  refine fw_iconst C dX12_parseScript_33 (v := 1) rfl ?_
  refine fw_goto C dX12_parseScript_34 (tgt := 46) rfl ?_
  exact w_X12_parseScript_b46 C hrt hG  hk2 _ _ _ _ h
set_option maxRecDepth 100000 in
set_option maxHeartbeats 4000000 in
theorem w_X12_parseScript_b2  (C : Cx p s m [.ref (ad 10 0 0)].toArray meth c cX12_parseScript 4 wsX12_parseScript RX12 N0 T D gr ad) (hrt : meth.sig.returnType = (some .int)) (hG : ∀ q ∈ [(10, 0)], q ∈ gr) {res : Int32 × Mem} : ∀ (n : Nat) (Y : Mem) (l1 : Int32), X12_parseScript_b2   n Y l1 = some res → FW p l e (Rm 6) s m [.ref (ad 10 0 0)].toArray below meth c 4 N0 T D gr ad 0 0 (MQ below (va_Qi (fun r Y1 => (r, Y1) = res) (WB T D gr ad) (fun q => N0 ≤ q)) [.ref (ad 10 0 0)].toArray s 0 0 (fun q => N0 ≤ q)) Y 2 [(1, .int l1), (0, .ref (ad 10 0 0))] [] := by
  intro n
  induction n with
  | zero =>
    intro Y l1 h
    unfold X12_parseScript_b2 at h
    cases h
  | succ n ih =>
    intro Y l1 h
    unfold X12_parseScript_b2 at h
    refine fw_aload_n C dX12_parseScript_2 rfl 1 rfl ?_
    refine fw_get C (ci := 10) (Cn := RX12) (Tc := TX12) (N := 19) (j := 15) ly_X12_parseScript_12 rfl (hG _ (List.mem_of_getElem? (i := 0) rfl)) (of10_0 _) (ce10 T ad _ _) (by decide) (cx_ts C _ fl_X12_parseScript_57) (fun _ h => h) (v := .int (Y 10 0 0 15)) rfl dX12_parseScript_3 ?_
    refine fw_if_eq C dX12_parseScript_6 (tgt := 94) rfl (fun c1 => ?_) (fun c1 => ?_)
    · have h := ite_t c1 h
      refine fw_iload_n C dX12_parseScript_94 rfl 0 rfl ?_
      exact fw_iret C hrt Y (Option.some.inj h) (fun t ht => ht) dX12_parseScript_95
    · have h := ite_f c1 h
      refine fw_aload_n C dX12_parseScript_9 rfl 1 rfl ?_
      obtain ⟨r2, q3, h⟩ := bd1_some h
      refine fw_callVi C (ci := 10) (Cn := RX12) (Tc := TX12) (N := 19) (As := []) (c_X12_commandHere (gac (hG _ (List.mem_of_getElem? (i := 0) rfl)) ga0) q3) (cwV 0 (cx_ts C) gX12_parseScript_X12_commandHere rfl rfl rfl (by decide +kernel) ⟨Nat.le_of_ble_eq_true rfl, Nat.le_of_ble_eq_true rfl⟩) rfl (hG _ (List.mem_of_getElem? (i := 0) rfl)) (of10_0 _) (ce10 T ad _ _) rfl (st := []) rfl (Nat.le_of_ble_eq_true rfl) ⟨Nat.le_refl 0, Nat.le_refl 0⟩ dX12_parseScript_10 (pp2 ?_)
      refine fw_istore_n C dX12_parseScript_13 rfl (by decide) (L' := [(2, .int r2), (1, .int l1), (0, .ref (ad 10 0 0))]) rfl ?_
      refine fw_iload_n C dX12_parseScript_14 rfl 0 rfl ?_
      refine fw_iconst C dX12_parseScript_15 (v := (-1)) rfl ?_
      refine fw_icmp_eq C dX12_parseScript_16 (tgt := 41) rfl (fun c4 => ?_) (fun c4 => ?_)
      · have h := ite_t c4 h
        refine fw_aload_n C dX12_parseScript_41 rfl 2 rfl ?_
        refine fw_iconst C dX12_parseScript_42 (v := 1) rfl ?_
        obtain ⟨r5, Y7, q6, h⟩ := bd2_some h
        refine fw_callVi C (ci := 10) (Cn := RX12) (Tc := TX12) (N := 19) (As := [.int 1]) (c_X12_wrong (gac (hG _ (List.mem_of_getElem? (i := 0) rfl)) ga0) q6) (cwV 1 (cx_ts C) gX12_parseScript_X12_wrong rfl rfl rfl (by decide +kernel) ⟨Nat.le_of_ble_eq_true rfl, Nat.le_of_ble_eq_true rfl⟩) rfl (hG _ (List.mem_of_getElem? (i := 0) rfl)) (of10_0 _) (ce10 T ad _ _) rfl (st := []) rfl (Nat.le_of_ble_eq_true rfl) ⟨Nat.le_refl 0, Nat.le_refl 0⟩ dX12_parseScript_43 (ppw ?_)
        exact w_X12_parseScript_b46 C hrt hG  ih _ _ _ _ h
      · have h := ite_f c4 h
        refine fw_iload_n C dX12_parseScript_19 rfl 1 rfl ?_
        refine fw_bipush C dX12_parseScript_20 (v := 30) rfl ?_
        refine fw_icmp_lt C dX12_parseScript_22 (tgt := 33) rfl (fun c23 => ?_) (fun c23 => ?_)
        · have h := ite_t c23 h
          exact w_X12_parseScript_b33 C hrt hG  ih _ _ _ h
        · have h := ite_f c23 h
          refine fw_aload_n C dX12_parseScript_25 rfl 2 rfl ?_
          refine fw_iconst C dX12_parseScript_26 (v := 5) rfl ?_
          obtain ⟨r24, Y26, q25, h⟩ := bd2_some h
          refine fw_callVi C (ci := 10) (Cn := RX12) (Tc := TX12) (N := 19) (As := [.int 5]) (c_X12_wrong (gac (hG _ (List.mem_of_getElem? (i := 0) rfl)) ga0) q25) (cwV 1 (cx_ts C) gX12_parseScript_X12_wrong rfl rfl rfl (by decide +kernel) ⟨Nat.le_of_ble_eq_true rfl, Nat.le_of_ble_eq_true rfl⟩) rfl (hG _ (List.mem_of_getElem? (i := 0) rfl)) (of10_0 _) (ce10 T ad _ _) rfl (st := []) rfl (Nat.le_of_ble_eq_true rfl) ⟨Nat.le_refl 0, Nat.le_refl 0⟩ dX12_parseScript_27 (ppw ?_)
          refine fw_if_eq C dX12_parseScript_30 (tgt := 37) rfl (fun c27 => ?_) (fun c27 => ?_)
          · have h := ite_t c27 h
            refine fw_iconst C dX12_parseScript_37 (v := 0) rfl ?_
            refine fw_goto C dX12_parseScript_38 (tgt := 46) rfl ?_
            exact w_X12_parseScript_b46 C hrt hG  ih _ _ _ _ h
          · have h := ite_f c27 h
            exact w_X12_parseScript_b33 C hrt hG  ih _ _ _ h
set_option maxRecDepth 100000 in
set_option maxHeartbeats 4000000 in
theorem w_X12_parseScript {Y : Mem} (C : Cx p s m [.ref (ad 10 0 0)].toArray meth c cX12_parseScript 4 wsX12_parseScript RX12 N0 T D gr ad) (hrt : meth.sig.returnType = (some .int)) (hG : ∀ q ∈ [(10, 0)], q ∈ gr) {res : Int32 × Mem} (h : X12_parseScript Y = some res) : FW p l e (Rm 6) s m [.ref (ad 10 0 0)].toArray below meth c 4 N0 T D gr ad 0 0 (MQ below (va_Qi (fun r Y1 => (r, Y1) = res) (WB T D gr ad) (fun q => N0 ≤ q)) [.ref (ad 10 0 0)].toArray s 0 0 (fun q => N0 ≤ q)) Y 0 [(0, .ref (ad 10 0 0))] [] := by
  unfold X12_parseScript at h
  refine fw_iconst C dX12_parseScript_0 (v := 0) rfl ?_
  refine fw_istore_n C dX12_parseScript_1 rfl (by decide) (L' := [(1, .int 0), (0, .ref (ad 10 0 0))]) rfl ?_
  exact w_X12_parseScript_b2 C hrt hG   _ _ _ h
end
set_option maxRecDepth 100000 in
set_option maxHeartbeats 4000000 in
theorem c_X12_parseScript {l : Launch} {N0 : Nat} {T : Nat → ClassId} {D : va_G} {gr : List (Nat × Nat)} {ad : Nat → Nat → Nat → Nat} {Y : Mem} {res : Int32 × Mem} (hG : ∀ q ∈ [(10, 0)], q ∈ gr) (h : X12_parseScript Y = some res) : CI l yX12_parseScript wsX12_parseScript (Rm 6) N0 T D gr ad Y [.ref (ad 10 0 0)] (fun r Y1 => (r, Y1) = res) :=
  fw_body (by decide +kernel) rfl (Nat.le_of_ble_eq_true rfl) (fun p e s m below meth c C hrt => w_X12_parseScript C hrt hG  h)
theorem ly_X12_pass_12 : ∀ w ∈ u_ws RX12 TX12 19, w ∈ wsX12_pass := by decide +kernel
theorem fl_X12_pass_13 : Cond.fieldLink RX12 13 "RecipeSchedulerModel" "m" "[I" ∈ wsX12_pass := by decide +kernel
section
variable {p : Program} {l : Launch} {e : Env} {s : State} {m : MethodId} {below : List Frame} {meth : Method} {c : Code} {N0 : Nat} {T : Nat → ClassId} {D : va_G} {gr : List (Nat × Nat)} {ad : Nat → Nat → Nat → Nat}
set_option maxRecDepth 100000 in
set_option maxHeartbeats 4000000 in
theorem w_X12_pass_b42 {a1 : Int32} (C : Cx p s m [.ref (ad 10 0 0), .int a1].toArray meth c cX12_pass 3 wsX12_pass RX12 N0 T D gr ad) (hrt : meth.sig.returnType = (some .int)) (hG : ∀ q ∈ [(10, 0)], q ∈ gr) {res : Int32 × Mem} (Y : Mem) (s0 : Int32) (s1 : Int32) (h : X12_pass_b42 a1  Y s0 s1 = some res) : FW p l e (Rm 9) s m [.ref (ad 10 0 0), .int a1].toArray below meth c 3 N0 T D gr ad 0 0 (MQ below (va_Qi (fun r Y1 => (r, Y1) = res) (WB T D gr ad) (fun q => N0 ≤ q)) [.ref (ad 10 0 0), .int a1].toArray s 0 0 (fun q => N0 ≤ q)) Y 42 [(0, .ref (ad 10 0 0)), (1, .int a1)] [.int s0, .int s1, .ref (ad 10 0 0)] := by
  unfold X12_pass_b42 at h
  refine fw_iconst C dX12_pass_42 (v := 0) rfl ?_
  obtain ⟨r5, Y7, q6, h⟩ := bd2_some h
  refine fw_callVi C (ci := 10) (Cn := RX12) (Tc := TX12) (N := 19) (As := [.int s1, .int s0, .int 0]) (c_X12_fails (gac (hG _ (List.mem_of_getElem? (i := 0) rfl)) ga0) q6) (cwV 3 (cx_ts C) gX12_pass_X12_fails rfl rfl rfl (by decide +kernel) ⟨Nat.le_of_ble_eq_true rfl, Nat.le_of_ble_eq_true rfl⟩) rfl (hG _ (List.mem_of_getElem? (i := 0) rfl)) (of10_0 _) (ce10 T ad _ _) rfl (st := []) rfl (Nat.le_of_ble_eq_true rfl) ⟨Nat.le_refl 0, Nat.le_refl 0⟩ dX12_pass_43 (ppw ?_)
  refine fw_if_eq C dX12_pass_46 (tgt := 51) rfl (fun c8 => ?_) (fun c8 => ?_)
  · have h := ite_t c8 h
    refine fw_aload_n C dX12_pass_51 rfl 0 rfl ?_
    refine fw_iconst C dX12_pass_52 (v := 0) rfl ?_
    obtain ⟨Y11, q10, h⟩ := bd1_some h
    refine fw_callVv C (ci := 10) (Cn := RX12) (Tc := TX12) (N := 19) (As := [.int 0]) (c_X12_remember (gac (hG _ (List.mem_of_getElem? (i := 0) rfl)) ga0) q10) (cwV 1 (cx_ts C) gX12_pass_X12_remember rfl rfl rfl (by decide +kernel) ⟨Nat.le_of_ble_eq_true rfl, Nat.le_of_ble_eq_true rfl⟩) rfl (hG _ (List.mem_of_getElem? (i := 0) rfl)) (of10_0 _) (ce10 T ad _ _) rfl (st := []) rfl (Nat.le_of_ble_eq_true rfl) ⟨Nat.le_refl 0, Nat.le_refl 0⟩ dX12_pass_53 (ppv ?_)
    refine fw_aload_n C dX12_pass_56 rfl 0 rfl ?_
    refine fw_iload_n C dX12_pass_57 rfl 1 rfl ?_
    obtain ⟨r12, Y14, q13, h⟩ := bd2_some h
    refine fw_callVi C (ci := 10) (Cn := RX12) (Tc := TX12) (N := 19) (As := [.int a1]) (c_X12_passMinutes (gac (hG _ (List.mem_of_getElem? (i := 0) rfl)) ga0) q13) (cwV 1 (cx_ts C) gX12_pass_X12_passMinutes rfl rfl rfl (by decide +kernel) ⟨Nat.le_of_ble_eq_true rfl, Nat.le_of_ble_eq_true rfl⟩) rfl (hG _ (List.mem_of_getElem? (i := 0) rfl)) (of10_0 _) (ce10 T ad _ _) rfl (st := []) rfl (Nat.le_of_ble_eq_true rfl) ⟨Nat.le_refl 0, Nat.le_refl 0⟩ dX12_pass_58 (ppw ?_)
    exact fw_iret C hrt Y14 (Option.some.inj h) (fun t ht => ht) dX12_pass_61
  · have h := ite_f c8 h
    refine fw_iconst C dX12_pass_49 (v := 0) rfl ?_
    exact fw_iret C hrt Y7 (Option.some.inj h) (fun t ht => ht) dX12_pass_50
set_option maxRecDepth 100000 in
set_option maxHeartbeats 4000000 in
theorem w_X12_pass_b41 {a1 : Int32} (C : Cx p s m [.ref (ad 10 0 0), .int a1].toArray meth c cX12_pass 3 wsX12_pass RX12 N0 T D gr ad) (hrt : meth.sig.returnType = (some .int)) (hG : ∀ q ∈ [(10, 0)], q ∈ gr) {res : Int32 × Mem} (Y : Mem) (s0 : Int32) (h : X12_pass_b41 a1  Y s0 = some res) : FW p l e (Rm 9) s m [.ref (ad 10 0 0), .int a1].toArray below meth c 3 N0 T D gr ad 0 0 (MQ below (va_Qi (fun r Y1 => (r, Y1) = res) (WB T D gr ad) (fun q => N0 ≤ q)) [.ref (ad 10 0 0), .int a1].toArray s 0 0 (fun q => N0 ≤ q)) Y 41 [(0, .ref (ad 10 0 0)), (1, .int a1)] [.int s0, .ref (ad 10 0 0)] := by
  unfold X12_pass_b41 at h
  refine fw_iconst C dX12_pass_41 (v := 0) rfl ?_
  exact w_X12_pass_b42 C hrt hG   _ _ _ h
set_option maxRecDepth 100000 in
set_option maxHeartbeats 4000000 in
theorem w_X12_pass_b19 {a1 : Int32} (C : Cx p s m [.ref (ad 10 0 0), .int a1].toArray meth c cX12_pass 3 wsX12_pass RX12 N0 T D gr ad) (hrt : meth.sig.returnType = (some .int)) (hG : ∀ q ∈ [(10, 0)], q ∈ gr) {res : Int32 × Mem} (Y : Mem) (l2 : Int32) (s0 : Int32) (h : X12_pass_b19 a1  Y l2 s0 = some res) : FW p l e (Rm 9) s m [.ref (ad 10 0 0), .int a1].toArray below meth c 3 N0 T D gr ad 0 0 (MQ below (va_Qi (fun r Y1 => (r, Y1) = res) (WB T D gr ad) (fun q => N0 ≤ q)) [.ref (ad 10 0 0), .int a1].toArray s 0 0 (fun q => N0 ≤ q)) Y 19 [(2, .int l2), (0, .ref (ad 10 0 0)), (1, .int a1)] [.int s0, .ref (ad 10 0 0)] := by
  unfold X12_pass_b19 at h
  refine fw_iload_n C dX12_pass_19 rfl 0 rfl ?_
  refine fw_if_eq C dX12_pass_20 (tgt := 41) rfl (fun c4 => ?_) (fun c4 => ?_)
  · have h := ite_t c4 h
    refine fw_sub [1, 2] (L' := [(0, .ref (ad 10 0 0)), (1, .int a1)]) rfl ?_
    exact w_X12_pass_b41 C hrt hG   _ _ h
  · have h := ite_f c4 h
    refine fw_aload_n C dX12_pass_23 rfl 1 rfl ?_
    refine fw_get C (ci := 10) (Cn := RX12) (Tc := TX12) (N := 19) (j := 0) ly_X12_pass_12 rfl (hG _ (List.mem_of_getElem? (i := 0) rfl)) (of10_0 _) (ce10 T ad _ _) (by decide) (cx_ts C _ fl_X12_pass_13) (fun _ h => h) (v := .ref (ad 10 0 1)) rfl dX12_pass_24 ?_
    refine fw_iconst C dX12_pass_27 (v := 4) rfl ?_
    obtain ⟨b15, h⟩ := gd_some h
    refine fw_iald2 C (hG _ (List.mem_of_getElem? (i := 0) rfl)) (of10_1 _) (ca10_1 T ad _ _) b15 (Nat.le_of_ble_eq_true rfl) dX12_pass_28 ?_
    refine fw_iload_n C dX12_pass_29 rfl 2 rfl ?_
    refine fw_iadd C dX12_pass_30 ?_
    refine fw_sipush C dX12_pass_31 (v := 9999) rfl ?_
    refine fw_icmp_le C dX12_pass_34 (tgt := 41) rfl (fun c16 => ?_) (fun c16 => ?_)
    · have h := ite_t c16 h
      refine fw_sub [1, 2] (L' := [(0, .ref (ad 10 0 0)), (1, .int a1)]) rfl ?_
      exact w_X12_pass_b41 C hrt hG   _ _ h
    · have h := ite_f c16 h
      refine fw_iconst C dX12_pass_37 (v := 1) rfl ?_
      refine fw_goto C dX12_pass_38 (tgt := 42) rfl ?_
      refine fw_sub [1, 2] (L' := [(0, .ref (ad 10 0 0)), (1, .int a1)]) rfl ?_
      exact w_X12_pass_b42 C hrt hG   _ _ _ h
set_option maxRecDepth 100000 in
set_option maxHeartbeats 4000000 in
theorem w_X12_pass {Y : Mem} {a1 : Int32} (C : Cx p s m [.ref (ad 10 0 0), .int a1].toArray meth c cX12_pass 3 wsX12_pass RX12 N0 T D gr ad) (hrt : meth.sig.returnType = (some .int)) (hG : ∀ q ∈ [(10, 0)], q ∈ gr) {res : Int32 × Mem} (h : X12_pass Y a1 = some res) : FW p l e (Rm 9) s m [.ref (ad 10 0 0), .int a1].toArray below meth c 3 N0 T D gr ad 0 0 (MQ below (va_Qi (fun r Y1 => (r, Y1) = res) (WB T D gr ad) (fun q => N0 ≤ q)) [.ref (ad 10 0 0), .int a1].toArray s 0 0 (fun q => N0 ≤ q)) Y 0 [(0, .ref (ad 10 0 0)), (1, .int a1)] [] := by
  unfold X12_pass at h
  refine fw_iload_n C dX12_pass_0 rfl 1 rfl ?_
  refine fw_iconst C dX12_pass_1 (v := 1) rfl ?_
  refine fw_sipush C dX12_pass_2 (v := 200) rfl ?_
  obtain ⟨r1, q2, h⟩ := bd1_some h
  refine fw_callSi C (As := [.int a1, .int 1, .int 200]) (c_X12_in ga0 q2) (va_cwS 3 (cx_ts C) gX12_pass_X12_in rfl rfl rfl (by decide +kernel) ⟨Nat.le_of_ble_eq_true rfl, Nat.le_of_ble_eq_true rfl⟩) rfl (st := []) rfl (Nat.le_of_ble_eq_true rfl) ⟨Nat.le_refl 0, Nat.le_refl 0⟩ dX12_pass_5 (pp2 ?_)
  refine fw_istore_n C dX12_pass_8 rfl (by decide) (L' := [(2, .int r1), (0, .ref (ad 10 0 0)), (1, .int a1)]) rfl ?_
  refine fw_aload_n C dX12_pass_9 rfl 1 rfl ?_
  refine fw_iload_n C dX12_pass_10 rfl 0 rfl ?_
  refine fw_if_ne C dX12_pass_11 (tgt := 18) rfl (fun c3 => ?_) (fun c3 => ?_)
  · have h := ite_f c3 h
    refine fw_iconst C dX12_pass_18 (v := 0) rfl ?_
    exact w_X12_pass_b19 C hrt hG   _ _ _ h
  · have h := ite_t c3 h
    refine fw_iconst C dX12_pass_14 (v := 1) rfl ?_
    refine fw_goto C dX12_pass_15 (tgt := 19) rfl ?_
    exact w_X12_pass_b19 C hrt hG   _ _ _ h
end
set_option maxRecDepth 100000 in
set_option maxHeartbeats 4000000 in
theorem c_X12_pass {l : Launch} {N0 : Nat} {T : Nat → ClassId} {D : va_G} {gr : List (Nat × Nat)} {ad : Nat → Nat → Nat → Nat} {Y : Mem} {a1 : Int32} {res : Int32 × Mem} (hG : ∀ q ∈ [(10, 0)], q ∈ gr) (h : X12_pass Y a1 = some res) : CI l yX12_pass wsX12_pass (Rm 9) N0 T D gr ad Y [.ref (ad 10 0 0), .int a1] (fun r Y1 => (r, Y1) = res) :=
  fw_body (by decide +kernel) rfl (Nat.le_of_ble_eq_true rfl) (fun p e s m below meth c C hrt => w_X12_pass C hrt hG  h)
theorem ly_X12_pathLength_12 : ∀ w ∈ u_ws RX12 TX12 19, w ∈ wsX12_pathLength := by decide +kernel
theorem fl_X12_pathLength_42 : Cond.fieldLink RX12 42 "RecipeSchedulerModel" "paths" "[I" ∈ wsX12_pathLength := by decide +kernel
section
variable {p : Program} {l : Launch} {e : Env} {s : State} {m : MethodId} {below : List Frame} {meth : Method} {c : Code} {N0 : Nat} {T : Nat → ClassId} {D : va_G} {gr : List (Nat × Nat)} {ad : Nat → Nat → Nat → Nat}
set_option maxRecDepth 100000 in
set_option maxHeartbeats 4000000 in
theorem w_X12_pathLength_b14 {a1 : Int32} (C : Cx p s m [.ref (ad 10 0 0), .int a1].toArray meth c cX12_pathLength 2 wsX12_pathLength RX12 N0 T D gr ad) (hrt : meth.sig.returnType = (some .int)) (hG : ∀ q ∈ [(10, 0)], q ∈ gr) {res : Int32 × Mem} (Y : Mem) (s0 : Int32) (h : X12_pathLength_b14 a1  Y s0 = some res) : FW p l e (Rm 3) s m [.ref (ad 10 0 0), .int a1].toArray below meth c 2 N0 T D gr ad 0 0 (MQ below (va_Qi (fun r Y1 => (r, Y1) = res) (WB T D gr ad) (fun q => N0 ≤ q)) [.ref (ad 10 0 0), .int a1].toArray s 0 0 (fun q => N0 ≤ q)) Y 14 [(0, .ref (ad 10 0 0)), (1, .int a1)] [.int s0, .ref (ad 10 0 0)] := by
  unfold X12_pathLength_b14 at h
  refine fw_iconst C dX12_pathLength_14 (v := 0) rfl ?_
  refine fw_iconst C dX12_pathLength_15 (v := 0) rfl ?_
  obtain ⟨r4, Y6, q5, h⟩ := bd2_some h
  refine fw_callVi C (ci := 10) (Cn := RX12) (Tc := TX12) (N := 19) (As := [.int s0, .int 0, .int 0]) (c_X12_fails (gac (hG _ (List.mem_of_getElem? (i := 0) rfl)) ga0) q5) (cwV 3 (cx_ts C) gX12_pathLength_X12_fails rfl rfl rfl (by decide +kernel) ⟨Nat.le_of_ble_eq_true rfl, Nat.le_of_ble_eq_true rfl⟩) rfl (hG _ (List.mem_of_getElem? (i := 0) rfl)) (of10_0 _) (ce10 T ad _ _) rfl (st := []) rfl (Nat.le_of_ble_eq_true rfl) ⟨Nat.le_refl 0, Nat.le_refl 0⟩ dX12_pathLength_16 (ppw ?_)
  refine fw_if_eq C dX12_pathLength_19 (tgt := 24) rfl (fun c7 => ?_) (fun c7 => ?_)
  · have h := ite_t c7 h
    refine fw_aload_n C dX12_pathLength_24 rfl 0 rfl ?_
    obtain ⟨Y10, q9, h⟩ := bd1_some h
    refine fw_callVv C (ci := 10) (Cn := RX12) (Tc := TX12) (N := 19) (As := []) (c_X12_computePaths (gac (hG _ (List.mem_of_getElem? (i := 0) rfl)) ga0) q9) (cwV 0 (cx_ts C) gX12_pathLength_X12_computePaths rfl rfl rfl (by decide +kernel) ⟨Nat.le_of_ble_eq_true rfl, Nat.le_of_ble_eq_true rfl⟩) rfl (hG _ (List.mem_of_getElem? (i := 0) rfl)) (of10_0 _) (ce10 T ad _ _) rfl (st := []) rfl (Nat.le_of_ble_eq_true rfl) ⟨Nat.le_refl 0, Nat.le_refl 0⟩ dX12_pathLength_25 (ppv ?_)
    refine fw_aload_n C dX12_pathLength_28 rfl 0 rfl ?_
    refine fw_get C (ci := 10) (Cn := RX12) (Tc := TX12) (N := 19) (j := 10) ly_X12_pathLength_12 rfl (hG _ (List.mem_of_getElem? (i := 0) rfl)) (of10_0 _) (ce10 T ad _ _) (by decide) (cx_ts C _ fl_X12_pathLength_42) (fun _ h => h) (v := .ref (ad 10 0 5)) rfl dX12_pathLength_29 ?_
    refine fw_iload_n C dX12_pathLength_32 rfl 1 rfl ?_
    obtain ⟨b11, h⟩ := gd_some h
    refine fw_iald2 C (hG _ (List.mem_of_getElem? (i := 0) rfl)) (of10_5 _) (ca10_5 T ad _ _) b11 (Nat.le_of_ble_eq_true rfl) dX12_pathLength_33 ?_
    exact fw_iret C hrt Y10 (Option.some.inj h) (fun t ht => ht) dX12_pathLength_34
  · have h := ite_f c7 h
    refine fw_iconst C dX12_pathLength_22 (v := 0) rfl ?_
    exact fw_iret C hrt Y6 (Option.some.inj h) (fun t ht => ht) dX12_pathLength_23
set_option maxRecDepth 100000 in
set_option maxHeartbeats 4000000 in
theorem w_X12_pathLength {Y : Mem} {a1 : Int32} (C : Cx p s m [.ref (ad 10 0 0), .int a1].toArray meth c cX12_pathLength 2 wsX12_pathLength RX12 N0 T D gr ad) (hrt : meth.sig.returnType = (some .int)) (hG : ∀ q ∈ [(10, 0)], q ∈ gr) {res : Int32 × Mem} (h : X12_pathLength Y a1 = some res) : FW p l e (Rm 3) s m [.ref (ad 10 0 0), .int a1].toArray below meth c 2 N0 T D gr ad 0 0 (MQ below (va_Qi (fun r Y1 => (r, Y1) = res) (WB T D gr ad) (fun q => N0 ≤ q)) [.ref (ad 10 0 0), .int a1].toArray s 0 0 (fun q => N0 ≤ q)) Y 0 [(0, .ref (ad 10 0 0)), (1, .int a1)] [] := by
  unfold X12_pathLength at h
  refine fw_aload_n C dX12_pathLength_0 rfl 0 rfl ?_
  refine fw_aload_n C dX12_pathLength_1 rfl 0 rfl ?_
  refine fw_iload_n C dX12_pathLength_2 rfl 1 rfl ?_
  obtain ⟨r1, q2, h⟩ := bd1_some h
  refine fw_callVi C (ci := 10) (Cn := RX12) (Tc := TX12) (N := 19) (As := [.int a1]) (c_X12_isStep (gac (hG _ (List.mem_of_getElem? (i := 0) rfl)) ga0) q2) (cwV 1 (cx_ts C) gX12_pathLength_X12_isStep rfl rfl rfl (by decide +kernel) ⟨Nat.le_of_ble_eq_true rfl, Nat.le_of_ble_eq_true rfl⟩) rfl (hG _ (List.mem_of_getElem? (i := 0) rfl)) (of10_0 _) (ce10 T ad _ _) rfl (st := [.ref (ad 10 0 0)]) rfl (Nat.le_of_ble_eq_true rfl) ⟨Nat.le_refl 0, Nat.le_refl 0⟩ dX12_pathLength_3 (pp2 ?_)
  refine fw_if_ne C dX12_pathLength_6 (tgt := 13) rfl (fun c3 => ?_) (fun c3 => ?_)
  · have h := ite_f c3 h
    refine fw_iconst C dX12_pathLength_13 (v := 0) rfl ?_
    exact w_X12_pathLength_b14 C hrt hG   _ _ h
  · have h := ite_t c3 h
    refine fw_iconst C dX12_pathLength_9 (v := 1) rfl ?_
    refine fw_goto C dX12_pathLength_10 (tgt := 14) rfl ?_
    exact w_X12_pathLength_b14 C hrt hG   _ _ h
end
set_option maxRecDepth 100000 in
set_option maxHeartbeats 4000000 in
theorem c_X12_pathLength {l : Launch} {N0 : Nat} {T : Nat → ClassId} {D : va_G} {gr : List (Nat × Nat)} {ad : Nat → Nat → Nat → Nat} {Y : Mem} {a1 : Int32} {res : Int32 × Mem} (hG : ∀ q ∈ [(10, 0)], q ∈ gr) (h : X12_pathLength Y a1 = some res) : CI l yX12_pathLength wsX12_pathLength (Rm 3) N0 T D gr ad Y [.ref (ad 10 0 0), .int a1] (fun r Y1 => (r, Y1) = res) :=
  fw_body (by decide +kernel) rfl (Nat.le_of_ble_eq_true rfl) (fun p e s m below meth c C hrt => w_X12_pathLength C hrt hG  h)
section
variable {p : Program} {l : Launch} {e : Env} {s : State} {m : MethodId} {below : List Frame} {meth : Method} {c : Code} {N0 : Nat} {T : Nat → ClassId} {D : va_G} {gr : List (Nat × Nat)} {ad : Nat → Nat → Nat → Nat}
set_option maxRecDepth 100000 in
set_option maxHeartbeats 4000000 in
theorem w_X12_predecessor_b14 {a1 : Int32} {a2 : Int32} (C : Cx p s m [.ref (ad 10 0 0), .int a1, .int a2].toArray meth c cX12_predecessor 3 wsX12_predecessor RX12 N0 T D gr ad) (hrt : meth.sig.returnType = (some .int)) (hG : ∀ q ∈ [(10, 0)], q ∈ gr) {res : Int32 × Mem} (Y : Mem) (s0 : Int32) (h : X12_predecessor_b14 a1 a2  Y s0 = some res) : FW p l e (Rm 2) s m [.ref (ad 10 0 0), .int a1, .int a2].toArray below meth c 3 N0 T D gr ad 0 0 (MQ below (va_Qi (fun r Y1 => (r, Y1) = res) (WB T D gr ad) (fun q => N0 ≤ q)) [.ref (ad 10 0 0), .int a1, .int a2].toArray s 0 0 (fun q => N0 ≤ q)) Y 14 [(0, .ref (ad 10 0 0)), (1, .int a1), (2, .int a2)] [.int s0, .ref (ad 10 0 0)] := by
  unfold X12_predecessor_b14 at h
  refine fw_iconst C dX12_predecessor_14 (v := 0) rfl ?_
  refine fw_iconst C dX12_predecessor_15 (v := 0) rfl ?_
  obtain ⟨r4, Y6, q5, h⟩ := bd2_some h
  refine fw_callVi C (ci := 10) (Cn := RX12) (Tc := TX12) (N := 19) (As := [.int s0, .int 0, .int 0]) (c_X12_fails (gac (hG _ (List.mem_of_getElem? (i := 0) rfl)) ga0) q5) (cwV 3 (cx_ts C) gX12_predecessor_X12_fails rfl rfl rfl (by decide +kernel) ⟨Nat.le_of_ble_eq_true rfl, Nat.le_of_ble_eq_true rfl⟩) rfl (hG _ (List.mem_of_getElem? (i := 0) rfl)) (of10_0 _) (ce10 T ad _ _) rfl (st := []) rfl (Nat.le_of_ble_eq_true rfl) ⟨Nat.le_refl 0, Nat.le_refl 0⟩ dX12_predecessor_16 (ppw ?_)
  refine fw_if_eq C dX12_predecessor_19 (tgt := 24) rfl (fun c7 => ?_) (fun c7 => ?_)
  · have h := ite_t c7 h
    refine fw_iload_n C dX12_predecessor_24 rfl 2 rfl ?_
    refine fw_iconst C dX12_predecessor_25 (v := 0) rfl ?_
    refine fw_aload_n C dX12_predecessor_26 rfl 0 rfl ?_
    refine fw_iload_n C dX12_predecessor_27 rfl 1 rfl ?_
    refine fw_bipush C dX12_predecessor_28 (v := 12) rfl ?_
    obtain ⟨r8, q9, h⟩ := bd1_some h
    refine fw_callVi C (ci := 10) (Cn := RX12) (Tc := TX12) (N := 19) (As := [.int a1, .int 12]) (c_X12_of (gac (hG _ (List.mem_of_getElem? (i := 0) rfl)) ga0) q9) (cwV 2 (cx_ts C) gX12_predecessor_X12_of rfl rfl rfl (by decide +kernel) ⟨Nat.le_of_ble_eq_true rfl, Nat.le_of_ble_eq_true rfl⟩) rfl (hG _ (List.mem_of_getElem? (i := 0) rfl)) (of10_0 _) (ce10 T ad _ _) rfl (st := [.int 0, .int a2]) rfl (Nat.le_of_ble_eq_true rfl) ⟨Nat.le_refl 0, Nat.le_refl 0⟩ dX12_predecessor_30 (pp2 ?_)
    refine fw_iconst C dX12_predecessor_33 (v := 1) rfl ?_
    refine fw_isub C dX12_predecessor_34 ?_
    obtain ⟨r10, q11, h⟩ := bd1_some h
    refine fw_callSi C (As := [.int a2, .int 0, .int (r8 - 1)]) (c_X12_in ga0 q11) (va_cwS 3 (cx_ts C) gX12_predecessor_X12_in rfl rfl rfl (by decide +kernel) ⟨Nat.le_of_ble_eq_true rfl, Nat.le_of_ble_eq_true rfl⟩) rfl (st := []) rfl (Nat.le_of_ble_eq_true rfl) ⟨Nat.le_refl 0, Nat.le_refl 0⟩ dX12_predecessor_35 (pp2 ?_)
    refine fw_if_eq C dX12_predecessor_38 (tgt := 53) rfl (fun c12 => ?_) (fun c12 => ?_)
    · have h := ite_t c12 h
      refine fw_iconst C dX12_predecessor_53 (v := (-1)) rfl ?_
      exact fw_iret C hrt Y6 (Option.some.inj h) (fun t ht => ht) dX12_predecessor_54
    · have h := ite_f c12 h
      refine fw_aload_n C dX12_predecessor_41 rfl 0 rfl ?_
      refine fw_iload_n C dX12_predecessor_42 rfl 1 rfl ?_
      refine fw_bipush C dX12_predecessor_43 (v := 13) rfl ?_
      refine fw_iload_n C dX12_predecessor_45 rfl 2 rfl ?_
      refine fw_iadd C dX12_predecessor_46 ?_
      obtain ⟨r13, q14, h⟩ := bd1_some h
      refine fw_callVi C (ci := 10) (Cn := RX12) (Tc := TX12) (N := 19) (As := [.int a1, .int (13 + a2)]) (c_X12_of (gac (hG _ (List.mem_of_getElem? (i := 0) rfl)) ga0) q14) (cwV 2 (cx_ts C) gX12_predecessor_X12_of rfl rfl rfl (by decide +kernel) ⟨Nat.le_of_ble_eq_true rfl, Nat.le_of_ble_eq_true rfl⟩) rfl (hG _ (List.mem_of_getElem? (i := 0) rfl)) (of10_0 _) (ce10 T ad _ _) rfl (st := []) rfl (Nat.le_of_ble_eq_true rfl) ⟨Nat.le_refl 0, Nat.le_refl 0⟩ dX12_predecessor_47 (pp2 ?_)
      refine fw_goto C dX12_predecessor_50 (tgt := 54) rfl ?_
      exact fw_iret C hrt Y6 (Option.some.inj h) (fun t ht => ht) dX12_predecessor_54
  · have h := ite_f c7 h
    refine fw_iconst C dX12_predecessor_22 (v := 0) rfl ?_
    exact fw_iret C hrt Y6 (Option.some.inj h) (fun t ht => ht) dX12_predecessor_23
set_option maxRecDepth 100000 in
set_option maxHeartbeats 4000000 in
theorem w_X12_predecessor {Y : Mem} {a1 : Int32} {a2 : Int32} (C : Cx p s m [.ref (ad 10 0 0), .int a1, .int a2].toArray meth c cX12_predecessor 3 wsX12_predecessor RX12 N0 T D gr ad) (hrt : meth.sig.returnType = (some .int)) (hG : ∀ q ∈ [(10, 0)], q ∈ gr) {res : Int32 × Mem} (h : X12_predecessor Y a1 a2 = some res) : FW p l e (Rm 2) s m [.ref (ad 10 0 0), .int a1, .int a2].toArray below meth c 3 N0 T D gr ad 0 0 (MQ below (va_Qi (fun r Y1 => (r, Y1) = res) (WB T D gr ad) (fun q => N0 ≤ q)) [.ref (ad 10 0 0), .int a1, .int a2].toArray s 0 0 (fun q => N0 ≤ q)) Y 0 [(0, .ref (ad 10 0 0)), (1, .int a1), (2, .int a2)] [] := by
  unfold X12_predecessor at h
  refine fw_aload_n C dX12_predecessor_0 rfl 0 rfl ?_
  refine fw_aload_n C dX12_predecessor_1 rfl 0 rfl ?_
  refine fw_iload_n C dX12_predecessor_2 rfl 1 rfl ?_
  obtain ⟨r1, q2, h⟩ := bd1_some h
  refine fw_callVi C (ci := 10) (Cn := RX12) (Tc := TX12) (N := 19) (As := [.int a1]) (c_X12_isStep (gac (hG _ (List.mem_of_getElem? (i := 0) rfl)) ga0) q2) (cwV 1 (cx_ts C) gX12_predecessor_X12_isStep rfl rfl rfl (by decide +kernel) ⟨Nat.le_of_ble_eq_true rfl, Nat.le_of_ble_eq_true rfl⟩) rfl (hG _ (List.mem_of_getElem? (i := 0) rfl)) (of10_0 _) (ce10 T ad _ _) rfl (st := [.ref (ad 10 0 0)]) rfl (Nat.le_of_ble_eq_true rfl) ⟨Nat.le_refl 0, Nat.le_refl 0⟩ dX12_predecessor_3 (pp2 ?_)
  refine fw_if_ne C dX12_predecessor_6 (tgt := 13) rfl (fun c3 => ?_) (fun c3 => ?_)
  · have h := ite_f c3 h
    refine fw_iconst C dX12_predecessor_13 (v := 0) rfl ?_
    exact w_X12_predecessor_b14 C hrt hG   _ _ h
  · have h := ite_t c3 h
    refine fw_iconst C dX12_predecessor_9 (v := 1) rfl ?_
    refine fw_goto C dX12_predecessor_10 (tgt := 14) rfl ?_
    exact w_X12_predecessor_b14 C hrt hG   _ _ h
end
set_option maxRecDepth 100000 in
set_option maxHeartbeats 4000000 in
theorem c_X12_predecessor {l : Launch} {N0 : Nat} {T : Nat → ClassId} {D : va_G} {gr : List (Nat × Nat)} {ad : Nat → Nat → Nat → Nat} {Y : Mem} {a1 : Int32} {a2 : Int32} {res : Int32 × Mem} (hG : ∀ q ∈ [(10, 0)], q ∈ gr) (h : X12_predecessor Y a1 a2 = some res) : CI l yX12_predecessor wsX12_predecessor (Rm 2) N0 T D gr ad Y [.ref (ad 10 0 0), .int a1, .int a2] (fun r Y1 => (r, Y1) = res) :=
  fw_body (by decide +kernel) rfl (Nat.le_of_ble_eq_true rfl) (fun p e s m below meth c C hrt => w_X12_predecessor C hrt hG  h)
theorem ly_X12_put_12 : ∀ w ∈ u_ws RX12 TX12 19, w ∈ wsX12_put := by decide +kernel
theorem fl_X12_put_36 : Cond.fieldLink RX12 36 "RecipeSchedulerModel" "written" "[I" ∈ wsX12_put := by decide +kernel
theorem fl_X12_put_39 : Cond.fieldLink RX12 39 "RecipeSchedulerModel" "writtenLength" "I" ∈ wsX12_put := by decide +kernel
section
variable {p : Program} {l : Launch} {e : Env} {s : State} {m : MethodId} {below : List Frame} {meth : Method} {c : Code} {N0 : Nat} {T : Nat → ClassId} {D : va_G} {gr : List (Nat × Nat)} {ad : Nat → Nat → Nat → Nat}
set_option maxRecDepth 100000 in
set_option maxHeartbeats 4000000 in
theorem w_X12_put {Y : Mem} {a1 : Int32} (C : Cx p s m [.ref (ad 10 0 0), .int a1].toArray meth c cX12_put 2 wsX12_put RX12 N0 T D gr ad) (hrt : meth.sig.returnType = none) (hG : ∀ q ∈ [(10, 0)], q ∈ gr) {res : Mem} (h : X12_put Y a1 = some res) : FW p l e (Rm 0) s m [.ref (ad 10 0 0), .int a1].toArray below meth c 2 N0 T D gr ad 0 0 (MQ below (va_Qv (fun Y1 => Y1 = res) (WB T D gr ad) (fun q => N0 ≤ q)) [.ref (ad 10 0 0), .int a1].toArray s 0 0 (fun q => N0 ≤ q)) Y 0 [(0, .ref (ad 10 0 0)), (1, .int a1)] [] := by
  unfold X12_put at h
  refine fw_aload_n C dX12_put_0 rfl 0 rfl ?_
  refine fw_get C (ci := 10) (Cn := RX12) (Tc := TX12) (N := 19) (j := 7) ly_X12_put_12 rfl (hG _ (List.mem_of_getElem? (i := 0) rfl)) (of10_0 _) (ce10 T ad _ _) (by decide) (cx_ts C _ fl_X12_put_36) (fun _ h => h) (v := .ref (ad 10 0 4)) rfl dX12_put_1 ?_
  refine fw_aload_n C dX12_put_4 rfl 0 rfl ?_
  refine fw_get C (ci := 10) (Cn := RX12) (Tc := TX12) (N := 19) (j := 8) ly_X12_put_12 rfl (hG _ (List.mem_of_getElem? (i := 0) rfl)) (of10_0 _) (ce10 T ad _ _) (by decide) (cx_ts C _ fl_X12_put_39) (fun _ h => h) (v := .int (Y 10 0 0 8)) rfl dX12_put_5 ?_
  refine fw_iload_n C dX12_put_8 rfl 1 rfl ?_
  obtain ⟨b1, h⟩ := gd_some h
  obtain ⟨Y2, e3, h⟩ := lt_some h
  refine fw_iast2 C (hG _ (List.mem_of_getElem? (i := 0) rfl)) (of10_4 _) (ca10_4 T ad _) b1 (Nat.le_of_ble_eq_true rfl) dX12_put_9 ?_
  refine fw_mem e3 ?_
  refine fw_aload_n C dX12_put_10 rfl 0 rfl ?_
  refine fw_dup C dX12_put_11 rfl ?_
  refine fw_get C (ci := 10) (Cn := RX12) (Tc := TX12) (N := 19) (j := 8) ly_X12_put_12 rfl (hG _ (List.mem_of_getElem? (i := 0) rfl)) (of10_0 _) (ce10 T ad _ _) (by decide) (cx_ts C _ fl_X12_put_39) (fun _ h => h) (v := .int (Y2 10 0 0 8)) rfl dX12_put_12 ?_
  refine fw_iconst C dX12_put_15 (v := 1) rfl ?_
  refine fw_iadd C dX12_put_16 ?_
  obtain ⟨Y4, e5, h⟩ := lt_some h
  refine fw_put C (ci := 10) (Cn := RX12) (Tc := TX12) (N := 19) (j := 8) (ty := .int) (upd (Y2 10 0 0) 8 ((Y2 10 0 0 8) + 1)) ly_X12_put_12 rfl tyX12_ok nmX12 (hG _ (List.mem_of_getElem? (i := 0) rfl)) (of10_0 _) (ce10 T ad _ _) (by decide) (cx_ts C _ fl_X12_put_39) (fun _ h => h) rfl (by decide +kernel) rfl rfl (Nat.le_of_ble_eq_true rfl) (ce10_put8 T ad _ _ _) dX12_put_17 ?_
  refine fw_mem ((up_eq _ _ _ _ _ _).symm.trans e5) ?_
  exact fw_vret C hrt Y4 (Option.some.inj h) (fun t ht => ht) dX12_put_20
end
set_option maxRecDepth 100000 in
set_option maxHeartbeats 4000000 in
theorem c_X12_put {l : Launch} {N0 : Nat} {T : Nat → ClassId} {D : va_G} {gr : List (Nat × Nat)} {ad : Nat → Nat → Nat → Nat} {Y : Mem} {a1 : Int32} {res : Mem} (hG : ∀ q ∈ [(10, 0)], q ∈ gr) (h : X12_put Y a1 = some res) : CV l yX12_put wsX12_put (Rm 0) N0 T D gr ad Y [.ref (ad 10 0 0), .int a1] (fun Y1 => Y1 = res) :=
  fw_body (by decide +kernel) rfl (Nat.le_of_ble_eq_true rfl) (fun p e s m below meth c C hrt => w_X12_put C hrt hG  h)
section
variable {p : Program} {l : Launch} {e : Env} {s : State} {m : MethodId} {below : List Frame} {meth : Method} {c : Code} {N0 : Nat} {T : Nat → ClassId} {D : va_G} {gr : List (Nat × Nat)} {ad : Nat → Nat → Nat → Nat}
set_option maxRecDepth 100000 in
set_option maxHeartbeats 4000000 in
theorem w_X12_putMark_b70 {a1 : Int32} (C : Cx p s m [.ref (ad 10 0 0), .int a1].toArray meth c cX12_putMark 2 wsX12_putMark RX12 N0 T D gr ad) (hrt : meth.sig.returnType = none) (hG : ∀ q ∈ [(10, 0)], q ∈ gr) {res : Mem} (Y : Mem) (h : X12_putMark_b70 a1  Y = some res) : FW p l e (Rm 1) s m [.ref (ad 10 0 0), .int a1].toArray below meth c 2 N0 T D gr ad 0 0 (MQ below (va_Qv (fun Y1 => Y1 = res) (WB T D gr ad) (fun q => N0 ≤ q)) [.ref (ad 10 0 0), .int a1].toArray s 0 0 (fun q => N0 ≤ q)) Y 70 [(0, .ref (ad 10 0 0)), (1, .int a1)] [] := by
  unfold X12_putMark_b70 at h
  refine fw_aload_n C dX12_putMark_70 rfl 0 rfl ?_
  refine fw_bipush C dX12_putMark_71 (v := 48) rfl ?_
  refine fw_aload_n C dX12_putMark_73 rfl 0 rfl ?_
  refine fw_iload_n C dX12_putMark_74 rfl 1 rfl ?_
  refine fw_bipush C dX12_putMark_75 (v := 18) rfl ?_
  obtain ⟨r11, q12, h⟩ := bd1_some h
  refine fw_callVi C (ci := 10) (Cn := RX12) (Tc := TX12) (N := 19) (As := [.int a1, .int 18]) (c_X12_of (gac (hG _ (List.mem_of_getElem? (i := 0) rfl)) ga0) q12) (cwV 2 (cx_ts C) gX12_putMark_X12_of rfl rfl rfl (by decide +kernel) ⟨Nat.le_of_ble_eq_true rfl, Nat.le_of_ble_eq_true rfl⟩) rfl (hG _ (List.mem_of_getElem? (i := 0) rfl)) (of10_0 _) (ce10 T ad _ _) rfl (st := [.int 48, .ref (ad 10 0 0)]) rfl (Nat.le_of_ble_eq_true rfl) ⟨Nat.le_refl 0, Nat.le_refl 0⟩ dX12_putMark_77 (pp2 ?_)
  refine fw_bipush C dX12_putMark_80 (v := 10) rfl ?_
  refine fw_irem C dX12_putMark_82 (by decide) ?_
  refine fw_iadd C dX12_putMark_83 ?_
  obtain ⟨Y15, q14, h⟩ := bd1_some h
  refine fw_callVv C (ci := 10) (Cn := RX12) (Tc := TX12) (N := 19) (As := [.int (48 + (r11 - r11 / 10 * 10))]) (c_X12_put (gac (hG _ (List.mem_of_getElem? (i := 0) rfl)) ga0) q14) (cwV 1 (cx_ts C) gX12_putMark_X12_put rfl rfl rfl (by decide +kernel) ⟨Nat.le_of_ble_eq_true rfl, Nat.le_of_ble_eq_true rfl⟩) rfl (hG _ (List.mem_of_getElem? (i := 0) rfl)) (of10_0 _) (ce10 T ad _ _) rfl (st := []) rfl (Nat.le_of_ble_eq_true rfl) ⟨Nat.le_refl 0, Nat.le_refl 0⟩ dX12_putMark_84 (ppv ?_)
  refine fw_goto C dX12_putMark_87 (tgt := 105) rfl ?_
  exact fw_vret C hrt Y15 (Option.some.inj h) (fun t ht => ht) dX12_putMark_105
set_option maxRecDepth 100000 in
set_option maxHeartbeats 4000000 in
theorem w_X12_putMark {Y : Mem} {a1 : Int32} (C : Cx p s m [.ref (ad 10 0 0), .int a1].toArray meth c cX12_putMark 2 wsX12_putMark RX12 N0 T D gr ad) (hrt : meth.sig.returnType = none) (hG : ∀ q ∈ [(10, 0)], q ∈ gr) {res : Mem} (h : X12_putMark Y a1 = some res) : FW p l e (Rm 1) s m [.ref (ad 10 0 0), .int a1].toArray below meth c 2 N0 T D gr ad 0 0 (MQ below (va_Qv (fun Y1 => Y1 = res) (WB T D gr ad) (fun q => N0 ≤ q)) [.ref (ad 10 0 0), .int a1].toArray s 0 0 (fun q => N0 ≤ q)) Y 0 [(0, .ref (ad 10 0 0)), (1, .int a1)] [] := by
  unfold X12_putMark at h
  refine fw_aload_n C dX12_putMark_0 rfl 0 rfl ?_
  refine fw_iload_n C dX12_putMark_1 rfl 1 rfl ?_
  refine fw_bipush C dX12_putMark_2 (v := 17) rfl ?_
  obtain ⟨r1, q2, h⟩ := bd1_some h
  refine fw_callVi C (ci := 10) (Cn := RX12) (Tc := TX12) (N := 19) (As := [.int a1, .int 17]) (c_X12_of (gac (hG _ (List.mem_of_getElem? (i := 0) rfl)) ga0) q2) (cwV 2 (cx_ts C) gX12_putMark_X12_of rfl rfl rfl (by decide +kernel) ⟨Nat.le_of_ble_eq_true rfl, Nat.le_of_ble_eq_true rfl⟩) rfl (hG _ (List.mem_of_getElem? (i := 0) rfl)) (of10_0 _) (ce10 T ad _ _) rfl (st := []) rfl (Nat.le_of_ble_eq_true rfl) ⟨Nat.le_refl 0, Nat.le_refl 0⟩ dX12_putMark_4 (pp2 ?_)
  by_cases c3 : r1 = 0
  · have h := ite_t c3 h
    refine fw_tableIn C dX12_putMark_7 (by rw [c3]; decide) (by rw [c3]; decide) (off := 25) (by rw [c3]; rfl) (tgt := 32) rfl ?_
    refine fw_aload_n C dX12_putMark_32 rfl 0 rfl ?_
    refine fw_bipush C dX12_putMark_33 (v := 46) rfl ?_
    obtain ⟨Y6, q5, h⟩ := bd1_some h
    refine fw_callVv C (ci := 10) (Cn := RX12) (Tc := TX12) (N := 19) (As := [.int 46]) (c_X12_put (gac (hG _ (List.mem_of_getElem? (i := 0) rfl)) ga0) q5) (cwV 1 (cx_ts C) gX12_putMark_X12_put rfl rfl rfl (by decide +kernel) ⟨Nat.le_of_ble_eq_true rfl, Nat.le_of_ble_eq_true rfl⟩) rfl (hG _ (List.mem_of_getElem? (i := 0) rfl)) (of10_0 _) (ce10 T ad _ _) rfl (st := []) rfl (Nat.le_of_ble_eq_true rfl) ⟨Nat.le_refl 0, Nat.le_refl 0⟩ dX12_putMark_35 (ppv ?_)
    refine fw_goto C dX12_putMark_38 (tgt := 105) rfl ?_
    exact fw_vret C hrt Y6 (Option.some.inj h) (fun t ht => ht) dX12_putMark_105
  · have h := ite_f c3 h
    by_cases c7 : r1 = 1
    · have h := ite_t c7 h
      refine fw_tableIn C dX12_putMark_7 (by rw [c7]; decide) (by rw [c7]; decide) (off := 34) (by rw [c7]; rfl) (tgt := 41) rfl ?_
      refine fw_aload_n C dX12_putMark_41 rfl 0 rfl ?_
      refine fw_iload_n C dX12_putMark_42 rfl 1 rfl ?_
      refine fw_bipush C dX12_putMark_43 (v := 18) rfl ?_
      obtain ⟨r8, q9, h⟩ := bd1_some h
      refine fw_callVi C (ci := 10) (Cn := RX12) (Tc := TX12) (N := 19) (As := [.int a1, .int 18]) (c_X12_of (gac (hG _ (List.mem_of_getElem? (i := 0) rfl)) ga0) q9) (cwV 2 (cx_ts C) gX12_putMark_X12_of rfl rfl rfl (by decide +kernel) ⟨Nat.le_of_ble_eq_true rfl, Nat.le_of_ble_eq_true rfl⟩) rfl (hG _ (List.mem_of_getElem? (i := 0) rfl)) (of10_0 _) (ce10 T ad _ _) rfl (st := []) rfl (Nat.le_of_ble_eq_true rfl) ⟨Nat.le_refl 0, Nat.le_refl 0⟩ dX12_putMark_45 (pp2 ?_)
      refine fw_bipush C dX12_putMark_48 (v := 10) rfl ?_
      refine fw_icmp_lt C dX12_putMark_50 (tgt := 70) rfl (fun c10 => ?_) (fun c10 => ?_)
      · have h := ite_t c10 h
        exact w_X12_putMark_b70 C hrt hG   _ h
      · have h := ite_f c10 h
        refine fw_aload_n C dX12_putMark_53 rfl 0 rfl ?_
        refine fw_bipush C dX12_putMark_54 (v := 48) rfl ?_
        refine fw_aload_n C dX12_putMark_56 rfl 0 rfl ?_
        refine fw_iload_n C dX12_putMark_57 rfl 1 rfl ?_
        refine fw_bipush C dX12_putMark_58 (v := 18) rfl ?_
        obtain ⟨r16, q17, h⟩ := bd1_some h
        refine fw_callVi C (ci := 10) (Cn := RX12) (Tc := TX12) (N := 19) (As := [.int a1, .int 18]) (c_X12_of (gac (hG _ (List.mem_of_getElem? (i := 0) rfl)) ga0) q17) (cwV 2 (cx_ts C) gX12_putMark_X12_of rfl rfl rfl (by decide +kernel) ⟨Nat.le_of_ble_eq_true rfl, Nat.le_of_ble_eq_true rfl⟩) rfl (hG _ (List.mem_of_getElem? (i := 0) rfl)) (of10_0 _) (ce10 T ad _ _) rfl (st := [.int 48, .ref (ad 10 0 0)]) rfl (Nat.le_of_ble_eq_true rfl) ⟨Nat.le_refl 0, Nat.le_refl 0⟩ dX12_putMark_60 (pp2 ?_)
        refine fw_bipush C dX12_putMark_63 (v := 10) rfl ?_
        refine fw_idiv C dX12_putMark_65 (by decide) ?_
        refine fw_iadd C dX12_putMark_66 ?_
        obtain ⟨Y20, q19, h⟩ := bd1_some h
        refine fw_callVv C (ci := 10) (Cn := RX12) (Tc := TX12) (N := 19) (As := [.int (48 + (r16 / 10))]) (c_X12_put (gac (hG _ (List.mem_of_getElem? (i := 0) rfl)) ga0) q19) (cwV 1 (cx_ts C) gX12_putMark_X12_put rfl rfl rfl (by decide +kernel) ⟨Nat.le_of_ble_eq_true rfl, Nat.le_of_ble_eq_true rfl⟩) rfl (hG _ (List.mem_of_getElem? (i := 0) rfl)) (of10_0 _) (ce10 T ad _ _) rfl (st := []) rfl (Nat.le_of_ble_eq_true rfl) ⟨Nat.le_refl 0, Nat.le_refl 0⟩ dX12_putMark_67 (ppv ?_)
        exact w_X12_putMark_b70 C hrt hG   _ h
    · have h := ite_f c7 h
      by_cases c21 : r1 = 2
      · have h := ite_t c21 h
        refine fw_tableIn C dX12_putMark_7 (by rw [c21]; decide) (by rw [c21]; decide) (off := 83) (by rw [c21]; rfl) (tgt := 90) rfl ?_
        refine fw_aload_n C dX12_putMark_90 rfl 0 rfl ?_
        refine fw_bipush C dX12_putMark_91 (v := 61) rfl ?_
        obtain ⟨Y24, q23, h⟩ := bd1_some h
        refine fw_callVv C (ci := 10) (Cn := RX12) (Tc := TX12) (N := 19) (As := [.int 61]) (c_X12_put (gac (hG _ (List.mem_of_getElem? (i := 0) rfl)) ga0) q23) (cwV 1 (cx_ts C) gX12_putMark_X12_put rfl rfl rfl (by decide +kernel) ⟨Nat.le_of_ble_eq_true rfl, Nat.le_of_ble_eq_true rfl⟩) rfl (hG _ (List.mem_of_getElem? (i := 0) rfl)) (of10_0 _) (ce10 T ad _ _) rfl (st := []) rfl (Nat.le_of_ble_eq_true rfl) ⟨Nat.le_refl 0, Nat.le_refl 0⟩ dX12_putMark_93 (ppv ?_)
        refine fw_goto C dX12_putMark_96 (tgt := 105) rfl ?_
        exact fw_vret C hrt Y24 (Option.some.inj h) (fun t ht => ht) dX12_putMark_105
      · have h := ite_f c21 h
        have c3 : ¬ (r1).toInt = 0 := fun q => c3 (Int32.toInt_inj.mp (by rw [q]; rfl))
        have c7 : ¬ (r1).toInt = 1 := fun q => c7 (Int32.toInt_inj.mp (by rw [q]; rfl))
        have c21 : ¬ (r1).toInt = 2 := fun q => c21 (Int32.toInt_inj.mp (by rw [q]; rfl))
        refine fw_tableOut C dX12_putMark_7 (by omega) (tgt := 99) rfl ?_
        refine fw_aload_n C dX12_putMark_99 rfl 0 rfl ?_
        refine fw_bipush C dX12_putMark_100 (v := 42) rfl ?_
        obtain ⟨Y27, q26, h⟩ := bd1_some h
        refine fw_callVv C (ci := 10) (Cn := RX12) (Tc := TX12) (N := 19) (As := [.int 42]) (c_X12_put (gac (hG _ (List.mem_of_getElem? (i := 0) rfl)) ga0) q26) (cwV 1 (cx_ts C) gX12_putMark_X12_put rfl rfl rfl (by decide +kernel) ⟨Nat.le_of_ble_eq_true rfl, Nat.le_of_ble_eq_true rfl⟩) rfl (hG _ (List.mem_of_getElem? (i := 0) rfl)) (of10_0 _) (ce10 T ad _ _) rfl (st := []) rfl (Nat.le_of_ble_eq_true rfl) ⟨Nat.le_refl 0, Nat.le_refl 0⟩ dX12_putMark_102 (ppv ?_)
        exact fw_vret C hrt Y27 (Option.some.inj h) (fun t ht => ht) dX12_putMark_105
end
set_option maxRecDepth 100000 in
set_option maxHeartbeats 4000000 in
theorem c_X12_putMark {l : Launch} {N0 : Nat} {T : Nat → ClassId} {D : va_G} {gr : List (Nat × Nat)} {ad : Nat → Nat → Nat → Nat} {Y : Mem} {a1 : Int32} {res : Mem} (hG : ∀ q ∈ [(10, 0)], q ∈ gr) (h : X12_putMark Y a1 = some res) : CV l yX12_putMark wsX12_putMark (Rm 1) N0 T D gr ad Y [.ref (ad 10 0 0), .int a1] (fun Y1 => Y1 = res) :=
  fw_body (by decide +kernel) rfl (Nat.le_of_ble_eq_true rfl) (fun p e s m below meth c C hrt => w_X12_putMark C hrt hG  h)
theorem ly_X12_readyStep_12 : ∀ w ∈ u_ws RX12 TX12 19, w ∈ wsX12_readyStep := by decide +kernel
theorem fl_X12_readyStep_1 : Cond.fieldLink RX12 1 "RecipeSchedulerModel" "thrown" "I" ∈ wsX12_readyStep := by decide +kernel
theorem fl_X12_readyStep_51 : Cond.fieldLink RX12 51 "RecipeSchedulerModel" "queue" "[I" ∈ wsX12_readyStep := by decide +kernel
section
variable {p : Program} {l : Launch} {e : Env} {s : State} {m : MethodId} {below : List Frame} {meth : Method} {c : Code} {N0 : Nat} {T : Nat → ClassId} {D : va_G} {gr : List (Nat × Nat)} {ad : Nat → Nat → Nat → Nat}
set_option maxRecDepth 100000 in
set_option maxHeartbeats 4000000 in
theorem w_X12_readyStep {Y : Mem} {a1 : Int32} (C : Cx p s m [.ref (ad 10 0 0), .int a1].toArray meth c cX12_readyStep 2 wsX12_readyStep RX12 N0 T D gr ad) (hrt : meth.sig.returnType = (some .int)) (hG : ∀ q ∈ [(10, 0)], q ∈ gr) {res : Int32 × Mem} (h : X12_readyStep Y a1 = some res) : FW p l e (Rm 4) s m [.ref (ad 10 0 0), .int a1].toArray below meth c 2 N0 T D gr ad 0 0 (MQ below (va_Qi (fun r Y1 => (r, Y1) = res) (WB T D gr ad) (fun q => N0 ≤ q)) [.ref (ad 10 0 0), .int a1].toArray s 0 0 (fun q => N0 ≤ q)) Y 0 [(0, .ref (ad 10 0 0)), (1, .int a1)] [] := by
  unfold X12_readyStep at h
  refine fw_aload_n C dX12_readyStep_0 rfl 0 rfl ?_
  refine fw_iconst C dX12_readyStep_1 (v := 0) rfl ?_
  obtain ⟨Y1, e2, h⟩ := lt_some h
  refine fw_put C (ci := 10) (Cn := RX12) (Tc := TX12) (N := 19) (j := 9) (ty := .int) (upd (Y 10 0 0) 9 0) ly_X12_readyStep_12 rfl tyX12_ok nmX12 (hG _ (List.mem_of_getElem? (i := 0) rfl)) (of10_0 _) (ce10 T ad _ _) (by decide) (cx_ts C _ fl_X12_readyStep_1) (fun _ h => h) rfl (by decide +kernel) rfl rfl (Nat.le_of_ble_eq_true rfl) (ce10_put9 T ad _ _ _) dX12_readyStep_2 ?_
  refine fw_mem ((up_eq _ _ _ _ _ _).symm.trans e2) ?_
  refine fw_iload_n C dX12_readyStep_5 rfl 1 rfl ?_
  refine fw_iconst C dX12_readyStep_6 (v := 0) rfl ?_
  refine fw_aload_n C dX12_readyStep_7 rfl 0 rfl ?_
  obtain ⟨r3, Y5, q4, h⟩ := bd2_some h
  refine fw_callVi C (ci := 10) (Cn := RX12) (Tc := TX12) (N := 19) (As := []) (c_X12_queueReady (gac (hG _ (List.mem_of_getElem? (i := 0) rfl)) ga0) q4) (cwV 0 (cx_ts C) gX12_readyStep_X12_queueReady rfl rfl rfl (by decide +kernel) ⟨Nat.le_of_ble_eq_true rfl, Nat.le_of_ble_eq_true rfl⟩) rfl (hG _ (List.mem_of_getElem? (i := 0) rfl)) (of10_0 _) (ce10 T ad _ _) rfl (st := [.int 0, .int a1]) rfl (Nat.le_of_ble_eq_true rfl) ⟨Nat.le_refl 0, Nat.le_refl 0⟩ dX12_readyStep_8 (ppw ?_)
  refine fw_iconst C dX12_readyStep_11 (v := 1) rfl ?_
  refine fw_isub C dX12_readyStep_12 ?_
  obtain ⟨r6, q7, h⟩ := bd1_some h
  refine fw_callSi C (As := [.int a1, .int 0, .int (r3 - 1)]) (c_X12_in ga0 q7) (va_cwS 3 (cx_ts C) gX12_readyStep_X12_in rfl rfl rfl (by decide +kernel) ⟨Nat.le_of_ble_eq_true rfl, Nat.le_of_ble_eq_true rfl⟩) rfl (st := []) rfl (Nat.le_of_ble_eq_true rfl) ⟨Nat.le_refl 0, Nat.le_refl 0⟩ dX12_readyStep_13 (pp2 ?_)
  refine fw_if_eq C dX12_readyStep_16 (tgt := 28) rfl (fun c8 => ?_) (fun c8 => ?_)
  · have h := ite_t c8 h
    refine fw_iconst C dX12_readyStep_28 (v := (-1)) rfl ?_
    exact fw_iret C hrt Y5 (Option.some.inj h) (fun t ht => ht) dX12_readyStep_29
  · have h := ite_f c8 h
    refine fw_aload_n C dX12_readyStep_19 rfl 0 rfl ?_
    refine fw_get C (ci := 10) (Cn := RX12) (Tc := TX12) (N := 19) (j := 13) ly_X12_readyStep_12 rfl (hG _ (List.mem_of_getElem? (i := 0) rfl)) (of10_0 _) (ce10 T ad _ _) (by decide) (cx_ts C _ fl_X12_readyStep_51) (fun _ h => h) (v := .ref (ad 10 0 8)) rfl dX12_readyStep_20 ?_
    refine fw_iload_n C dX12_readyStep_23 rfl 1 rfl ?_
    obtain ⟨b9, h⟩ := gd_some h
    refine fw_iald2 C (hG _ (List.mem_of_getElem? (i := 0) rfl)) (of10_8 _) (ca10_8 T ad _ _) b9 (Nat.le_of_ble_eq_true rfl) dX12_readyStep_24 ?_
    refine fw_goto C dX12_readyStep_25 (tgt := 29) rfl ?_
    exact fw_iret C hrt Y5 (Option.some.inj h) (fun t ht => ht) dX12_readyStep_29
end
set_option maxRecDepth 100000 in
set_option maxHeartbeats 4000000 in
theorem c_X12_readyStep {l : Launch} {N0 : Nat} {T : Nat → ClassId} {D : va_G} {gr : List (Nat × Nat)} {ad : Nat → Nat → Nat → Nat} {Y : Mem} {a1 : Int32} {res : Int32 × Mem} (hG : ∀ q ∈ [(10, 0)], q ∈ gr) (h : X12_readyStep Y a1 = some res) : CI l yX12_readyStep wsX12_readyStep (Rm 4) N0 T D gr ad Y [.ref (ad 10 0 0), .int a1] (fun r Y1 => (r, Y1) = res) :=
  fw_body (by decide +kernel) rfl (Nat.le_of_ble_eq_true rfl) (fun p e s m below meth c C hrt => w_X12_readyStep C hrt hG  h)
section
variable {p : Program} {l : Launch} {e : Env} {s : State} {m : MethodId} {below : List Frame} {meth : Method} {c : Code} {N0 : Nat} {T : Nat → ClassId} {D : va_G} {gr : List (Nat × Nat)} {ad : Nat → Nat → Nat → Nat}
set_option maxRecDepth 100000 in
set_option maxHeartbeats 4000000 in
theorem w_X12_redo_b33 {a1 : Int32} (C : Cx p s m [.ref (ad 10 0 0), .int a1].toArray meth c cX12_redo 3 wsX12_redo RX12 N0 T D gr ad) (hrt : meth.sig.returnType = (some .int)) (hG : ∀ q ∈ [(10, 0)], q ∈ gr) {res : Int32 × Mem} (Y : Mem) (s0 : Int32) (s1 : Int32) (h : X12_redo_b33 a1  Y s0 s1 = some res) : FW p l e (Rm 5) s m [.ref (ad 10 0 0), .int a1].toArray below meth c 3 N0 T D gr ad 0 0 (MQ below (va_Qi (fun r Y1 => (r, Y1) = res) (WB T D gr ad) (fun q => N0 ≤ q)) [.ref (ad 10 0 0), .int a1].toArray s 0 0 (fun q => N0 ≤ q)) Y 33 [(0, .ref (ad 10 0 0)), (1, .int a1)] [.int s0, .int s1, .ref (ad 10 0 0)] := by
  unfold X12_redo_b33 at h
  refine fw_iconst C dX12_redo_33 (v := 0) rfl ?_
  obtain ⟨r5, Y7, q6, h⟩ := bd2_some h
  refine fw_callVi C (ci := 10) (Cn := RX12) (Tc := TX12) (N := 19) (As := [.int s1, .int s0, .int 0]) (c_X12_fails (gac (hG _ (List.mem_of_getElem? (i := 0) rfl)) ga0) q6) (cwV 3 (cx_ts C) gX12_redo_X12_fails rfl rfl rfl (by decide +kernel) ⟨Nat.le_of_ble_eq_true rfl, Nat.le_of_ble_eq_true rfl⟩) rfl (hG _ (List.mem_of_getElem? (i := 0) rfl)) (of10_0 _) (ce10 T ad _ _) rfl (st := []) rfl (Nat.le_of_ble_eq_true rfl) ⟨Nat.le_refl 0, Nat.le_refl 0⟩ dX12_redo_34 (ppw ?_)
  refine fw_if_eq C dX12_redo_37 (tgt := 42) rfl (fun c8 => ?_) (fun c8 => ?_)
  · have h := ite_t c8 h
    refine fw_aload_n C dX12_redo_42 rfl 0 rfl ?_
    refine fw_iconst C dX12_redo_43 (v := 0) rfl ?_
    obtain ⟨Y11, q10, h⟩ := bd1_some h
    refine fw_callVv C (ci := 10) (Cn := RX12) (Tc := TX12) (N := 19) (As := [.int 0]) (c_X12_remember (gac (hG _ (List.mem_of_getElem? (i := 0) rfl)) ga0) q10) (cwV 1 (cx_ts C) gX12_redo_X12_remember rfl rfl rfl (by decide +kernel) ⟨Nat.le_of_ble_eq_true rfl, Nat.le_of_ble_eq_true rfl⟩) rfl (hG _ (List.mem_of_getElem? (i := 0) rfl)) (of10_0 _) (ce10 T ad _ _) rfl (st := []) rfl (Nat.le_of_ble_eq_true rfl) ⟨Nat.le_refl 0, Nat.le_refl 0⟩ dX12_redo_44 (ppv ?_)
    refine fw_aload_n C dX12_redo_47 rfl 0 rfl ?_
    refine fw_iload_n C dX12_redo_48 rfl 1 rfl ?_
    obtain ⟨r12, Y14, q13, h⟩ := bd2_some h
    refine fw_callVi C (ci := 10) (Cn := RX12) (Tc := TX12) (N := 19) (As := [.int a1]) (c_X12_redoIt (gac (hG _ (List.mem_of_getElem? (i := 0) rfl)) ga0) q13) (cwV 1 (cx_ts C) gX12_redo_X12_redoIt rfl rfl rfl (by decide +kernel) ⟨Nat.le_of_ble_eq_true rfl, Nat.le_of_ble_eq_true rfl⟩) rfl (hG _ (List.mem_of_getElem? (i := 0) rfl)) (of10_0 _) (ce10 T ad _ _) rfl (st := []) rfl (Nat.le_of_ble_eq_true rfl) ⟨Nat.le_refl 0, Nat.le_refl 0⟩ dX12_redo_49 (ppw ?_)
    exact fw_iret C hrt Y14 (Option.some.inj h) (fun t ht => ht) dX12_redo_52
  · have h := ite_f c8 h
    refine fw_iconst C dX12_redo_40 (v := 0) rfl ?_
    exact fw_iret C hrt Y7 (Option.some.inj h) (fun t ht => ht) dX12_redo_41
set_option maxRecDepth 100000 in
set_option maxHeartbeats 4000000 in
theorem w_X12_redo_b32 {a1 : Int32} (C : Cx p s m [.ref (ad 10 0 0), .int a1].toArray meth c cX12_redo 3 wsX12_redo RX12 N0 T D gr ad) (hrt : meth.sig.returnType = (some .int)) (hG : ∀ q ∈ [(10, 0)], q ∈ gr) {res : Int32 × Mem} (Y : Mem) (s0 : Int32) (h : X12_redo_b32 a1  Y s0 = some res) : FW p l e (Rm 5) s m [.ref (ad 10 0 0), .int a1].toArray below meth c 3 N0 T D gr ad 0 0 (MQ below (va_Qi (fun r Y1 => (r, Y1) = res) (WB T D gr ad) (fun q => N0 ≤ q)) [.ref (ad 10 0 0), .int a1].toArray s 0 0 (fun q => N0 ≤ q)) Y 32 [(0, .ref (ad 10 0 0)), (1, .int a1)] [.int s0, .ref (ad 10 0 0)] := by
  unfold X12_redo_b32 at h
  refine fw_iconst C dX12_redo_32 (v := 0) rfl ?_
  exact w_X12_redo_b33 C hrt hG   _ _ _ h
set_option maxRecDepth 100000 in
set_option maxHeartbeats 4000000 in
theorem w_X12_redo_b16 {a1 : Int32} (C : Cx p s m [.ref (ad 10 0 0), .int a1].toArray meth c cX12_redo 3 wsX12_redo RX12 N0 T D gr ad) (hrt : meth.sig.returnType = (some .int)) (hG : ∀ q ∈ [(10, 0)], q ∈ gr) {res : Int32 × Mem} (Y : Mem) (l2 : Int32) (s0 : Int32) (h : X12_redo_b16 a1  Y l2 s0 = some res) : FW p l e (Rm 5) s m [.ref (ad 10 0 0), .int a1].toArray below meth c 3 N0 T D gr ad 0 0 (MQ below (va_Qi (fun r Y1 => (r, Y1) = res) (WB T D gr ad) (fun q => N0 ≤ q)) [.ref (ad 10 0 0), .int a1].toArray s 0 0 (fun q => N0 ≤ q)) Y 16 [(2, .int l2), (0, .ref (ad 10 0 0)), (1, .int a1)] [.int s0, .ref (ad 10 0 0)] := by
  unfold X12_redo_b16 at h
  refine fw_iload_n C dX12_redo_16 rfl 0 rfl ?_
  refine fw_if_eq C dX12_redo_17 (tgt := 32) rfl (fun c4 => ?_) (fun c4 => ?_)
  · have h := ite_t c4 h
    refine fw_sub [1, 2] (L' := [(0, .ref (ad 10 0 0)), (1, .int a1)]) rfl ?_
    exact w_X12_redo_b32 C hrt hG   _ _ h
  · have h := ite_f c4 h
    refine fw_aload_n C dX12_redo_20 rfl 1 rfl ?_
    refine fw_iload_n C dX12_redo_21 rfl 2 rfl ?_
    obtain ⟨r15, q16, h⟩ := bd1_some h
    refine fw_callVi C (ci := 10) (Cn := RX12) (Tc := TX12) (N := 19) (As := [.int a1]) (c_X12_canRedo (gac (hG _ (List.mem_of_getElem? (i := 0) rfl)) ga0) q16) (cwV 1 (cx_ts C) gX12_redo_X12_canRedo rfl rfl rfl (by decide +kernel) ⟨Nat.le_of_ble_eq_true rfl, Nat.le_of_ble_eq_true rfl⟩) rfl (hG _ (List.mem_of_getElem? (i := 0) rfl)) (of10_0 _) (ce10 T ad _ _) rfl (st := [.int s0, .ref (ad 10 0 0)]) rfl (Nat.le_of_ble_eq_true rfl) ⟨Nat.le_refl 0, Nat.le_refl 0⟩ dX12_redo_22 (pp2 ?_)
    refine fw_if_ne C dX12_redo_25 (tgt := 32) rfl (fun c17 => ?_) (fun c17 => ?_)
    · have h := ite_f c17 h
      refine fw_sub [1, 2] (L' := [(0, .ref (ad 10 0 0)), (1, .int a1)]) rfl ?_
      exact w_X12_redo_b32 C hrt hG   _ _ h
    · have h := ite_t c17 h
      refine fw_iconst C dX12_redo_28 (v := 1) rfl ?_
      refine fw_goto C dX12_redo_29 (tgt := 33) rfl ?_
      refine fw_sub [1, 2] (L' := [(0, .ref (ad 10 0 0)), (1, .int a1)]) rfl ?_
      exact w_X12_redo_b33 C hrt hG   _ _ _ h
set_option maxRecDepth 100000 in
set_option maxHeartbeats 4000000 in
theorem w_X12_redo {Y : Mem} {a1 : Int32} (C : Cx p s m [.ref (ad 10 0 0), .int a1].toArray meth c cX12_redo 3 wsX12_redo RX12 N0 T D gr ad) (hrt : meth.sig.returnType = (some .int)) (hG : ∀ q ∈ [(10, 0)], q ∈ gr) {res : Int32 × Mem} (h : X12_redo Y a1 = some res) : FW p l e (Rm 5) s m [.ref (ad 10 0 0), .int a1].toArray below meth c 3 N0 T D gr ad 0 0 (MQ below (va_Qi (fun r Y1 => (r, Y1) = res) (WB T D gr ad) (fun q => N0 ≤ q)) [.ref (ad 10 0 0), .int a1].toArray s 0 0 (fun q => N0 ≤ q)) Y 0 [(0, .ref (ad 10 0 0)), (1, .int a1)] [] := by
  unfold X12_redo at h
  refine fw_aload_n C dX12_redo_0 rfl 0 rfl ?_
  refine fw_iload_n C dX12_redo_1 rfl 1 rfl ?_
  obtain ⟨r1, q2, h⟩ := bd1_some h
  refine fw_callVi C (ci := 10) (Cn := RX12) (Tc := TX12) (N := 19) (As := [.int a1]) (c_X12_isStep (gac (hG _ (List.mem_of_getElem? (i := 0) rfl)) ga0) q2) (cwV 1 (cx_ts C) gX12_redo_X12_isStep rfl rfl rfl (by decide +kernel) ⟨Nat.le_of_ble_eq_true rfl, Nat.le_of_ble_eq_true rfl⟩) rfl (hG _ (List.mem_of_getElem? (i := 0) rfl)) (of10_0 _) (ce10 T ad _ _) rfl (st := []) rfl (Nat.le_of_ble_eq_true rfl) ⟨Nat.le_refl 0, Nat.le_refl 0⟩ dX12_redo_2 (pp2 ?_)
  refine fw_istore_n C dX12_redo_5 rfl (by decide) (L' := [(2, .int r1), (0, .ref (ad 10 0 0)), (1, .int a1)]) rfl ?_
  refine fw_aload_n C dX12_redo_6 rfl 1 rfl ?_
  refine fw_iload_n C dX12_redo_7 rfl 0 rfl ?_
  refine fw_if_ne C dX12_redo_8 (tgt := 15) rfl (fun c3 => ?_) (fun c3 => ?_)
  · have h := ite_f c3 h
    refine fw_iconst C dX12_redo_15 (v := 0) rfl ?_
    exact w_X12_redo_b16 C hrt hG   _ _ _ h
  · have h := ite_t c3 h
    refine fw_iconst C dX12_redo_11 (v := 1) rfl ?_
    refine fw_goto C dX12_redo_12 (tgt := 16) rfl ?_
    exact w_X12_redo_b16 C hrt hG   _ _ _ h
end
set_option maxRecDepth 100000 in
set_option maxHeartbeats 4000000 in
theorem c_X12_redo {l : Launch} {N0 : Nat} {T : Nat → ClassId} {D : va_G} {gr : List (Nat × Nat)} {ad : Nat → Nat → Nat → Nat} {Y : Mem} {a1 : Int32} {res : Int32 × Mem} (hG : ∀ q ∈ [(10, 0)], q ∈ gr) (h : X12_redo Y a1 = some res) : CI l yX12_redo wsX12_redo (Rm 5) N0 T D gr ad Y [.ref (ad 10 0 0), .int a1] (fun r Y1 => (r, Y1) = res) :=
  fw_body (by decide +kernel) rfl (Nat.le_of_ble_eq_true rfl) (fun p e s m below meth c C hrt => w_X12_redo C hrt hG  h)
section
variable {p : Program} {l : Launch} {e : Env} {s : State} {m : MethodId} {below : List Frame} {meth : Method} {c : Code} {N0 : Nat} {T : Nat → ClassId} {D : va_G} {gr : List (Nat × Nat)} {ad : Nat → Nat → Nat → Nat}
set_option maxRecDepth 100000 in
set_option maxHeartbeats 4000000 in
theorem w_X12_remaining {Y : Mem} {a1 : Int32} (C : Cx p s m [.ref (ad 10 0 0), .int a1].toArray meth c cX12_remaining 2 wsX12_remaining RX12 N0 T D gr ad) (hrt : meth.sig.returnType = (some .int)) (hG : ∀ q ∈ [(10, 0)], q ∈ gr) {res : Int32 × Mem} (h : X12_remaining Y a1 = some res) : FW p l e (Rm 3) s m [.ref (ad 10 0 0), .int a1].toArray below meth c 2 N0 T D gr ad 0 0 (MQ below (va_Qi (fun r Y1 => (r, Y1) = res) (WB T D gr ad) (fun q => N0 ≤ q)) [.ref (ad 10 0 0), .int a1].toArray s 0 0 (fun q => N0 ≤ q)) Y 0 [(0, .ref (ad 10 0 0)), (1, .int a1)] [] := by
  unfold X12_remaining at h
  refine fw_aload_n C dX12_remaining_0 rfl 0 rfl ?_
  refine fw_iload_n C dX12_remaining_1 rfl 1 rfl ?_
  refine fw_bipush C dX12_remaining_2 (v := 18) rfl ?_
  obtain ⟨r1, Y3, q2, h⟩ := bd2_some h
  refine fw_callVi C (ci := 10) (Cn := RX12) (Tc := TX12) (N := 19) (As := [.int a1, .int 18]) (c_X12_field (gac (hG _ (List.mem_of_getElem? (i := 0) rfl)) ga0) q2) (cwV 2 (cx_ts C) gX12_remaining_X12_field rfl rfl rfl (by decide +kernel) ⟨Nat.le_of_ble_eq_true rfl, Nat.le_of_ble_eq_true rfl⟩) rfl (hG _ (List.mem_of_getElem? (i := 0) rfl)) (of10_0 _) (ce10 T ad _ _) rfl (st := []) rfl (Nat.le_of_ble_eq_true rfl) ⟨Nat.le_refl 0, Nat.le_refl 0⟩ dX12_remaining_4 (ppw ?_)
  exact fw_iret C hrt Y3 (Option.some.inj h) (fun t ht => ht) dX12_remaining_7
end
set_option maxRecDepth 100000 in
set_option maxHeartbeats 4000000 in
theorem c_X12_remaining {l : Launch} {N0 : Nat} {T : Nat → ClassId} {D : va_G} {gr : List (Nat × Nat)} {ad : Nat → Nat → Nat → Nat} {Y : Mem} {a1 : Int32} {res : Int32 × Mem} (hG : ∀ q ∈ [(10, 0)], q ∈ gr) (h : X12_remaining Y a1 = some res) : CI l yX12_remaining wsX12_remaining (Rm 3) N0 T D gr ad Y [.ref (ad 10 0 0), .int a1] (fun r Y1 => (r, Y1) = res) :=
  fw_body (by decide +kernel) rfl (Nat.le_of_ble_eq_true rfl) (fun p e s m below meth c C hrt => w_X12_remaining C hrt hG  h)
