theorem ly_X12_outputByte_12 : ∀ w ∈ u_ws RX12 TX12 19, w ∈ wsX12_outputByte := by decide +kernel
theorem fl_X12_outputByte_39 : Cond.fieldLink RX12 39 "RecipeSchedulerModel" "writtenLength" "I" ∈ wsX12_outputByte := by decide +kernel
theorem fl_X12_outputByte_36 : Cond.fieldLink RX12 36 "RecipeSchedulerModel" "written" "[I" ∈ wsX12_outputByte := by decide +kernel
section
variable {p : Program} {l : Launch} {e : Env} {s : State} {m : MethodId} {below : List Frame} {meth : Method} {c : Code} {N0 : Nat} {T : Nat → ClassId} {D : va_G} {gr : List (Nat × Nat)} {ad : Nat → Nat → Nat → Nat}
set_option maxRecDepth 100000 in
set_option maxHeartbeats 4000000 in
theorem w_X12_outputByte_b20 {a1 : Int32} (C : Cx p s m [.ref (ad 10 0 0), .int a1].toArray meth c cX12_outputByte 2 wsX12_outputByte RX12 N0 T D gr ad) (hrt : meth.sig.returnType = (some .int)) (hG : ∀ q ∈ [(10, 0)], q ∈ gr) {res : Int32 × Mem} (Y : Mem) (s0 : Int32) (h : X12_outputByte_b20 a1  Y s0 = some res) : FW p l e (Rm 1) s m [.ref (ad 10 0 0), .int a1].toArray below meth c 2 N0 T D gr ad 0 0 (MQ below (va_Qi (fun r Y1 => (r, Y1) = res) (WB T D gr ad) (fun q => N0 ≤ q)) [.ref (ad 10 0 0), .int a1].toArray s 0 0 (fun q => N0 ≤ q)) Y 20 [(0, .ref (ad 10 0 0)), (1, .int a1)] [.int s0, .ref (ad 10 0 0)] := by
  unfold X12_outputByte_b20 at h
  refine fw_iconst C dX12_outputByte_20 (v := 0) rfl ?_
  refine fw_iconst C dX12_outputByte_21 (v := 0) rfl ?_
  obtain ⟨r4, Y6, q5, h⟩ := bd2_some h
  refine fw_callVi C (ci := 10) (Cn := RX12) (Tc := TX12) (N := 19) (As := [.int s0, .int 0, .int 0]) (c_X12_fails (gac (hG _ (List.mem_of_getElem? (i := 0) rfl)) ga0) q5) (cwV 3 (cx_ts C) gX12_outputByte_X12_fails rfl rfl rfl (by decide +kernel) ⟨Nat.le_of_ble_eq_true rfl, Nat.le_of_ble_eq_true rfl⟩) rfl (hG _ (List.mem_of_getElem? (i := 0) rfl)) (of10_0 _) (ce10 T ad _ _) rfl (st := []) rfl (Nat.le_of_ble_eq_true rfl) ⟨Nat.le_refl 0, Nat.le_refl 0⟩ dX12_outputByte_22 (ppw ?_)
  refine fw_if_eq C dX12_outputByte_25 (tgt := 30) rfl (fun c7 => ?_) (fun c7 => ?_)
  · have h := ite_t c7 h
    refine fw_aload_n C dX12_outputByte_30 rfl 0 rfl ?_
    refine fw_get C (ci := 10) (Cn := RX12) (Tc := TX12) (N := 19) (j := 7) ly_X12_outputByte_12 rfl (hG _ (List.mem_of_getElem? (i := 0) rfl)) (of10_0 _) (ce10 T ad _ _) (by decide) (cx_ts C _ fl_X12_outputByte_36) (fun _ h => h) (v := .ref (ad 10 0 4)) rfl dX12_outputByte_31 ?_
    refine fw_iload_n C dX12_outputByte_34 rfl 1 rfl ?_
    obtain ⟨b8, h⟩ := gd_some h
    refine fw_iald2 C (hG _ (List.mem_of_getElem? (i := 0) rfl)) (of10_4 _) (ca10_4 T ad _ _) b8 (Nat.le_of_ble_eq_true rfl) dX12_outputByte_35 ?_
    exact fw_iret C hrt Y6 (Option.some.inj h) (fun t ht => ht) dX12_outputByte_36
  · have h := ite_f c7 h
    refine fw_iconst C dX12_outputByte_28 (v := 0) rfl ?_
    exact fw_iret C hrt Y6 (Option.some.inj h) (fun t ht => ht) dX12_outputByte_29
set_option maxRecDepth 100000 in
set_option maxHeartbeats 4000000 in
theorem w_X12_outputByte {Y : Mem} {a1 : Int32} (C : Cx p s m [.ref (ad 10 0 0), .int a1].toArray meth c cX12_outputByte 2 wsX12_outputByte RX12 N0 T D gr ad) (hrt : meth.sig.returnType = (some .int)) (hG : ∀ q ∈ [(10, 0)], q ∈ gr) {res : Int32 × Mem} (h : X12_outputByte Y a1 = some res) : FW p l e (Rm 1) s m [.ref (ad 10 0 0), .int a1].toArray below meth c 2 N0 T D gr ad 0 0 (MQ below (va_Qi (fun r Y1 => (r, Y1) = res) (WB T D gr ad) (fun q => N0 ≤ q)) [.ref (ad 10 0 0), .int a1].toArray s 0 0 (fun q => N0 ≤ q)) Y 0 [(0, .ref (ad 10 0 0)), (1, .int a1)] [] := by
  unfold X12_outputByte at h
  refine fw_aload_n C dX12_outputByte_0 rfl 0 rfl ?_
  refine fw_iload_n C dX12_outputByte_1 rfl 1 rfl ?_
  refine fw_iconst C dX12_outputByte_2 (v := 0) rfl ?_
  refine fw_aload_n C dX12_outputByte_3 rfl 0 rfl ?_
  refine fw_get C (ci := 10) (Cn := RX12) (Tc := TX12) (N := 19) (j := 8) ly_X12_outputByte_12 rfl (hG _ (List.mem_of_getElem? (i := 0) rfl)) (of10_0 _) (ce10 T ad _ _) (by decide) (cx_ts C _ fl_X12_outputByte_39) (fun _ h => h) (v := .int (Y 10 0 0 8)) rfl dX12_outputByte_4 ?_
  refine fw_iconst C dX12_outputByte_7 (v := 1) rfl ?_
  refine fw_isub C dX12_outputByte_8 ?_
  obtain ⟨r1, q2, h⟩ := bd1_some h
  refine fw_callSi C (As := [.int a1, .int 0, .int ((Y 10 0 0 8) - 1)]) (c_X12_in ga0 q2) (va_cwS 3 (cx_ts C) gX12_outputByte_X12_in rfl rfl rfl (by decide +kernel) ⟨Nat.le_of_ble_eq_true rfl, Nat.le_of_ble_eq_true rfl⟩) rfl (st := [.ref (ad 10 0 0)]) rfl (Nat.le_of_ble_eq_true rfl) ⟨Nat.le_refl 0, Nat.le_refl 0⟩ dX12_outputByte_9 (pp2 ?_)
  refine fw_if_ne C dX12_outputByte_12 (tgt := 19) rfl (fun c3 => ?_) (fun c3 => ?_)
  · have h := ite_f c3 h
    refine fw_iconst C dX12_outputByte_19 (v := 0) rfl ?_
    exact w_X12_outputByte_b20 C hrt hG   _ _ h
  · have h := ite_t c3 h
    refine fw_iconst C dX12_outputByte_15 (v := 1) rfl ?_
    refine fw_goto C dX12_outputByte_16 (tgt := 20) rfl ?_
    exact w_X12_outputByte_b20 C hrt hG   _ _ h
end
set_option maxRecDepth 100000 in
set_option maxHeartbeats 4000000 in
theorem c_X12_outputByte {l : Launch} {N0 : Nat} {T : Nat → ClassId} {D : va_G} {gr : List (Nat × Nat)} {ad : Nat → Nat → Nat → Nat} {Y : Mem} {a1 : Int32} {res : Int32 × Mem} (hG : ∀ q ∈ [(10, 0)], q ∈ gr) (h : X12_outputByte Y a1 = some res) : CI l yX12_outputByte wsX12_outputByte (Rm 1) N0 T D gr ad Y [.ref (ad 10 0 0), .int a1] (fun r Y1 => (r, Y1) = res) :=
  fw_body (by decide +kernel) rfl (Nat.le_of_ble_eq_true rfl) (fun p e s m below meth c C hrt => w_X12_outputByte C hrt hG  h)
section
variable {p : Program} {l : Launch} {e : Env} {s : State} {m : MethodId} {below : List Frame} {meth : Method} {c : Code} {N0 : Nat} {T : Nat → ClassId} {D : va_G} {gr : List (Nat × Nat)} {ad : Nat → Nat → Nat → Nat}
set_option maxRecDepth 100000 in
set_option maxHeartbeats 4000000 in
theorem w_X12_panCapacity_b14 {a1 : Int32} (C : Cx p s m [.ref (ad 10 0 0), .int a1].toArray meth c cX12_panCapacity 2 wsX12_panCapacity RX12 N0 T D gr ad) (hrt : meth.sig.returnType = (some .int)) (hG : ∀ q ∈ [(10, 0)], q ∈ gr) {res : Int32 × Mem} (Y : Mem) (s0 : Int32) (h : X12_panCapacity_b14 a1  Y s0 = some res) : FW p l e (Rm 2) s m [.ref (ad 10 0 0), .int a1].toArray below meth c 2 N0 T D gr ad 0 0 (MQ below (va_Qi (fun r Y1 => (r, Y1) = res) (WB T D gr ad) (fun q => N0 ≤ q)) [.ref (ad 10 0 0), .int a1].toArray s 0 0 (fun q => N0 ≤ q)) Y 14 [(0, .ref (ad 10 0 0)), (1, .int a1)] [.int s0, .ref (ad 10 0 0)] := by
  unfold X12_panCapacity_b14 at h
  refine fw_iconst C dX12_panCapacity_14 (v := 0) rfl ?_
  refine fw_iconst C dX12_panCapacity_15 (v := 0) rfl ?_
  obtain ⟨r4, Y6, q5, h⟩ := bd2_some h
  refine fw_callVi C (ci := 10) (Cn := RX12) (Tc := TX12) (N := 19) (As := [.int s0, .int 0, .int 0]) (c_X12_fails (gac (hG _ (List.mem_of_getElem? (i := 0) rfl)) ga0) q5) (cwV 3 (cx_ts C) gX12_panCapacity_X12_fails rfl rfl rfl (by decide +kernel) ⟨Nat.le_of_ble_eq_true rfl, Nat.le_of_ble_eq_true rfl⟩) rfl (hG _ (List.mem_of_getElem? (i := 0) rfl)) (of10_0 _) (ce10 T ad _ _) rfl (st := []) rfl (Nat.le_of_ble_eq_true rfl) ⟨Nat.le_refl 0, Nat.le_refl 0⟩ dX12_panCapacity_16 (ppw ?_)
  refine fw_if_eq C dX12_panCapacity_19 (tgt := 24) rfl (fun c7 => ?_) (fun c7 => ?_)
  · have h := ite_t c7 h
    refine fw_aload_n C dX12_panCapacity_24 rfl 0 rfl ?_
    refine fw_iload_n C dX12_panCapacity_25 rfl 1 rfl ?_
    obtain ⟨r8, q9, h⟩ := bd1_some h
    refine fw_callVi C (ci := 10) (Cn := RX12) (Tc := TX12) (N := 19) (As := [.int a1]) (c_X12_capacity (gac (hG _ (List.mem_of_getElem? (i := 0) rfl)) ga0) q9) (cwV 1 (cx_ts C) gX12_panCapacity_X12_capacity rfl rfl rfl (by decide +kernel) ⟨Nat.le_of_ble_eq_true rfl, Nat.le_of_ble_eq_true rfl⟩) rfl (hG _ (List.mem_of_getElem? (i := 0) rfl)) (of10_0 _) (ce10 T ad _ _) rfl (st := []) rfl (Nat.le_of_ble_eq_true rfl) ⟨Nat.le_refl 0, Nat.le_refl 0⟩ dX12_panCapacity_26 (pp2 ?_)
    exact fw_iret C hrt Y6 (Option.some.inj h) (fun t ht => ht) dX12_panCapacity_29
  · have h := ite_f c7 h
    refine fw_iconst C dX12_panCapacity_22 (v := 0) rfl ?_
    exact fw_iret C hrt Y6 (Option.some.inj h) (fun t ht => ht) dX12_panCapacity_23
set_option maxRecDepth 100000 in
set_option maxHeartbeats 4000000 in
theorem w_X12_panCapacity {Y : Mem} {a1 : Int32} (C : Cx p s m [.ref (ad 10 0 0), .int a1].toArray meth c cX12_panCapacity 2 wsX12_panCapacity RX12 N0 T D gr ad) (hrt : meth.sig.returnType = (some .int)) (hG : ∀ q ∈ [(10, 0)], q ∈ gr) {res : Int32 × Mem} (h : X12_panCapacity Y a1 = some res) : FW p l e (Rm 2) s m [.ref (ad 10 0 0), .int a1].toArray below meth c 2 N0 T D gr ad 0 0 (MQ below (va_Qi (fun r Y1 => (r, Y1) = res) (WB T D gr ad) (fun q => N0 ≤ q)) [.ref (ad 10 0 0), .int a1].toArray s 0 0 (fun q => N0 ≤ q)) Y 0 [(0, .ref (ad 10 0 0)), (1, .int a1)] [] := by
  unfold X12_panCapacity at h
  refine fw_aload_n C dX12_panCapacity_0 rfl 0 rfl ?_
  refine fw_aload_n C dX12_panCapacity_1 rfl 0 rfl ?_
  refine fw_iload_n C dX12_panCapacity_2 rfl 1 rfl ?_
  obtain ⟨r1, q2, h⟩ := bd1_some h
  refine fw_callVi C (ci := 10) (Cn := RX12) (Tc := TX12) (N := 19) (As := [.int a1]) (c_X12_isPan (gac (hG _ (List.mem_of_getElem? (i := 0) rfl)) ga0) q2) (cwV 1 (cx_ts C) gX12_panCapacity_X12_isPan rfl rfl rfl (by decide +kernel) ⟨Nat.le_of_ble_eq_true rfl, Nat.le_of_ble_eq_true rfl⟩) rfl (hG _ (List.mem_of_getElem? (i := 0) rfl)) (of10_0 _) (ce10 T ad _ _) rfl (st := [.ref (ad 10 0 0)]) rfl (Nat.le_of_ble_eq_true rfl) ⟨Nat.le_refl 0, Nat.le_refl 0⟩ dX12_panCapacity_3 (pp2 ?_)
  refine fw_if_ne C dX12_panCapacity_6 (tgt := 13) rfl (fun c3 => ?_) (fun c3 => ?_)
  · have h := ite_f c3 h
    refine fw_iconst C dX12_panCapacity_13 (v := 0) rfl ?_
    exact w_X12_panCapacity_b14 C hrt hG   _ _ h
  · have h := ite_t c3 h
    refine fw_iconst C dX12_panCapacity_9 (v := 1) rfl ?_
    refine fw_goto C dX12_panCapacity_10 (tgt := 14) rfl ?_
    exact w_X12_panCapacity_b14 C hrt hG   _ _ h
end
set_option maxRecDepth 100000 in
set_option maxHeartbeats 4000000 in
theorem c_X12_panCapacity {l : Launch} {N0 : Nat} {T : Nat → ClassId} {D : va_G} {gr : List (Nat × Nat)} {ad : Nat → Nat → Nat → Nat} {Y : Mem} {a1 : Int32} {res : Int32 × Mem} (hG : ∀ q ∈ [(10, 0)], q ∈ gr) (h : X12_panCapacity Y a1 = some res) : CI l yX12_panCapacity wsX12_panCapacity (Rm 2) N0 T D gr ad Y [.ref (ad 10 0 0), .int a1] (fun r Y1 => (r, Y1) = res) :=
  fw_body (by decide +kernel) rfl (Nat.le_of_ble_eq_true rfl) (fun p e s m below meth c C hrt => w_X12_panCapacity C hrt hG  h)
section
variable {p : Program} {l : Launch} {e : Env} {s : State} {m : MethodId} {below : List Frame} {meth : Method} {c : Code} {N0 : Nat} {T : Nat → ClassId} {D : va_G} {gr : List (Nat × Nat)} {ad : Nat → Nat → Nat → Nat}
set_option maxRecDepth 100000 in
set_option maxHeartbeats 4000000 in
theorem w_X12_panType {Y : Mem} {a1 : Int32} (C : Cx p s m [.ref (ad 10 0 0), .int a1].toArray meth c cX12_panType 2 wsX12_panType RX12 N0 T D gr ad) (hrt : meth.sig.returnType = (some .int)) (hG : ∀ q ∈ [(10, 0)], q ∈ gr) {res : Int32 × Mem} (h : X12_panType Y a1 = some res) : FW p l e (Rm 3) s m [.ref (ad 10 0 0), .int a1].toArray below meth c 2 N0 T D gr ad 0 0 (MQ below (va_Qi (fun r Y1 => (r, Y1) = res) (WB T D gr ad) (fun q => N0 ≤ q)) [.ref (ad 10 0 0), .int a1].toArray s 0 0 (fun q => N0 ≤ q)) Y 0 [(0, .ref (ad 10 0 0)), (1, .int a1)] [] := by
  unfold X12_panType at h
  refine fw_aload_n C dX12_panType_0 rfl 0 rfl ?_
  refine fw_iload_n C dX12_panType_1 rfl 1 rfl ?_
  refine fw_bipush C dX12_panType_2 (v := 9) rfl ?_
  obtain ⟨r1, Y3, q2, h⟩ := bd2_some h
  refine fw_callVi C (ci := 10) (Cn := RX12) (Tc := TX12) (N := 19) (As := [.int a1, .int 9]) (c_X12_field (gac (hG _ (List.mem_of_getElem? (i := 0) rfl)) ga0) q2) (cwV 2 (cx_ts C) gX12_panType_X12_field rfl rfl rfl (by decide +kernel) ⟨Nat.le_of_ble_eq_true rfl, Nat.le_of_ble_eq_true rfl⟩) rfl (hG _ (List.mem_of_getElem? (i := 0) rfl)) (of10_0 _) (ce10 T ad _ _) rfl (st := []) rfl (Nat.le_of_ble_eq_true rfl) ⟨Nat.le_refl 0, Nat.le_refl 0⟩ dX12_panType_4 (ppw ?_)
  exact fw_iret C hrt Y3 (Option.some.inj h) (fun t ht => ht) dX12_panType_7
end
set_option maxRecDepth 100000 in
set_option maxHeartbeats 4000000 in
theorem c_X12_panType {l : Launch} {N0 : Nat} {T : Nat → ClassId} {D : va_G} {gr : List (Nat × Nat)} {ad : Nat → Nat → Nat → Nat} {Y : Mem} {a1 : Int32} {res : Int32 × Mem} (hG : ∀ q ∈ [(10, 0)], q ∈ gr) (h : X12_panType Y a1 = some res) : CI l yX12_panType wsX12_panType (Rm 3) N0 T D gr ad Y [.ref (ad 10 0 0), .int a1] (fun r Y1 => (r, Y1) = res) :=
  fw_body (by decide +kernel) rfl (Nat.le_of_ble_eq_true rfl) (fun p e s m below meth c C hrt => w_X12_panType C hrt hG  h)
section
variable {p : Program} {l : Launch} {e : Env} {s : State} {m : MethodId} {below : List Frame} {meth : Method} {c : Code} {N0 : Nat} {T : Nat → ClassId} {D : va_G} {gr : List (Nat × Nat)} {ad : Nat → Nat → Nat → Nat}
set_option maxRecDepth 100000 in
set_option maxHeartbeats 4000000 in
theorem w_X12_pansInUse_b14 {a1 : Int32} (C : Cx p s m [.ref (ad 10 0 0), .int a1].toArray meth c cX12_pansInUse 2 wsX12_pansInUse RX12 N0 T D gr ad) (hrt : meth.sig.returnType = (some .int)) (hG : ∀ q ∈ [(10, 0)], q ∈ gr) {res : Int32 × Mem} (Y : Mem) (s0 : Int32) (h : X12_pansInUse_b14 a1  Y s0 = some res) : FW p l e (Rm 5) s m [.ref (ad 10 0 0), .int a1].toArray below meth c 2 N0 T D gr ad 0 0 (MQ below (va_Qi (fun r Y1 => (r, Y1) = res) (WB T D gr ad) (fun q => N0 ≤ q)) [.ref (ad 10 0 0), .int a1].toArray s 0 0 (fun q => N0 ≤ q)) Y 14 [(0, .ref (ad 10 0 0)), (1, .int a1)] [.int s0, .ref (ad 10 0 0)] := by
  unfold X12_pansInUse_b14 at h
  refine fw_iconst C dX12_pansInUse_14 (v := 0) rfl ?_
  refine fw_iconst C dX12_pansInUse_15 (v := 0) rfl ?_
  obtain ⟨r4, Y6, q5, h⟩ := bd2_some h
  refine fw_callVi C (ci := 10) (Cn := RX12) (Tc := TX12) (N := 19) (As := [.int s0, .int 0, .int 0]) (c_X12_fails (gac (hG _ (List.mem_of_getElem? (i := 0) rfl)) ga0) q5) (cwV 3 (cx_ts C) gX12_pansInUse_X12_fails rfl rfl rfl (by decide +kernel) ⟨Nat.le_of_ble_eq_true rfl, Nat.le_of_ble_eq_true rfl⟩) rfl (hG _ (List.mem_of_getElem? (i := 0) rfl)) (of10_0 _) (ce10 T ad _ _) rfl (st := []) rfl (Nat.le_of_ble_eq_true rfl) ⟨Nat.le_refl 0, Nat.le_refl 0⟩ dX12_pansInUse_16 (ppw ?_)
  refine fw_if_eq C dX12_pansInUse_19 (tgt := 24) rfl (fun c7 => ?_) (fun c7 => ?_)
  · have h := ite_t c7 h
    refine fw_aload_n C dX12_pansInUse_24 rfl 0 rfl ?_
    refine fw_iload_n C dX12_pansInUse_25 rfl 1 rfl ?_
    obtain ⟨r8, q9, h⟩ := bd1_some h
    refine fw_callVi C (ci := 10) (Cn := RX12) (Tc := TX12) (N := 19) (As := [.int a1]) (c_X12_usedPans (gac (hG _ (List.mem_of_getElem? (i := 0) rfl)) ga0) q9) (cwV 1 (cx_ts C) gX12_pansInUse_X12_usedPans rfl rfl rfl (by decide +kernel) ⟨Nat.le_of_ble_eq_true rfl, Nat.le_of_ble_eq_true rfl⟩) rfl (hG _ (List.mem_of_getElem? (i := 0) rfl)) (of10_0 _) (ce10 T ad _ _) rfl (st := []) rfl (Nat.le_of_ble_eq_true rfl) ⟨Nat.le_refl 0, Nat.le_refl 0⟩ dX12_pansInUse_26 (pp2 ?_)
    exact fw_iret C hrt Y6 (Option.some.inj h) (fun t ht => ht) dX12_pansInUse_29
  · have h := ite_f c7 h
    refine fw_iconst C dX12_pansInUse_22 (v := 0) rfl ?_
    exact fw_iret C hrt Y6 (Option.some.inj h) (fun t ht => ht) dX12_pansInUse_23
set_option maxRecDepth 100000 in
set_option maxHeartbeats 4000000 in
theorem w_X12_pansInUse {Y : Mem} {a1 : Int32} (C : Cx p s m [.ref (ad 10 0 0), .int a1].toArray meth c cX12_pansInUse 2 wsX12_pansInUse RX12 N0 T D gr ad) (hrt : meth.sig.returnType = (some .int)) (hG : ∀ q ∈ [(10, 0)], q ∈ gr) {res : Int32 × Mem} (h : X12_pansInUse Y a1 = some res) : FW p l e (Rm 5) s m [.ref (ad 10 0 0), .int a1].toArray below meth c 2 N0 T D gr ad 0 0 (MQ below (va_Qi (fun r Y1 => (r, Y1) = res) (WB T D gr ad) (fun q => N0 ≤ q)) [.ref (ad 10 0 0), .int a1].toArray s 0 0 (fun q => N0 ≤ q)) Y 0 [(0, .ref (ad 10 0 0)), (1, .int a1)] [] := by
  unfold X12_pansInUse at h
  refine fw_aload_n C dX12_pansInUse_0 rfl 0 rfl ?_
  refine fw_aload_n C dX12_pansInUse_1 rfl 0 rfl ?_
  refine fw_iload_n C dX12_pansInUse_2 rfl 1 rfl ?_
  obtain ⟨r1, q2, h⟩ := bd1_some h
  refine fw_callVi C (ci := 10) (Cn := RX12) (Tc := TX12) (N := 19) (As := [.int a1]) (c_X12_isPan (gac (hG _ (List.mem_of_getElem? (i := 0) rfl)) ga0) q2) (cwV 1 (cx_ts C) gX12_pansInUse_X12_isPan rfl rfl rfl (by decide +kernel) ⟨Nat.le_of_ble_eq_true rfl, Nat.le_of_ble_eq_true rfl⟩) rfl (hG _ (List.mem_of_getElem? (i := 0) rfl)) (of10_0 _) (ce10 T ad _ _) rfl (st := [.ref (ad 10 0 0)]) rfl (Nat.le_of_ble_eq_true rfl) ⟨Nat.le_refl 0, Nat.le_refl 0⟩ dX12_pansInUse_3 (pp2 ?_)
  refine fw_if_ne C dX12_pansInUse_6 (tgt := 13) rfl (fun c3 => ?_) (fun c3 => ?_)
  · have h := ite_f c3 h
    refine fw_iconst C dX12_pansInUse_13 (v := 0) rfl ?_
    exact w_X12_pansInUse_b14 C hrt hG   _ _ h
  · have h := ite_t c3 h
    refine fw_iconst C dX12_pansInUse_9 (v := 1) rfl ?_
    refine fw_goto C dX12_pansInUse_10 (tgt := 14) rfl ?_
    exact w_X12_pansInUse_b14 C hrt hG   _ _ h
end
set_option maxRecDepth 100000 in
set_option maxHeartbeats 4000000 in
theorem c_X12_pansInUse {l : Launch} {N0 : Nat} {T : Nat → ClassId} {D : va_G} {gr : List (Nat × Nat)} {ad : Nat → Nat → Nat → Nat} {Y : Mem} {a1 : Int32} {res : Int32 × Mem} (hG : ∀ q ∈ [(10, 0)], q ∈ gr) (h : X12_pansInUse Y a1 = some res) : CI l yX12_pansInUse wsX12_pansInUse (Rm 5) N0 T D gr ad Y [.ref (ad 10 0 0), .int a1] (fun r Y1 => (r, Y1) = res) :=
  fw_body (by decide +kernel) rfl (Nat.le_of_ble_eq_true rfl) (fun p e s m below meth c C hrt => w_X12_pansInUse C hrt hG  h)
theorem ly_X12_parseStepName_12 : ∀ w ∈ u_ws RX12 TX12 19, w ∈ wsX12_parseStepName := by decide +kernel
theorem fl_X12_parseStepName_66 : Cond.fieldLink RX12 66 "RecipeSchedulerModel" "commands" "[I" ∈ wsX12_parseStepName := by decide +kernel
theorem fl_X12_parseStepName_60 : Cond.fieldLink RX12 60 "RecipeSchedulerModel" "from" "I" ∈ wsX12_parseStepName := by decide +kernel
theorem fl_X12_parseStepName_54 : Cond.fieldLink RX12 54 "RecipeSchedulerModel" "ahead" "I" ∈ wsX12_parseStepName := by decide +kernel
section
variable {p : Program} {l : Launch} {e : Env} {s : State} {m : MethodId} {below : List Frame} {meth : Method} {c : Code} {N0 : Nat} {T : Nat → ClassId} {D : va_G} {gr : List (Nat × Nat)} {ad : Nat → Nat → Nat → Nat}
set_option maxRecDepth 100000 in
set_option maxHeartbeats 4000000 in
theorem w_X12_parseStepName {Y : Mem} {a1 : Int32} (C : Cx p s m [.ref (ad 10 0 0), .int a1].toArray meth c cX12_parseStepName 2 wsX12_parseStepName RX12 N0 T D gr ad) (hrt : meth.sig.returnType = (some .boolean)) (hG : ∀ q ∈ [(10, 0)], q ∈ gr) {res : Int32 × Mem} (h : X12_parseStepName Y a1 = some res) : FW p l e (Rm 2) s m [.ref (ad 10 0 0), .int a1].toArray below meth c 2 N0 T D gr ad 0 0 (MQ below (va_Qi (fun r Y1 => (r, Y1) = res) (WB T D gr ad) (fun q => N0 ≤ q)) [.ref (ad 10 0 0), .int a1].toArray s 0 0 (fun q => N0 ≤ q)) Y 0 [(0, .ref (ad 10 0 0)), (1, .int a1)] [] := by
  unfold X12_parseStepName at h
  refine fw_aload_n C dX12_parseStepName_0 rfl 0 rfl ?_
  obtain ⟨r1, Y3, q2, h⟩ := bd2_some h
  refine fw_callVi C (ci := 10) (Cn := RX12) (Tc := TX12) (N := 19) (As := []) (c_X12_isShortWord (gac (hG _ (List.mem_of_getElem? (i := 0) rfl)) ga0) q2) (cwV 0 (cx_ts C) gX12_parseStepName_X12_isShortWord rfl rfl rfl (by decide +kernel) ⟨Nat.le_of_ble_eq_true rfl, Nat.le_of_ble_eq_true rfl⟩) rfl (hG _ (List.mem_of_getElem? (i := 0) rfl)) (of10_0 _) (ce10 T ad _ _) rfl (st := []) rfl (Nat.le_of_ble_eq_true rfl) ⟨Nat.le_refl 0, Nat.le_refl 0⟩ dX12_parseStepName_1 (ppw ?_)
  refine fw_if_ne C dX12_parseStepName_4 (tgt := 9) rfl (fun c4 => ?_) (fun c4 => ?_)
  · have h := ite_f c4 h
    refine fw_aload_n C dX12_parseStepName_9 rfl 0 rfl ?_
    refine fw_get C (ci := 10) (Cn := RX12) (Tc := TX12) (N := 19) (j := 18) ly_X12_parseStepName_12 rfl (hG _ (List.mem_of_getElem? (i := 0) rfl)) (of10_0 _) (ce10 T ad _ _) (by decide) (cx_ts C _ fl_X12_parseStepName_66) (fun _ h => h) (v := .ref (ad 10 0 9)) rfl dX12_parseStepName_10 ?_
    refine fw_iload_n C dX12_parseStepName_13 rfl 1 rfl ?_
    refine fw_aload_n C dX12_parseStepName_14 rfl 0 rfl ?_
    refine fw_aload_n C dX12_parseStepName_15 rfl 0 rfl ?_
    refine fw_get C (ci := 10) (Cn := RX12) (Tc := TX12) (N := 19) (j := 16) ly_X12_parseStepName_12 rfl (hG _ (List.mem_of_getElem? (i := 0) rfl)) (of10_0 _) (ce10 T ad _ _) (by decide) (cx_ts C _ fl_X12_parseStepName_60) (fun _ h => h) (v := .int (Y3 10 0 0 16)) rfl dX12_parseStepName_16 ?_
    refine fw_aload_n C dX12_parseStepName_19 rfl 0 rfl ?_
    refine fw_get C (ci := 10) (Cn := RX12) (Tc := TX12) (N := 19) (j := 14) ly_X12_parseStepName_12 rfl (hG _ (List.mem_of_getElem? (i := 0) rfl)) (of10_0 _) (ce10 T ad _ _) (by decide) (cx_ts C _ fl_X12_parseStepName_54) (fun _ h => h) (v := .int (Y3 10 0 0 14)) rfl dX12_parseStepName_20 ?_
    refine fw_aload_n C dX12_parseStepName_23 rfl 0 rfl ?_
    refine fw_get C (ci := 10) (Cn := RX12) (Tc := TX12) (N := 19) (j := 16) ly_X12_parseStepName_12 rfl (hG _ (List.mem_of_getElem? (i := 0) rfl)) (of10_0 _) (ce10 T ad _ _) (by decide) (cx_ts C _ fl_X12_parseStepName_60) (fun _ h => h) (v := .int (Y3 10 0 0 16)) rfl dX12_parseStepName_24 ?_
    refine fw_isub C dX12_parseStepName_27 ?_
    obtain ⟨r5, q6, h⟩ := bd1_some h
    refine fw_callVi C (ci := 10) (Cn := RX12) (Tc := TX12) (N := 19) (As := [.int (Y3 10 0 0 16), .int ((Y3 10 0 0 14) - (Y3 10 0 0 16))]) (c_X12_stepNamed (gac (hG _ (List.mem_of_getElem? (i := 0) rfl)) ga0) q6) (cwV 2 (cx_ts C) gX12_parseStepName_X12_stepNamed rfl rfl rfl (by decide +kernel) ⟨Nat.le_of_ble_eq_true rfl, Nat.le_of_ble_eq_true rfl⟩) rfl (hG _ (List.mem_of_getElem? (i := 0) rfl)) (of10_0 _) (ce10 T ad _ _) rfl (st := [.int a1, .ref (ad 10 0 9)]) rfl (Nat.le_of_ble_eq_true rfl) ⟨Nat.le_refl 0, Nat.le_refl 0⟩ dX12_parseStepName_28 (pp2 ?_)
    obtain ⟨b7, h⟩ := gd_some h
    obtain ⟨Y8, e9, h⟩ := lt_some h
    refine fw_iast2 C (hG _ (List.mem_of_getElem? (i := 0) rfl)) (of10_9 _) (ca10_9 T ad _) b7 (Nat.le_of_ble_eq_true rfl) dX12_parseStepName_31 ?_
    refine fw_mem e9 ?_
    refine fw_aload_n C dX12_parseStepName_32 rfl 0 rfl ?_
    refine fw_get C (ci := 10) (Cn := RX12) (Tc := TX12) (N := 19) (j := 18) ly_X12_parseStepName_12 rfl (hG _ (List.mem_of_getElem? (i := 0) rfl)) (of10_0 _) (ce10 T ad _ _) (by decide) (cx_ts C _ fl_X12_parseStepName_66) (fun _ h => h) (v := .ref (ad 10 0 9)) rfl dX12_parseStepName_33 ?_
    refine fw_iload_n C dX12_parseStepName_36 rfl 1 rfl ?_
    refine fw_iald2 C (hG _ (List.mem_of_getElem? (i := 0) rfl)) (of10_9 _) (ca10_9 T ad _ _) b7 (Nat.le_of_ble_eq_true rfl) dX12_parseStepName_37 ?_
    refine fw_iconst C dX12_parseStepName_38 (v := (-1)) rfl ?_
    refine fw_icmp_ne C dX12_parseStepName_39 (tgt := 48) rfl (fun c10 => ?_) (fun c10 => ?_)
    · have h := ite_f c10 h
      refine fw_aload_n C dX12_parseStepName_48 rfl 0 rfl ?_
      obtain ⟨Y13, q12, h⟩ := bd1_some h
      refine fw_callVv C (ci := 10) (Cn := RX12) (Tc := TX12) (N := 19) (As := []) (c_X12_token (gac (hG _ (List.mem_of_getElem? (i := 0) rfl)) ga0) q12) (cwV 0 (cx_ts C) gX12_parseStepName_X12_token rfl rfl rfl (by decide +kernel) ⟨Nat.le_of_ble_eq_true rfl, Nat.le_of_ble_eq_true rfl⟩) rfl (hG _ (List.mem_of_getElem? (i := 0) rfl)) (of10_0 _) (ce10 T ad _ _) rfl (st := []) rfl (Nat.le_of_ble_eq_true rfl) ⟨Nat.le_refl 0, Nat.le_refl 0⟩ dX12_parseStepName_49 (ppv ?_)
      refine fw_iconst C dX12_parseStepName_52 (v := 1) rfl ?_
      exact fw_zret C hrt (by decide) Y13 (Option.some.inj h) (fun t ht => ht) dX12_parseStepName_53
    · have h := ite_t c10 h
      refine fw_aload_n C dX12_parseStepName_42 rfl 0 rfl ?_
      refine fw_iconst C dX12_parseStepName_43 (v := 3) rfl ?_
      obtain ⟨r14, Y16, q15, h⟩ := bd2_some h
      refine fw_callVi C (ci := 10) (Cn := RX12) (Tc := TX12) (N := 19) (As := [.int 3]) (c_X12_wrong (gac (hG _ (List.mem_of_getElem? (i := 0) rfl)) ga0) q15) (cwV 1 (cx_ts C) gX12_parseStepName_X12_wrong rfl rfl rfl (by decide +kernel) ⟨Nat.le_of_ble_eq_true rfl, Nat.le_of_ble_eq_true rfl⟩) rfl (hG _ (List.mem_of_getElem? (i := 0) rfl)) (of10_0 _) (ce10 T ad _ _) rfl (st := []) rfl (Nat.le_of_ble_eq_true rfl) ⟨Nat.le_refl 0, Nat.le_refl 0⟩ dX12_parseStepName_44 (ppw ?_)
      obtain ⟨b17, h⟩ := gd_some h
      exact fw_zret C hrt (of_decide_eq_true b17) Y16 (Option.some.inj h) (fun t ht => ht) dX12_parseStepName_47
  · have h := ite_t c4 h
    refine fw_iconst C dX12_parseStepName_7 (v := 0) rfl ?_
    exact fw_zret C hrt (by decide) Y3 (Option.some.inj h) (fun t ht => ht) dX12_parseStepName_8
end
set_option maxRecDepth 100000 in
set_option maxHeartbeats 4000000 in
theorem c_X12_parseStepName {l : Launch} {N0 : Nat} {T : Nat → ClassId} {D : va_G} {gr : List (Nat × Nat)} {ad : Nat → Nat → Nat → Nat} {Y : Mem} {a1 : Int32} {res : Int32 × Mem} (hG : ∀ q ∈ [(10, 0)], q ∈ gr) (h : X12_parseStepName Y a1 = some res) : CI l yX12_parseStepName wsX12_parseStepName (Rm 2) N0 T D gr ad Y [.ref (ad 10 0 0), .int a1] (fun r Y1 => (r, Y1) = res) :=
  fw_body (by decide +kernel) rfl (Nat.le_of_ble_eq_true rfl) (fun p e s m below meth c C hrt => w_X12_parseStepName C hrt hG  h)
theorem ly_X12_parseNumber_12 : ∀ w ∈ u_ws RX12 TX12 19, w ∈ wsX12_parseNumber := by decide +kernel
theorem fl_X12_parseNumber_57 : Cond.fieldLink RX12 57 "RecipeSchedulerModel" "type" "I" ∈ wsX12_parseNumber := by decide +kernel
theorem fl_X12_parseNumber_66 : Cond.fieldLink RX12 66 "RecipeSchedulerModel" "commands" "[I" ∈ wsX12_parseNumber := by decide +kernel
theorem fl_X12_parseNumber_63 : Cond.fieldLink RX12 63 "RecipeSchedulerModel" "value" "I" ∈ wsX12_parseNumber := by decide +kernel
section
variable {p : Program} {l : Launch} {e : Env} {s : State} {m : MethodId} {below : List Frame} {meth : Method} {c : Code} {N0 : Nat} {T : Nat → ClassId} {D : va_G} {gr : List (Nat × Nat)} {ad : Nat → Nat → Nat → Nat}
set_option maxRecDepth 100000 in
set_option maxHeartbeats 4000000 in
theorem w_X12_parseNumber {Y : Mem} {a1 : Int32} (C : Cx p s m [.ref (ad 10 0 0), .int a1].toArray meth c cX12_parseNumber 2 wsX12_parseNumber RX12 N0 T D gr ad) (hrt : meth.sig.returnType = (some .boolean)) (hG : ∀ q ∈ [(10, 0)], q ∈ gr) {res : Int32 × Mem} (h : X12_parseNumber Y a1 = some res) : FW p l e (Rm 2) s m [.ref (ad 10 0 0), .int a1].toArray below meth c 2 N0 T D gr ad 0 0 (MQ below (va_Qi (fun r Y1 => (r, Y1) = res) (WB T D gr ad) (fun q => N0 ≤ q)) [.ref (ad 10 0 0), .int a1].toArray s 0 0 (fun q => N0 ≤ q)) Y 0 [(0, .ref (ad 10 0 0)), (1, .int a1)] [] := by
  unfold X12_parseNumber at h
  refine fw_aload_n C dX12_parseNumber_0 rfl 0 rfl ?_
  refine fw_get C (ci := 10) (Cn := RX12) (Tc := TX12) (N := 19) (j := 15) ly_X12_parseNumber_12 rfl (hG _ (List.mem_of_getElem? (i := 0) rfl)) (of10_0 _) (ce10 T ad _ _) (by decide) (cx_ts C _ fl_X12_parseNumber_57) (fun _ h => h) (v := .int (Y 10 0 0 15)) rfl dX12_parseNumber_1 ?_
  refine fw_iconst C dX12_parseNumber_4 (v := 2) rfl ?_
  refine fw_icmp_eq C dX12_parseNumber_5 (tgt := 14) rfl (fun c1 => ?_) (fun c1 => ?_)
  · have h := ite_t c1 h
    refine fw_aload_n C dX12_parseNumber_14 rfl 0 rfl ?_
    refine fw_get C (ci := 10) (Cn := RX12) (Tc := TX12) (N := 19) (j := 18) ly_X12_parseNumber_12 rfl (hG _ (List.mem_of_getElem? (i := 0) rfl)) (of10_0 _) (ce10 T ad _ _) (by decide) (cx_ts C _ fl_X12_parseNumber_66) (fun _ h => h) (v := .ref (ad 10 0 9)) rfl dX12_parseNumber_15 ?_
    refine fw_iload_n C dX12_parseNumber_18 rfl 1 rfl ?_
    refine fw_aload_n C dX12_parseNumber_19 rfl 0 rfl ?_
    refine fw_get C (ci := 10) (Cn := RX12) (Tc := TX12) (N := 19) (j := 17) ly_X12_parseNumber_12 rfl (hG _ (List.mem_of_getElem? (i := 0) rfl)) (of10_0 _) (ce10 T ad _ _) (by decide) (cx_ts C _ fl_X12_parseNumber_63) (fun _ h => h) (v := .int (Y 10 0 0 17)) rfl dX12_parseNumber_20 ?_
    obtain ⟨b2, h⟩ := gd_some h
    obtain ⟨Y3, e4, h⟩ := lt_some h
    refine fw_iast2 C (hG _ (List.mem_of_getElem? (i := 0) rfl)) (of10_9 _) (ca10_9 T ad _) b2 (Nat.le_of_ble_eq_true rfl) dX12_parseNumber_23 ?_
    refine fw_mem e4 ?_
    refine fw_aload_n C dX12_parseNumber_24 rfl 0 rfl ?_
    obtain ⟨Y7, q6, h⟩ := bd1_some h
    refine fw_callVv C (ci := 10) (Cn := RX12) (Tc := TX12) (N := 19) (As := []) (c_X12_token (gac (hG _ (List.mem_of_getElem? (i := 0) rfl)) ga0) q6) (cwV 0 (cx_ts C) gX12_parseNumber_X12_token rfl rfl rfl (by decide +kernel) ⟨Nat.le_of_ble_eq_true rfl, Nat.le_of_ble_eq_true rfl⟩) rfl (hG _ (List.mem_of_getElem? (i := 0) rfl)) (of10_0 _) (ce10 T ad _ _) rfl (st := []) rfl (Nat.le_of_ble_eq_true rfl) ⟨Nat.le_refl 0, Nat.le_refl 0⟩ dX12_parseNumber_25 (ppv ?_)
    refine fw_iconst C dX12_parseNumber_28 (v := 1) rfl ?_
    exact fw_zret C hrt (by decide) Y7 (Option.some.inj h) (fun t ht => ht) dX12_parseNumber_29
  · have h := ite_f c1 h
    refine fw_aload_n C dX12_parseNumber_8 rfl 0 rfl ?_
    refine fw_iconst C dX12_parseNumber_9 (v := 1) rfl ?_
    obtain ⟨r8, Y10, q9, h⟩ := bd2_some h
    refine fw_callVi C (ci := 10) (Cn := RX12) (Tc := TX12) (N := 19) (As := [.int 1]) (c_X12_wrong (gac (hG _ (List.mem_of_getElem? (i := 0) rfl)) ga0) q9) (cwV 1 (cx_ts C) gX12_parseNumber_X12_wrong rfl rfl rfl (by decide +kernel) ⟨Nat.le_of_ble_eq_true rfl, Nat.le_of_ble_eq_true rfl⟩) rfl (hG _ (List.mem_of_getElem? (i := 0) rfl)) (of10_0 _) (ce10 T ad _ _) rfl (st := []) rfl (Nat.le_of_ble_eq_true rfl) ⟨Nat.le_refl 0, Nat.le_refl 0⟩ dX12_parseNumber_10 (ppw ?_)
    obtain ⟨b11, h⟩ := gd_some h
    exact fw_zret C hrt (of_decide_eq_true b11) Y10 (Option.some.inj h) (fun t ht => ht) dX12_parseNumber_13
end
set_option maxRecDepth 100000 in
set_option maxHeartbeats 4000000 in
theorem c_X12_parseNumber {l : Launch} {N0 : Nat} {T : Nat → ClassId} {D : va_G} {gr : List (Nat × Nat)} {ad : Nat → Nat → Nat → Nat} {Y : Mem} {a1 : Int32} {res : Int32 × Mem} (hG : ∀ q ∈ [(10, 0)], q ∈ gr) (h : X12_parseNumber Y a1 = some res) : CI l yX12_parseNumber wsX12_parseNumber (Rm 2) N0 T D gr ad Y [.ref (ad 10 0 0), .int a1] (fun r Y1 => (r, Y1) = res) :=
  fw_body (by decide +kernel) rfl (Nat.le_of_ble_eq_true rfl) (fun p e s m below meth c C hrt => w_X12_parseNumber C hrt hG  h)
section
variable {p : Program} {l : Launch} {e : Env} {s : State} {m : MethodId} {below : List Frame} {meth : Method} {c : Code} {N0 : Nat} {T : Nat → ClassId} {D : va_G} {gr : List (Nat × Nat)} {ad : Nat → Nat → Nat → Nat}
set_option maxRecDepth 100000 in
set_option maxHeartbeats 4000000 in
theorem w_X12_parseArguments {Y : Mem} {a1 : Int32} {a2 : Int32} (C : Cx p s m [.ref (ad 10 0 0), .int a1, .int a2].toArray meth c cX12_parseArguments 3 wsX12_parseArguments RX12 N0 T D gr ad) (hrt : meth.sig.returnType = (some .boolean)) (hG : ∀ q ∈ [(10, 0)], q ∈ gr) {res : Int32 × Mem} (h : X12_parseArguments Y a1 a2 = some res) : FW p l e (Rm 3) s m [.ref (ad 10 0 0), .int a1, .int a2].toArray below meth c 3 N0 T D gr ad 0 0 (MQ below (va_Qi (fun r Y1 => (r, Y1) = res) (WB T D gr ad) (fun q => N0 ≤ q)) [.ref (ad 10 0 0), .int a1, .int a2].toArray s 0 0 (fun q => N0 ≤ q)) Y 0 [(0, .ref (ad 10 0 0)), (1, .int a1), (2, .int a2)] [] := by
  unfold X12_parseArguments at h
  refine fw_iload_n C dX12_parseArguments_0 rfl 1 rfl ?_
  by_cases c1 : a1 = 3
  · have h := ite_t c1 h
    refine fw_tableIn C dX12_parseArguments_1 (by rw [c1]; decide +kernel) (by rw [c1]; decide +kernel) (off := 37) (by rw [c1]; decide +kernel) (tgt := 38) rfl ?_
    refine fw_aload_n C dX12_parseArguments_38 rfl 0 rfl ?_
    refine fw_iload_n C dX12_parseArguments_39 rfl 2 rfl ?_
    obtain ⟨r2, Y4, q3, h⟩ := bd2_some h
    refine fw_callVi C (ci := 10) (Cn := RX12) (Tc := TX12) (N := 19) (As := [.int a2]) (c_X12_parseStepName (gac (hG _ (List.mem_of_getElem? (i := 0) rfl)) ga0) q3) (cwV 1 (cx_ts C) gX12_parseArguments_X12_parseStepName rfl rfl rfl (by decide +kernel) ⟨Nat.le_of_ble_eq_true rfl, Nat.le_of_ble_eq_true rfl⟩) rfl (hG _ (List.mem_of_getElem? (i := 0) rfl)) (of10_0 _) (ce10 T ad _ _) rfl (st := []) rfl (Nat.le_of_ble_eq_true rfl) ⟨Nat.le_refl 0, Nat.le_refl 0⟩ dX12_parseArguments_40 (ppw ?_)
    obtain ⟨b5, h⟩ := gd_some h
    exact fw_zret C hrt (of_decide_eq_true b5) Y4 (Option.some.inj h) (fun t ht => ht) dX12_parseArguments_43
  · have h := ite_f c1 h
    by_cases c6 : a1 = 4
    · have h := ite_t c6 h
      refine fw_tableIn C dX12_parseArguments_1 (by rw [c6]; decide +kernel) (by rw [c6]; decide +kernel) (off := 37) (by rw [c6]; decide +kernel) (tgt := 38) rfl ?_
      refine fw_aload_n C dX12_parseArguments_38 rfl 0 rfl ?_
      refine fw_iload_n C dX12_parseArguments_39 rfl 2 rfl ?_
      obtain ⟨r7, Y9, q8, h⟩ := bd2_some h
      refine fw_callVi C (ci := 10) (Cn := RX12) (Tc := TX12) (N := 19) (As := [.int a2]) (c_X12_parseStepName (gac (hG _ (List.mem_of_getElem? (i := 0) rfl)) ga0) q8) (cwV 1 (cx_ts C) gX12_parseArguments_X12_parseStepName rfl rfl rfl (by decide +kernel) ⟨Nat.le_of_ble_eq_true rfl, Nat.le_of_ble_eq_true rfl⟩) rfl (hG _ (List.mem_of_getElem? (i := 0) rfl)) (of10_0 _) (ce10 T ad _ _) rfl (st := []) rfl (Nat.le_of_ble_eq_true rfl) ⟨Nat.le_refl 0, Nat.le_refl 0⟩ dX12_parseArguments_40 (ppw ?_)
      obtain ⟨b10, h⟩ := gd_some h
      exact fw_zret C hrt (of_decide_eq_true b10) Y9 (Option.some.inj h) (fun t ht => ht) dX12_parseArguments_43
    · have h := ite_f c6 h
      by_cases c11 : a1 = 5
      · have h := ite_t c11 h
        refine fw_tableIn C dX12_parseArguments_1 (by rw [c11]; decide +kernel) (by rw [c11]; decide +kernel) (off := 67) (by rw [c11]; decide +kernel) (tgt := 68) rfl ?_
        refine fw_aload_n C dX12_parseArguments_68 rfl 0 rfl ?_
        refine fw_iload_n C dX12_parseArguments_69 rfl 2 rfl ?_
        obtain ⟨r12, Y14, q13, h⟩ := bd2_some h
        refine fw_callVi C (ci := 10) (Cn := RX12) (Tc := TX12) (N := 19) (As := [.int a2]) (c_X12_parseNumber (gac (hG _ (List.mem_of_getElem? (i := 0) rfl)) ga0) q13) (cwV 1 (cx_ts C) gX12_parseArguments_X12_parseNumber rfl rfl rfl (by decide +kernel) ⟨Nat.le_of_ble_eq_true rfl, Nat.le_of_ble_eq_true rfl⟩) rfl (hG _ (List.mem_of_getElem? (i := 0) rfl)) (of10_0 _) (ce10 T ad _ _) rfl (st := []) rfl (Nat.le_of_ble_eq_true rfl) ⟨Nat.le_refl 0, Nat.le_refl 0⟩ dX12_parseArguments_70 (ppw ?_)
        obtain ⟨b15, h⟩ := gd_some h
        exact fw_zret C hrt (of_decide_eq_true b15) Y14 (Option.some.inj h) (fun t ht => ht) dX12_parseArguments_73
      · have h := ite_f c11 h
        by_cases c16 : a1 = 6
        · have h := ite_t c16 h
          refine fw_tableIn C dX12_parseArguments_1 (by rw [c16]; decide +kernel) (by rw [c16]; decide +kernel) (off := 43) (by rw [c16]; decide +kernel) (tgt := 44) rfl ?_
          refine fw_aload_n C dX12_parseArguments_44 rfl 0 rfl ?_
          refine fw_iload_n C dX12_parseArguments_45 rfl 2 rfl ?_
          obtain ⟨r17, Y19, q18, h⟩ := bd2_some h
          refine fw_callVi C (ci := 10) (Cn := RX12) (Tc := TX12) (N := 19) (As := [.int a2]) (c_X12_parseStepName (gac (hG _ (List.mem_of_getElem? (i := 0) rfl)) ga0) q18) (cwV 1 (cx_ts C) gX12_parseArguments_X12_parseStepName rfl rfl rfl (by decide +kernel) ⟨Nat.le_of_ble_eq_true rfl, Nat.le_of_ble_eq_true rfl⟩) rfl (hG _ (List.mem_of_getElem? (i := 0) rfl)) (of10_0 _) (ce10 T ad _ _) rfl (st := []) rfl (Nat.le_of_ble_eq_true rfl) ⟨Nat.le_refl 0, Nat.le_refl 0⟩ dX12_parseArguments_46 (ppw ?_)
          refine fw_if_eq C dX12_parseArguments_49 (tgt := 66) rfl (fun c20 => ?_) (fun c20 => ?_)
          · have h := ite_t c20 h
            refine fw_iconst C dX12_parseArguments_66 (v := 0) rfl ?_
            exact fw_zret C hrt (by decide) Y19 (Option.some.inj h) (fun t ht => ht) dX12_parseArguments_67
          · have h := ite_f c20 h
            refine fw_aload_n C dX12_parseArguments_52 rfl 0 rfl ?_
            refine fw_iload_n C dX12_parseArguments_53 rfl 2 rfl ?_
            refine fw_iconst C dX12_parseArguments_54 (v := 1) rfl ?_
            refine fw_iadd C dX12_parseArguments_55 ?_
            obtain ⟨r21, Y23, q22, h⟩ := bd2_some h
            refine fw_callVi C (ci := 10) (Cn := RX12) (Tc := TX12) (N := 19) (As := [.int (a2 + 1)]) (c_X12_parseNumber (gac (hG _ (List.mem_of_getElem? (i := 0) rfl)) ga0) q22) (cwV 1 (cx_ts C) gX12_parseArguments_X12_parseNumber rfl rfl rfl (by decide +kernel) ⟨Nat.le_of_ble_eq_true rfl, Nat.le_of_ble_eq_true rfl⟩) rfl (hG _ (List.mem_of_getElem? (i := 0) rfl)) (of10_0 _) (ce10 T ad _ _) rfl (st := []) rfl (Nat.le_of_ble_eq_true rfl) ⟨Nat.le_refl 0, Nat.le_refl 0⟩ dX12_parseArguments_56 (ppw ?_)
            refine fw_if_eq C dX12_parseArguments_59 (tgt := 66) rfl (fun c24 => ?_) (fun c24 => ?_)
            · have h := ite_t c24 h
              refine fw_iconst C dX12_parseArguments_66 (v := 0) rfl ?_
              exact fw_zret C hrt (by decide) Y23 (Option.some.inj h) (fun t ht => ht) dX12_parseArguments_67
            · have h := ite_f c24 h
              refine fw_iconst C dX12_parseArguments_62 (v := 1) rfl ?_
              refine fw_goto C dX12_parseArguments_63 (tgt := 67) rfl ?_
              exact fw_zret C hrt (by decide) Y23 (Option.some.inj h) (fun t ht => ht) dX12_parseArguments_67
        · have h := ite_f c16 h
          by_cases c25 : a1 = 7
          · have h := ite_t c25 h
            refine fw_tableIn C dX12_parseArguments_1 (by rw [c25]; decide +kernel) (by rw [c25]; decide +kernel) (off := 35) (by rw [c25]; decide +kernel) (tgt := 36) rfl ?_
            refine fw_iconst C dX12_parseArguments_36 (v := 1) rfl ?_
            exact fw_zret C hrt (by decide) Y (Option.some.inj h) (fun t ht => ht) dX12_parseArguments_37
          · have h := ite_f c25 h
            have c1 : ¬ (a1).toInt = 3 := fun q => c1 (Int32.toInt_inj.mp (by rw [q]; decide +kernel))
            have c6 : ¬ (a1).toInt = 4 := fun q => c6 (Int32.toInt_inj.mp (by rw [q]; decide +kernel))
            have c11 : ¬ (a1).toInt = 5 := fun q => c11 (Int32.toInt_inj.mp (by rw [q]; decide +kernel))
            have c16 : ¬ (a1).toInt = 6 := fun q => c16 (Int32.toInt_inj.mp (by rw [q]; decide +kernel))
            have c25 : ¬ (a1).toInt = 7 := fun q => c25 (Int32.toInt_inj.mp (by rw [q]; decide +kernel))
            refine fw_tableOut C dX12_parseArguments_1 (by omega) (tgt := 68) rfl ?_
            refine fw_aload_n C dX12_parseArguments_68 rfl 0 rfl ?_
            refine fw_iload_n C dX12_parseArguments_69 rfl 2 rfl ?_
            obtain ⟨r26, Y28, q27, h⟩ := bd2_some h
            refine fw_callVi C (ci := 10) (Cn := RX12) (Tc := TX12) (N := 19) (As := [.int a2]) (c_X12_parseNumber (gac (hG _ (List.mem_of_getElem? (i := 0) rfl)) ga0) q27) (cwV 1 (cx_ts C) gX12_parseArguments_X12_parseNumber rfl rfl rfl (by decide +kernel) ⟨Nat.le_of_ble_eq_true rfl, Nat.le_of_ble_eq_true rfl⟩) rfl (hG _ (List.mem_of_getElem? (i := 0) rfl)) (of10_0 _) (ce10 T ad _ _) rfl (st := []) rfl (Nat.le_of_ble_eq_true rfl) ⟨Nat.le_refl 0, Nat.le_refl 0⟩ dX12_parseArguments_70 (ppw ?_)
            obtain ⟨b29, h⟩ := gd_some h
            exact fw_zret C hrt (of_decide_eq_true b29) Y28 (Option.some.inj h) (fun t ht => ht) dX12_parseArguments_73
end
set_option maxRecDepth 100000 in
set_option maxHeartbeats 4000000 in
theorem c_X12_parseArguments {l : Launch} {N0 : Nat} {T : Nat → ClassId} {D : va_G} {gr : List (Nat × Nat)} {ad : Nat → Nat → Nat → Nat} {Y : Mem} {a1 : Int32} {a2 : Int32} {res : Int32 × Mem} (hG : ∀ q ∈ [(10, 0)], q ∈ gr) (h : X12_parseArguments Y a1 a2 = some res) : CI l yX12_parseArguments wsX12_parseArguments (Rm 3) N0 T D gr ad Y [.ref (ad 10 0 0), .int a1, .int a2] (fun r Y1 => (r, Y1) = res) :=
  fw_body (by decide +kernel) rfl (Nat.le_of_ble_eq_true rfl) (fun p e s m below meth c C hrt => w_X12_parseArguments C hrt hG  h)
