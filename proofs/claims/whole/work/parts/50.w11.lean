theorem ly_X12_passMinutes_12 : ∀ w ∈ u_ws RX12 TX12 19, w ∈ wsX12_passMinutes := by decide +kernel
theorem fl_X12_passMinutes_13 : Cond.fieldLink RX12 13 "RecipeSchedulerModel" "m" "[I" ∈ wsX12_passMinutes := by decide +kernel
section
variable {p : Program} {l : Launch} {e : Env} {s : State} {m : MethodId} {below : List Frame} {meth : Method} {c : Code} {N0 : Nat} {T : Nat → ClassId} {D : va_G} {gr : List (Nat × Nat)} {ad : Nat → Nat → Nat → Nat}
set_option maxRecDepth 100000 in
set_option maxHeartbeats 4000000 in
theorem w_X12_passMinutes_b10 {a1 : Int32} (C : Cx p s m [.ref (ad 10 0 0), .int a1].toArray meth c cX12_passMinutes 4 wsX12_passMinutes RX12 N0 T D gr ad) (hrt : meth.sig.returnType = (some .int)) (hG : ∀ q ∈ [(10, 0)], q ∈ gr) {res : Int32 × Mem} : ∀ (n : Nat) (Y : Mem) (l3 : Int32) (l2 : Int32), X12_passMinutes_b10 a1  n Y l3 l2 = some res → FW p l e (Rm 8) s m [.ref (ad 10 0 0), .int a1].toArray below meth c 4 N0 T D gr ad 0 0 (MQ below (va_Qi (fun r Y1 => (r, Y1) = res) (WB T D gr ad) (fun q => N0 ≤ q)) [.ref (ad 10 0 0), .int a1].toArray s 0 0 (fun q => N0 ≤ q)) Y 10 [(3, .int l3), (2, .int l2), (0, .ref (ad 10 0 0)), (1, .int a1)] [] := by
  intro n
  induction n with
  | zero =>
    intro Y l3 l2 h
    unfold X12_passMinutes_b10 at h
    cases h
  | succ n ih =>
    intro Y l3 l2 h
    unfold X12_passMinutes_b10 at h
    refine fw_iload_n C dX12_passMinutes_10 rfl 0 rfl ?_
    refine fw_iload_n C dX12_passMinutes_11 rfl 3 rfl ?_
    refine fw_icmp_ge C dX12_passMinutes_12 (tgt := 25) rfl (fun c4 => ?_) (fun c4 => ?_)
    · have h := ite_t c4 h
      refine fw_aload_n C dX12_passMinutes_25 rfl 2 rfl ?_
      refine fw_get C (ci := 10) (Cn := RX12) (Tc := TX12) (N := 19) (j := 0) ly_X12_passMinutes_12 rfl (hG _ (List.mem_of_getElem? (i := 0) rfl)) (of10_0 _) (ce10 T ad _ _) (by decide) (cx_ts C _ fl_X12_passMinutes_13) (fun _ h => h) (v := .ref (ad 10 0 1)) rfl dX12_passMinutes_26 ?_
      refine fw_bipush C dX12_passMinutes_29 (v := 8) rfl ?_
      obtain ⟨b5, h⟩ := gd_some h
      refine fw_iald2 C (hG _ (List.mem_of_getElem? (i := 0) rfl)) (of10_1 _) (ca10_1 T ad _ _) b5 (Nat.le_of_ble_eq_true rfl) dX12_passMinutes_31 ?_
      refine fw_iload_n C dX12_passMinutes_32 rfl 1 rfl ?_
      refine fw_isub C dX12_passMinutes_33 ?_
      exact fw_iret C hrt Y (Option.some.inj h) (fun t ht => ht) dX12_passMinutes_34
    · have h := ite_f c4 h
      refine fw_aload_n C dX12_passMinutes_15 rfl 2 rfl ?_
      obtain ⟨Y8, q7, h⟩ := bd1_some h
      refine fw_callVv C (ci := 10) (Cn := RX12) (Tc := TX12) (N := 19) (As := []) (c_X12_passMinute (gac (hG _ (List.mem_of_getElem? (i := 0) rfl)) ga0) q7) (cwV 0 (cx_ts C) gX12_passMinutes_X12_passMinute rfl rfl rfl (by decide +kernel) ⟨Nat.le_of_ble_eq_true rfl, Nat.le_of_ble_eq_true rfl⟩) rfl (hG _ (List.mem_of_getElem? (i := 0) rfl)) (of10_0 _) (ce10 T ad _ _) rfl (st := []) rfl (Nat.le_of_ble_eq_true rfl) ⟨Nat.le_refl 0, Nat.le_refl 0⟩ dX12_passMinutes_16 (ppv ?_)
      refine fw_iinc C dX12_passMinutes_19 (kk := 0) (v := l3 + 1) rfl rfl (by decide) (L' := [(3, .int (l3 + 1)), (2, .int l2), (0, .ref (ad 10 0 0)), (1, .int a1)]) rfl ?_
      refine fw_goto C dX12_passMinutes_22 (tgt := 10) rfl ?_
      exact ih _ _ _ h
set_option maxRecDepth 100000 in
set_option maxHeartbeats 4000000 in
theorem w_X12_passMinutes {Y : Mem} {a1 : Int32} (C : Cx p s m [.ref (ad 10 0 0), .int a1].toArray meth c cX12_passMinutes 4 wsX12_passMinutes RX12 N0 T D gr ad) (hrt : meth.sig.returnType = (some .int)) (hG : ∀ q ∈ [(10, 0)], q ∈ gr) {res : Int32 × Mem} (h : X12_passMinutes Y a1 = some res) : FW p l e (Rm 8) s m [.ref (ad 10 0 0), .int a1].toArray below meth c 4 N0 T D gr ad 0 0 (MQ below (va_Qi (fun r Y1 => (r, Y1) = res) (WB T D gr ad) (fun q => N0 ≤ q)) [.ref (ad 10 0 0), .int a1].toArray s 0 0 (fun q => N0 ≤ q)) Y 0 [(0, .ref (ad 10 0 0)), (1, .int a1)] [] := by
  unfold X12_passMinutes at h
  refine fw_aload_n C dX12_passMinutes_0 rfl 0 rfl ?_
  refine fw_get C (ci := 10) (Cn := RX12) (Tc := TX12) (N := 19) (j := 0) ly_X12_passMinutes_12 rfl (hG _ (List.mem_of_getElem? (i := 0) rfl)) (of10_0 _) (ce10 T ad _ _) (by decide) (cx_ts C _ fl_X12_passMinutes_13) (fun _ h => h) (v := .ref (ad 10 0 1)) rfl dX12_passMinutes_1 ?_
  refine fw_bipush C dX12_passMinutes_4 (v := 8) rfl ?_
  obtain ⟨b1, h⟩ := gd_some h
  refine fw_iald2 C (hG _ (List.mem_of_getElem? (i := 0) rfl)) (of10_1 _) (ca10_1 T ad _ _) b1 (Nat.le_of_ble_eq_true rfl) dX12_passMinutes_6 ?_
  obtain ⟨v2, e3, h⟩ := lt_some h
  refine fw_top (v' := .int v2) (by rw [e3]) ?_
  refine fw_istore_n C dX12_passMinutes_7 rfl (by decide) (L' := [(2, .int v2), (0, .ref (ad 10 0 0)), (1, .int a1)]) rfl ?_
  refine fw_iconst C dX12_passMinutes_8 (v := 0) rfl ?_
  refine fw_istore_n C dX12_passMinutes_9 rfl (by decide) (L' := [(3, .int 0), (2, .int v2), (0, .ref (ad 10 0 0)), (1, .int a1)]) rfl ?_
  exact w_X12_passMinutes_b10 C hrt hG   _ _ _ _ h
end
set_option maxRecDepth 100000 in
set_option maxHeartbeats 4000000 in
theorem c_X12_passMinutes {l : Launch} {N0 : Nat} {T : Nat → ClassId} {D : va_G} {gr : List (Nat × Nat)} {ad : Nat → Nat → Nat → Nat} {Y : Mem} {a1 : Int32} {res : Int32 × Mem} (hG : ∀ q ∈ [(10, 0)], q ∈ gr) (h : X12_passMinutes Y a1 = some res) : CI l yX12_passMinutes wsX12_passMinutes (Rm 8) N0 T D gr ad Y [.ref (ad 10 0 0), .int a1] (fun r Y1 => (r, Y1) = res) :=
  fw_body (by decide +kernel) rfl (Nat.le_of_ble_eq_true rfl) (fun p e s m below meth c C hrt => w_X12_passMinutes C hrt hG  h)
theorem ly_X12_stopIt_12 : ∀ w ∈ u_ws RX12 TX12 19, w ∈ wsX12_stopIt := by decide +kernel
theorem fl_X12_stopIt_13 : Cond.fieldLink RX12 13 "RecipeSchedulerModel" "m" "[I" ∈ wsX12_stopIt := by decide +kernel
section
variable {p : Program} {l : Launch} {e : Env} {s : State} {m : MethodId} {below : List Frame} {meth : Method} {c : Code} {N0 : Nat} {T : Nat → ClassId} {D : va_G} {gr : List (Nat × Nat)} {ad : Nat → Nat → Nat → Nat}
set_option maxRecDepth 100000 in
set_option maxHeartbeats 4000000 in
theorem w_X12_stopIt {Y : Mem} {a1 : Int32} (C : Cx p s m [.ref (ad 10 0 0), .int a1].toArray meth c cX12_stopIt 3 wsX12_stopIt RX12 N0 T D gr ad) (hrt : meth.sig.returnType = (some .int)) (hG : ∀ q ∈ [(10, 0)], q ∈ gr) {res : Int32 × Mem} (h : X12_stopIt Y a1 = some res) : FW p l e (Rm 1) s m [.ref (ad 10 0 0), .int a1].toArray below meth c 3 N0 T D gr ad 0 0 (MQ below (va_Qi (fun r Y1 => (r, Y1) = res) (WB T D gr ad) (fun q => N0 ≤ q)) [.ref (ad 10 0 0), .int a1].toArray s 0 0 (fun q => N0 ≤ q)) Y 0 [(0, .ref (ad 10 0 0)), (1, .int a1)] [] := by
  unfold X12_stopIt at h
  refine fw_aload_n C dX12_stopIt_0 rfl 0 rfl ?_
  refine fw_iload_n C dX12_stopIt_1 rfl 1 rfl ?_
  refine fw_bipush C dX12_stopIt_2 (v := 18) rfl ?_
  obtain ⟨r1, q2, h⟩ := bd1_some h
  refine fw_callVi C (ci := 10) (Cn := RX12) (Tc := TX12) (N := 19) (As := [.int a1, .int 18]) (c_X12_of (gac (hG _ (List.mem_of_getElem? (i := 0) rfl)) ga0) q2) (cwV 2 (cx_ts C) gX12_stopIt_X12_of rfl rfl rfl (by decide +kernel) ⟨Nat.le_of_ble_eq_true rfl, Nat.le_of_ble_eq_true rfl⟩) rfl (hG _ (List.mem_of_getElem? (i := 0) rfl)) (of10_0 _) (ce10 T ad _ _) rfl (st := []) rfl (Nat.le_of_ble_eq_true rfl) ⟨Nat.le_refl 0, Nat.le_refl 0⟩ dX12_stopIt_4 (pp2 ?_)
  refine fw_istore_n C dX12_stopIt_7 rfl (by decide) (L' := [(2, .int r1), (0, .ref (ad 10 0 0)), (1, .int a1)]) rfl ?_
  refine fw_aload_n C dX12_stopIt_8 rfl 1 rfl ?_
  refine fw_iload_n C dX12_stopIt_9 rfl 2 rfl ?_
  refine fw_bipush C dX12_stopIt_10 (v := 17) rfl ?_
  refine fw_iconst C dX12_stopIt_12 (v := 0) rfl ?_
  obtain ⟨Y5, q4, h⟩ := bd1_some h
  refine fw_callVv C (ci := 10) (Cn := RX12) (Tc := TX12) (N := 19) (As := [.int a1, .int 17, .int 0]) (c_X12_set (gac (hG _ (List.mem_of_getElem? (i := 0) rfl)) ga0) q4) (cwV 3 (cx_ts C) gX12_stopIt_X12_set rfl rfl rfl (by decide +kernel) ⟨Nat.le_of_ble_eq_true rfl, Nat.le_of_ble_eq_true rfl⟩) rfl (hG _ (List.mem_of_getElem? (i := 0) rfl)) (of10_0 _) (ce10 T ad _ _) rfl (st := []) rfl (Nat.le_of_ble_eq_true rfl) ⟨Nat.le_refl 0, Nat.le_refl 0⟩ dX12_stopIt_13 (ppv ?_)
  refine fw_aload_n C dX12_stopIt_16 rfl 1 rfl ?_
  refine fw_iload_n C dX12_stopIt_17 rfl 2 rfl ?_
  refine fw_bipush C dX12_stopIt_18 (v := 18) rfl ?_
  refine fw_iconst C dX12_stopIt_20 (v := 0) rfl ?_
  obtain ⟨Y8, q7, h⟩ := bd1_some h
  refine fw_callVv C (ci := 10) (Cn := RX12) (Tc := TX12) (N := 19) (As := [.int a1, .int 18, .int 0]) (c_X12_set (gac (hG _ (List.mem_of_getElem? (i := 0) rfl)) ga0) q7) (cwV 3 (cx_ts C) gX12_stopIt_X12_set rfl rfl rfl (by decide +kernel) ⟨Nat.le_of_ble_eq_true rfl, Nat.le_of_ble_eq_true rfl⟩) rfl (hG _ (List.mem_of_getElem? (i := 0) rfl)) (of10_0 _) (ce10 T ad _ _) rfl (st := []) rfl (Nat.le_of_ble_eq_true rfl) ⟨Nat.le_refl 0, Nat.le_refl 0⟩ dX12_stopIt_21 (ppv ?_)
  refine fw_aload_n C dX12_stopIt_24 rfl 1 rfl ?_
  refine fw_get C (ci := 10) (Cn := RX12) (Tc := TX12) (N := 19) (j := 0) ly_X12_stopIt_12 rfl (hG _ (List.mem_of_getElem? (i := 0) rfl)) (of10_0 _) (ce10 T ad _ _) (by decide) (cx_ts C _ fl_X12_stopIt_13) (fun _ h => h) (v := .ref (ad 10 0 1)) rfl dX12_stopIt_25 ?_
  refine fw_bipush C dX12_stopIt_28 (v := 11) rfl ?_
  refine fw_dup2 C dX12_stopIt_30 rfl rfl ?_
  obtain ⟨b9, h⟩ := gd_some h
  refine fw_iald2 C (hG _ (List.mem_of_getElem? (i := 0) rfl)) (of10_1 _) (ca10_1 T ad _ _) b9 (Nat.le_of_ble_eq_true rfl) dX12_stopIt_31 ?_
  refine fw_iconst C dX12_stopIt_32 (v := 1) rfl ?_
  refine fw_iadd C dX12_stopIt_33 ?_
  obtain ⟨Y10, e11, h⟩ := lt_some h
  refine fw_iast2 C (hG _ (List.mem_of_getElem? (i := 0) rfl)) (of10_1 _) (ca10_1 T ad _) b9 (Nat.le_of_ble_eq_true rfl) dX12_stopIt_34 ?_
  refine fw_mem e11 ?_
  refine fw_iload_n C dX12_stopIt_35 rfl 0 rfl ?_
  exact fw_iret C hrt Y10 (Option.some.inj h) (fun t ht => ht) dX12_stopIt_36
end
set_option maxRecDepth 100000 in
set_option maxHeartbeats 4000000 in
theorem c_X12_stopIt {l : Launch} {N0 : Nat} {T : Nat → ClassId} {D : va_G} {gr : List (Nat × Nat)} {ad : Nat → Nat → Nat → Nat} {Y : Mem} {a1 : Int32} {res : Int32 × Mem} (hG : ∀ q ∈ [(10, 0)], q ∈ gr) (h : X12_stopIt Y a1 = some res) : CI l yX12_stopIt wsX12_stopIt (Rm 1) N0 T D gr ad Y [.ref (ad 10 0 0), .int a1] (fun r Y1 => (r, Y1) = res) :=
  fw_body (by decide +kernel) rfl (Nat.le_of_ble_eq_true rfl) (fun p e s m below meth c C hrt => w_X12_stopIt C hrt hG  h)
section
variable {p : Program} {l : Launch} {e : Env} {s : State} {m : MethodId} {below : List Frame} {meth : Method} {c : Code} {N0 : Nat} {T : Nat → ClassId} {D : va_G} {gr : List (Nat × Nat)} {ad : Nat → Nat → Nat → Nat}
set_option maxRecDepth 100000 in
set_option maxHeartbeats 4000000 in
theorem w_X12_redoIt {Y : Mem} {a1 : Int32} (C : Cx p s m [.ref (ad 10 0 0), .int a1].toArray meth c cX12_redoIt 3 wsX12_redoIt RX12 N0 T D gr ad) (hrt : meth.sig.returnType = (some .int)) (hG : ∀ q ∈ [(10, 0)], q ∈ gr) {res : Int32 × Mem} (h : X12_redoIt Y a1 = some res) : FW p l e (Rm 1) s m [.ref (ad 10 0 0), .int a1].toArray below meth c 3 N0 T D gr ad 0 0 (MQ below (va_Qi (fun r Y1 => (r, Y1) = res) (WB T D gr ad) (fun q => N0 ≤ q)) [.ref (ad 10 0 0), .int a1].toArray s 0 0 (fun q => N0 ≤ q)) Y 0 [(0, .ref (ad 10 0 0)), (1, .int a1)] [] := by
  unfold X12_redoIt at h
  refine fw_aload_n C dX12_redoIt_0 rfl 0 rfl ?_
  refine fw_iload_n C dX12_redoIt_1 rfl 1 rfl ?_
  refine fw_bipush C dX12_redoIt_2 (v := 19) rfl ?_
  obtain ⟨r1, q2, h⟩ := bd1_some h
  refine fw_callVi C (ci := 10) (Cn := RX12) (Tc := TX12) (N := 19) (As := [.int a1, .int 19]) (c_X12_of (gac (hG _ (List.mem_of_getElem? (i := 0) rfl)) ga0) q2) (cwV 2 (cx_ts C) gX12_redoIt_X12_of rfl rfl rfl (by decide +kernel) ⟨Nat.le_of_ble_eq_true rfl, Nat.le_of_ble_eq_true rfl⟩) rfl (hG _ (List.mem_of_getElem? (i := 0) rfl)) (of10_0 _) (ce10 T ad _ _) rfl (st := []) rfl (Nat.le_of_ble_eq_true rfl) ⟨Nat.le_refl 0, Nat.le_refl 0⟩ dX12_redoIt_4 (pp2 ?_)
  refine fw_istore_n C dX12_redoIt_7 rfl (by decide) (L' := [(2, .int r1), (0, .ref (ad 10 0 0)), (1, .int a1)]) rfl ?_
  refine fw_aload_n C dX12_redoIt_8 rfl 1 rfl ?_
  refine fw_iload_n C dX12_redoIt_9 rfl 2 rfl ?_
  refine fw_bipush C dX12_redoIt_10 (v := 17) rfl ?_
  refine fw_iconst C dX12_redoIt_12 (v := 0) rfl ?_
  obtain ⟨Y5, q4, h⟩ := bd1_some h
  refine fw_callVv C (ci := 10) (Cn := RX12) (Tc := TX12) (N := 19) (As := [.int a1, .int 17, .int 0]) (c_X12_set (gac (hG _ (List.mem_of_getElem? (i := 0) rfl)) ga0) q4) (cwV 3 (cx_ts C) gX12_redoIt_X12_set rfl rfl rfl (by decide +kernel) ⟨Nat.le_of_ble_eq_true rfl, Nat.le_of_ble_eq_true rfl⟩) rfl (hG _ (List.mem_of_getElem? (i := 0) rfl)) (of10_0 _) (ce10 T ad _ _) rfl (st := []) rfl (Nat.le_of_ble_eq_true rfl) ⟨Nat.le_refl 0, Nat.le_refl 0⟩ dX12_redoIt_13 (ppv ?_)
  refine fw_aload_n C dX12_redoIt_16 rfl 1 rfl ?_
  refine fw_iload_n C dX12_redoIt_17 rfl 2 rfl ?_
  refine fw_bipush C dX12_redoIt_18 (v := 19) rfl ?_
  refine fw_iconst C dX12_redoIt_20 (v := 0) rfl ?_
  obtain ⟨Y8, q7, h⟩ := bd1_some h
  refine fw_callVv C (ci := 10) (Cn := RX12) (Tc := TX12) (N := 19) (As := [.int a1, .int 19, .int 0]) (c_X12_set (gac (hG _ (List.mem_of_getElem? (i := 0) rfl)) ga0) q7) (cwV 3 (cx_ts C) gX12_redoIt_X12_set rfl rfl rfl (by decide +kernel) ⟨Nat.le_of_ble_eq_true rfl, Nat.le_of_ble_eq_true rfl⟩) rfl (hG _ (List.mem_of_getElem? (i := 0) rfl)) (of10_0 _) (ce10 T ad _ _) rfl (st := []) rfl (Nat.le_of_ble_eq_true rfl) ⟨Nat.le_refl 0, Nat.le_refl 0⟩ dX12_redoIt_21 (ppv ?_)
  refine fw_iload_n C dX12_redoIt_24 rfl 0 rfl ?_
  exact fw_iret C hrt Y8 (Option.some.inj h) (fun t ht => ht) dX12_redoIt_25
end
set_option maxRecDepth 100000 in
set_option maxHeartbeats 4000000 in
theorem c_X12_redoIt {l : Launch} {N0 : Nat} {T : Nat → ClassId} {D : va_G} {gr : List (Nat × Nat)} {ad : Nat → Nat → Nat → Nat} {Y : Mem} {a1 : Int32} {res : Int32 × Mem} (hG : ∀ q ∈ [(10, 0)], q ∈ gr) (h : X12_redoIt Y a1 = some res) : CI l yX12_redoIt wsX12_redoIt (Rm 1) N0 T D gr ad Y [.ref (ad 10 0 0), .int a1] (fun r Y1 => (r, Y1) = res) :=
  fw_body (by decide +kernel) rfl (Nat.le_of_ble_eq_true rfl) (fun p e s m below meth c C hrt => w_X12_redoIt C hrt hG  h)
theorem ly_X12_doIt_12 : ∀ w ∈ u_ws RX12 TX12 19, w ∈ wsX12_doIt := by decide +kernel
theorem fl_X12_doIt_13 : Cond.fieldLink RX12 13 "RecipeSchedulerModel" "m" "[I" ∈ wsX12_doIt := by decide +kernel
section
variable {p : Program} {l : Launch} {e : Env} {s : State} {m : MethodId} {below : List Frame} {meth : Method} {c : Code} {N0 : Nat} {T : Nat → ClassId} {D : va_G} {gr : List (Nat × Nat)} {ad : Nat → Nat → Nat → Nat}
set_option maxRecDepth 100000 in
set_option maxHeartbeats 4000000 in
theorem w_X12_doIt {Y : Mem} {a1 : Int32} {a2 : Int32} {a3 : Int32} (C : Cx p s m [.ref (ad 10 0 0), .int a1, .int a2, .int a3].toArray meth c cX12_doIt 4 wsX12_doIt RX12 N0 T D gr ad) (hrt : meth.sig.returnType = none) (hG : ∀ q ∈ [(10, 0)], q ∈ gr) {res : Mem} (h : X12_doIt Y a1 a2 a3 = some res) : FW p l e (Rm 9) s m [.ref (ad 10 0 0), .int a1, .int a2, .int a3].toArray below meth c 4 N0 T D gr ad 0 0 (MQ below (va_Qv (fun Y1 => Y1 = res) (WB T D gr ad) (fun q => N0 ≤ q)) [.ref (ad 10 0 0), .int a1, .int a2, .int a3].toArray s 0 0 (fun q => N0 ≤ q)) Y 0 [(0, .ref (ad 10 0 0)), (1, .int a1), (2, .int a2), (3, .int a3)] [] := by
  unfold X12_doIt at h
  refine fw_iload_n C dX12_doIt_0 rfl 1 rfl ?_
  by_cases c1 : a1 = 0
  · have h := ite_t c1 h
    refine fw_tableIn C dX12_doIt_1 (by rw [c1]; decide +kernel) (by rw [c1]; decide +kernel) (off := 43) (by rw [c1]; decide +kernel) (tgt := 44) rfl ?_
    refine fw_aload_n C dX12_doIt_44 rfl 0 rfl ?_
    refine fw_iload_n C dX12_doIt_45 rfl 2 rfl ?_
    obtain ⟨r2, Y4, q3, h⟩ := bd2_some h
    refine fw_callVi C (ci := 10) (Cn := RX12) (Tc := TX12) (N := 19) (As := [.int a2]) (c_X12_passMinutes (gac (hG _ (List.mem_of_getElem? (i := 0) rfl)) ga0) q3) (cwV 1 (cx_ts C) gX12_doIt_X12_passMinutes rfl rfl rfl (by decide +kernel) ⟨Nat.le_of_ble_eq_true rfl, Nat.le_of_ble_eq_true rfl⟩) rfl (hG _ (List.mem_of_getElem? (i := 0) rfl)) (of10_0 _) (ce10 T ad _ _) rfl (st := []) rfl (Nat.le_of_ble_eq_true rfl) ⟨Nat.le_refl 0, Nat.le_refl 0⟩ dX12_doIt_46 (ppw ?_)
    refine fw_pop C dX12_doIt_49 rfl ?_
    refine fw_goto C dX12_doIt_50 (tgt := 126) rfl ?_
    exact fw_vret C hrt Y4 (Option.some.inj h) (fun t ht => ht) dX12_doIt_126
  · have h := ite_f c1 h
    by_cases c5 : a1 = 1
    · have h := ite_t c5 h
      refine fw_tableIn C dX12_doIt_1 (by rw [c5]; decide +kernel) (by rw [c5]; decide +kernel) (off := 52) (by rw [c5]; decide +kernel) (tgt := 53) rfl ?_
      refine fw_aload_n C dX12_doIt_53 rfl 0 rfl ?_
      refine fw_get C (ci := 10) (Cn := RX12) (Tc := TX12) (N := 19) (j := 0) ly_X12_doIt_12 rfl (hG _ (List.mem_of_getElem? (i := 0) rfl)) (of10_0 _) (ce10 T ad _ _) (by decide) (cx_ts C _ fl_X12_doIt_13) (fun _ h => h) (v := .ref (ad 10 0 1)) rfl dX12_doIt_54 ?_
      refine fw_iconst C dX12_doIt_57 (v := 5) rfl ?_
      refine fw_dup2 C dX12_doIt_58 rfl rfl ?_
      obtain ⟨b6, h⟩ := gd_some h
      refine fw_iald2 C (hG _ (List.mem_of_getElem? (i := 0) rfl)) (of10_1 _) (ca10_1 T ad _ _) b6 (Nat.le_of_ble_eq_true rfl) dX12_doIt_59 ?_
      refine fw_iload_n C dX12_doIt_60 rfl 2 rfl ?_
      refine fw_iadd C dX12_doIt_61 ?_
      obtain ⟨Y7, e8, h⟩ := lt_some h
      refine fw_iast2 C (hG _ (List.mem_of_getElem? (i := 0) rfl)) (of10_1 _) (ca10_1 T ad _) b6 (Nat.le_of_ble_eq_true rfl) dX12_doIt_62 ?_
      refine fw_mem e8 ?_
      refine fw_goto C dX12_doIt_63 (tgt := 126) rfl ?_
      exact fw_vret C hrt Y7 (Option.some.inj h) (fun t ht => ht) dX12_doIt_126
    · have h := ite_f c5 h
      by_cases c9 : a1 = 2
      · have h := ite_t c9 h
        refine fw_tableIn C dX12_doIt_1 (by rw [c9]; decide +kernel) (by rw [c9]; decide +kernel) (off := 65) (by rw [c9]; decide +kernel) (tgt := 66) rfl ?_
        refine fw_aload_n C dX12_doIt_66 rfl 0 rfl ?_
        refine fw_get C (ci := 10) (Cn := RX12) (Tc := TX12) (N := 19) (j := 0) ly_X12_doIt_12 rfl (hG _ (List.mem_of_getElem? (i := 0) rfl)) (of10_0 _) (ce10 T ad _ _) (by decide) (cx_ts C _ fl_X12_doIt_13) (fun _ h => h) (v := .ref (ad 10 0 1)) rfl dX12_doIt_67 ?_
        refine fw_iconst C dX12_doIt_70 (v := 5) rfl ?_
        refine fw_dup2 C dX12_doIt_71 rfl rfl ?_
        obtain ⟨b10, h⟩ := gd_some h
        refine fw_iald2 C (hG _ (List.mem_of_getElem? (i := 0) rfl)) (of10_1 _) (ca10_1 T ad _ _) b10 (Nat.le_of_ble_eq_true rfl) dX12_doIt_72 ?_
        refine fw_iload_n C dX12_doIt_73 rfl 2 rfl ?_
        refine fw_isub C dX12_doIt_74 ?_
        obtain ⟨Y11, e12, h⟩ := lt_some h
        refine fw_iast2 C (hG _ (List.mem_of_getElem? (i := 0) rfl)) (of10_1 _) (ca10_1 T ad _) b10 (Nat.le_of_ble_eq_true rfl) dX12_doIt_75 ?_
        refine fw_mem e12 ?_
        refine fw_goto C dX12_doIt_76 (tgt := 126) rfl ?_
        exact fw_vret C hrt Y11 (Option.some.inj h) (fun t ht => ht) dX12_doIt_126
      · have h := ite_f c9 h
        by_cases c13 : a1 = 3
        · have h := ite_t c13 h
          refine fw_tableIn C dX12_doIt_1 (by rw [c13]; decide +kernel) (by rw [c13]; decide +kernel) (off := 78) (by rw [c13]; decide +kernel) (tgt := 79) rfl ?_
          refine fw_aload_n C dX12_doIt_79 rfl 0 rfl ?_
          refine fw_iload_n C dX12_doIt_80 rfl 2 rfl ?_
          obtain ⟨r14, Y16, q15, h⟩ := bd2_some h
          refine fw_callVi C (ci := 10) (Cn := RX12) (Tc := TX12) (N := 19) (As := [.int a2]) (c_X12_stopIt (gac (hG _ (List.mem_of_getElem? (i := 0) rfl)) ga0) q15) (cwV 1 (cx_ts C) gX12_doIt_X12_stopIt rfl rfl rfl (by decide +kernel) ⟨Nat.le_of_ble_eq_true rfl, Nat.le_of_ble_eq_true rfl⟩) rfl (hG _ (List.mem_of_getElem? (i := 0) rfl)) (of10_0 _) (ce10 T ad _ _) rfl (st := []) rfl (Nat.le_of_ble_eq_true rfl) ⟨Nat.le_refl 0, Nat.le_refl 0⟩ dX12_doIt_81 (ppw ?_)
          refine fw_pop C dX12_doIt_84 rfl ?_
          refine fw_goto C dX12_doIt_85 (tgt := 126) rfl ?_
          exact fw_vret C hrt Y16 (Option.some.inj h) (fun t ht => ht) dX12_doIt_126
        · have h := ite_f c13 h
          by_cases c17 : a1 = 4
          · have h := ite_t c17 h
            refine fw_tableIn C dX12_doIt_1 (by rw [c17]; decide +kernel) (by rw [c17]; decide +kernel) (off := 87) (by rw [c17]; decide +kernel) (tgt := 88) rfl ?_
            refine fw_aload_n C dX12_doIt_88 rfl 0 rfl ?_
            refine fw_iload_n C dX12_doIt_89 rfl 2 rfl ?_
            obtain ⟨r18, Y20, q19, h⟩ := bd2_some h
            refine fw_callVi C (ci := 10) (Cn := RX12) (Tc := TX12) (N := 19) (As := [.int a2]) (c_X12_redoIt (gac (hG _ (List.mem_of_getElem? (i := 0) rfl)) ga0) q19) (cwV 1 (cx_ts C) gX12_doIt_X12_redoIt rfl rfl rfl (by decide +kernel) ⟨Nat.le_of_ble_eq_true rfl, Nat.le_of_ble_eq_true rfl⟩) rfl (hG _ (List.mem_of_getElem? (i := 0) rfl)) (of10_0 _) (ce10 T ad _ _) rfl (st := []) rfl (Nat.le_of_ble_eq_true rfl) ⟨Nat.le_refl 0, Nat.le_refl 0⟩ dX12_doIt_90 (ppw ?_)
            refine fw_pop C dX12_doIt_93 rfl ?_
            refine fw_goto C dX12_doIt_94 (tgt := 126) rfl ?_
            exact fw_vret C hrt Y20 (Option.some.inj h) (fun t ht => ht) dX12_doIt_126
          · have h := ite_f c17 h
            by_cases c21 : a1 = 5
            · have h := ite_t c21 h
              refine fw_tableIn C dX12_doIt_1 (by rw [c21]; decide +kernel) (by rw [c21]; decide +kernel) (off := 96) (by rw [c21]; decide +kernel) (tgt := 97) rfl ?_
              refine fw_aload_n C dX12_doIt_97 rfl 0 rfl ?_
              refine fw_get C (ci := 10) (Cn := RX12) (Tc := TX12) (N := 19) (j := 0) ly_X12_doIt_12 rfl (hG _ (List.mem_of_getElem? (i := 0) rfl)) (of10_0 _) (ce10 T ad _ _) (by decide) (cx_ts C _ fl_X12_doIt_13) (fun _ h => h) (v := .ref (ad 10 0 1)) rfl dX12_doIt_98 ?_
              refine fw_iconst C dX12_doIt_101 (v := 0) rfl ?_
              refine fw_iload_n C dX12_doIt_102 rfl 2 rfl ?_
              obtain ⟨b22, h⟩ := gd_some h
              obtain ⟨Y23, e24, h⟩ := lt_some h
              refine fw_iast2 C (hG _ (List.mem_of_getElem? (i := 0) rfl)) (of10_1 _) (ca10_1 T ad _) b22 (Nat.le_of_ble_eq_true rfl) dX12_doIt_103 ?_
              refine fw_mem e24 ?_
              refine fw_goto C dX12_doIt_104 (tgt := 126) rfl ?_
              exact fw_vret C hrt Y23 (Option.some.inj h) (fun t ht => ht) dX12_doIt_126
            · have h := ite_f c21 h
              by_cases c25 : a1 = 6
              · have h := ite_t c25 h
                refine fw_tableIn C dX12_doIt_1 (by rw [c25]; decide +kernel) (by rw [c25]; decide +kernel) (off := 106) (by rw [c25]; decide +kernel) (tgt := 107) rfl ?_
                refine fw_aload_n C dX12_doIt_107 rfl 0 rfl ?_
                refine fw_iload_n C dX12_doIt_108 rfl 2 rfl ?_
                refine fw_bipush C dX12_doIt_109 (v := 7) rfl ?_
                refine fw_iload_n C dX12_doIt_111 rfl 3 rfl ?_
                obtain ⟨Y28, q27, h⟩ := bd1_some h
                refine fw_callVv C (ci := 10) (Cn := RX12) (Tc := TX12) (N := 19) (As := [.int a2, .int 7, .int a3]) (c_X12_set (gac (hG _ (List.mem_of_getElem? (i := 0) rfl)) ga0) q27) (cwV 3 (cx_ts C) gX12_doIt_X12_set rfl rfl rfl (by decide +kernel) ⟨Nat.le_of_ble_eq_true rfl, Nat.le_of_ble_eq_true rfl⟩) rfl (hG _ (List.mem_of_getElem? (i := 0) rfl)) (of10_0 _) (ce10 T ad _ _) rfl (st := []) rfl (Nat.le_of_ble_eq_true rfl) ⟨Nat.le_refl 0, Nat.le_refl 0⟩ dX12_doIt_112 (ppv ?_)
                refine fw_goto C dX12_doIt_115 (tgt := 126) rfl ?_
                exact fw_vret C hrt Y28 (Option.some.inj h) (fun t ht => ht) dX12_doIt_126
              · have h := ite_f c25 h
                have c1 : ¬ (a1).toInt = 0 := fun q => c1 (Int32.toInt_inj.mp (by rw [q]; decide +kernel))
                have c5 : ¬ (a1).toInt = 1 := fun q => c5 (Int32.toInt_inj.mp (by rw [q]; decide +kernel))
                have c9 : ¬ (a1).toInt = 2 := fun q => c9 (Int32.toInt_inj.mp (by rw [q]; decide +kernel))
                have c13 : ¬ (a1).toInt = 3 := fun q => c13 (Int32.toInt_inj.mp (by rw [q]; decide +kernel))
                have c17 : ¬ (a1).toInt = 4 := fun q => c17 (Int32.toInt_inj.mp (by rw [q]; decide +kernel))
                have c21 : ¬ (a1).toInt = 5 := fun q => c21 (Int32.toInt_inj.mp (by rw [q]; decide +kernel))
                have c25 : ¬ (a1).toInt = 6 := fun q => c25 (Int32.toInt_inj.mp (by rw [q]; decide +kernel))
                refine fw_tableOut C dX12_doIt_1 (by omega) (tgt := 118) rfl ?_
                refine fw_aload_n C dX12_doIt_118 rfl 0 rfl ?_
                refine fw_get C (ci := 10) (Cn := RX12) (Tc := TX12) (N := 19) (j := 0) ly_X12_doIt_12 rfl (hG _ (List.mem_of_getElem? (i := 0) rfl)) (of10_0 _) (ce10 T ad _ _) (by decide) (cx_ts C _ fl_X12_doIt_13) (fun _ h => h) (v := .ref (ad 10 0 1)) rfl dX12_doIt_119 ?_
                refine fw_bipush C dX12_doIt_122 (v := 6) rfl ?_
                refine fw_iconst C dX12_doIt_124 (v := 1) rfl ?_
                obtain ⟨b29, h⟩ := gd_some h
                obtain ⟨Y30, e31, h⟩ := lt_some h
                refine fw_iast2 C (hG _ (List.mem_of_getElem? (i := 0) rfl)) (of10_1 _) (ca10_1 T ad _) b29 (Nat.le_of_ble_eq_true rfl) dX12_doIt_125 ?_
                refine fw_mem e31 ?_
                exact fw_vret C hrt Y30 (Option.some.inj h) (fun t ht => ht) dX12_doIt_126
end
set_option maxRecDepth 100000 in
set_option maxHeartbeats 4000000 in
theorem c_X12_doIt {l : Launch} {N0 : Nat} {T : Nat → ClassId} {D : va_G} {gr : List (Nat × Nat)} {ad : Nat → Nat → Nat → Nat} {Y : Mem} {a1 : Int32} {a2 : Int32} {a3 : Int32} {res : Mem} (hG : ∀ q ∈ [(10, 0)], q ∈ gr) (h : X12_doIt Y a1 a2 a3 = some res) : CV l yX12_doIt wsX12_doIt (Rm 9) N0 T D gr ad Y [.ref (ad 10 0 0), .int a1, .int a2, .int a3] (fun Y1 => Y1 = res) :=
  fw_body (by decide +kernel) rfl (Nat.le_of_ble_eq_true rfl) (fun p e s m below meth c C hrt => w_X12_doIt C hrt hG  h)
theorem ly_X12_doneShare_12 : ∀ w ∈ u_ws RX12 TX12 19, w ∈ wsX12_doneShare := by decide +kernel
theorem fl_X12_doneShare_1 : Cond.fieldLink RX12 1 "RecipeSchedulerModel" "thrown" "I" ∈ wsX12_doneShare := by decide +kernel
theorem fl_X12_doneShare_13 : Cond.fieldLink RX12 13 "RecipeSchedulerModel" "m" "[I" ∈ wsX12_doneShare := by decide +kernel
section
variable {p : Program} {l : Launch} {e : Env} {s : State} {m : MethodId} {below : List Frame} {meth : Method} {c : Code} {N0 : Nat} {T : Nat → ClassId} {D : va_G} {gr : List (Nat × Nat)} {ad : Nat → Nat → Nat → Nat}
set_option maxRecDepth 100000 in
set_option maxHeartbeats 4000000 in
theorem w_X12_doneShare {Y : Mem} (C : Cx p s m [.ref (ad 10 0 0)].toArray meth c cX12_doneShare 1 wsX12_doneShare RX12 N0 T D gr ad) (hrt : meth.sig.returnType = (some .float)) (hG : ∀ q ∈ [(10, 0)], q ∈ gr) {res : UInt32 × Mem} (h : X12_doneShare Y = some res) : FW p l e (Rm 2) s m [.ref (ad 10 0 0)].toArray below meth c 1 N0 T D gr ad 0 0 (MQ below (va_Qf (fun r Y1 => (r, Y1) = res) (WB T D gr ad) (fun q => N0 ≤ q)) [.ref (ad 10 0 0)].toArray s 0 0 (fun q => N0 ≤ q)) Y 0 [(0, .ref (ad 10 0 0))] [] := by
  unfold X12_doneShare at h
  refine fw_aload_n C dX12_doneShare_0 rfl 0 rfl ?_
  refine fw_iconst C dX12_doneShare_1 (v := 0) rfl ?_
  obtain ⟨Y1, e2, h⟩ := lt_some h
  refine fw_put C (ci := 10) (Cn := RX12) (Tc := TX12) (N := 19) (j := 9) (ty := .int) (upd (Y 10 0 0) 9 0) ly_X12_doneShare_12 rfl tyX12_ok nmX12 (hG _ (List.mem_of_getElem? (i := 0) rfl)) (of10_0 _) (ce10 T ad _ _) (by decide) (cx_ts C _ fl_X12_doneShare_1) (fun _ h => h) rfl (by decide +kernel) rfl rfl (Nat.le_of_ble_eq_true rfl) (ce10_put9 T ad _ _ _) dX12_doneShare_2 ?_
  refine fw_mem ((up_eq _ _ _ _ _ _).symm.trans e2) ?_
  refine fw_aload_n C dX12_doneShare_5 rfl 0 rfl ?_
  refine fw_iconst C dX12_doneShare_6 (v := 2) rfl ?_
  obtain ⟨r3, q4, h⟩ := bd1_some h
  refine fw_callVi C (ci := 10) (Cn := RX12) (Tc := TX12) (N := 19) (As := [.int 2]) (c_X12_withStatus (gac (hG _ (List.mem_of_getElem? (i := 0) rfl)) ga0) q4) (cwV 1 (cx_ts C) gX12_doneShare_X12_withStatus rfl rfl rfl (by decide +kernel) ⟨Nat.le_of_ble_eq_true rfl, Nat.le_of_ble_eq_true rfl⟩) rfl (hG _ (List.mem_of_getElem? (i := 0) rfl)) (of10_0 _) (ce10 T ad _ _) rfl (st := []) rfl (Nat.le_of_ble_eq_true rfl) ⟨Nat.le_refl 0, Nat.le_refl 0⟩ dX12_doneShare_7 (pp2 ?_)
  refine fw_i2f C dX12_doneShare_10 ?_
  refine fw_aload_n C dX12_doneShare_11 rfl 0 rfl ?_
  refine fw_get C (ci := 10) (Cn := RX12) (Tc := TX12) (N := 19) (j := 0) ly_X12_doneShare_12 rfl (hG _ (List.mem_of_getElem? (i := 0) rfl)) (of10_0 _) (ce10 T ad _ _) (by decide) (cx_ts C _ fl_X12_doneShare_13) (fun _ h => h) (v := .ref (ad 10 0 1)) rfl dX12_doneShare_12 ?_
  refine fw_bipush C dX12_doneShare_15 (v := 13) rfl ?_
  obtain ⟨b5, h⟩ := gd_some h
  refine fw_iald2 C (hG _ (List.mem_of_getElem? (i := 0) rfl)) (of10_1 _) (ca10_1 T ad _ _) b5 (Nat.le_of_ble_eq_true rfl) dX12_doneShare_17 ?_
  refine fw_i2f C dX12_doneShare_18 ?_
  obtain ⟨b6, h⟩ := gd_some h
  refine fw_fdiv C (of_decide_eq_true b6) dX12_doneShare_19 ?_
  exact fw_fret C hrt Y1 (Option.some.inj h) (fun t ht => ht) dX12_doneShare_20
end
set_option maxRecDepth 100000 in
set_option maxHeartbeats 4000000 in
theorem c_X12_doneShare {l : Launch} {N0 : Nat} {T : Nat → ClassId} {D : va_G} {gr : List (Nat × Nat)} {ad : Nat → Nat → Nat → Nat} {Y : Mem} {res : UInt32 × Mem} (hG : ∀ q ∈ [(10, 0)], q ∈ gr) (h : X12_doneShare Y = some res) : CF l yX12_doneShare wsX12_doneShare (Rm 2) N0 T D gr ad Y [.ref (ad 10 0 0)] (fun r Y1 => (r, Y1) = res) :=
  fw_body (by decide +kernel) rfl (Nat.le_of_ble_eq_true rfl) (fun p e s m below meth c C hrt => w_X12_doneShare C hrt hG  h)
section
variable {p : Program} {l : Launch} {e : Env} {s : State} {m : MethodId} {below : List Frame} {meth : Method} {c : Code} {N0 : Nat} {T : Nat → ClassId} {D : va_G} {gr : List (Nat × Nat)} {ad : Nat → Nat → Nat → Nat}
set_option maxRecDepth 100000 in
set_option maxHeartbeats 4000000 in
theorem w_X12_duration {Y : Mem} {a1 : Int32} (C : Cx p s m [.ref (ad 10 0 0), .int a1].toArray meth c cX12_duration 2 wsX12_duration RX12 N0 T D gr ad) (hrt : meth.sig.returnType = (some .int)) (hG : ∀ q ∈ [(10, 0)], q ∈ gr) {res : Int32 × Mem} (h : X12_duration Y a1 = some res) : FW p l e (Rm 3) s m [.ref (ad 10 0 0), .int a1].toArray below meth c 2 N0 T D gr ad 0 0 (MQ below (va_Qi (fun r Y1 => (r, Y1) = res) (WB T D gr ad) (fun q => N0 ≤ q)) [.ref (ad 10 0 0), .int a1].toArray s 0 0 (fun q => N0 ≤ q)) Y 0 [(0, .ref (ad 10 0 0)), (1, .int a1)] [] := by
  unfold X12_duration at h
  refine fw_aload_n C dX12_duration_0 rfl 0 rfl ?_
  refine fw_iload_n C dX12_duration_1 rfl 1 rfl ?_
  refine fw_bipush C dX12_duration_2 (v := 7) rfl ?_
  obtain ⟨r1, Y3, q2, h⟩ := bd2_some h
  refine fw_callVi C (ci := 10) (Cn := RX12) (Tc := TX12) (N := 19) (As := [.int a1, .int 7]) (c_X12_field (gac (hG _ (List.mem_of_getElem? (i := 0) rfl)) ga0) q2) (cwV 2 (cx_ts C) gX12_duration_X12_field rfl rfl rfl (by decide +kernel) ⟨Nat.le_of_ble_eq_true rfl, Nat.le_of_ble_eq_true rfl⟩) rfl (hG _ (List.mem_of_getElem? (i := 0) rfl)) (of10_0 _) (ce10 T ad _ _) rfl (st := []) rfl (Nat.le_of_ble_eq_true rfl) ⟨Nat.le_refl 0, Nat.le_refl 0⟩ dX12_duration_4 (ppw ?_)
  exact fw_iret C hrt Y3 (Option.some.inj h) (fun t ht => ht) dX12_duration_7
end
set_option maxRecDepth 100000 in
set_option maxHeartbeats 4000000 in
theorem c_X12_duration {l : Launch} {N0 : Nat} {T : Nat → ClassId} {D : va_G} {gr : List (Nat × Nat)} {ad : Nat → Nat → Nat → Nat} {Y : Mem} {a1 : Int32} {res : Int32 × Mem} (hG : ∀ q ∈ [(10, 0)], q ∈ gr) (h : X12_duration Y a1 = some res) : CI l yX12_duration wsX12_duration (Rm 3) N0 T D gr ad Y [.ref (ad 10 0 0), .int a1] (fun r Y1 => (r, Y1) = res) :=
  fw_body (by decide +kernel) rfl (Nat.le_of_ble_eq_true rfl) (fun p e s m below meth c C hrt => w_X12_duration C hrt hG  h)
theorem ly_X12_errorCode_12 : ∀ w ∈ u_ws RX12 TX12 19, w ∈ wsX12_errorCode := by decide +kernel
theorem fl_X12_errorCode_1 : Cond.fieldLink RX12 1 "RecipeSchedulerModel" "thrown" "I" ∈ wsX12_errorCode := by decide +kernel
theorem fl_X12_errorCode_30 : Cond.fieldLink RX12 30 "RecipeSchedulerModel" "errorCode" "I" ∈ wsX12_errorCode := by decide +kernel
section
variable {p : Program} {l : Launch} {e : Env} {s : State} {m : MethodId} {below : List Frame} {meth : Method} {c : Code} {N0 : Nat} {T : Nat → ClassId} {D : va_G} {gr : List (Nat × Nat)} {ad : Nat → Nat → Nat → Nat}
set_option maxRecDepth 100000 in
set_option maxHeartbeats 4000000 in
theorem w_X12_errorCode {Y : Mem} (C : Cx p s m [.ref (ad 10 0 0)].toArray meth c cX12_errorCode 1 wsX12_errorCode RX12 N0 T D gr ad) (hrt : meth.sig.returnType = (some .int)) (hG : ∀ q ∈ [(10, 0)], q ∈ gr) {res : Int32 × Mem} (h : X12_errorCode Y = some res) : FW p l e (Rm 0) s m [.ref (ad 10 0 0)].toArray below meth c 1 N0 T D gr ad 0 0 (MQ below (va_Qi (fun r Y1 => (r, Y1) = res) (WB T D gr ad) (fun q => N0 ≤ q)) [.ref (ad 10 0 0)].toArray s 0 0 (fun q => N0 ≤ q)) Y 0 [(0, .ref (ad 10 0 0))] [] := by
  unfold X12_errorCode at h
  refine fw_aload_n C dX12_errorCode_0 rfl 0 rfl ?_
  refine fw_iconst C dX12_errorCode_1 (v := 0) rfl ?_
  obtain ⟨Y1, e2, h⟩ := lt_some h
  refine fw_put C (ci := 10) (Cn := RX12) (Tc := TX12) (N := 19) (j := 9) (ty := .int) (upd (Y 10 0 0) 9 0) ly_X12_errorCode_12 rfl tyX12_ok nmX12 (hG _ (List.mem_of_getElem? (i := 0) rfl)) (of10_0 _) (ce10 T ad _ _) (by decide) (cx_ts C _ fl_X12_errorCode_1) (fun _ h => h) rfl (by decide +kernel) rfl rfl (Nat.le_of_ble_eq_true rfl) (ce10_put9 T ad _ _ _) dX12_errorCode_2 ?_
  refine fw_mem ((up_eq _ _ _ _ _ _).symm.trans e2) ?_
  refine fw_aload_n C dX12_errorCode_5 rfl 0 rfl ?_
  refine fw_get C (ci := 10) (Cn := RX12) (Tc := TX12) (N := 19) (j := 5) ly_X12_errorCode_12 rfl (hG _ (List.mem_of_getElem? (i := 0) rfl)) (of10_0 _) (ce10 T ad _ _) (by decide) (cx_ts C _ fl_X12_errorCode_30) (fun _ h => h) (v := .int (Y1 10 0 0 5)) rfl dX12_errorCode_6 ?_
  exact fw_iret C hrt Y1 (Option.some.inj h) (fun t ht => ht) dX12_errorCode_9
end
set_option maxRecDepth 100000 in
set_option maxHeartbeats 4000000 in
theorem c_X12_errorCode {l : Launch} {N0 : Nat} {T : Nat → ClassId} {D : va_G} {gr : List (Nat × Nat)} {ad : Nat → Nat → Nat → Nat} {Y : Mem} {res : Int32 × Mem} (hG : ∀ q ∈ [(10, 0)], q ∈ gr) (h : X12_errorCode Y = some res) : CI l yX12_errorCode wsX12_errorCode (Rm 0) N0 T D gr ad Y [.ref (ad 10 0 0)] (fun r Y1 => (r, Y1) = res) :=
  fw_body (by decide +kernel) rfl (Nat.le_of_ble_eq_true rfl) (fun p e s m below meth c C hrt => w_X12_errorCode C hrt hG  h)
theorem ly_X12_errorPosition_12 : ∀ w ∈ u_ws RX12 TX12 19, w ∈ wsX12_errorPosition := by decide +kernel
theorem fl_X12_errorPosition_1 : Cond.fieldLink RX12 1 "RecipeSchedulerModel" "thrown" "I" ∈ wsX12_errorPosition := by decide +kernel
theorem fl_X12_errorPosition_33 : Cond.fieldLink RX12 33 "RecipeSchedulerModel" "errorPosition" "I" ∈ wsX12_errorPosition := by decide +kernel
section
variable {p : Program} {l : Launch} {e : Env} {s : State} {m : MethodId} {below : List Frame} {meth : Method} {c : Code} {N0 : Nat} {T : Nat → ClassId} {D : va_G} {gr : List (Nat × Nat)} {ad : Nat → Nat → Nat → Nat}
set_option maxRecDepth 100000 in
set_option maxHeartbeats 4000000 in
theorem w_X12_errorPosition {Y : Mem} (C : Cx p s m [.ref (ad 10 0 0)].toArray meth c cX12_errorPosition 1 wsX12_errorPosition RX12 N0 T D gr ad) (hrt : meth.sig.returnType = (some .int)) (hG : ∀ q ∈ [(10, 0)], q ∈ gr) {res : Int32 × Mem} (h : X12_errorPosition Y = some res) : FW p l e (Rm 0) s m [.ref (ad 10 0 0)].toArray below meth c 1 N0 T D gr ad 0 0 (MQ below (va_Qi (fun r Y1 => (r, Y1) = res) (WB T D gr ad) (fun q => N0 ≤ q)) [.ref (ad 10 0 0)].toArray s 0 0 (fun q => N0 ≤ q)) Y 0 [(0, .ref (ad 10 0 0))] [] := by
  unfold X12_errorPosition at h
  refine fw_aload_n C dX12_errorPosition_0 rfl 0 rfl ?_
  refine fw_iconst C dX12_errorPosition_1 (v := 0) rfl ?_
  obtain ⟨Y1, e2, h⟩ := lt_some h
  refine fw_put C (ci := 10) (Cn := RX12) (Tc := TX12) (N := 19) (j := 9) (ty := .int) (upd (Y 10 0 0) 9 0) ly_X12_errorPosition_12 rfl tyX12_ok nmX12 (hG _ (List.mem_of_getElem? (i := 0) rfl)) (of10_0 _) (ce10 T ad _ _) (by decide) (cx_ts C _ fl_X12_errorPosition_1) (fun _ h => h) rfl (by decide +kernel) rfl rfl (Nat.le_of_ble_eq_true rfl) (ce10_put9 T ad _ _ _) dX12_errorPosition_2 ?_
  refine fw_mem ((up_eq _ _ _ _ _ _).symm.trans e2) ?_
  refine fw_aload_n C dX12_errorPosition_5 rfl 0 rfl ?_
  refine fw_get C (ci := 10) (Cn := RX12) (Tc := TX12) (N := 19) (j := 6) ly_X12_errorPosition_12 rfl (hG _ (List.mem_of_getElem? (i := 0) rfl)) (of10_0 _) (ce10 T ad _ _) (by decide) (cx_ts C _ fl_X12_errorPosition_33) (fun _ h => h) (v := .int (Y1 10 0 0 6)) rfl dX12_errorPosition_6 ?_
  exact fw_iret C hrt Y1 (Option.some.inj h) (fun t ht => ht) dX12_errorPosition_9
end
set_option maxRecDepth 100000 in
set_option maxHeartbeats 4000000 in
theorem c_X12_errorPosition {l : Launch} {N0 : Nat} {T : Nat → ClassId} {D : va_G} {gr : List (Nat × Nat)} {ad : Nat → Nat → Nat → Nat} {Y : Mem} {res : Int32 × Mem} (hG : ∀ q ∈ [(10, 0)], q ∈ gr) (h : X12_errorPosition Y = some res) : CI l yX12_errorPosition wsX12_errorPosition (Rm 0) N0 T D gr ad Y [.ref (ad 10 0 0)] (fun r Y1 => (r, Y1) = res) :=
  fw_body (by decide +kernel) rfl (Nat.le_of_ble_eq_true rfl) (fun p e s m below meth c C hrt => w_X12_errorPosition C hrt hG  h)
theorem ly_X12_finishWith_12 : ∀ w ∈ u_ws RX12 TX12 19, w ∈ wsX12_finishWith := by decide +kernel
theorem fl_X12_finishWith_13 : Cond.fieldLink RX12 13 "RecipeSchedulerModel" "m" "[I" ∈ wsX12_finishWith := by decide +kernel
section
variable {p : Program} {l : Launch} {e : Env} {s : State} {m : MethodId} {below : List Frame} {meth : Method} {c : Code} {N0 : Nat} {T : Nat → ClassId} {D : va_G} {gr : List (Nat × Nat)} {ad : Nat → Nat → Nat → Nat}
set_option maxRecDepth 100000 in
set_option maxHeartbeats 4000000 in
theorem w_X12_finishWith {Y : Mem} {a1 : Int32} (C : Cx p s m [.ref (ad 10 0 0), .int a1].toArray meth c cX12_finishWith 3 wsX12_finishWith RX12 N0 T D gr ad) (hrt : meth.sig.returnType = (some .int)) (hG : ∀ q ∈ [(10, 0)], q ∈ gr) {res : Int32 × Mem} (h : X12_finishWith Y a1 = some res) : FW p l e (Rm 9) s m [.ref (ad 10 0 0), .int a1].toArray below meth c 3 N0 T D gr ad 0 0 (MQ below (va_Qi (fun r Y1 => (r, Y1) = res) (WB T D gr ad) (fun q => N0 ≤ q)) [.ref (ad 10 0 0), .int a1].toArray s 0 0 (fun q => N0 ≤ q)) Y 0 [(0, .ref (ad 10 0 0)), (1, .int a1)] [] := by
  unfold X12_finishWith at h
  refine fw_aload_n C dX12_finishWith_0 rfl 0 rfl ?_
  refine fw_iconst C dX12_finishWith_1 (v := 0) rfl ?_
  refine fw_bipush C dX12_finishWith_2 (v := 9) rfl ?_
  obtain ⟨Y3, q2, h⟩ := bd1_some h
  refine fw_callVv C (ci := 10) (Cn := RX12) (Tc := TX12) (N := 19) (As := [.int 0, .int 9]) (c_X12_copyBlock (gac (hG _ (List.mem_of_getElem? (i := 0) rfl)) ga0) q2) (cwV 2 (cx_ts C) gX12_finishWith_X12_copyBlock rfl rfl rfl (by decide +kernel) ⟨Nat.le_of_ble_eq_true rfl, Nat.le_of_ble_eq_true rfl⟩) rfl (hG _ (List.mem_of_getElem? (i := 0) rfl)) (of10_0 _) (ce10 T ad _ _) rfl (st := []) rfl (Nat.le_of_ble_eq_true rfl) ⟨Nat.le_refl 0, Nat.le_refl 0⟩ dX12_finishWith_4 (ppv ?_)
  refine fw_aload_n C dX12_finishWith_7 rfl 0 rfl ?_
  refine fw_get C (ci := 10) (Cn := RX12) (Tc := TX12) (N := 19) (j := 0) ly_X12_finishWith_12 rfl (hG _ (List.mem_of_getElem? (i := 0) rfl)) (of10_0 _) (ce10 T ad _ _) (by decide) (cx_ts C _ fl_X12_finishWith_13) (fun _ h => h) (v := .ref (ad 10 0 1)) rfl dX12_finishWith_8 ?_
  refine fw_iconst C dX12_finishWith_11 (v := 0) rfl ?_
  refine fw_iload_n C dX12_finishWith_12 rfl 1 rfl ?_
  obtain ⟨b4, h⟩ := gd_some h
  obtain ⟨Y5, e6, h⟩ := lt_some h
  refine fw_iast2 C (hG _ (List.mem_of_getElem? (i := 0) rfl)) (of10_1 _) (ca10_1 T ad _) b4 (Nat.le_of_ble_eq_true rfl) dX12_finishWith_13 ?_
  refine fw_mem e6 ?_
  refine fw_aload_n C dX12_finishWith_14 rfl 0 rfl ?_
  obtain ⟨r7, Y9, q8, h⟩ := bd2_some h
  refine fw_callVi C (ci := 10) (Cn := RX12) (Tc := TX12) (N := 19) (As := []) (c_X12_simulate (gac (hG _ (List.mem_of_getElem? (i := 0) rfl)) ga0) q8) (cwV 0 (cx_ts C) gX12_finishWith_X12_simulate rfl rfl rfl (by decide +kernel) ⟨Nat.le_of_ble_eq_true rfl, Nat.le_of_ble_eq_true rfl⟩) rfl (hG _ (List.mem_of_getElem? (i := 0) rfl)) (of10_0 _) (ce10 T ad _ _) rfl (st := []) rfl (Nat.le_of_ble_eq_true rfl) ⟨Nat.le_refl 0, Nat.le_refl 0⟩ dX12_finishWith_15 (ppw ?_)
  refine fw_istore_n C dX12_finishWith_18 rfl (by decide) (L' := [(2, .int r7), (0, .ref (ad 10 0 0)), (1, .int a1)]) rfl ?_
  refine fw_aload_n C dX12_finishWith_19 rfl 1 rfl ?_
  refine fw_bipush C dX12_finishWith_20 (v := 9) rfl ?_
  refine fw_iconst C dX12_finishWith_22 (v := 0) rfl ?_
  obtain ⟨Y12, q11, h⟩ := bd1_some h
  refine fw_callVv C (ci := 10) (Cn := RX12) (Tc := TX12) (N := 19) (As := [.int 9, .int 0]) (c_X12_copyBlock (gac (hG _ (List.mem_of_getElem? (i := 0) rfl)) ga0) q11) (cwV 2 (cx_ts C) gX12_finishWith_X12_copyBlock rfl rfl rfl (by decide +kernel) ⟨Nat.le_of_ble_eq_true rfl, Nat.le_of_ble_eq_true rfl⟩) rfl (hG _ (List.mem_of_getElem? (i := 0) rfl)) (of10_0 _) (ce10 T ad _ _) rfl (st := []) rfl (Nat.le_of_ble_eq_true rfl) ⟨Nat.le_refl 0, Nat.le_refl 0⟩ dX12_finishWith_23 (ppv ?_)
  refine fw_iload_n C dX12_finishWith_26 rfl 0 rfl ?_
  exact fw_iret C hrt Y12 (Option.some.inj h) (fun t ht => ht) dX12_finishWith_27
end
set_option maxRecDepth 100000 in
set_option maxHeartbeats 4000000 in
theorem c_X12_finishWith {l : Launch} {N0 : Nat} {T : Nat → ClassId} {D : va_G} {gr : List (Nat × Nat)} {ad : Nat → Nat → Nat → Nat} {Y : Mem} {a1 : Int32} {res : Int32 × Mem} (hG : ∀ q ∈ [(10, 0)], q ∈ gr) (h : X12_finishWith Y a1 = some res) : CI l yX12_finishWith wsX12_finishWith (Rm 9) N0 T D gr ad Y [.ref (ad 10 0 0), .int a1] (fun r Y1 => (r, Y1) = res) :=
  fw_body (by decide +kernel) rfl (Nat.le_of_ble_eq_true rfl) (fun p e s m below meth c C hrt => w_X12_finishWith C hrt hG  h)
