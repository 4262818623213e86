theorem ly_X12_passMinute_12 : ∀ w ∈ u_ws RX12 TX12 19, w ∈ wsX12_passMinute := by decide +kernel
theorem fl_X12_passMinute_13 : Cond.fieldLink RX12 13 "RecipeSchedulerModel" "m" "[I" ∈ wsX12_passMinute := by decide +kernel
theorem fl_X12_passMinute_51 : Cond.fieldLink RX12 51 "RecipeSchedulerModel" "queue" "[I" ∈ wsX12_passMinute := by decide +kernel
section
variable {p : Program} {l : Launch} {e : Env} {s : State} {m : MethodId} {below : List Frame} {meth : Method} {c : Code} {N0 : Nat} {T : Nat → ClassId} {D : va_G} {gr : List (Nat × Nat)} {ad : Nat → Nat → Nat → Nat}
set_option maxRecDepth 100000 in
set_option maxHeartbeats 4000000 in
theorem w_X12_passMinute_b86  (C : Cx p s m [.ref (ad 10 0 0)].toArray meth c cX12_passMinute 3 wsX12_passMinute RX12 N0 T D gr ad) (hrt : meth.sig.returnType = none) (hG : ∀ q ∈ [(10, 0)], q ∈ gr) {res : Mem} (Y : Mem) (h : X12_passMinute_b86   Y = some res) : FW p l e (Rm 7) s m [.ref (ad 10 0 0)].toArray below meth c 3 N0 T D gr ad 0 0 (MQ below (va_Qv (fun Y1 => Y1 = res) (WB T D gr ad) (fun q => N0 ≤ q)) [.ref (ad 10 0 0)].toArray s 0 0 (fun q => N0 ≤ q)) Y 86 [(0, .ref (ad 10 0 0))] [] := by
  unfold X12_passMinute_b86 at h
  refine fw_aload_n C dX12_passMinute_86 rfl 0 rfl ?_
  refine fw_get C (ci := 10) (Cn := RX12) (Tc := TX12) (N := 19) (j := 0) ly_X12_passMinute_12 rfl (hG _ (List.mem_of_getElem? (i := 0) rfl)) (of10_0 _) (ce10 T ad _ _) (by decide) (cx_ts C _ fl_X12_passMinute_13) (fun _ h => h) (v := .ref (ad 10 0 1)) rfl dX12_passMinute_87 ?_
  refine fw_iconst C dX12_passMinute_90 (v := 4) rfl ?_
  refine fw_dup2 C dX12_passMinute_91 rfl rfl ?_
  obtain ⟨b3, h⟩ := gd_some h
  refine fw_iald2 C (hG _ (List.mem_of_getElem? (i := 0) rfl)) (of10_1 _) (ca10_1 T ad _ _) b3 (Nat.le_of_ble_eq_true rfl) dX12_passMinute_92 ?_
  refine fw_iconst C dX12_passMinute_93 (v := 1) rfl ?_
  refine fw_iadd C dX12_passMinute_94 ?_
  obtain ⟨Y4, e5, h⟩ := lt_some h
  refine fw_iast2 C (hG _ (List.mem_of_getElem? (i := 0) rfl)) (of10_1 _) (ca10_1 T ad _) b3 (Nat.le_of_ble_eq_true rfl) dX12_passMinute_95 ?_
  refine fw_mem e5 ?_
  exact fw_vret C hrt Y4 (Option.some.inj h) (fun t ht => ht) dX12_passMinute_96
set_option maxRecDepth 100000 in
set_option maxHeartbeats 4000000 in
theorem w_X12_passMinute_b65  (C : Cx p s m [.ref (ad 10 0 0)].toArray meth c cX12_passMinute 3 wsX12_passMinute RX12 N0 T D gr ad) (hrt : meth.sig.returnType = none) (hG : ∀ q ∈ [(10, 0)], q ∈ gr) {res : Mem} : ∀ (n : Nat) (Y : Mem) (l2 : Int32) (l1 : Int32), X12_passMinute_b65   n Y l2 l1 = some res → FW p l e (Rm 7) s m [.ref (ad 10 0 0)].toArray below meth c 3 N0 T D gr ad 0 0 (MQ below (va_Qv (fun Y1 => Y1 = res) (WB T D gr ad) (fun q => N0 ≤ q)) [.ref (ad 10 0 0)].toArray s 0 0 (fun q => N0 ≤ q)) Y 65 [(2, .int l2), (1, .int l1), (0, .ref (ad 10 0 0))] [] := by
  intro n
  induction n with
  | zero =>
    intro Y l2 l1 h
    unfold X12_passMinute_b65 at h
    cases h
  | succ n ih =>
    intro Y l2 l1 h
    unfold X12_passMinute_b65 at h
    refine fw_iload_n C dX12_passMinute_65 rfl 0 rfl ?_
    refine fw_iload_n C dX12_passMinute_66 rfl 1 rfl ?_
    refine fw_icmp_ge C dX12_passMinute_67 (tgt := 86) rfl (fun c13 => ?_) (fun c13 => ?_)
    · have h := ite_t c13 h
      refine fw_sub [2] (L' := [(0, .ref (ad 10 0 0))]) rfl ?_
      exact w_X12_passMinute_b86 C hrt hG   _ h
    · have h := ite_f c13 h
      refine fw_aload_n C dX12_passMinute_70 rfl 2 rfl ?_
      refine fw_aload_n C dX12_passMinute_71 rfl 2 rfl ?_
      refine fw_get C (ci := 10) (Cn := RX12) (Tc := TX12) (N := 19) (j := 13) ly_X12_passMinute_12 rfl (hG _ (List.mem_of_getElem? (i := 0) rfl)) (of10_0 _) (ce10 T ad _ _) (by decide) (cx_ts C _ fl_X12_passMinute_51) (fun _ h => h) (v := .ref (ad 10 0 8)) rfl dX12_passMinute_72 ?_
      refine fw_iload_n C dX12_passMinute_75 rfl 0 rfl ?_
      obtain ⟨b14, h⟩ := gd_some h
      refine fw_iald2 C (hG _ (List.mem_of_getElem? (i := 0) rfl)) (of10_8 _) (ca10_8 T ad _ _) b14 (Nat.le_of_ble_eq_true rfl) dX12_passMinute_76 ?_
      obtain ⟨Y17, q16, h⟩ := bd1_some h
      refine fw_callVv C (ci := 10) (Cn := RX12) (Tc := TX12) (N := 19) (As := [.int (Y 10 0 8 (ix l2))]) (c_X12_startIfPossible (gac (hG _ (List.mem_of_getElem? (i := 0) rfl)) ga0) q16) (cwV 1 (cx_ts C) gX12_passMinute_X12_startIfPossible rfl rfl rfl (by decide +kernel) ⟨Nat.le_of_ble_eq_true rfl, Nat.le_of_ble_eq_true rfl⟩) rfl (hG _ (List.mem_of_getElem? (i := 0) rfl)) (of10_0 _) (ce10 T ad _ _) rfl (st := []) rfl (Nat.le_of_ble_eq_true rfl) ⟨Nat.le_refl 0, Nat.le_refl 0⟩ dX12_passMinute_77 (ppv ?_)
      refine fw_iinc C dX12_passMinute_80 (kk := 0) (v := l2 + 1) rfl rfl (by decide) (L' := [(2, .int (l2 + 1)), (1, .int l1), (0, .ref (ad 10 0 0))]) rfl ?_
      refine fw_goto C dX12_passMinute_83 (tgt := 65) rfl ?_
      exact ih _ _ _ h
set_option maxRecDepth 100000 in
set_option maxHeartbeats 4000000 in
theorem w_X12_passMinute_b36  (C : Cx p s m [.ref (ad 10 0 0)].toArray meth c cX12_passMinute 3 wsX12_passMinute RX12 N0 T D gr ad) (hrt : meth.sig.returnType = none) (hG : ∀ q ∈ [(10, 0)], q ∈ gr) {res : Mem} : ∀ (n : Nat) (Y : Mem) (l1 : Int32), X12_passMinute_b36   n Y l1 = some res → FW p l e (Rm 7) s m [.ref (ad 10 0 0)].toArray below meth c 3 N0 T D gr ad 0 0 (MQ below (va_Qv (fun Y1 => Y1 = res) (WB T D gr ad) (fun q => N0 ≤ q)) [.ref (ad 10 0 0)].toArray s 0 0 (fun q => N0 ≤ q)) Y 36 [(1, .int l1), (0, .ref (ad 10 0 0))] [] := by
  intro n
  induction n with
  | zero =>
    intro Y l1 h
    unfold X12_passMinute_b36 at h
    cases h
  | succ n ih =>
    intro Y l1 h
    unfold X12_passMinute_b36 at h
    refine fw_iload_n C dX12_passMinute_36 rfl 0 rfl ?_
    refine fw_aload_n C dX12_passMinute_37 rfl 1 rfl ?_
    refine fw_get C (ci := 10) (Cn := RX12) (Tc := TX12) (N := 19) (j := 0) ly_X12_passMinute_12 rfl (hG _ (List.mem_of_getElem? (i := 0) rfl)) (of10_0 _) (ce10 T ad _ _) (by decide) (cx_ts C _ fl_X12_passMinute_13) (fun _ h => h) (v := .ref (ad 10 0 1)) rfl dX12_passMinute_38 ?_
    refine fw_bipush C dX12_passMinute_41 (v := 13) rfl ?_
    obtain ⟨b8, h⟩ := gd_some h
    refine fw_iald2 C (hG _ (List.mem_of_getElem? (i := 0) rfl)) (of10_1 _) (ca10_1 T ad _ _) b8 (Nat.le_of_ble_eq_true rfl) dX12_passMinute_43 ?_
    refine fw_icmp_ge C dX12_passMinute_44 (tgt := 58) rfl (fun c9 => ?_) (fun c9 => ?_)
    · have h := ite_t c9 h
      refine fw_aload_n C dX12_passMinute_58 rfl 1 rfl ?_
      obtain ⟨r10, Y12, q11, h⟩ := bd2_some h
      refine fw_callVi C (ci := 10) (Cn := RX12) (Tc := TX12) (N := 19) (As := []) (c_X12_queueReady (gac (hG _ (List.mem_of_getElem? (i := 0) rfl)) ga0) q11) (cwV 0 (cx_ts C) gX12_passMinute_X12_queueReady rfl rfl rfl (by decide +kernel) ⟨Nat.le_of_ble_eq_true rfl, Nat.le_of_ble_eq_true rfl⟩) rfl (hG _ (List.mem_of_getElem? (i := 0) rfl)) (of10_0 _) (ce10 T ad _ _) rfl (st := []) rfl (Nat.le_of_ble_eq_true rfl) ⟨Nat.le_refl 0, Nat.le_refl 0⟩ dX12_passMinute_59 (ppw ?_)
      refine fw_istore_n C dX12_passMinute_62 rfl (by decide) (L' := [(1, .int r10), (0, .ref (ad 10 0 0))]) rfl ?_
      refine fw_iconst C dX12_passMinute_63 (v := 0) rfl ?_
      refine fw_istore_n C dX12_passMinute_64 rfl (by decide) (L' := [(2, .int 0), (1, .int r10), (0, .ref (ad 10 0 0))]) rfl ?_
      exact w_X12_passMinute_b65 C hrt hG   _ _ _ _ h
    · have h := ite_f c9 h
      refine fw_aload_n C dX12_passMinute_47 rfl 1 rfl ?_
      refine fw_iload_n C dX12_passMinute_48 rfl 0 rfl ?_
      obtain ⟨Y20, q19, h⟩ := bd1_some h
      refine fw_callVv C (ci := 10) (Cn := RX12) (Tc := TX12) (N := 19) (As := [.int l1]) (c_X12_cool (gac (hG _ (List.mem_of_getElem? (i := 0) rfl)) ga0) q19) (cwV 1 (cx_ts C) gX12_passMinute_X12_cool rfl rfl rfl (by decide +kernel) ⟨Nat.le_of_ble_eq_true rfl, Nat.le_of_ble_eq_true rfl⟩) rfl (hG _ (List.mem_of_getElem? (i := 0) rfl)) (of10_0 _) (ce10 T ad _ _) rfl (st := []) rfl (Nat.le_of_ble_eq_true rfl) ⟨Nat.le_refl 0, Nat.le_refl 0⟩ dX12_passMinute_49 (ppv ?_)
      refine fw_iinc C dX12_passMinute_52 (kk := 0) (v := l1 + 1) rfl rfl (by decide) (L' := [(1, .int (l1 + 1)), (0, .ref (ad 10 0 0))]) rfl ?_
      refine fw_goto C dX12_passMinute_55 (tgt := 36) rfl ?_
      exact ih _ _ h
set_option maxRecDepth 100000 in
set_option maxHeartbeats 4000000 in
theorem w_X12_passMinute_b12  (C : Cx p s m [.ref (ad 10 0 0)].toArray meth c cX12_passMinute 3 wsX12_passMinute RX12 N0 T D gr ad) (hrt : meth.sig.returnType = none) (hG : ∀ q ∈ [(10, 0)], q ∈ gr) {res : Mem} : ∀ (n : Nat) (Y : Mem) (l1 : Int32), X12_passMinute_b12   n Y l1 = some res → FW p l e (Rm 7) s m [.ref (ad 10 0 0)].toArray below meth c 3 N0 T D gr ad 0 0 (MQ below (va_Qv (fun Y1 => Y1 = res) (WB T D gr ad) (fun q => N0 ≤ q)) [.ref (ad 10 0 0)].toArray s 0 0 (fun q => N0 ≤ q)) Y 12 [(1, .int l1), (0, .ref (ad 10 0 0))] [] := by
  intro n
  induction n with
  | zero =>
    intro Y l1 h
    unfold X12_passMinute_b12 at h
    cases h
  | succ n ih =>
    intro Y l1 h
    unfold X12_passMinute_b12 at h
    refine fw_iload_n C dX12_passMinute_12 rfl 0 rfl ?_
    refine fw_aload_n C dX12_passMinute_13 rfl 1 rfl ?_
    refine fw_get C (ci := 10) (Cn := RX12) (Tc := TX12) (N := 19) (j := 0) ly_X12_passMinute_12 rfl (hG _ (List.mem_of_getElem? (i := 0) rfl)) (of10_0 _) (ce10 T ad _ _) (by decide) (cx_ts C _ fl_X12_passMinute_13) (fun _ h => h) (v := .ref (ad 10 0 1)) rfl dX12_passMinute_14 ?_
    refine fw_bipush C dX12_passMinute_17 (v := 13) rfl ?_
    obtain ⟨b6, h⟩ := gd_some h
    refine fw_iald2 C (hG _ (List.mem_of_getElem? (i := 0) rfl)) (of10_1 _) (ca10_1 T ad _ _) b6 (Nat.le_of_ble_eq_true rfl) dX12_passMinute_19 ?_
    refine fw_icmp_ge C dX12_passMinute_20 (tgt := 34) rfl (fun c7 => ?_) (fun c7 => ?_)
    · have h := ite_t c7 h
      refine fw_iconst C dX12_passMinute_34 (v := 0) rfl ?_
      refine fw_istore_n C dX12_passMinute_35 rfl (by decide) (L' := [(1, .int 0), (0, .ref (ad 10 0 0))]) rfl ?_
      exact w_X12_passMinute_b36 C hrt hG   _ _ _ h
    · have h := ite_f c7 h
      refine fw_aload_n C dX12_passMinute_23 rfl 1 rfl ?_
      refine fw_iload_n C dX12_passMinute_24 rfl 0 rfl ?_
      obtain ⟨Y23, q22, h⟩ := bd1_some h
      refine fw_callVv C (ci := 10) (Cn := RX12) (Tc := TX12) (N := 19) (As := [.int l1]) (c_X12_work (gac (hG _ (List.mem_of_getElem? (i := 0) rfl)) ga0) q22) (cwV 1 (cx_ts C) gX12_passMinute_X12_work rfl rfl rfl (by decide +kernel) ⟨Nat.le_of_ble_eq_true rfl, Nat.le_of_ble_eq_true rfl⟩) rfl (hG _ (List.mem_of_getElem? (i := 0) rfl)) (of10_0 _) (ce10 T ad _ _) rfl (st := []) rfl (Nat.le_of_ble_eq_true rfl) ⟨Nat.le_refl 0, Nat.le_refl 0⟩ dX12_passMinute_25 (ppv ?_)
      refine fw_iinc C dX12_passMinute_28 (kk := 0) (v := l1 + 1) rfl rfl (by decide) (L' := [(1, .int (l1 + 1)), (0, .ref (ad 10 0 0))]) rfl ?_
      refine fw_goto C dX12_passMinute_31 (tgt := 12) rfl ?_
      exact ih _ _ h
set_option maxRecDepth 100000 in
set_option maxHeartbeats 4000000 in
theorem w_X12_passMinute {Y : Mem} (C : Cx p s m [.ref (ad 10 0 0)].toArray meth c cX12_passMinute 3 wsX12_passMinute RX12 N0 T D gr ad) (hrt : meth.sig.returnType = none) (hG : ∀ q ∈ [(10, 0)], q ∈ gr) {res : Mem} (h : X12_passMinute Y = some res) : FW p l e (Rm 7) s m [.ref (ad 10 0 0)].toArray below meth c 3 N0 T D gr ad 0 0 (MQ below (va_Qv (fun Y1 => Y1 = res) (WB T D gr ad) (fun q => N0 ≤ q)) [.ref (ad 10 0 0)].toArray s 0 0 (fun q => N0 ≤ q)) Y 0 [(0, .ref (ad 10 0 0))] [] := by
  unfold X12_passMinute at h
  refine fw_aload_n C dX12_passMinute_0 rfl 0 rfl ?_
  refine fw_get C (ci := 10) (Cn := RX12) (Tc := TX12) (N := 19) (j := 0) ly_X12_passMinute_12 rfl (hG _ (List.mem_of_getElem? (i := 0) rfl)) (of10_0 _) (ce10 T ad _ _) (by decide) (cx_ts C _ fl_X12_passMinute_13) (fun _ h => h) (v := .ref (ad 10 0 1)) rfl dX12_passMinute_1 ?_
  refine fw_bipush C dX12_passMinute_4 (v := 6) rfl ?_
  obtain ⟨b1, h⟩ := gd_some h
  refine fw_iald2 C (hG _ (List.mem_of_getElem? (i := 0) rfl)) (of10_1 _) (ca10_1 T ad _ _) b1 (Nat.le_of_ble_eq_true rfl) dX12_passMinute_6 ?_
  refine fw_if_ne C dX12_passMinute_7 (tgt := 86) rfl (fun c2 => ?_) (fun c2 => ?_)
  · have h := ite_f c2 h
    exact w_X12_passMinute_b86 C hrt hG   _ h
  · have h := ite_t c2 h
    refine fw_iconst C dX12_passMinute_10 (v := 0) rfl ?_
    refine fw_istore_n C dX12_passMinute_11 rfl (by decide) (L' := [(1, .int 0), (0, .ref (ad 10 0 0))]) rfl ?_
    exact w_X12_passMinute_b12 C hrt hG   _ _ _ h
end
set_option maxRecDepth 100000 in
set_option maxHeartbeats 4000000 in
theorem c_X12_passMinute {l : Launch} {N0 : Nat} {T : Nat → ClassId} {D : va_G} {gr : List (Nat × Nat)} {ad : Nat → Nat → Nat → Nat} {Y : Mem} {res : Mem} (hG : ∀ q ∈ [(10, 0)], q ∈ gr) (h : X12_passMinute Y = some res) : CV l yX12_passMinute wsX12_passMinute (Rm 7) N0 T D gr ad Y [.ref (ad 10 0 0)] (fun Y1 => Y1 = res) :=
  fw_body (by decide +kernel) rfl (Nat.le_of_ble_eq_true rfl) (fun p e s m below meth c C hrt => w_X12_passMinute C hrt hG  h)
section
variable {p : Program} {l : Launch} {e : Env} {s : State} {m : MethodId} {below : List Frame} {meth : Method} {c : Code} {N0 : Nat} {T : Nat → ClassId} {D : va_G} {gr : List (Nat × Nat)} {ad : Nat → Nat → Nat → Nat}
set_option maxRecDepth 100000 in
set_option maxHeartbeats 4000000 in
theorem w_X12_simulate_b26  (C : Cx p s m [.ref (ad 10 0 0)].toArray meth c cX12_simulate 2 wsX12_simulate RX12 N0 T D gr ad) (hrt : meth.sig.returnType = (some .int)) (hG : ∀ q ∈ [(10, 0)], q ∈ gr) {res : Int32 × Mem} (Y : Mem) (l1 : Int32) (h : X12_simulate_b26   Y l1 = some res) : FW p l e (Rm 8) s m [.ref (ad 10 0 0)].toArray below meth c 2 N0 T D gr ad 0 0 (MQ below (va_Qi (fun r Y1 => (r, Y1) = res) (WB T D gr ad) (fun q => N0 ≤ q)) [.ref (ad 10 0 0)].toArray s 0 0 (fun q => N0 ≤ q)) Y 26 [(1, .int l1), (0, .ref (ad 10 0 0))] [] := by
  unfold X12_simulate_b26 at h
  refine fw_aload_n C dX12_simulate_26 rfl 1 rfl ?_
  obtain ⟨r2, q3, h⟩ := bd1_some h
  refine fw_callVi C (ci := 10) (Cn := RX12) (Tc := TX12) (N := 19) (As := []) (c_X12_isFinished (gac (hG _ (List.mem_of_getElem? (i := 0) rfl)) ga0) q3) (cwV 0 (cx_ts C) gX12_simulate_X12_isFinished rfl rfl rfl (by decide +kernel) ⟨Nat.le_of_ble_eq_true rfl, Nat.le_of_ble_eq_true rfl⟩) rfl (hG _ (List.mem_of_getElem? (i := 0) rfl)) (of10_0 _) (ce10 T ad _ _) rfl (st := []) rfl (Nat.le_of_ble_eq_true rfl) ⟨Nat.le_refl 0, Nat.le_refl 0⟩ dX12_simulate_27 (pp2 ?_)
  refine fw_if_eq C dX12_simulate_30 (tgt := 37) rfl (fun c4 => ?_) (fun c4 => ?_)
  · have h := ite_t c4 h
    refine fw_iconst C dX12_simulate_37 (v := (-1)) rfl ?_
    exact fw_iret C hrt Y (Option.some.inj h) (fun t ht => ht) dX12_simulate_38
  · have h := ite_f c4 h
    refine fw_iload_n C dX12_simulate_33 rfl 0 rfl ?_
    refine fw_goto C dX12_simulate_34 (tgt := 38) rfl ?_
    exact fw_iret C hrt Y (Option.some.inj h) (fun t ht => ht) dX12_simulate_38
set_option maxRecDepth 100000 in
set_option maxHeartbeats 4000000 in
theorem w_X12_simulate_b2  (C : Cx p s m [.ref (ad 10 0 0)].toArray meth c cX12_simulate 2 wsX12_simulate RX12 N0 T D gr ad) (hrt : meth.sig.returnType = (some .int)) (hG : ∀ q ∈ [(10, 0)], q ∈ gr) {res : Int32 × Mem} : ∀ (n : Nat) (Y : Mem) (l1 : Int32), X12_simulate_b2   n Y l1 = some res → FW p l e (Rm 8) s m [.ref (ad 10 0 0)].toArray below meth c 2 N0 T D gr ad 0 0 (MQ below (va_Qi (fun r Y1 => (r, Y1) = res) (WB T D gr ad) (fun q => N0 ≤ q)) [.ref (ad 10 0 0)].toArray s 0 0 (fun q => N0 ≤ q)) Y 2 [(1, .int l1), (0, .ref (ad 10 0 0))] [] := by
  intro n
  induction n with
  | zero =>
    intro Y l1 h
    unfold X12_simulate_b2 at h
    cases h
  | succ n ih =>
    intro Y l1 h
    unfold X12_simulate_b2 at h
    refine fw_iload_n C dX12_simulate_2 rfl 0 rfl ?_
    refine fw_sipush C dX12_simulate_3 (v := 500) rfl ?_
    refine fw_icmp_ge C dX12_simulate_6 (tgt := 26) rfl (fun c1 => ?_) (fun c1 => ?_)
    · have h := ite_t c1 h
      exact w_X12_simulate_b26 C hrt hG   _ _ h
    · have h := ite_f c1 h
      refine fw_aload_n C dX12_simulate_9 rfl 1 rfl ?_
      obtain ⟨r5, q6, h⟩ := bd1_some h
      refine fw_callVi C (ci := 10) (Cn := RX12) (Tc := TX12) (N := 19) (As := []) (c_X12_isFinished (gac (hG _ (List.mem_of_getElem? (i := 0) rfl)) ga0) q6) (cwV 0 (cx_ts C) gX12_simulate_X12_isFinished rfl rfl rfl (by decide +kernel) ⟨Nat.le_of_ble_eq_true rfl, Nat.le_of_ble_eq_true rfl⟩) rfl (hG _ (List.mem_of_getElem? (i := 0) rfl)) (of10_0 _) (ce10 T ad _ _) rfl (st := []) rfl (Nat.le_of_ble_eq_true rfl) ⟨Nat.le_refl 0, Nat.le_refl 0⟩ dX12_simulate_10 (pp2 ?_)
      refine fw_if_ne C dX12_simulate_13 (tgt := 26) rfl (fun c7 => ?_) (fun c7 => ?_)
      · have h := ite_f c7 h
        exact w_X12_simulate_b26 C hrt hG   _ _ h
      · have h := ite_t c7 h
        refine fw_aload_n C dX12_simulate_16 rfl 1 rfl ?_
        obtain ⟨Y10, q9, h⟩ := bd1_some h
        refine fw_callVv C (ci := 10) (Cn := RX12) (Tc := TX12) (N := 19) (As := []) (c_X12_passMinute (gac (hG _ (List.mem_of_getElem? (i := 0) rfl)) ga0) q9) (cwV 0 (cx_ts C) gX12_simulate_X12_passMinute rfl rfl rfl (by decide +kernel) ⟨Nat.le_of_ble_eq_true rfl, Nat.le_of_ble_eq_true rfl⟩) rfl (hG _ (List.mem_of_getElem? (i := 0) rfl)) (of10_0 _) (ce10 T ad _ _) rfl (st := []) rfl (Nat.le_of_ble_eq_true rfl) ⟨Nat.le_refl 0, Nat.le_refl 0⟩ dX12_simulate_17 (ppv ?_)
        refine fw_iinc C dX12_simulate_20 (kk := 0) (v := l1 + 1) rfl rfl (by decide) (L' := [(1, .int (l1 + 1)), (0, .ref (ad 10 0 0))]) rfl ?_
        refine fw_goto C dX12_simulate_23 (tgt := 2) rfl ?_
        exact ih _ _ h
set_option maxRecDepth 100000 in
set_option maxHeartbeats 4000000 in
theorem w_X12_simulate {Y : Mem} (C : Cx p s m [.ref (ad 10 0 0)].toArray meth c cX12_simulate 2 wsX12_simulate RX12 N0 T D gr ad) (hrt : meth.sig.returnType = (some .int)) (hG : ∀ q ∈ [(10, 0)], q ∈ gr) {res : Int32 × Mem} (h : X12_simulate Y = some res) : FW p l e (Rm 8) s m [.ref (ad 10 0 0)].toArray below meth c 2 N0 T D gr ad 0 0 (MQ below (va_Qi (fun r Y1 => (r, Y1) = res) (WB T D gr ad) (fun q => N0 ≤ q)) [.ref (ad 10 0 0)].toArray s 0 0 (fun q => N0 ≤ q)) Y 0 [(0, .ref (ad 10 0 0))] [] := by
  unfold X12_simulate at h
  refine fw_iconst C dX12_simulate_0 (v := 0) rfl ?_
  refine fw_istore_n C dX12_simulate_1 rfl (by decide) (L' := [(1, .int 0), (0, .ref (ad 10 0 0))]) rfl ?_
  exact w_X12_simulate_b2 C hrt hG   _ _ _ h
end
set_option maxRecDepth 100000 in
set_option maxHeartbeats 4000000 in
theorem c_X12_simulate {l : Launch} {N0 : Nat} {T : Nat → ClassId} {D : va_G} {gr : List (Nat × Nat)} {ad : Nat → Nat → Nat → Nat} {Y : Mem} {res : Int32 × Mem} (hG : ∀ q ∈ [(10, 0)], q ∈ gr) (h : X12_simulate Y = some res) : CI l yX12_simulate wsX12_simulate (Rm 8) N0 T D gr ad Y [.ref (ad 10 0 0)] (fun r Y1 => (r, Y1) = res) :=
  fw_body (by decide +kernel) rfl (Nat.le_of_ble_eq_true rfl) (fun p e s m below meth c C hrt => w_X12_simulate C hrt hG  h)
theorem ly_X12_bottleneck_12 : ∀ w ∈ u_ws RX12 TX12 19, w ∈ wsX12_bottleneck := by decide +kernel
theorem fl_X12_bottleneck_13 : Cond.fieldLink RX12 13 "RecipeSchedulerModel" "m" "[I" ∈ wsX12_bottleneck := by decide +kernel
section
variable {p : Program} {l : Launch} {e : Env} {s : State} {m : MethodId} {below : List Frame} {meth : Method} {c : Code} {N0 : Nat} {T : Nat → ClassId} {D : va_G} {gr : List (Nat × Nat)} {ad : Nat → Nat → Nat → Nat}
set_option maxRecDepth 100000 in
set_option maxHeartbeats 4000000 in
theorem w_X12_bottleneck_b128  (C : Cx p s m [.ref (ad 10 0 0)].toArray meth c cX12_bottleneck 5 wsX12_bottleneck RX12 N0 T D gr ad) (hrt : meth.sig.returnType = (some .int)) (hG : ∀ q ∈ [(10, 0)], q ∈ gr) {res : Int32 × Mem} {k28 : Mem → Int32 → Int32 → Int32 → Option (Int32 × Mem)} (hk28 : ∀ (Y : Mem) (l3 : Int32) (l2 : Int32) (l1 : Int32), k28 Y l3 l2 l1 = some res → FW p l e (Rm 9) s m [.ref (ad 10 0 0)].toArray below meth c 5 N0 T D gr ad 0 0 (MQ below (va_Qi (fun r Y1 => (r, Y1) = res) (WB T D gr ad) (fun q => N0 ≤ q)) [.ref (ad 10 0 0)].toArray s 0 0 (fun q => N0 ≤ q)) Y 28 [(3, .int l3), (2, .int l2), (1, .int l1), (0, .ref (ad 10 0 0))] []) (Y : Mem) (l2 : Int32) (l1 : Int32) (l3 : Int32) (h : X12_bottleneck_b128  k28 Y l2 l1 l3 = some res) : FW p l e (Rm 9) s m [.ref (ad 10 0 0)].toArray below meth c 5 N0 T D gr ad 0 0 (MQ below (va_Qi (fun r Y1 => (r, Y1) = res) (WB T D gr ad) (fun q => N0 ≤ q)) [.ref (ad 10 0 0)].toArray s 0 0 (fun q => N0 ≤ q)) Y 128 [(2, .int l2), (1, .int l1), (3, .int l3), (0, .ref (ad 10 0 0))] [] := by
  unfold X12_bottleneck_b128 at h
  refine fw_iinc C dX12_bottleneck_128 (kk := 2) (v := l3 + 1) rfl rfl (by decide) (L' := [(3, .int (l3 + 1)), (2, .int l2), (1, .int l1), (0, .ref (ad 10 0 0))]) rfl ?_
  refine fw_goto C dX12_bottleneck_131 (tgt := 28) rfl ?_
  exact hk28 _ _ _ _ h
set_option maxRecDepth 100000 in
set_option maxHeartbeats 4000000 in
theorem w_X12_bottleneck_b123  (C : Cx p s m [.ref (ad 10 0 0)].toArray meth c cX12_bottleneck 5 wsX12_bottleneck RX12 N0 T D gr ad) (hrt : meth.sig.returnType = (some .int)) (hG : ∀ q ∈ [(10, 0)], q ∈ gr) {res : Int32 × Mem} {k28 : Mem → Int32 → Int32 → Int32 → Option (Int32 × Mem)} (hk28 : ∀ (Y : Mem) (l3 : Int32) (l2 : Int32) (l1 : Int32), k28 Y l3 l2 l1 = some res → FW p l e (Rm 9) s m [.ref (ad 10 0 0)].toArray below meth c 5 N0 T D gr ad 0 0 (MQ below (va_Qi (fun r Y1 => (r, Y1) = res) (WB T D gr ad) (fun q => N0 ≤ q)) [.ref (ad 10 0 0)].toArray s 0 0 (fun q => N0 ≤ q)) Y 28 [(3, .int l3), (2, .int l2), (1, .int l1), (0, .ref (ad 10 0 0))] []) (Y : Mem) (l4 : Int32) (l3 : Int32) (h : X12_bottleneck_b123  k28 Y l4 l3 = some res) : FW p l e (Rm 9) s m [.ref (ad 10 0 0)].toArray below meth c 5 N0 T D gr ad 0 0 (MQ below (va_Qi (fun r Y1 => (r, Y1) = res) (WB T D gr ad) (fun q => N0 ≤ q)) [.ref (ad 10 0 0)].toArray s 0 0 (fun q => N0 ≤ q)) Y 123 [(4, .int l4), (3, .int l3), (0, .ref (ad 10 0 0))] [] := by
  unfold X12_bottleneck_b123 at h
  refine fw_iload_n C dX12_bottleneck_123 rfl 1 rfl ?_
  refine fw_istore_n C dX12_bottleneck_124 rfl (by decide) (L' := [(1, .int l3), (4, .int l4), (3, .int l3), (0, .ref (ad 10 0 0))]) rfl ?_
  refine fw_iload C dX12_bottleneck_125 1 rfl ?_
  refine fw_istore_n C dX12_bottleneck_127 rfl (by decide) (L' := [(2, .int l4), (1, .int l3), (4, .int l4), (3, .int l3), (0, .ref (ad 10 0 0))]) rfl ?_
  refine fw_sub [0, 1, 3, 4] (L' := [(2, .int l4), (1, .int l3), (3, .int l3), (0, .ref (ad 10 0 0))]) rfl ?_
  exact w_X12_bottleneck_b128 C hrt hG  hk28 _ _ _ _ h
set_option maxRecDepth 100000 in
set_option maxHeartbeats 4000000 in
theorem w_X12_bottleneck_b107  (C : Cx p s m [.ref (ad 10 0 0)].toArray meth c cX12_bottleneck 5 wsX12_bottleneck RX12 N0 T D gr ad) (hrt : meth.sig.returnType = (some .int)) (hG : ∀ q ∈ [(10, 0)], q ∈ gr) {res : Int32 × Mem} {k28 : Mem → Int32 → Int32 → Int32 → Option (Int32 × Mem)} (hk28 : ∀ (Y : Mem) (l3 : Int32) (l2 : Int32) (l1 : Int32), k28 Y l3 l2 l1 = some res → FW p l e (Rm 9) s m [.ref (ad 10 0 0)].toArray below meth c 5 N0 T D gr ad 0 0 (MQ below (va_Qi (fun r Y1 => (r, Y1) = res) (WB T D gr ad) (fun q => N0 ≤ q)) [.ref (ad 10 0 0)].toArray s 0 0 (fun q => N0 ≤ q)) Y 28 [(3, .int l3), (2, .int l2), (1, .int l1), (0, .ref (ad 10 0 0))] []) (Y : Mem) (l3 : Int32) (l2 : Int32) (l1 : Int32) (s0 : Int32) (h : X12_bottleneck_b107  k28 Y l3 l2 l1 s0 = some res) : FW p l e (Rm 9) s m [.ref (ad 10 0 0)].toArray below meth c 5 N0 T D gr ad 0 0 (MQ below (va_Qi (fun r Y1 => (r, Y1) = res) (WB T D gr ad) (fun q => N0 ≤ q)) [.ref (ad 10 0 0)].toArray s 0 0 (fun q => N0 ≤ q)) Y 107 [(3, .int l3), (2, .int l2), (1, .int l1), (0, .ref (ad 10 0 0))] [.int s0] := by
  unfold X12_bottleneck_b107 at h
  refine fw_istore C dX12_bottleneck_107 (by decide) (L' := [(4, .int s0), (3, .int l3), (2, .int l2), (1, .int l1), (0, .ref (ad 10 0 0))]) rfl ?_
  refine fw_iload_n C dX12_bottleneck_109 rfl 3 rfl ?_
  refine fw_iconst C dX12_bottleneck_110 (v := (-1)) rfl ?_
  refine fw_icmp_eq C dX12_bottleneck_111 (tgt := 123) rfl (fun c25 => ?_) (fun c25 => ?_)
  · have h := ite_t c25 h
    refine fw_sub [0, 1, 4] (L' := [(4, .int s0), (3, .int l3), (0, .ref (ad 10 0 0))]) rfl ?_
    exact w_X12_bottleneck_b123 C hrt hG  hk28 _ _ _ h
  · have h := ite_f c25 h
    refine fw_iload C dX12_bottleneck_114 0 rfl ?_
    refine fw_iload_n C dX12_bottleneck_116 rfl 2 rfl ?_
    refine fw_icmp_lt C dX12_bottleneck_117 (tgt := 123) rfl (fun c26 => ?_) (fun c26 => ?_)
    · have h := ite_t c26 h
      refine fw_sub [0, 1, 4] (L' := [(4, .int s0), (3, .int l3), (0, .ref (ad 10 0 0))]) rfl ?_
      exact w_X12_bottleneck_b123 C hrt hG  hk28 _ _ _ h
    · have h := ite_f c26 h
      refine fw_goto C dX12_bottleneck_120 (tgt := 128) rfl ?_
      refine fw_sub [2, 3, 1, 4] (L' := [(2, .int l2), (1, .int l1), (3, .int l3), (0, .ref (ad 10 0 0))]) rfl ?_
      exact w_X12_bottleneck_b128 C hrt hG  hk28 _ _ _ _ h
set_option maxRecDepth 100000 in
set_option maxHeartbeats 4000000 in
theorem w_X12_bottleneck_b80  (C : Cx p s m [.ref (ad 10 0 0)].toArray meth c cX12_bottleneck 5 wsX12_bottleneck RX12 N0 T D gr ad) (hrt : meth.sig.returnType = (some .int)) (hG : ∀ q ∈ [(10, 0)], q ∈ gr) {res : Int32 × Mem} {k28 : Mem → Int32 → Int32 → Int32 → Option (Int32 × Mem)} (hk28 : ∀ (Y : Mem) (l3 : Int32) (l2 : Int32) (l1 : Int32), k28 Y l3 l2 l1 = some res → FW p l e (Rm 9) s m [.ref (ad 10 0 0)].toArray below meth c 5 N0 T D gr ad 0 0 (MQ below (va_Qi (fun r Y1 => (r, Y1) = res) (WB T D gr ad) (fun q => N0 ≤ q)) [.ref (ad 10 0 0)].toArray s 0 0 (fun q => N0 ≤ q)) Y 28 [(3, .int l3), (2, .int l2), (1, .int l1), (0, .ref (ad 10 0 0))] []) (Y : Mem) (l3 : Int32) (l2 : Int32) (l1 : Int32) (h : X12_bottleneck_b80  k28 Y l3 l2 l1 = some res) : FW p l e (Rm 9) s m [.ref (ad 10 0 0)].toArray below meth c 5 N0 T D gr ad 0 0 (MQ below (va_Qi (fun r Y1 => (r, Y1) = res) (WB T D gr ad) (fun q => N0 ≤ q)) [.ref (ad 10 0 0)].toArray s 0 0 (fun q => N0 ≤ q)) Y 80 [(3, .int l3), (2, .int l2), (1, .int l1), (0, .ref (ad 10 0 0))] [] := by
  unfold X12_bottleneck_b80 at h
  refine fw_aload_n C dX12_bottleneck_80 rfl 3 rfl ?_
  obtain ⟨r18, Y20, q19, h⟩ := bd2_some h
  refine fw_callVi C (ci := 10) (Cn := RX12) (Tc := TX12) (N := 19) (As := []) (c_X12_simulate (gac (hG _ (List.mem_of_getElem? (i := 0) rfl)) ga0) q19) (cwV 0 (cx_ts C) gX12_bottleneck_X12_simulate rfl rfl rfl (by decide +kernel) ⟨Nat.le_of_ble_eq_true rfl, Nat.le_of_ble_eq_true rfl⟩) rfl (hG _ (List.mem_of_getElem? (i := 0) rfl)) (of10_0 _) (ce10 T ad _ _) rfl (st := []) rfl (Nat.le_of_ble_eq_true rfl) ⟨Nat.le_refl 0, Nat.le_refl 0⟩ dX12_bottleneck_81 (ppw ?_)
  refine fw_istore C dX12_bottleneck_84 (by decide) (L' := [(4, .int r18), (3, .int l3), (2, .int l2), (1, .int l1), (0, .ref (ad 10 0 0))]) rfl ?_
  refine fw_aload_n C dX12_bottleneck_86 rfl 4 rfl ?_
  refine fw_bipush C dX12_bottleneck_87 (v := 10) rfl ?_
  refine fw_iconst C dX12_bottleneck_89 (v := 0) rfl ?_
  obtain ⟨Y23, q22, h⟩ := bd1_some h
  refine fw_callVv C (ci := 10) (Cn := RX12) (Tc := TX12) (N := 19) (As := [.int 10, .int 0]) (c_X12_copyBlock (gac (hG _ (List.mem_of_getElem? (i := 0) rfl)) ga0) q22) (cwV 2 (cx_ts C) gX12_bottleneck_X12_copyBlock rfl rfl rfl (by decide +kernel) ⟨Nat.le_of_ble_eq_true rfl, Nat.le_of_ble_eq_true rfl⟩) rfl (hG _ (List.mem_of_getElem? (i := 0) rfl)) (of10_0 _) (ce10 T ad _ _) rfl (st := []) rfl (Nat.le_of_ble_eq_true rfl) ⟨Nat.le_refl 0, Nat.le_refl 0⟩ dX12_bottleneck_90 (ppv ?_)
  refine fw_iload C dX12_bottleneck_93 0 rfl ?_
  refine fw_iconst C dX12_bottleneck_95 (v := (-1)) rfl ?_
  refine fw_icmp_ne C dX12_bottleneck_96 (tgt := 105) rfl (fun c24 => ?_) (fun c24 => ?_)
  · have h := ite_f c24 h
    refine fw_iload C dX12_bottleneck_105 0 rfl ?_
    refine fw_sub [1, 2, 3, 4] (L' := [(3, .int l3), (2, .int l2), (1, .int l1), (0, .ref (ad 10 0 0))]) rfl ?_
    exact w_X12_bottleneck_b107 C hrt hG  hk28 _ _ _ _ _ h
  · have h := ite_t c24 h
    refine fw_sipush C dX12_bottleneck_99 (v := 501) rfl ?_
    refine fw_goto C dX12_bottleneck_102 (tgt := 107) rfl ?_
    refine fw_sub [1, 2, 3, 4] (L' := [(3, .int l3), (2, .int l2), (1, .int l1), (0, .ref (ad 10 0 0))]) rfl ?_
    exact w_X12_bottleneck_b107 C hrt hG  hk28 _ _ _ _ _ h
set_option maxRecDepth 100000 in
set_option maxHeartbeats 4000000 in
theorem w_X12_bottleneck_b28  (C : Cx p s m [.ref (ad 10 0 0)].toArray meth c cX12_bottleneck 5 wsX12_bottleneck RX12 N0 T D gr ad) (hrt : meth.sig.returnType = (some .int)) (hG : ∀ q ∈ [(10, 0)], q ∈ gr) {res : Int32 × Mem} : ∀ (n : Nat) (Y : Mem) (l3 : Int32) (l2 : Int32) (l1 : Int32), X12_bottleneck_b28   n Y l3 l2 l1 = some res → FW p l e (Rm 9) s m [.ref (ad 10 0 0)].toArray below meth c 5 N0 T D gr ad 0 0 (MQ below (va_Qi (fun r Y1 => (r, Y1) = res) (WB T D gr ad) (fun q => N0 ≤ q)) [.ref (ad 10 0 0)].toArray s 0 0 (fun q => N0 ≤ q)) Y 28 [(3, .int l3), (2, .int l2), (1, .int l1), (0, .ref (ad 10 0 0))] [] := by
  intro n
  induction n with
  | zero =>
    intro Y l3 l2 l1 h
    unfold X12_bottleneck_b28 at h
    cases h
  | succ n ih =>
    intro Y l3 l2 l1 h
    unfold X12_bottleneck_b28 at h
    refine fw_iload_n C dX12_bottleneck_28 rfl 0 rfl ?_
    refine fw_aload_n C dX12_bottleneck_29 rfl 3 rfl ?_
    refine fw_get C (ci := 10) (Cn := RX12) (Tc := TX12) (N := 19) (j := 0) ly_X12_bottleneck_12 rfl (hG _ (List.mem_of_getElem? (i := 0) rfl)) (of10_0 _) (ce10 T ad _ _) (by decide) (cx_ts C _ fl_X12_bottleneck_13) (fun _ h => h) (v := .ref (ad 10 0 1)) rfl dX12_bottleneck_30 ?_
    refine fw_bipush C dX12_bottleneck_33 (v := 13) rfl ?_
    obtain ⟨b10, h⟩ := gd_some h
    refine fw_iald2 C (hG _ (List.mem_of_getElem? (i := 0) rfl)) (of10_1 _) (ca10_1 T ad _ _) b10 (Nat.le_of_ble_eq_true rfl) dX12_bottleneck_35 ?_
    refine fw_icmp_ge C dX12_bottleneck_36 (tgt := 134) rfl (fun c11 => ?_) (fun c11 => ?_)
    · have h := ite_t c11 h
      refine fw_iload_n C dX12_bottleneck_134 rfl 2 rfl ?_
      exact fw_iret C hrt Y (Option.some.inj h) (fun t ht => ht) dX12_bottleneck_135
    · have h := ite_f c11 h
      refine fw_aload_n C dX12_bottleneck_39 rfl 3 rfl ?_
      refine fw_iload_n C dX12_bottleneck_40 rfl 0 rfl ?_
      refine fw_bipush C dX12_bottleneck_41 (v := 17) rfl ?_
      obtain ⟨r12, q13, h⟩ := bd1_some h
      refine fw_callVi C (ci := 10) (Cn := RX12) (Tc := TX12) (N := 19) (As := [.int l3, .int 17]) (c_X12_of (gac (hG _ (List.mem_of_getElem? (i := 0) rfl)) ga0) q13) (cwV 2 (cx_ts C) gX12_bottleneck_X12_of rfl rfl rfl (by decide +kernel) ⟨Nat.le_of_ble_eq_true rfl, Nat.le_of_ble_eq_true rfl⟩) rfl (hG _ (List.mem_of_getElem? (i := 0) rfl)) (of10_0 _) (ce10 T ad _ _) rfl (st := []) rfl (Nat.le_of_ble_eq_true rfl) ⟨Nat.le_refl 0, Nat.le_refl 0⟩ dX12_bottleneck_43 (pp2 ?_)
      refine fw_iconst C dX12_bottleneck_46 (v := 2) rfl ?_
      refine fw_icmp_ne C dX12_bottleneck_47 (tgt := 53) rfl (fun c14 => ?_) (fun c14 => ?_)
      · have h := ite_f c14 h
        refine fw_aload_n C dX12_bottleneck_53 rfl 3 rfl ?_
        refine fw_iload_n C dX12_bottleneck_54 rfl 0 rfl ?_
        refine fw_bipush C dX12_bottleneck_55 (v := 7) rfl ?_
        obtain ⟨r15, q16, h⟩ := bd1_some h
        refine fw_callVi C (ci := 10) (Cn := RX12) (Tc := TX12) (N := 19) (As := [.int l3, .int 7]) (c_X12_of (gac (hG _ (List.mem_of_getElem? (i := 0) rfl)) ga0) q16) (cwV 2 (cx_ts C) gX12_bottleneck_X12_of rfl rfl rfl (by decide +kernel) ⟨Nat.le_of_ble_eq_true rfl, Nat.le_of_ble_eq_true rfl⟩) rfl (hG _ (List.mem_of_getElem? (i := 0) rfl)) (of10_0 _) (ce10 T ad _ _) rfl (st := []) rfl (Nat.le_of_ble_eq_true rfl) ⟨Nat.le_refl 0, Nat.le_refl 0⟩ dX12_bottleneck_57 (pp2 ?_)
        refine fw_iconst C dX12_bottleneck_60 (v := 1) rfl ?_
        refine fw_icmp_le C dX12_bottleneck_61 (tgt := 80) rfl (fun c17 => ?_) (fun c17 => ?_)
        · have h := ite_t c17 h
          exact w_X12_bottleneck_b80 C hrt hG  ih _ _ _ _ h
        · have h := ite_f c17 h
          refine fw_aload_n C dX12_bottleneck_64 rfl 3 rfl ?_
          refine fw_iload_n C dX12_bottleneck_65 rfl 0 rfl ?_
          refine fw_bipush C dX12_bottleneck_66 (v := 7) rfl ?_
          refine fw_aload_n C dX12_bottleneck_68 rfl 3 rfl ?_
          refine fw_iload_n C dX12_bottleneck_69 rfl 0 rfl ?_
          refine fw_bipush C dX12_bottleneck_70 (v := 7) rfl ?_
          obtain ⟨r27, q28, h⟩ := bd1_some h
          refine fw_callVi C (ci := 10) (Cn := RX12) (Tc := TX12) (N := 19) (As := [.int l3, .int 7]) (c_X12_of (gac (hG _ (List.mem_of_getElem? (i := 0) rfl)) ga0) q28) (cwV 2 (cx_ts C) gX12_bottleneck_X12_of rfl rfl rfl (by decide +kernel) ⟨Nat.le_of_ble_eq_true rfl, Nat.le_of_ble_eq_true rfl⟩) rfl (hG _ (List.mem_of_getElem? (i := 0) rfl)) (of10_0 _) (ce10 T ad _ _) rfl (st := [.int 7, .int l3, .ref (ad 10 0 0)]) rfl (Nat.le_of_ble_eq_true rfl) ⟨Nat.le_refl 0, Nat.le_refl 0⟩ dX12_bottleneck_72 (pp2 ?_)
          refine fw_iconst C dX12_bottleneck_75 (v := 1) rfl ?_
          refine fw_isub C dX12_bottleneck_76 ?_
          obtain ⟨Y31, q30, h⟩ := bd1_some h
          refine fw_callVv C (ci := 10) (Cn := RX12) (Tc := TX12) (N := 19) (As := [.int l3, .int 7, .int (r27 - 1)]) (c_X12_set (gac (hG _ (List.mem_of_getElem? (i := 0) rfl)) ga0) q30) (cwV 3 (cx_ts C) gX12_bottleneck_X12_set rfl rfl rfl (by decide +kernel) ⟨Nat.le_of_ble_eq_true rfl, Nat.le_of_ble_eq_true rfl⟩) rfl (hG _ (List.mem_of_getElem? (i := 0) rfl)) (of10_0 _) (ce10 T ad _ _) rfl (st := []) rfl (Nat.le_of_ble_eq_true rfl) ⟨Nat.le_refl 0, Nat.le_refl 0⟩ dX12_bottleneck_77 (ppv ?_)
          exact w_X12_bottleneck_b80 C hrt hG  ih _ _ _ _ h
      · have h := ite_t c14 h
        refine fw_goto C dX12_bottleneck_50 (tgt := 128) rfl ?_
        refine fw_sub [1, 2, 0, 3] (L' := [(2, .int l2), (1, .int l1), (3, .int l3), (0, .ref (ad 10 0 0))]) rfl ?_
        exact w_X12_bottleneck_b128 C hrt hG  ih _ _ _ _ h
set_option maxRecDepth 100000 in
set_option maxHeartbeats 4000000 in
theorem w_X12_bottleneck {Y : Mem} (C : Cx p s m [.ref (ad 10 0 0)].toArray meth c cX12_bottleneck 5 wsX12_bottleneck RX12 N0 T D gr ad) (hrt : meth.sig.returnType = (some .int)) (hG : ∀ q ∈ [(10, 0)], q ∈ gr) {res : Int32 × Mem} (h : X12_bottleneck Y = some res) : FW p l e (Rm 9) s m [.ref (ad 10 0 0)].toArray below meth c 5 N0 T D gr ad 0 0 (MQ below (va_Qi (fun r Y1 => (r, Y1) = res) (WB T D gr ad) (fun q => N0 ≤ q)) [.ref (ad 10 0 0)].toArray s 0 0 (fun q => N0 ≤ q)) Y 0 [(0, .ref (ad 10 0 0))] [] := by
  unfold X12_bottleneck at h
  refine fw_aload_n C dX12_bottleneck_0 rfl 0 rfl ?_
  refine fw_aload_n C dX12_bottleneck_1 rfl 0 rfl ?_
  obtain ⟨r1, q2, h⟩ := bd1_some h
  refine fw_callVi C (ci := 10) (Cn := RX12) (Tc := TX12) (N := 19) (As := []) (c_X12_isFinished (gac (hG _ (List.mem_of_getElem? (i := 0) rfl)) ga0) q2) (cwV 0 (cx_ts C) gX12_bottleneck_X12_isFinished rfl rfl rfl (by decide +kernel) ⟨Nat.le_of_ble_eq_true rfl, Nat.le_of_ble_eq_true rfl⟩) rfl (hG _ (List.mem_of_getElem? (i := 0) rfl)) (of10_0 _) (ce10 T ad _ _) rfl (st := [.ref (ad 10 0 0)]) rfl (Nat.le_of_ble_eq_true rfl) ⟨Nat.le_refl 0, Nat.le_refl 0⟩ dX12_bottleneck_2 (pp2 ?_)
  refine fw_iconst C dX12_bottleneck_5 (v := 0) rfl ?_
  refine fw_iconst C dX12_bottleneck_6 (v := 0) rfl ?_
  obtain ⟨r3, Y5, q4, h⟩ := bd2_some h
  refine fw_callVi C (ci := 10) (Cn := RX12) (Tc := TX12) (N := 19) (As := [.int r1, .int 0, .int 0]) (c_X12_fails (gac (hG _ (List.mem_of_getElem? (i := 0) rfl)) ga0) q4) (cwV 3 (cx_ts C) gX12_bottleneck_X12_fails rfl rfl rfl (by decide +kernel) ⟨Nat.le_of_ble_eq_true rfl, Nat.le_of_ble_eq_true rfl⟩) rfl (hG _ (List.mem_of_getElem? (i := 0) rfl)) (of10_0 _) (ce10 T ad _ _) rfl (st := []) rfl (Nat.le_of_ble_eq_true rfl) ⟨Nat.le_refl 0, Nat.le_refl 0⟩ dX12_bottleneck_7 (ppw ?_)
  refine fw_if_eq C dX12_bottleneck_10 (tgt := 15) rfl (fun c6 => ?_) (fun c6 => ?_)
  · have h := ite_t c6 h
    refine fw_aload_n C dX12_bottleneck_15 rfl 0 rfl ?_
    refine fw_iconst C dX12_bottleneck_16 (v := 0) rfl ?_
    refine fw_bipush C dX12_bottleneck_17 (v := 10) rfl ?_
    obtain ⟨Y9, q8, h⟩ := bd1_some h
    refine fw_callVv C (ci := 10) (Cn := RX12) (Tc := TX12) (N := 19) (As := [.int 0, .int 10]) (c_X12_copyBlock (gac (hG _ (List.mem_of_getElem? (i := 0) rfl)) ga0) q8) (cwV 2 (cx_ts C) gX12_bottleneck_X12_copyBlock rfl rfl rfl (by decide +kernel) ⟨Nat.le_of_ble_eq_true rfl, Nat.le_of_ble_eq_true rfl⟩) rfl (hG _ (List.mem_of_getElem? (i := 0) rfl)) (of10_0 _) (ce10 T ad _ _) rfl (st := []) rfl (Nat.le_of_ble_eq_true rfl) ⟨Nat.le_refl 0, Nat.le_refl 0⟩ dX12_bottleneck_19 (ppv ?_)
    refine fw_iconst C dX12_bottleneck_22 (v := (-1)) rfl ?_
    refine fw_istore_n C dX12_bottleneck_23 rfl (by decide) (L' := [(1, .int ((-1))), (0, .ref (ad 10 0 0))]) rfl ?_
    refine fw_iconst C dX12_bottleneck_24 (v := 0) rfl ?_
    refine fw_istore_n C dX12_bottleneck_25 rfl (by decide) (L' := [(2, .int 0), (1, .int ((-1))), (0, .ref (ad 10 0 0))]) rfl ?_
    refine fw_iconst C dX12_bottleneck_26 (v := 0) rfl ?_
    refine fw_istore_n C dX12_bottleneck_27 rfl (by decide) (L' := [(3, .int 0), (2, .int 0), (1, .int ((-1))), (0, .ref (ad 10 0 0))]) rfl ?_
    exact w_X12_bottleneck_b28 C hrt hG   _ _ _ _ _ h
  · have h := ite_f c6 h
    refine fw_iconst C dX12_bottleneck_13 (v := 0) rfl ?_
    exact fw_iret C hrt Y5 (Option.some.inj h) (fun t ht => ht) dX12_bottleneck_14
end
set_option maxRecDepth 100000 in
set_option maxHeartbeats 4000000 in
theorem c_X12_bottleneck {l : Launch} {N0 : Nat} {T : Nat → ClassId} {D : va_G} {gr : List (Nat × Nat)} {ad : Nat → Nat → Nat → Nat} {Y : Mem} {res : Int32 × Mem} (hG : ∀ q ∈ [(10, 0)], q ∈ gr) (h : X12_bottleneck Y = some res) : CI l yX12_bottleneck wsX12_bottleneck (Rm 9) N0 T D gr ad Y [.ref (ad 10 0 0)] (fun r Y1 => (r, Y1) = res) :=
  fw_body (by decide +kernel) rfl (Nat.le_of_ble_eq_true rfl) (fun p e s m below meth c C hrt => w_X12_bottleneck C hrt hG  h)
theorem ly_X12_plain_12 : ∀ w ∈ u_ws RX12 TX12 19, w ∈ wsX12_plain := by decide +kernel
theorem fl_X12_plain_1 : Cond.fieldLink RX12 1 "RecipeSchedulerModel" "thrown" "I" ∈ wsX12_plain := by decide +kernel
section
variable {p : Program} {l : Launch} {e : Env} {s : State} {m : MethodId} {below : List Frame} {meth : Method} {c : Code} {N0 : Nat} {T : Nat → ClassId} {D : va_G} {gr : List (Nat × Nat)} {ad : Nat → Nat → Nat → Nat}
set_option maxRecDepth 100000 in
set_option maxHeartbeats 4000000 in
theorem w_X12_plain {Y : Mem} {a1 : Int32} (C : Cx p s m [.ref (ad 10 0 0), .int a1].toArray meth c cX12_plain 2 wsX12_plain RX12 N0 T D gr ad) (hrt : meth.sig.returnType = (some .int)) (hG : ∀ q ∈ [(10, 0)], q ∈ gr) {res : Int32 × Mem} (h : X12_plain Y a1 = some res) : FW p l e (Rm 0) s m [.ref (ad 10 0 0), .int a1].toArray below meth c 2 N0 T D gr ad 0 0 (MQ below (va_Qi (fun r Y1 => (r, Y1) = res) (WB T D gr ad) (fun q => N0 ≤ q)) [.ref (ad 10 0 0), .int a1].toArray s 0 0 (fun q => N0 ≤ q)) Y 0 [(0, .ref (ad 10 0 0)), (1, .int a1)] [] := by
  unfold X12_plain at h
  refine fw_aload_n C dX12_plain_0 rfl 0 rfl ?_
  refine fw_iconst C dX12_plain_1 (v := 0) rfl ?_
  obtain ⟨Y1, e2, h⟩ := lt_some h
  refine fw_put C (ci := 10) (Cn := RX12) (Tc := TX12) (N := 19) (j := 9) (ty := .int) (upd (Y 10 0 0) 9 0) ly_X12_plain_12 rfl tyX12_ok nmX12 (hG _ (List.mem_of_getElem? (i := 0) rfl)) (of10_0 _) (ce10 T ad _ _) (by decide) (cx_ts C _ fl_X12_plain_1) (fun _ h => h) rfl (by decide +kernel) rfl rfl (Nat.le_of_ble_eq_true rfl) (ce10_put9 T ad _ _ _) dX12_plain_2 ?_
  refine fw_mem ((up_eq _ _ _ _ _ _).symm.trans e2) ?_
  refine fw_iload_n C dX12_plain_5 rfl 1 rfl ?_
  exact fw_iret C hrt Y1 (Option.some.inj h) (fun t ht => ht) dX12_plain_6
end
set_option maxRecDepth 100000 in
set_option maxHeartbeats 4000000 in
theorem c_X12_plain {l : Launch} {N0 : Nat} {T : Nat → ClassId} {D : va_G} {gr : List (Nat × Nat)} {ad : Nat → Nat → Nat → Nat} {Y : Mem} {a1 : Int32} {res : Int32 × Mem} (hG : ∀ q ∈ [(10, 0)], q ∈ gr) (h : X12_plain Y a1 = some res) : CI l yX12_plain wsX12_plain (Rm 0) N0 T D gr ad Y [.ref (ad 10 0 0), .int a1] (fun r Y1 => (r, Y1) = res) :=
  fw_body (by decide +kernel) rfl (Nat.le_of_ble_eq_true rfl) (fun p e s m below meth c C hrt => w_X12_plain C hrt hG  h)
theorem ly_X12_burns_12 : ∀ w ∈ u_ws RX12 TX12 19, w ∈ wsX12_burns := by decide +kernel
theorem fl_X12_burns_13 : Cond.fieldLink RX12 13 "RecipeSchedulerModel" "m" "[I" ∈ wsX12_burns := by decide +kernel
section
variable {p : Program} {l : Launch} {e : Env} {s : State} {m : MethodId} {below : List Frame} {meth : Method} {c : Code} {N0 : Nat} {T : Nat → ClassId} {D : va_G} {gr : List (Nat × Nat)} {ad : Nat → Nat → Nat → Nat}
set_option maxRecDepth 100000 in
set_option maxHeartbeats 4000000 in
theorem w_X12_burns {Y : Mem} (C : Cx p s m [.ref (ad 10 0 0)].toArray meth c cX12_burns 1 wsX12_burns RX12 N0 T D gr ad) (hrt : meth.sig.returnType = (some .int)) (hG : ∀ q ∈ [(10, 0)], q ∈ gr) {res : Int32 × Mem} (h : X12_burns Y = some res) : FW p l e (Rm 1) s m [.ref (ad 10 0 0)].toArray below meth c 1 N0 T D gr ad 0 0 (MQ below (va_Qi (fun r Y1 => (r, Y1) = res) (WB T D gr ad) (fun q => N0 ≤ q)) [.ref (ad 10 0 0)].toArray s 0 0 (fun q => N0 ≤ q)) Y 0 [(0, .ref (ad 10 0 0))] [] := by
  unfold X12_burns at h
  refine fw_aload_n C dX12_burns_0 rfl 0 rfl ?_
  refine fw_aload_n C dX12_burns_1 rfl 0 rfl ?_
  refine fw_get C (ci := 10) (Cn := RX12) (Tc := TX12) (N := 19) (j := 0) ly_X12_burns_12 rfl (hG _ (List.mem_of_getElem? (i := 0) rfl)) (of10_0 _) (ce10 T ad _ _) (by decide) (cx_ts C _ fl_X12_burns_13) (fun _ h => h) (v := .ref (ad 10 0 1)) rfl dX12_burns_2 ?_
  refine fw_bipush C dX12_burns_5 (v := 9) rfl ?_
  obtain ⟨b1, h⟩ := gd_some h
  refine fw_iald2 C (hG _ (List.mem_of_getElem? (i := 0) rfl)) (of10_1 _) (ca10_1 T ad _ _) b1 (Nat.le_of_ble_eq_true rfl) dX12_burns_7 ?_
  obtain ⟨r2, Y4, q3, h⟩ := bd2_some h
  refine fw_callVi C (ci := 10) (Cn := RX12) (Tc := TX12) (N := 19) (As := [.int (Y 10 0 1 (ix 9))]) (c_X12_plain (gac (hG _ (List.mem_of_getElem? (i := 0) rfl)) ga0) q3) (cwV 1 (cx_ts C) gX12_burns_X12_plain rfl rfl rfl (by decide +kernel) ⟨Nat.le_of_ble_eq_true rfl, Nat.le_of_ble_eq_true rfl⟩) rfl (hG _ (List.mem_of_getElem? (i := 0) rfl)) (of10_0 _) (ce10 T ad _ _) rfl (st := []) rfl (Nat.le_of_ble_eq_true rfl) ⟨Nat.le_refl 0, Nat.le_refl 0⟩ dX12_burns_8 (ppw ?_)
  exact fw_iret C hrt Y4 (Option.some.inj h) (fun t ht => ht) dX12_burns_11
end
set_option maxRecDepth 100000 in
set_option maxHeartbeats 4000000 in
theorem c_X12_burns {l : Launch} {N0 : Nat} {T : Nat → ClassId} {D : va_G} {gr : List (Nat × Nat)} {ad : Nat → Nat → Nat → Nat} {Y : Mem} {res : Int32 × Mem} (hG : ∀ q ∈ [(10, 0)], q ∈ gr) (h : X12_burns Y = some res) : CI l yX12_burns wsX12_burns (Rm 1) N0 T D gr ad Y [.ref (ad 10 0 0)] (fun r Y1 => (r, Y1) = res) :=
  fw_body (by decide +kernel) rfl (Nat.le_of_ble_eq_true rfl) (fun p e s m below meth c C hrt => w_X12_burns C hrt hG  h)
