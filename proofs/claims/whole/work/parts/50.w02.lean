section
variable {p : Program} {l : Launch} {e : Env} {s : State} {m : MethodId} {below : List Frame} {meth : Method} {c : Code} {N0 : Nat} {T : Nat → ClassId} {D : va_G} {gr : List (Nat × Nat)} {ad : Nat → Nat → Nat → Nat}
set_option maxRecDepth 100000 in
set_option maxHeartbeats 4000000 in
theorem w_X12_isReady {Y : Mem} {a1 : Int32} (C : Cx p s m [.ref (ad 10 0 0), .int a1].toArray meth c cX12_isReady 2 wsX12_isReady RX12 N0 T D gr ad) (hrt : meth.sig.returnType = (some .boolean)) (hG : ∀ q ∈ [(10, 0)], q ∈ gr) {res : Int32} (h : X12_isReady Y a1 = some res) : FW p l e (Rm 2) s m [.ref (ad 10 0 0), .int a1].toArray below meth c 2 N0 T D gr ad 0 0 (MQ below (va_Qi (fun r Y1 => r = res ∧ Y1 = Y) (WB T D gr ad) (fun q => N0 ≤ q)) [.ref (ad 10 0 0), .int a1].toArray s 0 0 (fun q => N0 ≤ q)) Y 0 [(0, .ref (ad 10 0 0)), (1, .int a1)] [] := by
  unfold X12_isReady at h
  refine fw_aload_n C dX12_isReady_0 rfl 0 rfl ?_
  refine fw_iload_n C dX12_isReady_1 rfl 1 rfl ?_
  refine fw_bipush C dX12_isReady_2 (v := 17) rfl ?_
  obtain ⟨r1, q2, h⟩ := bd1_some h
  refine fw_callVi C (ci := 10) (Cn := RX12) (Tc := TX12) (N := 19) (As := [.int a1, .int 17]) (c_X12_of (gac (hG _ (List.mem_of_getElem? (i := 0) rfl)) ga0) q2) (cwV 2 (cx_ts C) gX12_isReady_X12_of rfl rfl rfl (by decide +kernel) ⟨Nat.le_of_ble_eq_true rfl, Nat.le_of_ble_eq_true rfl⟩) rfl (hG _ (List.mem_of_getElem? (i := 0) rfl)) (of10_0 _) (ce10 T ad _ _) rfl (st := []) rfl (Nat.le_of_ble_eq_true rfl) ⟨Nat.le_refl 0, Nat.le_refl 0⟩ dX12_isReady_4 (pp2 ?_)
  refine fw_iconst C dX12_isReady_7 (v := 1) rfl ?_
  refine fw_icmp_eq C dX12_isReady_8 (tgt := 35) rfl (fun c3 => ?_) (fun c3 => ?_)
  · have h := ite_t c3 h
    refine fw_iconst C dX12_isReady_35 (v := 0) rfl ?_
    exact fw_zret C hrt (by decide) Y ⟨Option.some.inj h, rfl⟩ (fun t ht => ht) dX12_isReady_36
  · have h := ite_f c3 h
    refine fw_aload_n C dX12_isReady_11 rfl 0 rfl ?_
    refine fw_iload_n C dX12_isReady_12 rfl 1 rfl ?_
    refine fw_bipush C dX12_isReady_13 (v := 17) rfl ?_
    obtain ⟨r4, q5, h⟩ := bd1_some h
    refine fw_callVi C (ci := 10) (Cn := RX12) (Tc := TX12) (N := 19) (As := [.int a1, .int 17]) (c_X12_of (gac (hG _ (List.mem_of_getElem? (i := 0) rfl)) ga0) q5) (cwV 2 (cx_ts C) gX12_isReady_X12_of rfl rfl rfl (by decide +kernel) ⟨Nat.le_of_ble_eq_true rfl, Nat.le_of_ble_eq_true rfl⟩) rfl (hG _ (List.mem_of_getElem? (i := 0) rfl)) (of10_0 _) (ce10 T ad _ _) rfl (st := []) rfl (Nat.le_of_ble_eq_true rfl) ⟨Nat.le_refl 0, Nat.le_refl 0⟩ dX12_isReady_15 (pp2 ?_)
    refine fw_iconst C dX12_isReady_18 (v := 2) rfl ?_
    refine fw_icmp_eq C dX12_isReady_19 (tgt := 35) rfl (fun c6 => ?_) (fun c6 => ?_)
    · have h := ite_t c6 h
      refine fw_iconst C dX12_isReady_35 (v := 0) rfl ?_
      exact fw_zret C hrt (by decide) Y ⟨Option.some.inj h, rfl⟩ (fun t ht => ht) dX12_isReady_36
    · have h := ite_f c6 h
      refine fw_aload_n C dX12_isReady_22 rfl 0 rfl ?_
      refine fw_iload_n C dX12_isReady_23 rfl 1 rfl ?_
      obtain ⟨r7, q8, h⟩ := bd1_some h
      refine fw_callVi C (ci := 10) (Cn := RX12) (Tc := TX12) (N := 19) (As := [.int a1]) (c_X12_firstOpen (gac (hG _ (List.mem_of_getElem? (i := 0) rfl)) ga0) q8) (cwV 1 (cx_ts C) gX12_isReady_X12_firstOpen rfl rfl rfl (by decide +kernel) ⟨Nat.le_of_ble_eq_true rfl, Nat.le_of_ble_eq_true rfl⟩) rfl (hG _ (List.mem_of_getElem? (i := 0) rfl)) (of10_0 _) (ce10 T ad _ _) rfl (st := []) rfl (Nat.le_of_ble_eq_true rfl) ⟨Nat.le_refl 0, Nat.le_refl 0⟩ dX12_isReady_24 (pp2 ?_)
      refine fw_iconst C dX12_isReady_27 (v := (-1)) rfl ?_
      refine fw_icmp_ne C dX12_isReady_28 (tgt := 35) rfl (fun c9 => ?_) (fun c9 => ?_)
      · have h := ite_f c9 h
        refine fw_iconst C dX12_isReady_35 (v := 0) rfl ?_
        exact fw_zret C hrt (by decide) Y ⟨Option.some.inj h, rfl⟩ (fun t ht => ht) dX12_isReady_36
      · have h := ite_t c9 h
        refine fw_iconst C dX12_isReady_31 (v := 1) rfl ?_
        refine fw_goto C dX12_isReady_32 (tgt := 36) rfl ?_
        exact fw_zret C hrt (by decide) Y ⟨Option.some.inj h, rfl⟩ (fun t ht => ht) dX12_isReady_36
end
set_option maxRecDepth 100000 in
set_option maxHeartbeats 4000000 in
theorem c_X12_isReady {l : Launch} {N0 : Nat} {T : Nat → ClassId} {D : va_G} {gr : List (Nat × Nat)} {ad : Nat → Nat → Nat → Nat} {Y : Mem} {a1 : Int32} {res : Int32} (hG : ∀ q ∈ [(10, 0)], q ∈ gr) (h : X12_isReady Y a1 = some res) : CI l yX12_isReady wsX12_isReady (Rm 2) N0 T D gr ad Y [.ref (ad 10 0 0), .int a1] (fun r Y1 => r = res ∧ Y1 = Y) :=
  fw_body (by decide +kernel) rfl (Nat.le_of_ble_eq_true rfl) (fun p e s m below meth c C hrt => w_X12_isReady C hrt hG  h)
theorem ly_X12_queueReady_12 : ∀ w ∈ u_ws RX12 TX12 19, w ∈ wsX12_queueReady := by decide +kernel
theorem fl_X12_queueReady_13 : Cond.fieldLink RX12 13 "RecipeSchedulerModel" "m" "[I" ∈ wsX12_queueReady := by decide +kernel
theorem fl_X12_queueReady_51 : Cond.fieldLink RX12 51 "RecipeSchedulerModel" "queue" "[I" ∈ wsX12_queueReady := by decide +kernel
theorem fl_X12_queueReady_42 : Cond.fieldLink RX12 42 "RecipeSchedulerModel" "paths" "[I" ∈ wsX12_queueReady := by decide +kernel
section
variable {p : Program} {l : Launch} {e : Env} {s : State} {m : MethodId} {below : List Frame} {meth : Method} {c : Code} {N0 : Nat} {T : Nat → ClassId} {D : va_G} {gr : List (Nat × Nat)} {ad : Nat → Nat → Nat → Nat}
set_option maxRecDepth 100000 in
set_option maxHeartbeats 4000000 in
theorem w_X12_queueReady_b88  (C : Cx p s m [.ref (ad 10 0 0)].toArray meth c cX12_queueReady 4 wsX12_queueReady RX12 N0 T D gr ad) (hrt : meth.sig.returnType = (some .int)) (hG : ∀ q ∈ [(10, 0)], q ∈ gr) {res : Int32 × Mem} {k8 : Mem → Int32 → Int32 → Option (Int32 × Mem)} (hk8 : ∀ (Y : Mem) (l2 : Int32) (l1 : Int32), k8 Y l2 l1 = some res → FW p l e (Rm 3) s m [.ref (ad 10 0 0)].toArray below meth c 4 N0 T D gr ad 0 0 (MQ below (va_Qi (fun r Y1 => (r, Y1) = res) (WB T D gr ad) (fun q => N0 ≤ q)) [.ref (ad 10 0 0)].toArray s 0 0 (fun q => N0 ≤ q)) Y 8 [(2, .int l2), (1, .int l1), (0, .ref (ad 10 0 0))] []) (Y : Mem) (l1 : Int32) (l2 : Int32) (h : X12_queueReady_b88  k8 Y l1 l2 = some res) : FW p l e (Rm 3) s m [.ref (ad 10 0 0)].toArray below meth c 4 N0 T D gr ad 0 0 (MQ below (va_Qi (fun r Y1 => (r, Y1) = res) (WB T D gr ad) (fun q => N0 ≤ q)) [.ref (ad 10 0 0)].toArray s 0 0 (fun q => N0 ≤ q)) Y 88 [(1, .int l1), (2, .int l2), (0, .ref (ad 10 0 0))] [] := by
  unfold X12_queueReady_b88 at h
  refine fw_iinc C dX12_queueReady_88 (kk := 1) (v := l2 + 1) rfl rfl (by decide) (L' := [(2, .int (l2 + 1)), (1, .int l1), (0, .ref (ad 10 0 0))]) rfl ?_
  refine fw_goto C dX12_queueReady_91 (tgt := 8) rfl ?_
  exact hk8 _ _ _ h
set_option maxRecDepth 100000 in
set_option maxHeartbeats 4000000 in
theorem w_X12_queueReady_b78  (C : Cx p s m [.ref (ad 10 0 0)].toArray meth c cX12_queueReady 4 wsX12_queueReady RX12 N0 T D gr ad) (hrt : meth.sig.returnType = (some .int)) (hG : ∀ q ∈ [(10, 0)], q ∈ gr) {res : Int32 × Mem} {k8 : Mem → Int32 → Int32 → Option (Int32 × Mem)} (hk8 : ∀ (Y : Mem) (l2 : Int32) (l1 : Int32), k8 Y l2 l1 = some res → FW p l e (Rm 3) s m [.ref (ad 10 0 0)].toArray below meth c 4 N0 T D gr ad 0 0 (MQ below (va_Qi (fun r Y1 => (r, Y1) = res) (WB T D gr ad) (fun q => N0 ≤ q)) [.ref (ad 10 0 0)].toArray s 0 0 (fun q => N0 ≤ q)) Y 8 [(2, .int l2), (1, .int l1), (0, .ref (ad 10 0 0))] []) (Y : Mem) (l3 : Int32) (l2 : Int32) (l1 : Int32) (h : X12_queueReady_b78  k8 Y l3 l2 l1 = some res) : FW p l e (Rm 3) s m [.ref (ad 10 0 0)].toArray below meth c 4 N0 T D gr ad 0 0 (MQ below (va_Qi (fun r Y1 => (r, Y1) = res) (WB T D gr ad) (fun q => N0 ≤ q)) [.ref (ad 10 0 0)].toArray s 0 0 (fun q => N0 ≤ q)) Y 78 [(3, .int l3), (2, .int l2), (1, .int l1), (0, .ref (ad 10 0 0))] [] := by
  unfold X12_queueReady_b78 at h
  refine fw_aload_n C dX12_queueReady_78 rfl 3 rfl ?_
  refine fw_get C (ci := 10) (Cn := RX12) (Tc := TX12) (N := 19) (j := 13) ly_X12_queueReady_12 rfl (hG _ (List.mem_of_getElem? (i := 0) rfl)) (of10_0 _) (ce10 T ad _ _) (by decide) (cx_ts C _ fl_X12_queueReady_51) (fun _ h => h) (v := .ref (ad 10 0 8)) rfl dX12_queueReady_79 ?_
  refine fw_iload_n C dX12_queueReady_82 rfl 0 rfl ?_
  refine fw_iload_n C dX12_queueReady_83 rfl 1 rfl ?_
  obtain ⟨b10, h⟩ := gd_some h
  obtain ⟨Y11, e12, h⟩ := lt_some h
  refine fw_iast2 C (hG _ (List.mem_of_getElem? (i := 0) rfl)) (of10_8 _) (ca10_8 T ad _) b10 (Nat.le_of_ble_eq_true rfl) dX12_queueReady_84 ?_
  refine fw_mem e12 ?_
  refine fw_iinc C dX12_queueReady_85 (kk := 2) (v := l1 + 1) rfl rfl (by decide) (L' := [(1, .int (l1 + 1)), (3, .int l3), (2, .int l2), (0, .ref (ad 10 0 0))]) rfl ?_
  refine fw_sub [0, 2, 3] (L' := [(1, .int (l1 + 1)), (2, .int l2), (0, .ref (ad 10 0 0))]) rfl ?_
  exact w_X12_queueReady_b88 C hrt hG  hk8 _ _ _ h
set_option maxRecDepth 100000 in
set_option maxHeartbeats 4000000 in
theorem w_X12_queueReady_b32  (C : Cx p s m [.ref (ad 10 0 0)].toArray meth c cX12_queueReady 4 wsX12_queueReady RX12 N0 T D gr ad) (hrt : meth.sig.returnType = (some .int)) (hG : ∀ q ∈ [(10, 0)], q ∈ gr) {res : Int32 × Mem} {k8 : Mem → Int32 → Int32 → Option (Int32 × Mem)} (hk8 : ∀ (Y : Mem) (l2 : Int32) (l1 : Int32), k8 Y l2 l1 = some res → FW p l e (Rm 3) s m [.ref (ad 10 0 0)].toArray below meth c 4 N0 T D gr ad 0 0 (MQ below (va_Qi (fun r Y1 => (r, Y1) = res) (WB T D gr ad) (fun q => N0 ≤ q)) [.ref (ad 10 0 0)].toArray s 0 0 (fun q => N0 ≤ q)) Y 8 [(2, .int l2), (1, .int l1), (0, .ref (ad 10 0 0))] []) : ∀ (n : Nat) (Y : Mem) (l3 : Int32) (l2 : Int32) (l1 : Int32), X12_queueReady_b32  k8 n Y l3 l2 l1 = some res → FW p l e (Rm 3) s m [.ref (ad 10 0 0)].toArray below meth c 4 N0 T D gr ad 0 0 (MQ below (va_Qi (fun r Y1 => (r, Y1) = res) (WB T D gr ad) (fun q => N0 ≤ q)) [.ref (ad 10 0 0)].toArray s 0 0 (fun q => N0 ≤ q)) Y 32 [(3, .int l3), (2, .int l2), (1, .int l1), (0, .ref (ad 10 0 0))] [] := by
  intro n
  induction n with
  | zero =>
    intro Y l3 l2 l1 h
    unfold X12_queueReady_b32 at h
    cases h
  | succ n ih =>
    intro Y l3 l2 l1 h
    unfold X12_queueReady_b32 at h
    refine fw_iload_n C dX12_queueReady_32 rfl 0 rfl ?_
    refine fw_if_le C dX12_queueReady_33 (tgt := 78) rfl (fun c9 => ?_) (fun c9 => ?_)
    · have h := ite_t c9 h
      exact w_X12_queueReady_b78 C hrt hG  hk8 _ _ _ _ h
    · have h := ite_f c9 h
      refine fw_aload_n C dX12_queueReady_36 rfl 3 rfl ?_
      refine fw_get C (ci := 10) (Cn := RX12) (Tc := TX12) (N := 19) (j := 10) ly_X12_queueReady_12 rfl (hG _ (List.mem_of_getElem? (i := 0) rfl)) (of10_0 _) (ce10 T ad _ _) (by decide) (cx_ts C _ fl_X12_queueReady_42) (fun _ h => h) (v := .ref (ad 10 0 5)) rfl dX12_queueReady_37 ?_
      refine fw_aload_n C dX12_queueReady_40 rfl 3 rfl ?_
      refine fw_get C (ci := 10) (Cn := RX12) (Tc := TX12) (N := 19) (j := 13) ly_X12_queueReady_12 rfl (hG _ (List.mem_of_getElem? (i := 0) rfl)) (of10_0 _) (ce10 T ad _ _) (by decide) (cx_ts C _ fl_X12_queueReady_51) (fun _ h => h) (v := .ref (ad 10 0 8)) rfl dX12_queueReady_41 ?_
      refine fw_iload_n C dX12_queueReady_44 rfl 0 rfl ?_
      refine fw_iconst C dX12_queueReady_45 (v := 1) rfl ?_
      refine fw_isub C dX12_queueReady_46 ?_
      obtain ⟨b13, h⟩ := gd_some h
      refine fw_iald2 C (hG _ (List.mem_of_getElem? (i := 0) rfl)) (of10_8 _) (ca10_8 T ad _ _) b13 (Nat.le_of_ble_eq_true rfl) dX12_queueReady_47 ?_
      obtain ⟨b14, h⟩ := gd_some h
      refine fw_iald2 C (hG _ (List.mem_of_getElem? (i := 0) rfl)) (of10_5 _) (ca10_5 T ad _ _) b14 (Nat.le_of_ble_eq_true rfl) dX12_queueReady_48 ?_
      refine fw_aload_n C dX12_queueReady_49 rfl 3 rfl ?_
      refine fw_get C (ci := 10) (Cn := RX12) (Tc := TX12) (N := 19) (j := 10) ly_X12_queueReady_12 rfl (hG _ (List.mem_of_getElem? (i := 0) rfl)) (of10_0 _) (ce10 T ad _ _) (by decide) (cx_ts C _ fl_X12_queueReady_42) (fun _ h => h) (v := .ref (ad 10 0 5)) rfl dX12_queueReady_50 ?_
      refine fw_iload_n C dX12_queueReady_53 rfl 1 rfl ?_
      obtain ⟨b15, h⟩ := gd_some h
      refine fw_iald2 C (hG _ (List.mem_of_getElem? (i := 0) rfl)) (of10_5 _) (ca10_5 T ad _ _) b15 (Nat.le_of_ble_eq_true rfl) dX12_queueReady_54 ?_
      refine fw_icmp_ge C dX12_queueReady_55 (tgt := 78) rfl (fun c16 => ?_) (fun c16 => ?_)
      · have h := ite_t c16 h
        exact w_X12_queueReady_b78 C hrt hG  hk8 _ _ _ _ h
      · have h := ite_f c16 h
        refine fw_aload_n C dX12_queueReady_58 rfl 3 rfl ?_
        refine fw_get C (ci := 10) (Cn := RX12) (Tc := TX12) (N := 19) (j := 13) ly_X12_queueReady_12 rfl (hG _ (List.mem_of_getElem? (i := 0) rfl)) (of10_0 _) (ce10 T ad _ _) (by decide) (cx_ts C _ fl_X12_queueReady_51) (fun _ h => h) (v := .ref (ad 10 0 8)) rfl dX12_queueReady_59 ?_
        refine fw_iload_n C dX12_queueReady_62 rfl 0 rfl ?_
        refine fw_aload_n C dX12_queueReady_63 rfl 3 rfl ?_
        refine fw_get C (ci := 10) (Cn := RX12) (Tc := TX12) (N := 19) (j := 13) ly_X12_queueReady_12 rfl (hG _ (List.mem_of_getElem? (i := 0) rfl)) (of10_0 _) (ce10 T ad _ _) (by decide) (cx_ts C _ fl_X12_queueReady_51) (fun _ h => h) (v := .ref (ad 10 0 8)) rfl dX12_queueReady_64 ?_
        refine fw_iload_n C dX12_queueReady_67 rfl 0 rfl ?_
        refine fw_iconst C dX12_queueReady_68 (v := 1) rfl ?_
        refine fw_isub C dX12_queueReady_69 ?_
        refine fw_iald2 C (hG _ (List.mem_of_getElem? (i := 0) rfl)) (of10_8 _) (ca10_8 T ad _ _) b13 (Nat.le_of_ble_eq_true rfl) dX12_queueReady_70 ?_
        obtain ⟨b17, h⟩ := gd_some h
        obtain ⟨Y18, e19, h⟩ := lt_some h
        refine fw_iast2 C (hG _ (List.mem_of_getElem? (i := 0) rfl)) (of10_8 _) (ca10_8 T ad _) b17 (Nat.le_of_ble_eq_true rfl) dX12_queueReady_71 ?_
        refine fw_mem e19 ?_
        refine fw_iinc C dX12_queueReady_72 (kk := 0) (v := l3 + (-1)) rfl rfl (by decide) (L' := [(3, .int (l3 + (-1))), (2, .int l2), (1, .int l1), (0, .ref (ad 10 0 0))]) rfl ?_
        refine fw_goto C dX12_queueReady_75 (tgt := 32) rfl ?_
        exact ih _ _ _ _ h
set_option maxRecDepth 100000 in
set_option maxHeartbeats 4000000 in
theorem w_X12_queueReady_b8  (C : Cx p s m [.ref (ad 10 0 0)].toArray meth c cX12_queueReady 4 wsX12_queueReady RX12 N0 T D gr ad) (hrt : meth.sig.returnType = (some .int)) (hG : ∀ q ∈ [(10, 0)], q ∈ gr) {res : Int32 × Mem} : ∀ (n : Nat) (Y : Mem) (l2 : Int32) (l1 : Int32), X12_queueReady_b8   n Y l2 l1 = some res → FW p l e (Rm 3) s m [.ref (ad 10 0 0)].toArray below meth c 4 N0 T D gr ad 0 0 (MQ below (va_Qi (fun r Y1 => (r, Y1) = res) (WB T D gr ad) (fun q => N0 ≤ q)) [.ref (ad 10 0 0)].toArray s 0 0 (fun q => N0 ≤ q)) Y 8 [(2, .int l2), (1, .int l1), (0, .ref (ad 10 0 0))] [] := by
  intro n
  induction n with
  | zero =>
    intro Y l2 l1 h
    unfold X12_queueReady_b8 at h
    cases h
  | succ n ih =>
    intro Y l2 l1 h
    unfold X12_queueReady_b8 at h
    refine fw_iload_n C dX12_queueReady_8 rfl 0 rfl ?_
    refine fw_aload_n C dX12_queueReady_9 rfl 2 rfl ?_
    refine fw_get C (ci := 10) (Cn := RX12) (Tc := TX12) (N := 19) (j := 0) ly_X12_queueReady_12 rfl (hG _ (List.mem_of_getElem? (i := 0) rfl)) (of10_0 _) (ce10 T ad _ _) (by decide) (cx_ts C _ fl_X12_queueReady_13) (fun _ h => h) (v := .ref (ad 10 0 1)) rfl dX12_queueReady_10 ?_
    refine fw_bipush C dX12_queueReady_13 (v := 13) rfl ?_
    obtain ⟨b4, h⟩ := gd_some h
    refine fw_iald2 C (hG _ (List.mem_of_getElem? (i := 0) rfl)) (of10_1 _) (ca10_1 T ad _ _) b4 (Nat.le_of_ble_eq_true rfl) dX12_queueReady_15 ?_
    refine fw_icmp_ge C dX12_queueReady_16 (tgt := 94) rfl (fun c5 => ?_) (fun c5 => ?_)
    · have h := ite_t c5 h
      refine fw_iload_n C dX12_queueReady_94 rfl 1 rfl ?_
      exact fw_iret C hrt Y (Option.some.inj h) (fun t ht => ht) dX12_queueReady_95
    · have h := ite_f c5 h
      refine fw_aload_n C dX12_queueReady_19 rfl 2 rfl ?_
      refine fw_iload_n C dX12_queueReady_20 rfl 0 rfl ?_
      obtain ⟨r6, q7, h⟩ := bd1_some h
      refine fw_callVi C (ci := 10) (Cn := RX12) (Tc := TX12) (N := 19) (As := [.int l2]) (c_X12_isReady (gac (hG _ (List.mem_of_getElem? (i := 0) rfl)) ga0) q7) (cwV 1 (cx_ts C) gX12_queueReady_X12_isReady rfl rfl rfl (by decide +kernel) ⟨Nat.le_of_ble_eq_true rfl, Nat.le_of_ble_eq_true rfl⟩) rfl (hG _ (List.mem_of_getElem? (i := 0) rfl)) (of10_0 _) (ce10 T ad _ _) rfl (st := []) rfl (Nat.le_of_ble_eq_true rfl) ⟨Nat.le_refl 0, Nat.le_refl 0⟩ dX12_queueReady_21 (pp2 ?_)
      refine fw_if_ne C dX12_queueReady_24 (tgt := 30) rfl (fun c8 => ?_) (fun c8 => ?_)
      · have h := ite_f c8 h
        refine fw_iload_n C dX12_queueReady_30 rfl 1 rfl ?_
        refine fw_istore_n C dX12_queueReady_31 rfl (by decide) (L' := [(3, .int l1), (2, .int l2), (1, .int l1), (0, .ref (ad 10 0 0))]) rfl ?_
        exact w_X12_queueReady_b32 C hrt hG  ih _ _ _ _ _ h
      · have h := ite_t c8 h
        refine fw_goto C dX12_queueReady_27 (tgt := 88) rfl ?_
        refine fw_sub [1, 0, 2] (L' := [(1, .int l1), (2, .int l2), (0, .ref (ad 10 0 0))]) rfl ?_
        exact w_X12_queueReady_b88 C hrt hG  ih _ _ _ h
set_option maxRecDepth 100000 in
set_option maxHeartbeats 4000000 in
theorem w_X12_queueReady {Y : Mem} (C : Cx p s m [.ref (ad 10 0 0)].toArray meth c cX12_queueReady 4 wsX12_queueReady RX12 N0 T D gr ad) (hrt : meth.sig.returnType = (some .int)) (hG : ∀ q ∈ [(10, 0)], q ∈ gr) {res : Int32 × Mem} (h : X12_queueReady Y = some res) : FW p l e (Rm 3) s m [.ref (ad 10 0 0)].toArray below meth c 4 N0 T D gr ad 0 0 (MQ below (va_Qi (fun r Y1 => (r, Y1) = res) (WB T D gr ad) (fun q => N0 ≤ q)) [.ref (ad 10 0 0)].toArray s 0 0 (fun q => N0 ≤ q)) Y 0 [(0, .ref (ad 10 0 0))] [] := by
  unfold X12_queueReady at h
  refine fw_aload_n C dX12_queueReady_0 rfl 0 rfl ?_
  obtain ⟨Y3, q2, h⟩ := bd1_some h
  refine fw_callVv C (ci := 10) (Cn := RX12) (Tc := TX12) (N := 19) (As := []) (c_X12_computePaths (gac (hG _ (List.mem_of_getElem? (i := 0) rfl)) ga0) q2) (cwV 0 (cx_ts C) gX12_queueReady_X12_computePaths rfl rfl rfl (by decide +kernel) ⟨Nat.le_of_ble_eq_true rfl, Nat.le_of_ble_eq_true rfl⟩) rfl (hG _ (List.mem_of_getElem? (i := 0) rfl)) (of10_0 _) (ce10 T ad _ _) rfl (st := []) rfl (Nat.le_of_ble_eq_true rfl) ⟨Nat.le_refl 0, Nat.le_refl 0⟩ dX12_queueReady_1 (ppv ?_)
  refine fw_iconst C dX12_queueReady_4 (v := 0) rfl ?_
  refine fw_istore_n C dX12_queueReady_5 rfl (by decide) (L' := [(1, .int 0), (0, .ref (ad 10 0 0))]) rfl ?_
  refine fw_iconst C dX12_queueReady_6 (v := 0) rfl ?_
  refine fw_istore_n C dX12_queueReady_7 rfl (by decide) (L' := [(2, .int 0), (1, .int 0), (0, .ref (ad 10 0 0))]) rfl ?_
  exact w_X12_queueReady_b8 C hrt hG   _ _ _ _ h
end
set_option maxRecDepth 100000 in
set_option maxHeartbeats 4000000 in
theorem c_X12_queueReady {l : Launch} {N0 : Nat} {T : Nat → ClassId} {D : va_G} {gr : List (Nat × Nat)} {ad : Nat → Nat → Nat → Nat} {Y : Mem} {res : Int32 × Mem} (hG : ∀ q ∈ [(10, 0)], q ∈ gr) (h : X12_queueReady Y = some res) : CI l yX12_queueReady wsX12_queueReady (Rm 3) N0 T D gr ad Y [.ref (ad 10 0 0)] (fun r Y1 => (r, Y1) = res) :=
  fw_body (by decide +kernel) rfl (Nat.le_of_ble_eq_true rfl) (fun p e s m below meth c C hrt => w_X12_queueReady C hrt hG  h)
theorem ly_X12_startIfPossible_12 : ∀ w ∈ u_ws RX12 TX12 19, w ∈ wsX12_startIfPossible := by decide +kernel
theorem fl_X12_startIfPossible_13 : Cond.fieldLink RX12 13 "RecipeSchedulerModel" "m" "[I" ∈ wsX12_startIfPossible := by decide +kernel
section
variable {p : Program} {l : Launch} {e : Env} {s : State} {m : MethodId} {below : List Frame} {meth : Method} {c : Code} {N0 : Nat} {T : Nat → ClassId} {D : va_G} {gr : List (Nat × Nat)} {ad : Nat → Nat → Nat → Nat}
set_option maxRecDepth 100000 in
set_option maxHeartbeats 4000000 in
theorem w_X12_startIfPossible {Y : Mem} {a1 : Int32} (C : Cx p s m [.ref (ad 10 0 0), .int a1].toArray meth c cX12_startIfPossible 2 wsX12_startIfPossible RX12 N0 T D gr ad) (hrt : meth.sig.returnType = none) (hG : ∀ q ∈ [(10, 0)], q ∈ gr) {res : Mem} (h : X12_startIfPossible Y a1 = some res) : FW p l e (Rm 6) s m [.ref (ad 10 0 0), .int a1].toArray below meth c 2 N0 T D gr ad 0 0 (MQ below (va_Qv (fun Y1 => Y1 = res) (WB T D gr ad) (fun q => N0 ≤ q)) [.ref (ad 10 0 0), .int a1].toArray s 0 0 (fun q => N0 ≤ q)) Y 0 [(0, .ref (ad 10 0 0)), (1, .int a1)] [] := by
  unfold X12_startIfPossible at h
  refine fw_aload_n C dX12_startIfPossible_0 rfl 0 rfl ?_
  refine fw_iload_n C dX12_startIfPossible_1 rfl 1 rfl ?_
  obtain ⟨r1, q2, h⟩ := bd1_some h
  refine fw_callVi C (ci := 10) (Cn := RX12) (Tc := TX12) (N := 19) (As := [.int a1]) (c_X12_hasCook (gac (hG _ (List.mem_of_getElem? (i := 0) rfl)) ga0) q2) (cwV 1 (cx_ts C) gX12_startIfPossible_X12_hasCook rfl rfl rfl (by decide +kernel) ⟨Nat.le_of_ble_eq_true rfl, Nat.le_of_ble_eq_true rfl⟩) rfl (hG _ (List.mem_of_getElem? (i := 0) rfl)) (of10_0 _) (ce10 T ad _ _) rfl (st := []) rfl (Nat.le_of_ble_eq_true rfl) ⟨Nat.le_refl 0, Nat.le_refl 0⟩ dX12_startIfPossible_2 (pp2 ?_)
  refine fw_if_eq C dX12_startIfPossible_5 (tgt := 16) rfl (fun c3 => ?_) (fun c3 => ?_)
  · have h := ite_t c3 h
    exact fw_vret C hrt Y (Option.some.inj h) (fun t ht => ht) dX12_startIfPossible_16
  · have h := ite_f c3 h
    refine fw_aload_n C dX12_startIfPossible_8 rfl 0 rfl ?_
    refine fw_iload_n C dX12_startIfPossible_9 rfl 1 rfl ?_
    obtain ⟨r4, q5, h⟩ := bd1_some h
    refine fw_callVi C (ci := 10) (Cn := RX12) (Tc := TX12) (N := 19) (As := [.int a1]) (c_X12_hasPan (gac (hG _ (List.mem_of_getElem? (i := 0) rfl)) ga0) q5) (cwV 1 (cx_ts C) gX12_startIfPossible_X12_hasPan rfl rfl rfl (by decide +kernel) ⟨Nat.le_of_ble_eq_true rfl, Nat.le_of_ble_eq_true rfl⟩) rfl (hG _ (List.mem_of_getElem? (i := 0) rfl)) (of10_0 _) (ce10 T ad _ _) rfl (st := []) rfl (Nat.le_of_ble_eq_true rfl) ⟨Nat.le_refl 0, Nat.le_refl 0⟩ dX12_startIfPossible_10 (pp2 ?_)
    refine fw_if_ne C dX12_startIfPossible_13 (tgt := 17) rfl (fun c6 => ?_) (fun c6 => ?_)
    · have h := ite_f c6 h
      refine fw_aload_n C dX12_startIfPossible_17 rfl 0 rfl ?_
      refine fw_iload_n C dX12_startIfPossible_18 rfl 1 rfl ?_
      refine fw_bipush C dX12_startIfPossible_19 (v := 17) rfl ?_
      refine fw_iconst C dX12_startIfPossible_21 (v := 1) rfl ?_
      obtain ⟨Y9, q8, h⟩ := bd1_some h
      refine fw_callVv C (ci := 10) (Cn := RX12) (Tc := TX12) (N := 19) (As := [.int a1, .int 17, .int 1]) (c_X12_set (gac (hG _ (List.mem_of_getElem? (i := 0) rfl)) ga0) q8) (cwV 3 (cx_ts C) gX12_startIfPossible_X12_set rfl rfl rfl (by decide +kernel) ⟨Nat.le_of_ble_eq_true rfl, Nat.le_of_ble_eq_true rfl⟩) rfl (hG _ (List.mem_of_getElem? (i := 0) rfl)) (of10_0 _) (ce10 T ad _ _) rfl (st := []) rfl (Nat.le_of_ble_eq_true rfl) ⟨Nat.le_refl 0, Nat.le_refl 0⟩ dX12_startIfPossible_22 (ppv ?_)
      refine fw_aload_n C dX12_startIfPossible_25 rfl 0 rfl ?_
      refine fw_iload_n C dX12_startIfPossible_26 rfl 1 rfl ?_
      refine fw_bipush C dX12_startIfPossible_27 (v := 18) rfl ?_
      refine fw_aload_n C dX12_startIfPossible_29 rfl 0 rfl ?_
      refine fw_iload_n C dX12_startIfPossible_30 rfl 1 rfl ?_
      refine fw_bipush C dX12_startIfPossible_31 (v := 7) rfl ?_
      obtain ⟨r10, q11, h⟩ := bd1_some h
      refine fw_callVi C (ci := 10) (Cn := RX12) (Tc := TX12) (N := 19) (As := [.int a1, .int 7]) (c_X12_of (gac (hG _ (List.mem_of_getElem? (i := 0) rfl)) ga0) q11) (cwV 2 (cx_ts C) gX12_startIfPossible_X12_of rfl rfl rfl (by decide +kernel) ⟨Nat.le_of_ble_eq_true rfl, Nat.le_of_ble_eq_true rfl⟩) rfl (hG _ (List.mem_of_getElem? (i := 0) rfl)) (of10_0 _) (ce10 T ad _ _) rfl (st := [.int 18, .int a1, .ref (ad 10 0 0)]) rfl (Nat.le_of_ble_eq_true rfl) ⟨Nat.le_refl 0, Nat.le_refl 0⟩ dX12_startIfPossible_33 (pp2 ?_)
      obtain ⟨Y14, q13, h⟩ := bd1_some h
      refine fw_callVv C (ci := 10) (Cn := RX12) (Tc := TX12) (N := 19) (As := [.int a1, .int 18, .int r10]) (c_X12_set (gac (hG _ (List.mem_of_getElem? (i := 0) rfl)) ga0) q13) (cwV 3 (cx_ts C) gX12_startIfPossible_X12_set rfl rfl rfl (by decide +kernel) ⟨Nat.le_of_ble_eq_true rfl, Nat.le_of_ble_eq_true rfl⟩) rfl (hG _ (List.mem_of_getElem? (i := 0) rfl)) (of10_0 _) (ce10 T ad _ _) rfl (st := []) rfl (Nat.le_of_ble_eq_true rfl) ⟨Nat.le_refl 0, Nat.le_refl 0⟩ dX12_startIfPossible_36 (ppv ?_)
      refine fw_aload_n C dX12_startIfPossible_39 rfl 0 rfl ?_
      refine fw_iload_n C dX12_startIfPossible_40 rfl 1 rfl ?_
      refine fw_bipush C dX12_startIfPossible_41 (v := 20) rfl ?_
      refine fw_aload_n C dX12_startIfPossible_43 rfl 0 rfl ?_
      refine fw_iload_n C dX12_startIfPossible_44 rfl 1 rfl ?_
      refine fw_bipush C dX12_startIfPossible_45 (v := 20) rfl ?_
      obtain ⟨r15, q16, h⟩ := bd1_some h
      refine fw_callVi C (ci := 10) (Cn := RX12) (Tc := TX12) (N := 19) (As := [.int a1, .int 20]) (c_X12_of (gac (hG _ (List.mem_of_getElem? (i := 0) rfl)) ga0) q16) (cwV 2 (cx_ts C) gX12_startIfPossible_X12_of rfl rfl rfl (by decide +kernel) ⟨Nat.le_of_ble_eq_true rfl, Nat.le_of_ble_eq_true rfl⟩) rfl (hG _ (List.mem_of_getElem? (i := 0) rfl)) (of10_0 _) (ce10 T ad _ _) rfl (st := [.int 20, .int a1, .ref (ad 10 0 0)]) rfl (Nat.le_of_ble_eq_true rfl) ⟨Nat.le_refl 0, Nat.le_refl 0⟩ dX12_startIfPossible_47 (pp2 ?_)
      refine fw_iconst C dX12_startIfPossible_50 (v := 1) rfl ?_
      refine fw_iadd C dX12_startIfPossible_51 ?_
      obtain ⟨Y19, q18, h⟩ := bd1_some h
      refine fw_callVv C (ci := 10) (Cn := RX12) (Tc := TX12) (N := 19) (As := [.int a1, .int 20, .int (r15 + 1)]) (c_X12_set (gac (hG _ (List.mem_of_getElem? (i := 0) rfl)) ga0) q18) (cwV 3 (cx_ts C) gX12_startIfPossible_X12_set rfl rfl rfl (by decide +kernel) ⟨Nat.le_of_ble_eq_true rfl, Nat.le_of_ble_eq_true rfl⟩) rfl (hG _ (List.mem_of_getElem? (i := 0) rfl)) (of10_0 _) (ce10 T ad _ _) rfl (st := []) rfl (Nat.le_of_ble_eq_true rfl) ⟨Nat.le_refl 0, Nat.le_refl 0⟩ dX12_startIfPossible_52 (ppv ?_)
      refine fw_aload_n C dX12_startIfPossible_55 rfl 0 rfl ?_
      refine fw_get C (ci := 10) (Cn := RX12) (Tc := TX12) (N := 19) (j := 0) ly_X12_startIfPossible_12 rfl (hG _ (List.mem_of_getElem? (i := 0) rfl)) (of10_0 _) (ce10 T ad _ _) (by decide) (cx_ts C _ fl_X12_startIfPossible_13) (fun _ h => h) (v := .ref (ad 10 0 1)) rfl dX12_startIfPossible_56 ?_
      refine fw_bipush C dX12_startIfPossible_59 (v := 7) rfl ?_
      refine fw_dup2 C dX12_startIfPossible_61 rfl rfl ?_
      obtain ⟨b20, h⟩ := gd_some h
      refine fw_iald2 C (hG _ (List.mem_of_getElem? (i := 0) rfl)) (of10_1 _) (ca10_1 T ad _ _) b20 (Nat.le_of_ble_eq_true rfl) dX12_startIfPossible_62 ?_
      refine fw_iconst C dX12_startIfPossible_63 (v := 1) rfl ?_
      refine fw_iadd C dX12_startIfPossible_64 ?_
      obtain ⟨Y21, e22, h⟩ := lt_some h
      refine fw_iast2 C (hG _ (List.mem_of_getElem? (i := 0) rfl)) (of10_1 _) (ca10_1 T ad _) b20 (Nat.le_of_ble_eq_true rfl) dX12_startIfPossible_65 ?_
      refine fw_mem e22 ?_
      exact fw_vret C hrt Y21 (Option.some.inj h) (fun t ht => ht) dX12_startIfPossible_66
    · have h := ite_t c6 h
      exact fw_vret C hrt Y (Option.some.inj h) (fun t ht => ht) dX12_startIfPossible_16
end
set_option maxRecDepth 100000 in
set_option maxHeartbeats 4000000 in
theorem c_X12_startIfPossible {l : Launch} {N0 : Nat} {T : Nat → ClassId} {D : va_G} {gr : List (Nat × Nat)} {ad : Nat → Nat → Nat → Nat} {Y : Mem} {a1 : Int32} {res : Mem} (hG : ∀ q ∈ [(10, 0)], q ∈ gr) (h : X12_startIfPossible Y a1 = some res) : CV l yX12_startIfPossible wsX12_startIfPossible (Rm 6) N0 T D gr ad Y [.ref (ad 10 0 0), .int a1] (fun Y1 => Y1 = res) :=
  fw_body (by decide +kernel) rfl (Nat.le_of_ble_eq_true rfl) (fun p e s m below meth c C hrt => w_X12_startIfPossible C hrt hG  h)
theorem ly_X12_passMinute_12 : ∀ w ∈ u_ws RX12 TX12 19, w ∈ wsX12_passMinute := by decide +kernel
theorem fl_X12_passMinute_13 : Cond.fieldLink RX12 13 "RecipeSchedulerModel" "m" "[I" ∈ wsX12_passMinute := by decide +kernel
theorem fl_X12_passMinute_51 : Cond.fieldLink RX12 51 "RecipeSchedulerModel" "queue" "[I" ∈ wsX12_passMinute := by decide +kernel
section
variable {p : Program} {l : Launch} {e : Env} {s : State} {m : MethodId} {below : List Frame} {meth : Method} {c : Code} {N0 : Nat} {T : Nat → ClassId} {D : va_G} {gr : List (Nat × Nat)} {ad : Nat → Nat → Nat → Nat}
set_option maxRecDepth 100000 in
set_option maxHeartbeats 4000000 in
theorem w_X12_passMinute_b86  (C : Cx p s m [.ref (ad 10 0 0)].toArray meth c cX12_passMinute 3 wsX12_passMinute RX12 N0 T D gr ad) (hrt : meth.sig.returnType = none) (hG : ∀ q ∈ [(10, 0)], q ∈ gr) {res : Mem} (Y : Mem) (h : X12_passMinute_b86   Y = some res) : FW p l e (Rm 7) s m [.ref (ad 10 0 0)].toArray below meth c 3 N0 T D gr ad 0 0 (MQ below (va_Qv (fun Y1 => Y1 = res) (WB T D gr ad) (fun q => N0 ≤ q)) [.ref (ad 10 0 0)].toArray s 0 0 (fun q => N0 ≤ q)) Y 86 [(0, .ref (ad 10 0 0))] [] := by
  unfold X12_passMinute_b86 at h
  refine fw_aload_n C dX12_passMinute_86 rfl 0 rfl ?_
  refine fw_get C (ci := 10) (Cn := RX12) (Tc := TX12) (N := 19) (j := 0) ly_X12_passMinute_12 rfl (hG _ (List.mem_of_getElem? (i := 0) rfl)) (of10_0 _) (ce10 T ad _ _) (by decide) (cx_ts C _ fl_X12_passMinute_13) (fun _ h => h) (v := .ref (ad 10 0 1)) rfl dX12_passMinute_87 ?_
  refine fw_iconst C dX12_passMinute_90 (v := 4) rfl ?_
  refine fw_dup2 C dX12_passMinute_91 rfl rfl ?_
  obtain ⟨b3, h⟩ := gd_some h
  refine fw_iald2 C (hG _ (List.mem_of_getElem? (i := 0) rfl)) (of10_1 _) (ca10_1 T ad _ _) b3 (Nat.le_of_ble_eq_true rfl) dX12_passMinute_92 ?_
  refine fw_iconst C dX12_passMinute_93 (v := 1) rfl ?_
  refine fw_iadd C dX12_passMinute_94 ?_
  obtain ⟨Y4, e5, h⟩ := lt_some h
  refine fw_iast2 C (hG _ (List.mem_of_getElem? (i := 0) rfl)) (of10_1 _) (ca10_1 T ad _) b3 (Nat.le_of_ble_eq_true rfl) dX12_passMinute_95 ?_
  refine fw_mem e5 ?_
  exact fw_vret C hrt Y4 (Option.some.inj h) (fun t ht => ht) dX12_passMinute_96
set_option maxRecDepth 100000 in
set_option maxHeartbeats 4000000 in
theorem w_X12_passMinute_b65  (C : Cx p s m [.ref (ad 10 0 0)].toArray meth c cX12_passMinute 3 wsX12_passMinute RX12 N0 T D gr ad) (hrt : meth.sig.returnType = none) (hG : ∀ q ∈ [(10, 0)], q ∈ gr) {res : Mem} : ∀ (n : Nat) (Y : Mem) (l2 : Int32) (l1 : Int32), X12_passMinute_b65   n Y l2 l1 = some res → FW p l e (Rm 7) s m [.ref (ad 10 0 0)].toArray below meth c 3 N0 T D gr ad 0 0 (MQ below (va_Qv (fun Y1 => Y1 = res) (WB T D gr ad) (fun q => N0 ≤ q)) [.ref (ad 10 0 0)].toArray s 0 0 (fun q => N0 ≤ q)) Y 65 [(2, .int l2), (1, .int l1), (0, .ref (ad 10 0 0))] [] := by
  intro n
  induction n with
  | zero =>
    intro Y l2 l1 h
    unfold X12_passMinute_b65 at h
    cases h
  | succ n ih =>
    intro Y l2 l1 h
    unfold X12_passMinute_b65 at h
    refine fw_iload_n C dX12_passMinute_65 rfl 0 rfl ?_
    refine fw_iload_n C dX12_passMinute_66 rfl 1 rfl ?_
    refine fw_icmp_ge C dX12_passMinute_67 (tgt := 86) rfl (fun c13 => ?_) (fun c13 => ?_)
    · have h := ite_t c13 h
      refine fw_sub [2] (L' := [(0, .ref (ad 10 0 0))]) rfl ?_
      exact w_X12_passMinute_b86 C hrt hG   _ h
    · have h := ite_f c13 h
      refine fw_aload_n C dX12_passMinute_70 rfl 2 rfl ?_
      refine fw_aload_n C dX12_passMinute_71 rfl 2 rfl ?_
      refine fw_get C (ci := 10) (Cn := RX12) (Tc := TX12) (N := 19) (j := 13) ly_X12_passMinute_12 rfl (hG _ (List.mem_of_getElem? (i := 0) rfl)) (of10_0 _) (ce10 T ad _ _) (by decide) (cx_ts C _ fl_X12_passMinute_51) (fun _ h => h) (v := .ref (ad 10 0 8)) rfl dX12_passMinute_72 ?_
      refine fw_iload_n C dX12_passMinute_75 rfl 0 rfl ?_
      obtain ⟨b14, h⟩ := gd_some h
      refine fw_iald2 C (hG _ (List.mem_of_getElem? (i := 0) rfl)) (of10_8 _) (ca10_8 T ad _ _) b14 (Nat.le_of_ble_eq_true rfl) dX12_passMinute_76 ?_
      obtain ⟨Y17, q16, h⟩ := bd1_some h
      refine fw_callVv C (ci := 10) (Cn := RX12) (Tc := TX12) (N := 19) (As := [.int (Y 10 0 8 (ix l2))]) (c_X12_startIfPossible (gac (hG _ (List.mem_of_getElem? (i := 0) rfl)) ga0) q16) (cwV 1 (cx_ts C) gX12_passMinute_X12_startIfPossible rfl rfl rfl (by decide +kernel) ⟨Nat.le_of_ble_eq_true rfl, Nat.le_of_ble_eq_true rfl⟩) rfl (hG _ (List.mem_of_getElem? (i := 0) rfl)) (of10_0 _) (ce10 T ad _ _) rfl (st := []) rfl (Nat.le_of_ble_eq_true rfl) ⟨Nat.le_refl 0, Nat.le_refl 0⟩ dX12_passMinute_77 (ppv ?_)
      refine fw_iinc C dX12_passMinute_80 (kk := 0) (v := l2 + 1) rfl rfl (by decide) (L' := [(2, .int (l2 + 1)), (1, .int l1), (0, .ref (ad 10 0 0))]) rfl ?_
      refine fw_goto C dX12_passMinute_83 (tgt := 65) rfl ?_
      exact ih _ _ _ h
set_option maxRecDepth 100000 in
set_option maxHeartbeats 4000000 in
theorem w_X12_passMinute_b36  (C : Cx p s m [.ref (ad 10 0 0)].toArray meth c cX12_passMinute 3 wsX12_passMinute RX12 N0 T D gr ad) (hrt : meth.sig.returnType = none) (hG : ∀ q ∈ [(10, 0)], q ∈ gr) {res : Mem} : ∀ (n : Nat) (Y : Mem) (l1 : Int32), X12_passMinute_b36   n Y l1 = some res → FW p l e (Rm 7) s m [.ref (ad 10 0 0)].toArray below meth c 3 N0 T D gr ad 0 0 (MQ below (va_Qv (fun Y1 => Y1 = res) (WB T D gr ad) (fun q => N0 ≤ q)) [.ref (ad 10 0 0)].toArray s 0 0 (fun q => N0 ≤ q)) Y 36 [(1, .int l1), (0, .ref (ad 10 0 0))] [] := by
  intro n
  induction n with
  | zero =>
    intro Y l1 h
    unfold X12_passMinute_b36 at h
    cases h
  | succ n ih =>
    intro Y l1 h
    unfold X12_passMinute_b36 at h
    refine fw_iload_n C dX12_passMinute_36 rfl 0 rfl ?_
    refine fw_aload_n C dX12_passMinute_37 rfl 1 rfl ?_
    refine fw_get C (ci := 10) (Cn := RX12) (Tc := TX12) (N := 19) (j := 0) ly_X12_passMinute_12 rfl (hG _ (List.mem_of_getElem? (i := 0) rfl)) (of10_0 _) (ce10 T ad _ _) (by decide) (cx_ts C _ fl_X12_passMinute_13) (fun _ h => h) (v := .ref (ad 10 0 1)) rfl dX12_passMinute_38 ?_
    refine fw_bipush C dX12_passMinute_41 (v := 13) rfl ?_
    obtain ⟨b8, h⟩ := gd_some h
    refine fw_iald2 C (hG _ (List.mem_of_getElem? (i := 0) rfl)) (of10_1 _) (ca10_1 T ad _ _) b8 (Nat.le_of_ble_eq_true rfl) dX12_passMinute_43 ?_
    refine fw_icmp_ge C dX12_passMinute_44 (tgt := 58) rfl (fun c9 => ?_) (fun c9 => ?_)
    · have h := ite_t c9 h
      refine fw_aload_n C dX12_passMinute_58 rfl 1 rfl ?_
      obtain ⟨r10, Y12, q11, h⟩ := bd2_some h
      refine fw_callVi C (ci := 10) (Cn := RX12) (Tc := TX12) (N := 19) (As := []) (c_X12_queueReady (gac (hG _ (List.mem_of_getElem? (i := 0) rfl)) ga0) q11) (cwV 0 (cx_ts C) gX12_passMinute_X12_queueReady rfl rfl rfl (by decide +kernel) ⟨Nat.le_of_ble_eq_true rfl, Nat.le_of_ble_eq_true rfl⟩) rfl (hG _ (List.mem_of_getElem? (i := 0) rfl)) (of10_0 _) (ce10 T ad _ _) rfl (st := []) rfl (Nat.le_of_ble_eq_true rfl) ⟨Nat.le_refl 0, Nat.le_refl 0⟩ dX12_passMinute_59 (ppw ?_)
      refine fw_istore_n C dX12_passMinute_62 rfl (by decide) (L' := [(1, .int r10), (0, .ref (ad 10 0 0))]) rfl ?_
      refine fw_iconst C dX12_passMinute_63 (v := 0) rfl ?_
      refine fw_istore_n C dX12_passMinute_64 rfl (by decide) (L' := [(2, .int 0), (1, .int r10), (0, .ref (ad 10 0 0))]) rfl ?_
      exact w_X12_passMinute_b65 C hrt hG   _ _ _ _ h
    · have h := ite_f c9 h
      refine fw_aload_n C dX12_passMinute_47 rfl 1 rfl ?_
      refine fw_iload_n C dX12_passMinute_48 rfl 0 rfl ?_
      obtain ⟨Y20, q19, h⟩ := bd1_some h
      refine fw_callVv C (ci := 10) (Cn := RX12) (Tc := TX12) (N := 19) (As := [.int l1]) (c_X12_cool (gac (hG _ (List.mem_of_getElem? (i := 0) rfl)) ga0) q19) (cwV 1 (cx_ts C) gX12_passMinute_X12_cool rfl rfl rfl (by decide +kernel) ⟨Nat.le_of_ble_eq_true rfl, Nat.le_of_ble_eq_true rfl⟩) rfl (hG _ (List.mem_of_getElem? (i := 0) rfl)) (of10_0 _) (ce10 T ad _ _) rfl (st := []) rfl (Nat.le_of_ble_eq_true rfl) ⟨Nat.le_refl 0, Nat.le_refl 0⟩ dX12_passMinute_49 (ppv ?_)
      refine fw_iinc C dX12_passMinute_52 (kk := 0) (v := l1 + 1) rfl rfl (by decide) (L' := [(1, .int (l1 + 1)), (0, .ref (ad 10 0 0))]) rfl ?_
      refine fw_goto C dX12_passMinute_55 (tgt := 36) rfl ?_
      exact ih _ _ h
set_option maxRecDepth 100000 in
set_option maxHeartbeats 4000000 in
theorem w_X12_passMinute_b12  (C : Cx p s m [.ref (ad 10 0 0)].toArray meth c cX12_passMinute 3 wsX12_passMinute RX12 N0 T D gr ad) (hrt : meth.sig.returnType = none) (hG : ∀ q ∈ [(10, 0)], q ∈ gr) {res : Mem} : ∀ (n : Nat) (Y : Mem) (l1 : Int32), X12_passMinute_b12   n Y l1 = some res → FW p l e (Rm 7) s m [.ref (ad 10 0 0)].toArray below meth c 3 N0 T D gr ad 0 0 (MQ below (va_Qv (fun Y1 => Y1 = res) (WB T D gr ad) (fun q => N0 ≤ q)) [.ref (ad 10 0 0)].toArray s 0 0 (fun q => N0 ≤ q)) Y 12 [(1, .int l1), (0, .ref (ad 10 0 0))] [] := by
  intro n
  induction n with
  | zero =>
    intro Y l1 h
    unfold X12_passMinute_b12 at h
    cases h
  | succ n ih =>
    intro Y l1 h
    unfold X12_passMinute_b12 at h
    refine fw_iload_n C dX12_passMinute_12 rfl 0 rfl ?_
    refine fw_aload_n C dX12_passMinute_13 rfl 1 rfl ?_
    refine fw_get C (ci := 10) (Cn := RX12) (Tc := TX12) (N := 19) (j := 0) ly_X12_passMinute_12 rfl (hG _ (List.mem_of_getElem? (i := 0) rfl)) (of10_0 _) (ce10 T ad _ _) (by decide) (cx_ts C _ fl_X12_passMinute_13) (fun _ h => h) (v := .ref (ad 10 0 1)) rfl dX12_passMinute_14 ?_
    refine fw_bipush C dX12_passMinute_17 (v := 13) rfl ?_
    obtain ⟨b6, h⟩ := gd_some h
    refine fw_iald2 C (hG _ (List.mem_of_getElem? (i := 0) rfl)) (of10_1 _) (ca10_1 T ad _ _) b6 (Nat.le_of_ble_eq_true rfl) dX12_passMinute_19 ?_
    refine fw_icmp_ge C dX12_passMinute_20 (tgt := 34) rfl (fun c7 => ?_) (fun c7 => ?_)
    · have h := ite_t c7 h
      refine fw_iconst C dX12_passMinute_34 (v := 0) rfl ?_
      refine fw_istore_n C dX12_passMinute_35 rfl (by decide) (L' := [(1, .int 0), (0, .ref (ad 10 0 0))]) rfl ?_
      exact w_X12_passMinute_b36 C hrt hG   _ _ _ h
    · have h := ite_f c7 h
      refine fw_aload_n C dX12_passMinute_23 rfl 1 rfl ?_
      refine fw_iload_n C dX12_passMinute_24 rfl 0 rfl ?_
      obtain ⟨Y23, q22, h⟩ := bd1_some h
      refine fw_callVv C (ci := 10) (Cn := RX12) (Tc := TX12) (N := 19) (As := [.int l1]) (c_X12_work (gac (hG _ (List.mem_of_getElem? (i := 0) rfl)) ga0) q22) (cwV 1 (cx_ts C) gX12_passMinute_X12_work rfl rfl rfl (by decide +kernel) ⟨Nat.le_of_ble_eq_true rfl, Nat.le_of_ble_eq_true rfl⟩) rfl (hG _ (List.mem_of_getElem? (i := 0) rfl)) (of10_0 _) (ce10 T ad _ _) rfl (st := []) rfl (Nat.le_of_ble_eq_true rfl) ⟨Nat.le_refl 0, Nat.le_refl 0⟩ dX12_passMinute_25 (ppv ?_)
      refine fw_iinc C dX12_passMinute_28 (kk := 0) (v := l1 + 1) rfl rfl (by decide) (L' := [(1, .int (l1 + 1)), (0, .ref (ad 10 0 0))]) rfl ?_
      refine fw_goto C dX12_passMinute_31 (tgt := 12) rfl ?_
      exact ih _ _ h
set_option maxRecDepth 100000 in
set_option maxHeartbeats 4000000 in
theorem w_X12_passMinute {Y : Mem} (C : Cx p s m [.ref (ad 10 0 0)].toArray meth c cX12_passMinute 3 wsX12_passMinute RX12 N0 T D gr ad) (hrt : meth.sig.returnType = none) (hG : ∀ q ∈ [(10, 0)], q ∈ gr) {res : Mem} (h : X12_passMinute Y = some res) : FW p l e (Rm 7) s m [.ref (ad 10 0 0)].toArray below meth c 3 N0 T D gr ad 0 0 (MQ below (va_Qv (fun Y1 => Y1 = res) (WB T D gr ad) (fun q => N0 ≤ q)) [.ref (ad 10 0 0)].toArray s 0 0 (fun q => N0 ≤ q)) Y 0 [(0, .ref (ad 10 0 0))] [] := by
  unfold X12_passMinute at h
  refine fw_aload_n C dX12_passMinute_0 rfl 0 rfl ?_
  refine fw_get C (ci := 10) (Cn := RX12) (Tc := TX12) (N := 19) (j := 0) ly_X12_passMinute_12 rfl (hG _ (List.mem_of_getElem? (i := 0) rfl)) (of10_0 _) (ce10 T ad _ _) (by decide) (cx_ts C _ fl_X12_passMinute_13) (fun _ h => h) (v := .ref (ad 10 0 1)) rfl dX12_passMinute_1 ?_
  refine fw_bipush C dX12_passMinute_4 (v := 6) rfl ?_
  obtain ⟨b1, h⟩ := gd_some h
  refine fw_iald2 C (hG _ (List.mem_of_getElem? (i := 0) rfl)) (of10_1 _) (ca10_1 T ad _ _) b1 (Nat.le_of_ble_eq_true rfl) dX12_passMinute_6 ?_
  refine fw_if_ne C dX12_passMinute_7 (tgt := 86) rfl (fun c2 => ?_) (fun c2 => ?_)
  · have h := ite_f c2 h
    exact w_X12_passMinute_b86 C hrt hG   _ h
  · have h := ite_t c2 h
    refine fw_iconst C dX12_passMinute_10 (v := 0) rfl ?_
    refine fw_istore_n C dX12_passMinute_11 rfl (by decide) (L' := [(1, .int 0), (0, .ref (ad 10 0 0))]) rfl ?_
    exact w_X12_passMinute_b12 C hrt hG   _ _ _ h
end
set_option maxRecDepth 100000 in
set_option maxHeartbeats 4000000 in
theorem c_X12_passMinute {l : Launch} {N0 : Nat} {T : Nat → ClassId} {D : va_G} {gr : List (Nat × Nat)} {ad : Nat → Nat → Nat → Nat} {Y : Mem} {res : Mem} (hG : ∀ q ∈ [(10, 0)], q ∈ gr) (h : X12_passMinute Y = some res) : CV l yX12_passMinute wsX12_passMinute (Rm 7) N0 T D gr ad Y [.ref (ad 10 0 0)] (fun Y1 => Y1 = res) :=
  fw_body (by decide +kernel) rfl (Nat.le_of_ble_eq_true rfl) (fun p e s m below meth c C hrt => w_X12_passMinute C hrt hG  h)
section
variable {p : Program} {l : Launch} {e : Env} {s : State} {m : MethodId} {below : List Frame} {meth : Method} {c : Code} {N0 : Nat} {T : Nat → ClassId} {D : va_G} {gr : List (Nat × Nat)} {ad : Nat → Nat → Nat → Nat}
set_option maxRecDepth 100000 in
set_option maxHeartbeats 4000000 in
theorem w_X12_simulate_b26  (C : Cx p s m [.ref (ad 10 0 0)].toArray meth c cX12_simulate 2 wsX12_simulate RX12 N0 T D gr ad) (hrt : meth.sig.returnType = (some .int)) (hG : ∀ q ∈ [(10, 0)], q ∈ gr) {res : Int32 × Mem} (Y : Mem) (l1 : Int32) (h : X12_simulate_b26   Y l1 = some res) : FW p l e (Rm 8) s m [.ref (ad 10 0 0)].toArray below meth c 2 N0 T D gr ad 0 0 (MQ below (va_Qi (fun r Y1 => (r, Y1) = res) (WB T D gr ad) (fun q => N0 ≤ q)) [.ref (ad 10 0 0)].toArray s 0 0 (fun q => N0 ≤ q)) Y 26 [(1, .int l1), (0, .ref (ad 10 0 0))] [] := by
  unfold X12_simulate_b26 at h
  refine fw_aload_n C dX12_simulate_26 rfl 1 rfl ?_
  obtain ⟨r2, q3, h⟩ := bd1_some h
  refine fw_callVi C (ci := 10) (Cn := RX12) (Tc := TX12) (N := 19) (As := []) (c_X12_isFinished (gac (hG _ (List.mem_of_getElem? (i := 0) rfl)) ga0) q3) (cwV 0 (cx_ts C) gX12_simulate_X12_isFinished rfl rfl rfl (by decide +kernel) ⟨Nat.le_of_ble_eq_true rfl, Nat.le_of_ble_eq_true rfl⟩) rfl (hG _ (List.mem_of_getElem? (i := 0) rfl)) (of10_0 _) (ce10 T ad _ _) rfl (st := []) rfl (Nat.le_of_ble_eq_true rfl) ⟨Nat.le_refl 0, Nat.le_refl 0⟩ dX12_simulate_27 (pp2 ?_)
  refine fw_if_eq C dX12_simulate_30 (tgt := 37) rfl (fun c4 => ?_) (fun c4 => ?_)
  · have h := ite_t c4 h
    refine fw_iconst C dX12_simulate_37 (v := (-1)) rfl ?_
    exact fw_iret C hrt Y (Option.some.inj h) (fun t ht => ht) dX12_simulate_38
  · have h := ite_f c4 h
    refine fw_iload_n C dX12_simulate_33 rfl 0 rfl ?_
    refine fw_goto C dX12_simulate_34 (tgt := 38) rfl ?_
    exact fw_iret C hrt Y (Option.some.inj h) (fun t ht => ht) dX12_simulate_38
set_option maxRecDepth 100000 in
set_option maxHeartbeats 4000000 in
theorem w_X12_simulate_b2  (C : Cx p s m [.ref (ad 10 0 0)].toArray meth c cX12_simulate 2 wsX12_simulate RX12 N0 T D gr ad) (hrt : meth.sig.returnType = (some .int)) (hG : ∀ q ∈ [(10, 0)], q ∈ gr) {res : Int32 × Mem} : ∀ (n : Nat) (Y : Mem) (l1 : Int32), X12_simulate_b2   n Y l1 = some res → FW p l e (Rm 8) s m [.ref (ad 10 0 0)].toArray below meth c 2 N0 T D gr ad 0 0 (MQ below (va_Qi (fun r Y1 => (r, Y1) = res) (WB T D gr ad) (fun q => N0 ≤ q)) [.ref (ad 10 0 0)].toArray s 0 0 (fun q => N0 ≤ q)) Y 2 [(1, .int l1), (0, .ref (ad 10 0 0))] [] := by
  intro n
  induction n with
  | zero =>
    intro Y l1 h
    unfold X12_simulate_b2 at h
    cases h
  | succ n ih =>
    intro Y l1 h
    unfold X12_simulate_b2 at h
    refine fw_iload_n C dX12_simulate_2 rfl 0 rfl ?_
    refine fw_sipush C dX12_simulate_3 (v := 500) rfl ?_
    refine fw_icmp_ge C dX12_simulate_6 (tgt := 26) rfl (fun c1 => ?_) (fun c1 => ?_)
    · have h := ite_t c1 h
      exact w_X12_simulate_b26 C hrt hG   _ _ h
    · have h := ite_f c1 h
      refine fw_aload_n C dX12_simulate_9 rfl 1 rfl ?_
      obtain ⟨r5, q6, h⟩ := bd1_some h
      refine fw_callVi C (ci := 10) (Cn := RX12) (Tc := TX12) (N := 19) (As := []) (c_X12_isFinished (gac (hG _ (List.mem_of_getElem? (i := 0) rfl)) ga0) q6) (cwV 0 (cx_ts C) gX12_simulate_X12_isFinished rfl rfl rfl (by decide +kernel) ⟨Nat.le_of_ble_eq_true rfl, Nat.le_of_ble_eq_true rfl⟩) rfl (hG _ (List.mem_of_getElem? (i := 0) rfl)) (of10_0 _) (ce10 T ad _ _) rfl (st := []) rfl (Nat.le_of_ble_eq_true rfl) ⟨Nat.le_refl 0, Nat.le_refl 0⟩ dX12_simulate_10 (pp2 ?_)
      refine fw_if_ne C dX12_simulate_13 (tgt := 26) rfl (fun c7 => ?_) (fun c7 => ?_)
      · have h := ite_f c7 h
        exact w_X12_simulate_b26 C hrt hG   _ _ h
      · have h := ite_t c7 h
        refine fw_aload_n C dX12_simulate_16 rfl 1 rfl ?_
        obtain ⟨Y10, q9, h⟩ := bd1_some h
        refine fw_callVv C (ci := 10) (Cn := RX12) (Tc := TX12) (N := 19) (As := []) (c_X12_passMinute (gac (hG _ (List.mem_of_getElem? (i := 0) rfl)) ga0) q9) (cwV 0 (cx_ts C) gX12_simulate_X12_passMinute rfl rfl rfl (by decide +kernel) ⟨Nat.le_of_ble_eq_true rfl, Nat.le_of_ble_eq_true rfl⟩) rfl (hG _ (List.mem_of_getElem? (i := 0) rfl)) (of10_0 _) (ce10 T ad _ _) rfl (st := []) rfl (Nat.le_of_ble_eq_true rfl) ⟨Nat.le_refl 0, Nat.le_refl 0⟩ dX12_simulate_17 (ppv ?_)
        refine fw_iinc C dX12_simulate_20 (kk := 0) (v := l1 + 1) rfl rfl (by decide) (L' := [(1, .int (l1 + 1)), (0, .ref (ad 10 0 0))]) rfl ?_
        refine fw_goto C dX12_simulate_23 (tgt := 2) rfl ?_
        exact ih _ _ h
set_option maxRecDepth 100000 in
set_option maxHeartbeats 4000000 in
theorem w_X12_simulate {Y : Mem} (C : Cx p s m [.ref (ad 10 0 0)].toArray meth c cX12_simulate 2 wsX12_simulate RX12 N0 T D gr ad) (hrt : meth.sig.returnType = (some .int)) (hG : ∀ q ∈ [(10, 0)], q ∈ gr) {res : Int32 × Mem} (h : X12_simulate Y = some res) : FW p l e (Rm 8) s m [.ref (ad 10 0 0)].toArray below meth c 2 N0 T D gr ad 0 0 (MQ below (va_Qi (fun r Y1 => (r, Y1) = res) (WB T D gr ad) (fun q => N0 ≤ q)) [.ref (ad 10 0 0)].toArray s 0 0 (fun q => N0 ≤ q)) Y 0 [(0, .ref (ad 10 0 0))] [] := by
  unfold X12_simulate at h
  refine fw_iconst C dX12_simulate_0 (v := 0) rfl ?_
  refine fw_istore_n C dX12_simulate_1 rfl (by decide) (L' := [(1, .int 0), (0, .ref (ad 10 0 0))]) rfl ?_
  exact w_X12_simulate_b2 C hrt hG   _ _ _ h
end
set_option maxRecDepth 100000 in
set_option maxHeartbeats 4000000 in
theorem c_X12_simulate {l : Launch} {N0 : Nat} {T : Nat → ClassId} {D : va_G} {gr : List (Nat × Nat)} {ad : Nat → Nat → Nat → Nat} {Y : Mem} {res : Int32 × Mem} (hG : ∀ q ∈ [(10, 0)], q ∈ gr) (h : X12_simulate Y = some res) : CI l yX12_simulate wsX12_simulate (Rm 8) N0 T D gr ad Y [.ref (ad 10 0 0)] (fun r Y1 => (r, Y1) = res) :=
  fw_body (by decide +kernel) rfl (Nat.le_of_ble_eq_true rfl) (fun p e s m below meth c C hrt => w_X12_simulate C hrt hG  h)
theorem ly_X12_bottleneck_12 : ∀ w ∈ u_ws RX12 TX12 19, w ∈ wsX12_bottleneck := by decide +kernel
theorem fl_X12_bottleneck_13 : Cond.fieldLink RX12 13 "RecipeSchedulerModel" "m" "[I" ∈ wsX12_bottleneck := by decide +kernel
section
variable {p : Program} {l : Launch} {e : Env} {s : State} {m : MethodId} {below : List Frame} {meth : Method} {c : Code} {N0 : Nat} {T : Nat → ClassId} {D : va_G} {gr : List (Nat × Nat)} {ad : Nat → Nat → Nat → Nat}
set_option maxRecDepth 100000 in
set_option maxHeartbeats 4000000 in
theorem w_X12_bottleneck_b128  (C : Cx p s m [.ref (ad 10 0 0)].toArray meth c cX12_bottleneck 5 wsX12_bottleneck RX12 N0 T D gr ad) (hrt : meth.sig.returnType = (some .int)) (hG : ∀ q ∈ [(10, 0)], q ∈ gr) {res : Int32 × Mem} {k28 : Mem → Int32 → Int32 → Int32 → Option (Int32 × Mem)} (hk28 : ∀ (Y : Mem) (l3 : Int32) (l2 : Int32) (l1 : Int32), k28 Y l3 l2 l1 = some res → FW p l e (Rm 9) s m [.ref (ad 10 0 0)].toArray below meth c 5 N0 T D gr ad 0 0 (MQ below (va_Qi (fun r Y1 => (r, Y1) = res) (WB T D gr ad) (fun q => N0 ≤ q)) [.ref (ad 10 0 0)].toArray s 0 0 (fun q => N0 ≤ q)) Y 28 [(3, .int l3), (2, .int l2), (1, .int l1), (0, .ref (ad 10 0 0))] []) (Y : Mem) (l2 : Int32) (l1 : Int32) (l3 : Int32) (h : X12_bottleneck_b128  k28 Y l2 l1 l3 = some res) : FW p l e (Rm 9) s m [.ref (ad 10 0 0)].toArray below meth c 5 N0 T D gr ad 0 0 (MQ below (va_Qi (fun r Y1 => (r, Y1) = res) (WB T D gr ad) (fun q => N0 ≤ q)) [.ref (ad 10 0 0)].toArray s 0 0 (fun q => N0 ≤ q)) Y 128 [(2, .int l2), (1, .int l1), (3, .int l3), (0, .ref (ad 10 0 0))] [] := by
  unfold X12_bottleneck_b128 at h
  refine fw_iinc C dX12_bottleneck_128 (kk := 2) (v := l3 + 1) rfl rfl (by decide) (L' := [(3, .int (l3 + 1)), (2, .int l2), (1, .int l1), (0, .ref (ad 10 0 0))]) rfl ?_
  refine fw_goto C dX12_bottleneck_131 (tgt := 28) rfl ?_
  exact hk28 _ _ _ _ h
set_option maxRecDepth 100000 in
set_option maxHeartbeats 4000000 in
theorem w_X12_bottleneck_b123  (C : Cx p s m [.ref (ad 10 0 0)].toArray meth c cX12_bottleneck 5 wsX12_bottleneck RX12 N0 T D gr ad) (hrt : meth.sig.returnType = (some .int)) (hG : ∀ q ∈ [(10, 0)], q ∈ gr) {res : Int32 × Mem} {k28 : Mem → Int32 → Int32 → Int32 → Option (Int32 × Mem)} (hk28 : ∀ (Y : Mem) (l3 : Int32) (l2 : Int32) (l1 : Int32), k28 Y l3 l2 l1 = some res → FW p l e (Rm 9) s m [.ref (ad 10 0 0)].toArray below meth c 5 N0 T D gr ad 0 0 (MQ below (va_Qi (fun r Y1 => (r, Y1) = res) (WB T D gr ad) (fun q => N0 ≤ q)) [.ref (ad 10 0 0)].toArray s 0 0 (fun q => N0 ≤ q)) Y 28 [(3, .int l3), (2, .int l2), (1, .int l1), (0, .ref (ad 10 0 0))] []) (Y : Mem) (l4 : Int32) (l3 : Int32) (h : X12_bottleneck_b123  k28 Y l4 l3 = some res) : FW p l e (Rm 9) s m [.ref (ad 10 0 0)].toArray below meth c 5 N0 T D gr ad 0 0 (MQ below (va_Qi (fun r Y1 => (r, Y1) = res) (WB T D gr ad) (fun q => N0 ≤ q)) [.ref (ad 10 0 0)].toArray s 0 0 (fun q => N0 ≤ q)) Y 123 [(4, .int l4), (3, .int l3), (0, .ref (ad 10 0 0))] [] := by
  unfold X12_bottleneck_b123 at h
  refine fw_iload_n C dX12_bottleneck_123 rfl 1 rfl ?_
  refine fw_istore_n C dX12_bottleneck_124 rfl (by decide) (L' := [(1, .int l3), (4, .int l4), (3, .int l3), (0, .ref (ad 10 0 0))]) rfl ?_
  refine fw_iload C dX12_bottleneck_125 1 rfl ?_
  refine fw_istore_n C dX12_bottleneck_127 rfl (by decide) (L' := [(2, .int l4), (1, .int l3), (4, .int l4), (3, .int l3), (0, .ref (ad 10 0 0))]) rfl ?_
  refine fw_sub [0, 1, 3, 4] (L' := [(2, .int l4), (1, .int l3), (3, .int l3), (0, .ref (ad 10 0 0))]) rfl ?_
  exact w_X12_bottleneck_b128 C hrt hG  hk28 _ _ _ _ h
set_option maxRecDepth 100000 in
set_option maxHeartbeats 4000000 in
theorem w_X12_bottleneck_b107  (C : Cx p s m [.ref (ad 10 0 0)].toArray meth c cX12_bottleneck 5 wsX12_bottleneck RX12 N0 T D gr ad) (hrt : meth.sig.returnType = (some .int)) (hG : ∀ q ∈ [(10, 0)], q ∈ gr) {res : Int32 × Mem} {k28 : Mem → Int32 → Int32 → Int32 → Option (Int32 × Mem)} (hk28 : ∀ (Y : Mem) (l3 : Int32) (l2 : Int32) (l1 : Int32), k28 Y l3 l2 l1 = some res → FW p l e (Rm 9) s m [.ref (ad 10 0 0)].toArray below meth c 5 N0 T D gr ad 0 0 (MQ below (va_Qi (fun r Y1 => (r, Y1) = res) (WB T D gr ad) (fun q => N0 ≤ q)) [.ref (ad 10 0 0)].toArray s 0 0 (fun q => N0 ≤ q)) Y 28 [(3, .int l3), (2, .int l2), (1, .int l1), (0, .ref (ad 10 0 0))] []) (Y : Mem) (l3 : Int32) (l2 : Int32) (l1 : Int32) (s0 : Int32) (h : X12_bottleneck_b107  k28 Y l3 l2 l1 s0 = some res) : FW p l e (Rm 9) s m [.ref (ad 10 0 0)].toArray below meth c 5 N0 T D gr ad 0 0 (MQ below (va_Qi (fun r Y1 => (r, Y1) = res) (WB T D gr ad) (fun q => N0 ≤ q)) [.ref (ad 10 0 0)].toArray s 0 0 (fun q => N0 ≤ q)) Y 107 [(3, .int l3), (2, .int l2), (1, .int l1), (0, .ref (ad 10 0 0))] [.int s0] := by
  unfold X12_bottleneck_b107 at h
  refine fw_istore C dX12_bottleneck_107 (by decide) (L' := [(4, .int s0), (3, .int l3), (2, .int l2), (1, .int l1), (0, .ref (ad 10 0 0))]) rfl ?_
  refine fw_iload_n C dX12_bottleneck_109 rfl 3 rfl ?_
  refine fw_iconst C dX12_bottleneck_110 (v := (-1)) rfl ?_
  refine fw_icmp_eq C dX12_bottleneck_111 (tgt := 123) rfl (fun c25 => ?_) (fun c25 => ?_)
  · have h := ite_t c25 h
    refine fw_sub [0, 1, 4] (L' := [(4, .int s0), (3, .int l3), (0, .ref (ad 10 0 0))]) rfl ?_
    exact w_X12_bottleneck_b123 C hrt hG  hk28 _ _ _ h
  · have h := ite_f c25 h
    refine fw_iload C dX12_bottleneck_114 0 rfl ?_
    refine fw_iload_n C dX12_bottleneck_116 rfl 2 rfl ?_
    refine fw_icmp_lt C dX12_bottleneck_117 (tgt := 123) rfl (fun c26 => ?_) (fun c26 => ?_)
    · have h := ite_t c26 h
      refine fw_sub [0, 1, 4] (L' := [(4, .int s0), (3, .int l3), (0, .ref (ad 10 0 0))]) rfl ?_
      exact w_X12_bottleneck_b123 C hrt hG  hk28 _ _ _ h
    · have h := ite_f c26 h
      refine fw_goto C dX12_bottleneck_120 (tgt := 128) rfl ?_
      refine fw_sub [2, 3, 1, 4] (L' := [(2, .int l2), (1, .int l1), (3, .int l3), (0, .ref (ad 10 0 0))]) rfl ?_
      exact w_X12_bottleneck_b128 C hrt hG  hk28 _ _ _ _ h
set_option maxRecDepth 100000 in
set_option maxHeartbeats 4000000 in
theorem w_X12_bottleneck_b80  (C : Cx p s m [.ref (ad 10 0 0)].toArray meth c cX12_bottleneck 5 wsX12_bottleneck RX12 N0 T D gr ad) (hrt : meth.sig.returnType = (some .int)) (hG : ∀ q ∈ [(10, 0)], q ∈ gr) {res : Int32 × Mem} {k28 : Mem → Int32 → Int32 → Int32 → Option (Int32 × Mem)} (hk28 : ∀ (Y : Mem) (l3 : Int32) (l2 : Int32) (l1 : Int32), k28 Y l3 l2 l1 = some res → FW p l e (Rm 9) s m [.ref (ad 10 0 0)].toArray below meth c 5 N0 T D gr ad 0 0 (MQ below (va_Qi (fun r Y1 => (r, Y1) = res) (WB T D gr ad) (fun q => N0 ≤ q)) [.ref (ad 10 0 0)].toArray s 0 0 (fun q => N0 ≤ q)) Y 28 [(3, .int l3), (2, .int l2), (1, .int l1), (0, .ref (ad 10 0 0))] []) (Y : Mem) (l3 : Int32) (l2 : Int32) (l1 : Int32) (h : X12_bottleneck_b80  k28 Y l3 l2 l1 = some res) : FW p l e (Rm 9) s m [.ref (ad 10 0 0)].toArray below meth c 5 N0 T D gr ad 0 0 (MQ below (va_Qi (fun r Y1 => (r, Y1) = res) (WB T D gr ad) (fun q => N0 ≤ q)) [.ref (ad 10 0 0)].toArray s 0 0 (fun q => N0 ≤ q)) Y 80 [(3, .int l3), (2, .int l2), (1, .int l1), (0, .ref (ad 10 0 0))] [] := by
  unfold X12_bottleneck_b80 at h
  refine fw_aload_n C dX12_bottleneck_80 rfl 3 rfl ?_
  obtain ⟨r18, Y20, q19, h⟩ := bd2_some h
  refine fw_callVi C (ci := 10) (Cn := RX12) (Tc := TX12) (N := 19) (As := []) (c_X12_simulate (gac (hG _ (List.mem_of_getElem? (i := 0) rfl)) ga0) q19) (cwV 0 (cx_ts C) gX12_bottleneck_X12_simulate rfl rfl rfl (by decide +kernel) ⟨Nat.le_of_ble_eq_true rfl, Nat.le_of_ble_eq_true rfl⟩) rfl (hG _ (List.mem_of_getElem? (i := 0) rfl)) (of10_0 _) (ce10 T ad _ _) rfl (st := []) rfl (Nat.le_of_ble_eq_true rfl) ⟨Nat.le_refl 0, Nat.le_refl 0⟩ dX12_bottleneck_81 (ppw ?_)
  refine fw_istore C dX12_bottleneck_84 (by decide) (L' := [(4, .int r18), (3, .int l3), (2, .int l2), (1, .int l1), (0, .ref (ad 10 0 0))]) rfl ?_
  refine fw_aload_n C dX12_bottleneck_86 rfl 4 rfl ?_
  refine fw_bipush C dX12_bottleneck_87 (v := 10) rfl ?_
  refine fw_iconst C dX12_bottleneck_89 (v := 0) rfl ?_
  obtain ⟨Y23, q22, h⟩ := bd1_some h
  refine fw_callVv C (ci := 10) (Cn := RX12) (Tc := TX12) (N := 19) (As := [.int 10, .int 0]) (c_X12_copyBlock (gac (hG _ (List.mem_of_getElem? (i := 0) rfl)) ga0) q22) (cwV 2 (cx_ts C) gX12_bottleneck_X12_copyBlock rfl rfl rfl (by decide +kernel) ⟨Nat.le_of_ble_eq_true rfl, Nat.le_of_ble_eq_true rfl⟩) rfl (hG _ (List.mem_of_getElem? (i := 0) rfl)) (of10_0 _) (ce10 T ad _ _) rfl (st := []) rfl (Nat.le_of_ble_eq_true rfl) ⟨Nat.le_refl 0, Nat.le_refl 0⟩ dX12_bottleneck_90 (ppv ?_)
  refine fw_iload C dX12_bottleneck_93 0 rfl ?_
  refine fw_iconst C dX12_bottleneck_95 (v := (-1)) rfl ?_
  refine fw_icmp_ne C dX12_bottleneck_96 (tgt := 105) rfl (fun c24 => ?_) (fun c24 => ?_)
  · have h := ite_f c24 h
    refine fw_iload C dX12_bottleneck_105 0 rfl ?_
    refine fw_sub [1, 2, 3, 4] (L' := [(3, .int l3), (2, .int l2), (1, .int l1), (0, .ref (ad 10 0 0))]) rfl ?_
    exact w_X12_bottleneck_b107 C hrt hG  hk28 _ _ _ _ _ h
  · have h := ite_t c24 h
    refine fw_sipush C dX12_bottleneck_99 (v := 501) rfl ?_
    refine fw_goto C dX12_bottleneck_102 (tgt := 107) rfl ?_
    refine fw_sub [1, 2, 3, 4] (L' := [(3, .int l3), (2, .int l2), (1, .int l1), (0, .ref (ad 10 0 0))]) rfl ?_
    exact w_X12_bottleneck_b107 C hrt hG  hk28 _ _ _ _ _ h
set_option maxRecDepth 100000 in
set_option maxHeartbeats 4000000 in
theorem w_X12_bottleneck_b28  (C : Cx p s m [.ref (ad 10 0 0)].toArray meth c cX12_bottleneck 5 wsX12_bottleneck RX12 N0 T D gr ad) (hrt : meth.sig.returnType = (some .int)) (hG : ∀ q ∈ [(10, 0)], q ∈ gr) {res : Int32 × Mem} : ∀ (n : Nat) (Y : Mem) (l3 : Int32) (l2 : Int32) (l1 : Int32), X12_bottleneck_b28   n Y l3 l2 l1 = some res → FW p l e (Rm 9) s m [.ref (ad 10 0 0)].toArray below meth c 5 N0 T D gr ad 0 0 (MQ below (va_Qi (fun r Y1 => (r, Y1) = res) (WB T D gr ad) (fun q => N0 ≤ q)) [.ref (ad 10 0 0)].toArray s 0 0 (fun q => N0 ≤ q)) Y 28 [(3, .int l3), (2, .int l2), (1, .int l1), (0, .ref (ad 10 0 0))] [] := by
  intro n
  induction n with
  | zero =>
    intro Y l3 l2 l1 h
    unfold X12_bottleneck_b28 at h
    cases h
  | succ n ih =>
    intro Y l3 l2 l1 h
    unfold X12_bottleneck_b28 at h
    refine fw_iload_n C dX12_bottleneck_28 rfl 0 rfl ?_
    refine fw_aload_n C dX12_bottleneck_29 rfl 3 rfl ?_
    refine fw_get C (ci := 10) (Cn := RX12) (Tc := TX12) (N := 19) (j := 0) ly_X12_bottleneck_12 rfl (hG _ (List.mem_of_getElem? (i := 0) rfl)) (of10_0 _) (ce10 T ad _ _) (by decide) (cx_ts C _ fl_X12_bottleneck_13) (fun _ h => h) (v := .ref (ad 10 0 1)) rfl dX12_bottleneck_30 ?_
    refine fw_bipush C dX12_bottleneck_33 (v := 13) rfl ?_
    obtain ⟨b10, h⟩ := gd_some h
    refine fw_iald2 C (hG _ (List.mem_of_getElem? (i := 0) rfl)) (of10_1 _) (ca10_1 T ad _ _) b10 (Nat.le_of_ble_eq_true rfl) dX12_bottleneck_35 ?_
    refine fw_icmp_ge C dX12_bottleneck_36 (tgt := 134) rfl (fun c11 => ?_) (fun c11 => ?_)
    · have h := ite_t c11 h
      refine fw_iload_n C dX12_bottleneck_134 rfl 2 rfl ?_
      exact fw_iret C hrt Y (Option.some.inj h) (fun t ht => ht) dX12_bottleneck_135
    · have h := ite_f c11 h
      refine fw_aload_n C dX12_bottleneck_39 rfl 3 rfl ?_
      refine fw_iload_n C dX12_bottleneck_40 rfl 0 rfl ?_
      refine fw_bipush C dX12_bottleneck_41 (v := 17) rfl ?_
      obtain ⟨r12, q13, h⟩ := bd1_some h
      refine fw_callVi C (ci := 10) (Cn := RX12) (Tc := TX12) (N := 19) (As := [.int l3, .int 17]) (c_X12_of (gac (hG _ (List.mem_of_getElem? (i := 0) rfl)) ga0) q13) (cwV 2 (cx_ts C) gX12_bottleneck_X12_of rfl rfl rfl (by decide +kernel) ⟨Nat.le_of_ble_eq_true rfl, Nat.le_of_ble_eq_true rfl⟩) rfl (hG _ (List.mem_of_getElem? (i := 0) rfl)) (of10_0 _) (ce10 T ad _ _) rfl (st := []) rfl (Nat.le_of_ble_eq_true rfl) ⟨Nat.le_refl 0, Nat.le_refl 0⟩ dX12_bottleneck_43 (pp2 ?_)
      refine fw_iconst C dX12_bottleneck_46 (v := 2) rfl ?_
      refine fw_icmp_ne C dX12_bottleneck_47 (tgt := 53) rfl (fun c14 => ?_) (fun c14 => ?_)
      · have h := ite_f c14 h
        refine fw_aload_n C dX12_bottleneck_53 rfl 3 rfl ?_
        refine fw_iload_n C dX12_bottleneck_54 rfl 0 rfl ?_
        refine fw_bipush C dX12_bottleneck_55 (v := 7) rfl ?_
        obtain ⟨r15, q16, h⟩ := bd1_some h
        refine fw_callVi C (ci := 10) (Cn := RX12) (Tc := TX12) (N := 19) (As := [.int l3, .int 7]) (c_X12_of (gac (hG _ (List.mem_of_getElem? (i := 0) rfl)) ga0) q16) (cwV 2 (cx_ts C) gX12_bottleneck_X12_of rfl rfl rfl (by decide +kernel) ⟨Nat.le_of_ble_eq_true rfl, Nat.le_of_ble_eq_true rfl⟩) rfl (hG _ (List.mem_of_getElem? (i := 0) rfl)) (of10_0 _) (ce10 T ad _ _) rfl (st := []) rfl (Nat.le_of_ble_eq_true rfl) ⟨Nat.le_refl 0, Nat.le_refl 0⟩ dX12_bottleneck_57 (pp2 ?_)
        refine fw_iconst C dX12_bottleneck_60 (v := 1) rfl ?_
        refine fw_icmp_le C dX12_bottleneck_61 (tgt := 80) rfl (fun c17 => ?_) (fun c17 => ?_)
        · have h := ite_t c17 h
          exact w_X12_bottleneck_b80 C hrt hG  ih _ _ _ _ h
        · have h := ite_f c17 h
          refine fw_aload_n C dX12_bottleneck_64 rfl 3 rfl ?_
          refine fw_iload_n C dX12_bottleneck_65 rfl 0 rfl ?_
          refine fw_bipush C dX12_bottleneck_66 (v := 7) rfl ?_
          refine fw_aload_n C dX12_bottleneck_68 rfl 3 rfl ?_
          refine fw_iload_n C dX12_bottleneck_69 rfl 0 rfl ?_
          refine fw_bipush C dX12_bottleneck_70 (v := 7) rfl ?_
          obtain ⟨r27, q28, h⟩ := bd1_some h
          refine fw_callVi C (ci := 10) (Cn := RX12) (Tc := TX12) (N := 19) (As := [.int l3, .int 7]) (c_X12_of (gac (hG _ (List.mem_of_getElem? (i := 0) rfl)) ga0) q28) (cwV 2 (cx_ts C) gX12_bottleneck_X12_of rfl rfl rfl (by decide +kernel) ⟨Nat.le_of_ble_eq_true rfl, Nat.le_of_ble_eq_true rfl⟩) rfl (hG _ (List.mem_of_getElem? (i := 0) rfl)) (of10_0 _) (ce10 T ad _ _) rfl (st := [.int 7, .int l3, .ref (ad 10 0 0)]) rfl (Nat.le_of_ble_eq_true rfl) ⟨Nat.le_refl 0, Nat.le_refl 0⟩ dX12_bottleneck_72 (pp2 ?_)
          refine fw_iconst C dX12_bottleneck_75 (v := 1) rfl ?_
          refine fw_isub C dX12_bottleneck_76 ?_
          obtain ⟨Y31, q30, h⟩ := bd1_some h
          refine fw_callVv C (ci := 10) (Cn := RX12) (Tc := TX12) (N := 19) (As := [.int l3, .int 7, .int (r27 - 1)]) (c_X12_set (gac (hG _ (List.mem_of_getElem? (i := 0) rfl)) ga0) q30) (cwV 3 (cx_ts C) gX12_bottleneck_X12_set rfl rfl rfl (by decide +kernel) ⟨Nat.le_of_ble_eq_true rfl, Nat.le_of_ble_eq_true rfl⟩) rfl (hG _ (List.mem_of_getElem? (i := 0) rfl)) (of10_0 _) (ce10 T ad _ _) rfl (st := []) rfl (Nat.le_of_ble_eq_true rfl) ⟨Nat.le_refl 0, Nat.le_refl 0⟩ dX12_bottleneck_77 (ppv ?_)
          exact w_X12_bottleneck_b80 C hrt hG  ih _ _ _ _ h
      · have h := ite_t c14 h
        refine fw_goto C dX12_bottleneck_50 (tgt := 128) rfl ?_
        refine fw_sub [1, 2, 0, 3] (L' := [(2, .int l2), (1, .int l1), (3, .int l3), (0, .ref (ad 10 0 0))]) rfl ?_
        exact w_X12_bottleneck_b128 C hrt hG  ih _ _ _ _ h
set_option maxRecDepth 100000 in
set_option maxHeartbeats 4000000 in
theorem w_X12_bottleneck {Y : Mem} (C : Cx p s m [.ref (ad 10 0 0)].toArray meth c cX12_bottleneck 5 wsX12_bottleneck RX12 N0 T D gr ad) (hrt : meth.sig.returnType = (some .int)) (hG : ∀ q ∈ [(10, 0)], q ∈ gr) {res : Int32 × Mem} (h : X12_bottleneck Y = some res) : FW p l e (Rm 9) s m [.ref (ad 10 0 0)].toArray below meth c 5 N0 T D gr ad 0 0 (MQ below (va_Qi (fun r Y1 => (r, Y1) = res) (WB T D gr ad) (fun q => N0 ≤ q)) [.ref (ad 10 0 0)].toArray s 0 0 (fun q => N0 ≤ q)) Y 0 [(0, .ref (ad 10 0 0))] [] := by
  unfold X12_bottleneck at h
  refine fw_aload_n C dX12_bottleneck_0 rfl 0 rfl ?_
  refine fw_aload_n C dX12_bottleneck_1 rfl 0 rfl ?_
  obtain ⟨r1, q2, h⟩ := bd1_some h
  refine fw_callVi C (ci := 10) (Cn := RX12) (Tc := TX12) (N := 19) (As := []) (c_X12_isFinished (gac (hG _ (List.mem_of_getElem? (i := 0) rfl)) ga0) q2) (cwV 0 (cx_ts C) gX12_bottleneck_X12_isFinished rfl rfl rfl (by decide +kernel) ⟨Nat.le_of_ble_eq_true rfl, Nat.le_of_ble_eq_true rfl⟩) rfl (hG _ (List.mem_of_getElem? (i := 0) rfl)) (of10_0 _) (ce10 T ad _ _) rfl (st := [.ref (ad 10 0 0)]) rfl (Nat.le_of_ble_eq_true rfl) ⟨Nat.le_refl 0, Nat.le_refl 0⟩ dX12_bottleneck_2 (pp2 ?_)
  refine fw_iconst C dX12_bottleneck_5 (v := 0) rfl ?_
  refine fw_iconst C dX12_bottleneck_6 (v := 0) rfl ?_
  obtain ⟨r3, Y5, q4, h⟩ := bd2_some h
  refine fw_callVi C (ci := 10) (Cn := RX12) (Tc := TX12) (N := 19) (As := [.int r1, .int 0, .int 0]) (c_X12_fails (gac (hG _ (List.mem_of_getElem? (i := 0) rfl)) ga0) q4) (cwV 3 (cx_ts C) gX12_bottleneck_X12_fails rfl rfl rfl (by decide +kernel) ⟨Nat.le_of_ble_eq_true rfl, Nat.le_of_ble_eq_true rfl⟩) rfl (hG _ (List.mem_of_getElem? (i := 0) rfl)) (of10_0 _) (ce10 T ad _ _) rfl (st := []) rfl (Nat.le_of_ble_eq_true rfl) ⟨Nat.le_refl 0, Nat.le_refl 0⟩ dX12_bottleneck_7 (ppw ?_)
  refine fw_if_eq C dX12_bottleneck_10 (tgt := 15) rfl (fun c6 => ?_) (fun c6 => ?_)
  · have h := ite_t c6 h
    refine fw_aload_n C dX12_bottleneck_15 rfl 0 rfl ?_
    refine fw_iconst C dX12_bottleneck_16 (v := 0) rfl ?_
    refine fw_bipush C dX12_bottleneck_17 (v := 10) rfl ?_
    obtain ⟨Y9, q8, h⟩ := bd1_some h
    refine fw_callVv C (ci := 10) (Cn := RX12) (Tc := TX12) (N := 19) (As := [.int 0, .int 10]) (c_X12_copyBlock (gac (hG _ (List.mem_of_getElem? (i := 0) rfl)) ga0) q8) (cwV 2 (cx_ts C) gX12_bottleneck_X12_copyBlock rfl rfl rfl (by decide +kernel) ⟨Nat.le_of_ble_eq_true rfl, Nat.le_of_ble_eq_true rfl⟩) rfl (hG _ (List.mem_of_getElem? (i := 0) rfl)) (of10_0 _) (ce10 T ad _ _) rfl (st := []) rfl (Nat.le_of_ble_eq_true rfl) ⟨Nat.le_refl 0, Nat.le_refl 0⟩ dX12_bottleneck_19 (ppv ?_)
    refine fw_iconst C dX12_bottleneck_22 (v := (-1)) rfl ?_
    refine fw_istore_n C dX12_bottleneck_23 rfl (by decide) (L' := [(1, .int ((-1))), (0, .ref (ad 10 0 0))]) rfl ?_
    refine fw_iconst C dX12_bottleneck_24 (v := 0) rfl ?_
    refine fw_istore_n C dX12_bottleneck_25 rfl (by decide) (L' := [(2, .int 0), (1, .int ((-1))), (0, .ref (ad 10 0 0))]) rfl ?_
    refine fw_iconst C dX12_bottleneck_26 (v := 0) rfl ?_
    refine fw_istore_n C dX12_bottleneck_27 rfl (by decide) (L' := [(3, .int 0), (2, .int 0), (1, .int ((-1))), (0, .ref (ad 10 0 0))]) rfl ?_
    exact w_X12_bottleneck_b28 C hrt hG   _ _ _ _ _ h
  · have h := ite_f c6 h
    refine fw_iconst C dX12_bottleneck_13 (v := 0) rfl ?_
    exact fw_iret C hrt Y5 (Option.some.inj h) (fun t ht => ht) dX12_bottleneck_14
end
set_option maxRecDepth 100000 in
set_option maxHeartbeats 4000000 in
theorem c_X12_bottleneck {l : Launch} {N0 : Nat} {T : Nat → ClassId} {D : va_G} {gr : List (Nat × Nat)} {ad : Nat → Nat → Nat → Nat} {Y : Mem} {res : Int32 × Mem} (hG : ∀ q ∈ [(10, 0)], q ∈ gr) (h : X12_bottleneck Y = some res) : CI l yX12_bottleneck wsX12_bottleneck (Rm 9) N0 T D gr ad Y [.ref (ad 10 0 0)] (fun r Y1 => (r, Y1) = res) :=
  fw_body (by decide +kernel) rfl (Nat.le_of_ble_eq_true rfl) (fun p e s m below meth c C hrt => w_X12_bottleneck C hrt hG  h)
theorem ly_X12_plain_12 : ∀ w ∈ u_ws RX12 TX12 19, w ∈ wsX12_plain := by decide +kernel
theorem fl_X12_plain_1 : Cond.fieldLink RX12 1 "RecipeSchedulerModel" "thrown" "I" ∈ wsX12_plain := by decide +kernel
section
variable {p : Program} {l : Launch} {e : Env} {s : State} {m : MethodId} {below : List Frame} {meth : Method} {c : Code} {N0 : Nat} {T : Nat → ClassId} {D : va_G} {gr : List (Nat × Nat)} {ad : Nat → Nat → Nat → Nat}
set_option maxRecDepth 100000 in
set_option maxHeartbeats 4000000 in
theorem w_X12_plain {Y : Mem} {a1 : Int32} (C : Cx p s m [.ref (ad 10 0 0), .int a1].toArray meth c cX12_plain 2 wsX12_plain RX12 N0 T D gr ad) (hrt : meth.sig.returnType = (some .int)) (hG : ∀ q ∈ [(10, 0)], q ∈ gr) {res : Int32 × Mem} (h : X12_plain Y a1 = some res) : FW p l e (Rm 0) s m [.ref (ad 10 0 0), .int a1].toArray below meth c 2 N0 T D gr ad 0 0 (MQ below (va_Qi (fun r Y1 => (r, Y1) = res) (WB T D gr ad) (fun q => N0 ≤ q)) [.ref (ad 10 0 0), .int a1].toArray s 0 0 (fun q => N0 ≤ q)) Y 0 [(0, .ref (ad 10 0 0)), (1, .int a1)] [] := by
  unfold X12_plain at h
  refine fw_aload_n C dX12_plain_0 rfl 0 rfl ?_
  refine fw_iconst C dX12_plain_1 (v := 0) rfl ?_
  obtain ⟨Y1, e2, h⟩ := lt_some h
  refine fw_put C (ci := 10) (Cn := RX12) (Tc := TX12) (N := 19) (j := 9) (ty := .int) (upd (Y 10 0 0) 9 0) ly_X12_plain_12 rfl tyX12_ok nmX12 (hG _ (List.mem_of_getElem? (i := 0) rfl)) (of10_0 _) (ce10 T ad _ _) (by decide) (cx_ts C _ fl_X12_plain_1) (fun _ h => h) rfl (by decide +kernel) rfl rfl (Nat.le_of_ble_eq_true rfl) (ce10_put9 T ad _ _ _) dX12_plain_2 ?_
  refine fw_mem ((up_eq _ _ _ _ _ _).symm.trans e2) ?_
  refine fw_iload_n C dX12_plain_5 rfl 1 rfl ?_
  exact fw_iret C hrt Y1 (Option.some.inj h) (fun t ht => ht) dX12_plain_6
end
set_option maxRecDepth 100000 in
set_option maxHeartbeats 4000000 in
theorem c_X12_plain {l : Launch} {N0 : Nat} {T : Nat → ClassId} {D : va_G} {gr : List (Nat × Nat)} {ad : Nat → Nat → Nat → Nat} {Y : Mem} {a1 : Int32} {res : Int32 × Mem} (hG : ∀ q ∈ [(10, 0)], q ∈ gr) (h : X12_plain Y a1 = some res) : CI l yX12_plain wsX12_plain (Rm 0) N0 T D gr ad Y [.ref (ad 10 0 0), .int a1] (fun r Y1 => (r, Y1) = res) :=
  fw_body (by decide +kernel) rfl (Nat.le_of_ble_eq_true rfl) (fun p e s m below meth c C hrt => w_X12_plain C hrt hG  h)
theorem ly_X12_burns_12 : ∀ w ∈ u_ws RX12 TX12 19, w ∈ wsX12_burns := by decide +kernel
theorem fl_X12_burns_13 : Cond.fieldLink RX12 13 "RecipeSchedulerModel" "m" "[I" ∈ wsX12_burns := by decide +kernel
section
variable {p : Program} {l : Launch} {e : Env} {s : State} {m : MethodId} {below : List Frame} {meth : Method} {c : Code} {N0 : Nat} {T : Nat → ClassId} {D : va_G} {gr : List (Nat × Nat)} {ad : Nat → Nat → Nat → Nat}
set_option maxRecDepth 100000 in
set_option maxHeartbeats 4000000 in
theorem w_X12_burns {Y : Mem} (C : Cx p s m [.ref (ad 10 0 0)].toArray meth c cX12_burns 1 wsX12_burns RX12 N0 T D gr ad) (hrt : meth.sig.returnType = (some .int)) (hG : ∀ q ∈ [(10, 0)], q ∈ gr) {res : Int32 × Mem} (h : X12_burns Y = some res) : FW p l e (Rm 1) s m [.ref (ad 10 0 0)].toArray below meth c 1 N0 T D gr ad 0 0 (MQ below (va_Qi (fun r Y1 => (r, Y1) = res) (WB T D gr ad) (fun q => N0 ≤ q)) [.ref (ad 10 0 0)].toArray s 0 0 (fun q => N0 ≤ q)) Y 0 [(0, .ref (ad 10 0 0))] [] := by
  unfold X12_burns at h
  refine fw_aload_n C dX12_burns_0 rfl 0 rfl ?_
  refine fw_aload_n C dX12_burns_1 rfl 0 rfl ?_
  refine fw_get C (ci := 10) (Cn := RX12) (Tc := TX12) (N := 19) (j := 0) ly_X12_burns_12 rfl (hG _ (List.mem_of_getElem? (i := 0) rfl)) (of10_0 _) (ce10 T ad _ _) (by decide) (cx_ts C _ fl_X12_burns_13) (fun _ h => h) (v := .ref (ad 10 0 1)) rfl dX12_burns_2 ?_
  refine fw_bipush C dX12_burns_5 (v := 9) rfl ?_
  obtain ⟨b1, h⟩ := gd_some h
  refine fw_iald2 C (hG _ (List.mem_of_getElem? (i := 0) rfl)) (of10_1 _) (ca10_1 T ad _ _) b1 (Nat.le_of_ble_eq_true rfl) dX12_burns_7 ?_
  obtain ⟨r2, Y4, q3, h⟩ := bd2_some h
  refine fw_callVi C (ci := 10) (Cn := RX12) (Tc := TX12) (N := 19) (As := [.int (Y 10 0 1 (ix 9))]) (c_X12_plain (gac (hG _ (List.mem_of_getElem? (i := 0) rfl)) ga0) q3) (cwV 1 (cx_ts C) gX12_burns_X12_plain rfl rfl rfl (by decide +kernel) ⟨Nat.le_of_ble_eq_true rfl, Nat.le_of_ble_eq_true rfl⟩) rfl (hG _ (List.mem_of_getElem? (i := 0) rfl)) (of10_0 _) (ce10 T ad _ _) rfl (st := []) rfl (Nat.le_of_ble_eq_true rfl) ⟨Nat.le_refl 0, Nat.le_refl 0⟩ dX12_burns_8 (ppw ?_)
  exact fw_iret C hrt Y4 (Option.some.inj h) (fun t ht => ht) dX12_burns_11
end
set_option maxRecDepth 100000 in
set_option maxHeartbeats 4000000 in
theorem c_X12_burns {l : Launch} {N0 : Nat} {T : Nat → ClassId} {D : va_G} {gr : List (Nat × Nat)} {ad : Nat → Nat → Nat → Nat} {Y : Mem} {res : Int32 × Mem} (hG : ∀ q ∈ [(10, 0)], q ∈ gr) (h : X12_burns Y = some res) : CI l yX12_burns wsX12_burns (Rm 1) N0 T D gr ad Y [.ref (ad 10 0 0)] (fun r Y1 => (r, Y1) = res) :=
  fw_body (by decide +kernel) rfl (Nat.le_of_ble_eq_true rfl) (fun p e s m below meth c C hrt => w_X12_burns C hrt hG  h)
theorem ly_X12_canRedo_12 : ∀ w ∈ u_ws RX12 TX12 19, w ∈ wsX12_canRedo := by decide +kernel
theorem fl_X12_canRedo_13 : Cond.fieldLink RX12 13 "RecipeSchedulerModel" "m" "[I" ∈ wsX12_canRedo := by decide +kernel
section
variable {p : Program} {l : Launch} {e : Env} {s : State} {m : MethodId} {below : List Frame} {meth : Method} {c : Code} {N0 : Nat} {T : Nat → ClassId} {D : va_G} {gr : List (Nat × Nat)} {ad : Nat → Nat → Nat → Nat}
set_option maxRecDepth 100000 in
set_option maxHeartbeats 4000000 in
theorem w_X12_canRedo {Y : Mem} {a1 : Int32} (C : Cx p s m [.ref (ad 10 0 0), .int a1].toArray meth c cX12_canRedo 2 wsX12_canRedo RX12 N0 T D gr ad) (hrt : meth.sig.returnType = (some .boolean)) (hG : ∀ q ∈ [(10, 0)], q ∈ gr) {res : Int32} (h : X12_canRedo Y a1 = some res) : FW p l e (Rm 4) s m [.ref (ad 10 0 0), .int a1].toArray below meth c 2 N0 T D gr ad 0 0 (MQ below (va_Qi (fun r Y1 => r = res ∧ Y1 = Y) (WB T D gr ad) (fun q => N0 ≤ q)) [.ref (ad 10 0 0), .int a1].toArray s 0 0 (fun q => N0 ≤ q)) Y 0 [(0, .ref (ad 10 0 0)), (1, .int a1)] [] := by
  unfold X12_canRedo at h
  refine fw_aload_n C dX12_canRedo_0 rfl 0 rfl ?_
  refine fw_iload_n C dX12_canRedo_1 rfl 1 rfl ?_
  refine fw_bipush C dX12_canRedo_2 (v := 17) rfl ?_
  obtain ⟨r1, q2, h⟩ := bd1_some h
  refine fw_callVi C (ci := 10) (Cn := RX12) (Tc := TX12) (N := 19) (As := [.int a1, .int 17]) (c_X12_of (gac (hG _ (List.mem_of_getElem? (i := 0) rfl)) ga0) q2) (cwV 2 (cx_ts C) gX12_canRedo_X12_of rfl rfl rfl (by decide +kernel) ⟨Nat.le_of_ble_eq_true rfl, Nat.le_of_ble_eq_true rfl⟩) rfl (hG _ (List.mem_of_getElem? (i := 0) rfl)) (of10_0 _) (ce10 T ad _ _) rfl (st := []) rfl (Nat.le_of_ble_eq_true rfl) ⟨Nat.le_refl 0, Nat.le_refl 0⟩ dX12_canRedo_4 (pp2 ?_)
  refine fw_iconst C dX12_canRedo_7 (v := 2) rfl ?_
  refine fw_icmp_ne C dX12_canRedo_8 (tgt := 33) rfl (fun c3 => ?_) (fun c3 => ?_)
  · have h := ite_f c3 h
    refine fw_iconst C dX12_canRedo_33 (v := 0) rfl ?_
    exact fw_zret C hrt (by decide) Y ⟨Option.some.inj h, rfl⟩ (fun t ht => ht) dX12_canRedo_34
  · have h := ite_t c3 h
    refine fw_aload_n C dX12_canRedo_11 rfl 0 rfl ?_
    refine fw_iload_n C dX12_canRedo_12 rfl 1 rfl ?_
    obtain ⟨r4, q5, h⟩ := bd1_some h
    refine fw_callVi C (ci := 10) (Cn := RX12) (Tc := TX12) (N := 19) (As := [.int a1]) (c_X12_isTaken (gac (hG _ (List.mem_of_getElem? (i := 0) rfl)) ga0) q5) (cwV 1 (cx_ts C) gX12_canRedo_X12_isTaken rfl rfl rfl (by decide +kernel) ⟨Nat.le_of_ble_eq_true rfl, Nat.le_of_ble_eq_true rfl⟩) rfl (hG _ (List.mem_of_getElem? (i := 0) rfl)) (of10_0 _) (ce10 T ad _ _) rfl (st := []) rfl (Nat.le_of_ble_eq_true rfl) ⟨Nat.le_refl 0, Nat.le_refl 0⟩ dX12_canRedo_13 (pp2 ?_)
    refine fw_if_ne C dX12_canRedo_16 (tgt := 33) rfl (fun c6 => ?_) (fun c6 => ?_)
    · have h := ite_f c6 h
      refine fw_iconst C dX12_canRedo_33 (v := 0) rfl ?_
      exact fw_zret C hrt (by decide) Y ⟨Option.some.inj h, rfl⟩ (fun t ht => ht) dX12_canRedo_34
    · have h := ite_t c6 h
      refine fw_aload_n C dX12_canRedo_19 rfl 0 rfl ?_
      refine fw_get C (ci := 10) (Cn := RX12) (Tc := TX12) (N := 19) (j := 0) ly_X12_canRedo_12 rfl (hG _ (List.mem_of_getElem? (i := 0) rfl)) (of10_0 _) (ce10 T ad _ _) (by decide) (cx_ts C _ fl_X12_canRedo_13) (fun _ h => h) (v := .ref (ad 10 0 1)) rfl dX12_canRedo_20 ?_
      refine fw_bipush C dX12_canRedo_23 (v := 6) rfl ?_
      obtain ⟨b7, h⟩ := gd_some h
      refine fw_iald2 C (hG _ (List.mem_of_getElem? (i := 0) rfl)) (of10_1 _) (ca10_1 T ad _ _) b7 (Nat.le_of_ble_eq_true rfl) dX12_canRedo_25 ?_
      refine fw_if_ne C dX12_canRedo_26 (tgt := 33) rfl (fun c8 => ?_) (fun c8 => ?_)
      · have h := ite_f c8 h
        refine fw_iconst C dX12_canRedo_33 (v := 0) rfl ?_
        exact fw_zret C hrt (by decide) Y ⟨Option.some.inj h, rfl⟩ (fun t ht => ht) dX12_canRedo_34
      · have h := ite_t c8 h
        refine fw_iconst C dX12_canRedo_29 (v := 1) rfl ?_
        refine fw_goto C dX12_canRedo_30 (tgt := 34) rfl ?_
        exact fw_zret C hrt (by decide) Y ⟨Option.some.inj h, rfl⟩ (fun t ht => ht) dX12_canRedo_34
end
set_option maxRecDepth 100000 in
set_option maxHeartbeats 4000000 in
theorem c_X12_canRedo {l : Launch} {N0 : Nat} {T : Nat → ClassId} {D : va_G} {gr : List (Nat × Nat)} {ad : Nat → Nat → Nat → Nat} {Y : Mem} {a1 : Int32} {res : Int32} (hG : ∀ q ∈ [(10, 0)], q ∈ gr) (h : X12_canRedo Y a1 = some res) : CI l yX12_canRedo wsX12_canRedo (Rm 4) N0 T D gr ad Y [.ref (ad 10 0 0), .int a1] (fun r Y1 => r = res ∧ Y1 = Y) :=
  fw_body (by decide +kernel) rfl (Nat.le_of_ble_eq_true rfl) (fun p e s m below meth c C hrt => w_X12_canRedo C hrt hG  h)
theorem ly_X12_servingReason_12 : ∀ w ∈ u_ws RX12 TX12 19, w ∈ wsX12_servingReason := by decide +kernel
theorem fl_X12_servingReason_13 : Cond.fieldLink RX12 13 "RecipeSchedulerModel" "m" "[I" ∈ wsX12_servingReason := by decide +kernel
section
variable {p : Program} {l : Launch} {e : Env} {s : State} {m : MethodId} {below : List Frame} {meth : Method} {c : Code} {N0 : Nat} {T : Nat → ClassId} {D : va_G} {gr : List (Nat × Nat)} {ad : Nat → Nat → Nat → Nat}
set_option maxRecDepth 100000 in
set_option maxHeartbeats 4000000 in
theorem w_X12_servingReason {Y : Mem} (C : Cx p s m [.ref (ad 10 0 0)].toArray meth c cX12_servingReason 1 wsX12_servingReason RX12 N0 T D gr ad) (hrt : meth.sig.returnType = (some .int)) (hG : ∀ q ∈ [(10, 0)], q ∈ gr) {res : Int32} (h : X12_servingReason Y = some res) : FW p l e (Rm 3) s m [.ref (ad 10 0 0)].toArray below meth c 1 N0 T D gr ad 0 0 (MQ below (va_Qi (fun r Y1 => r = res ∧ Y1 = Y) (WB T D gr ad) (fun q => N0 ≤ q)) [.ref (ad 10 0 0)].toArray s 0 0 (fun q => N0 ≤ q)) Y 0 [(0, .ref (ad 10 0 0))] [] := by
  unfold X12_servingReason at h
  refine fw_aload_n C dX12_servingReason_0 rfl 0 rfl ?_
  refine fw_get C (ci := 10) (Cn := RX12) (Tc := TX12) (N := 19) (j := 0) ly_X12_servingReason_12 rfl (hG _ (List.mem_of_getElem? (i := 0) rfl)) (of10_0 _) (ce10 T ad _ _) (by decide) (cx_ts C _ fl_X12_servingReason_13) (fun _ h => h) (v := .ref (ad 10 0 1)) rfl dX12_servingReason_1 ?_
  refine fw_bipush C dX12_servingReason_4 (v := 6) rfl ?_
  obtain ⟨b1, h⟩ := gd_some h
  refine fw_iald2 C (hG _ (List.mem_of_getElem? (i := 0) rfl)) (of10_1 _) (ca10_1 T ad _ _) b1 (Nat.le_of_ble_eq_true rfl) dX12_servingReason_6 ?_
  refine fw_iconst C dX12_servingReason_7 (v := 1) rfl ?_
  refine fw_icmp_ne C dX12_servingReason_8 (tgt := 13) rfl (fun c2 => ?_) (fun c2 => ?_)
  · have h := ite_f c2 h
    refine fw_aload_n C dX12_servingReason_13 rfl 0 rfl ?_
    refine fw_iconst C dX12_servingReason_14 (v := 3) rfl ?_
    obtain ⟨r3, q4, h⟩ := bd1_some h
    refine fw_callVi C (ci := 10) (Cn := RX12) (Tc := TX12) (N := 19) (As := [.int 3]) (c_X12_withStatus (gac (hG _ (List.mem_of_getElem? (i := 0) rfl)) ga0) q4) (cwV 1 (cx_ts C) gX12_servingReason_X12_withStatus rfl rfl rfl (by decide +kernel) ⟨Nat.le_of_ble_eq_true rfl, Nat.le_of_ble_eq_true rfl⟩) rfl (hG _ (List.mem_of_getElem? (i := 0) rfl)) (of10_0 _) (ce10 T ad _ _) rfl (st := []) rfl (Nat.le_of_ble_eq_true rfl) ⟨Nat.le_refl 0, Nat.le_refl 0⟩ dX12_servingReason_15 (pp2 ?_)
    refine fw_if_le C dX12_servingReason_18 (tgt := 23) rfl (fun c5 => ?_) (fun c5 => ?_)
    · have h := ite_t c5 h
      refine fw_aload_n C dX12_servingReason_23 rfl 0 rfl ?_
      obtain ⟨r6, q7, h⟩ := bd1_some h
      refine fw_callVi C (ci := 10) (Cn := RX12) (Tc := TX12) (N := 19) (As := []) (c_X12_isFinished (gac (hG _ (List.mem_of_getElem? (i := 0) rfl)) ga0) q7) (cwV 0 (cx_ts C) gX12_servingReason_X12_isFinished rfl rfl rfl (by decide +kernel) ⟨Nat.le_of_ble_eq_true rfl, Nat.le_of_ble_eq_true rfl⟩) rfl (hG _ (List.mem_of_getElem? (i := 0) rfl)) (of10_0 _) (ce10 T ad _ _) rfl (st := []) rfl (Nat.le_of_ble_eq_true rfl) ⟨Nat.le_refl 0, Nat.le_refl 0⟩ dX12_servingReason_24 (pp2 ?_)
      refine fw_if_ne C dX12_servingReason_27 (tgt := 32) rfl (fun c8 => ?_) (fun c8 => ?_)
      · have h := ite_f c8 h
        refine fw_aload_n C dX12_servingReason_32 rfl 0 rfl ?_
        obtain ⟨r9, q10, h⟩ := bd1_some h
        refine fw_callVi C (ci := 10) (Cn := RX12) (Tc := TX12) (N := 19) (As := []) (c_X12_tasteNow (gac (hG _ (List.mem_of_getElem? (i := 0) rfl)) ga0) q10) (cwV 0 (cx_ts C) gX12_servingReason_X12_tasteNow rfl rfl rfl (by decide +kernel) ⟨Nat.le_of_ble_eq_true rfl, Nat.le_of_ble_eq_true rfl⟩) rfl (hG _ (List.mem_of_getElem? (i := 0) rfl)) (of10_0 _) (ce10 T ad _ _) rfl (st := []) rfl (Nat.le_of_ble_eq_true rfl) ⟨Nat.le_refl 0, Nat.le_refl 0⟩ dX12_servingReason_33 (pp2 ?_)
        refine fw_aload_n C dX12_servingReason_36 rfl 0 rfl ?_
        refine fw_get C (ci := 10) (Cn := RX12) (Tc := TX12) (N := 19) (j := 0) ly_X12_servingReason_12 rfl (hG _ (List.mem_of_getElem? (i := 0) rfl)) (of10_0 _) (ce10 T ad _ _) (by decide) (cx_ts C _ fl_X12_servingReason_13) (fun _ h => h) (v := .ref (ad 10 0 1)) rfl dX12_servingReason_37 ?_
        refine fw_iconst C dX12_servingReason_40 (v := 2) rfl ?_
        obtain ⟨b11, h⟩ := gd_some h
        refine fw_iald2 C (hG _ (List.mem_of_getElem? (i := 0) rfl)) (of10_1 _) (ca10_1 T ad _ _) b11 (Nat.le_of_ble_eq_true rfl) dX12_servingReason_41 ?_
        refine fw_icmp_ge C dX12_servingReason_42 (tgt := 47) rfl (fun c12 => ?_) (fun c12 => ?_)
        · have h := ite_t c12 h
          refine fw_aload_n C dX12_servingReason_47 rfl 0 rfl ?_
          obtain ⟨r13, q14, h⟩ := bd1_some h
          refine fw_callVi C (ci := 10) (Cn := RX12) (Tc := TX12) (N := 19) (As := []) (c_X12_tasteNow (gac (hG _ (List.mem_of_getElem? (i := 0) rfl)) ga0) q14) (cwV 0 (cx_ts C) gX12_servingReason_X12_tasteNow rfl rfl rfl (by decide +kernel) ⟨Nat.le_of_ble_eq_true rfl, Nat.le_of_ble_eq_true rfl⟩) rfl (hG _ (List.mem_of_getElem? (i := 0) rfl)) (of10_0 _) (ce10 T ad _ _) rfl (st := []) rfl (Nat.le_of_ble_eq_true rfl) ⟨Nat.le_refl 0, Nat.le_refl 0⟩ dX12_servingReason_48 (pp2 ?_)
          refine fw_aload_n C dX12_servingReason_51 rfl 0 rfl ?_
          refine fw_get C (ci := 10) (Cn := RX12) (Tc := TX12) (N := 19) (j := 0) ly_X12_servingReason_12 rfl (hG _ (List.mem_of_getElem? (i := 0) rfl)) (of10_0 _) (ce10 T ad _ _) (by decide) (cx_ts C _ fl_X12_servingReason_13) (fun _ h => h) (v := .ref (ad 10 0 1)) rfl dX12_servingReason_52 ?_
          refine fw_iconst C dX12_servingReason_55 (v := 3) rfl ?_
          obtain ⟨b15, h⟩ := gd_some h
          refine fw_iald2 C (hG _ (List.mem_of_getElem? (i := 0) rfl)) (of10_1 _) (ca10_1 T ad _ _) b15 (Nat.le_of_ble_eq_true rfl) dX12_servingReason_56 ?_
          refine fw_icmp_le C dX12_servingReason_57 (tgt := 64) rfl (fun c16 => ?_) (fun c16 => ?_)
          · have h := ite_t c16 h
            refine fw_iconst C dX12_servingReason_64 (v := 0) rfl ?_
            exact fw_iret C hrt Y ⟨Option.some.inj h, rfl⟩ (fun t ht => ht) dX12_servingReason_65
          · have h := ite_f c16 h
            refine fw_iconst C dX12_servingReason_60 (v := 5) rfl ?_
            refine fw_goto C dX12_servingReason_61 (tgt := 65) rfl ?_
            exact fw_iret C hrt Y ⟨Option.some.inj h, rfl⟩ (fun t ht => ht) dX12_servingReason_65
        · have h := ite_f c12 h
          refine fw_iconst C dX12_servingReason_45 (v := 4) rfl ?_
          exact fw_iret C hrt Y ⟨Option.some.inj h, rfl⟩ (fun t ht => ht) dX12_servingReason_46
      · have h := ite_t c8 h
        refine fw_iconst C dX12_servingReason_30 (v := 3) rfl ?_
        exact fw_iret C hrt Y ⟨Option.some.inj h, rfl⟩ (fun t ht => ht) dX12_servingReason_31
    · have h := ite_f c5 h
      refine fw_iconst C dX12_servingReason_21 (v := 2) rfl ?_
      exact fw_iret C hrt Y ⟨Option.some.inj h, rfl⟩ (fun t ht => ht) dX12_servingReason_22
  · have h := ite_t c2 h
    refine fw_iconst C dX12_servingReason_11 (v := 1) rfl ?_
    exact fw_iret C hrt Y ⟨Option.some.inj h, rfl⟩ (fun t ht => ht) dX12_servingReason_12
end
set_option maxRecDepth 100000 in
set_option maxHeartbeats 4000000 in
theorem c_X12_servingReason {l : Launch} {N0 : Nat} {T : Nat → ClassId} {D : va_G} {gr : List (Nat × Nat)} {ad : Nat → Nat → Nat → Nat} {Y : Mem} {res : Int32} (hG : ∀ q ∈ [(10, 0)], q ∈ gr) (h : X12_servingReason Y = some res) : CI l yX12_servingReason wsX12_servingReason (Rm 3) N0 T D gr ad Y [.ref (ad 10 0 0)] (fun r Y1 => r = res ∧ Y1 = Y) :=
  fw_body (by decide +kernel) rfl (Nat.le_of_ble_eq_true rfl) (fun p e s m below meth c C hrt => w_X12_servingReason C hrt hG  h)
theorem ly_X12_canDo_12 : ∀ w ∈ u_ws RX12 TX12 19, w ∈ wsX12_canDo := by decide +kernel
theorem fl_X12_canDo_13 : Cond.fieldLink RX12 13 "RecipeSchedulerModel" "m" "[I" ∈ wsX12_canDo := by decide +kernel
section
variable {p : Program} {l : Launch} {e : Env} {s : State} {m : MethodId} {below : List Frame} {meth : Method} {c : Code} {N0 : Nat} {T : Nat → ClassId} {D : va_G} {gr : List (Nat × Nat)} {ad : Nat → Nat → Nat → Nat}
set_option maxRecDepth 100000 in
set_option maxHeartbeats 4000000 in
theorem w_X12_canDo {Y : Mem} {a1 : Int32} {a2 : Int32} {a3 : Int32} (C : Cx p s m [.ref (ad 10 0 0), .int a1, .int a2, .int a3].toArray meth c cX12_canDo 4 wsX12_canDo RX12 N0 T D gr ad) (hrt : meth.sig.returnType = (some .boolean)) (hG : ∀ q ∈ [(10, 0)], q ∈ gr) {res : Int32} (h : X12_canDo Y a1 a2 a3 = some res) : FW p l e (Rm 5) s m [.ref (ad 10 0 0), .int a1, .int a2, .int a3].toArray below meth c 4 N0 T D gr ad 0 0 (MQ below (va_Qi (fun r Y1 => r = res ∧ Y1 = Y) (WB T D gr ad) (fun q => N0 ≤ q)) [.ref (ad 10 0 0), .int a1, .int a2, .int a3].toArray s 0 0 (fun q => N0 ≤ q)) Y 0 [(0, .ref (ad 10 0 0)), (1, .int a1), (2, .int a2), (3, .int a3)] [] := by
  unfold X12_canDo at h
  refine fw_iload_n C dX12_canDo_0 rfl 1 rfl ?_
  by_cases c1 : a1 = 0
  · have h := ite_t c1 h
    refine fw_tableIn C dX12_canDo_1 (by rw [c1]; decide) (by rw [c1]; decide) (off := 43) (by rw [c1]; rfl) (tgt := 44) rfl ?_
    refine fw_iload_n C dX12_canDo_44 rfl 2 rfl ?_
    refine fw_iconst C dX12_canDo_45 (v := 1) rfl ?_
    refine fw_sipush C dX12_canDo_46 (v := 200) rfl ?_
    obtain ⟨r2, q3, h⟩ := bd1_some h
    refine fw_callSi C (As := [.int a2, .int 1, .int 200]) (c_X12_in ga0 q3) (va_cwS 3 (cx_ts C) gX12_canDo_X12_in rfl rfl rfl (by decide +kernel) ⟨Nat.le_of_ble_eq_true rfl, Nat.le_of_ble_eq_true rfl⟩) rfl (st := []) rfl (Nat.le_of_ble_eq_true rfl) ⟨Nat.le_refl 0, Nat.le_refl 0⟩ dX12_canDo_49 (pp2 ?_)
    refine fw_if_eq C dX12_canDo_52 (tgt := 73) rfl (fun c4 => ?_) (fun c4 => ?_)
    · have h := ite_t c4 h
      refine fw_iconst C dX12_canDo_73 (v := 0) rfl ?_
      exact fw_zret C hrt (by decide) Y ⟨Option.some.inj h, rfl⟩ (fun t ht => ht) dX12_canDo_74
    · have h := ite_f c4 h
      refine fw_aload_n C dX12_canDo_55 rfl 0 rfl ?_
      refine fw_get C (ci := 10) (Cn := RX12) (Tc := TX12) (N := 19) (j := 0) ly_X12_canDo_12 rfl (hG _ (List.mem_of_getElem? (i := 0) rfl)) (of10_0 _) (ce10 T ad _ _) (by decide) (cx_ts C _ fl_X12_canDo_13) (fun _ h => h) (v := .ref (ad 10 0 1)) rfl dX12_canDo_56 ?_
      refine fw_iconst C dX12_canDo_59 (v := 4) rfl ?_
      obtain ⟨b5, h⟩ := gd_some h
      refine fw_iald2 C (hG _ (List.mem_of_getElem? (i := 0) rfl)) (of10_1 _) (ca10_1 T ad _ _) b5 (Nat.le_of_ble_eq_true rfl) dX12_canDo_60 ?_
      refine fw_iload_n C dX12_canDo_61 rfl 2 rfl ?_
      refine fw_iadd C dX12_canDo_62 ?_
      refine fw_sipush C dX12_canDo_63 (v := 9999) rfl ?_
      refine fw_icmp_gt C dX12_canDo_66 (tgt := 73) rfl (fun c6 => ?_) (fun c6 => ?_)
      · have h := ite_t c6 h
        refine fw_iconst C dX12_canDo_73 (v := 0) rfl ?_
        exact fw_zret C hrt (by decide) Y ⟨Option.some.inj h, rfl⟩ (fun t ht => ht) dX12_canDo_74
      · have h := ite_f c6 h
        refine fw_iconst C dX12_canDo_69 (v := 1) rfl ?_
        refine fw_goto C dX12_canDo_70 (tgt := 74) rfl ?_
        exact fw_zret C hrt (by decide) Y ⟨Option.some.inj h, rfl⟩ (fun t ht => ht) dX12_canDo_74
  · have h := ite_f c1 h
    by_cases c7 : a1 = 1
    · have h := ite_t c7 h
      refine fw_tableIn C dX12_canDo_1 (by rw [c7]; decide) (by rw [c7]; decide) (off := 74) (by rw [c7]; rfl) (tgt := 75) rfl ?_
      refine fw_iload_n C dX12_canDo_75 rfl 2 rfl ?_
      refine fw_iconst C dX12_canDo_76 (v := 1) rfl ?_
      refine fw_bipush C dX12_canDo_77 (v := 9) rfl ?_
      obtain ⟨r8, q9, h⟩ := bd1_some h
      refine fw_callSi C (As := [.int a2, .int 1, .int 9]) (c_X12_in ga0 q9) (va_cwS 3 (cx_ts C) gX12_canDo_X12_in rfl rfl rfl (by decide +kernel) ⟨Nat.le_of_ble_eq_true rfl, Nat.le_of_ble_eq_true rfl⟩) rfl (st := []) rfl (Nat.le_of_ble_eq_true rfl) ⟨Nat.le_refl 0, Nat.le_refl 0⟩ dX12_canDo_79 (pp2 ?_)
      refine fw_if_eq C dX12_canDo_82 (tgt := 99) rfl (fun c10 => ?_) (fun c10 => ?_)
      · have h := ite_t c10 h
        refine fw_iconst C dX12_canDo_99 (v := 0) rfl ?_
        exact fw_zret C hrt (by decide) Y ⟨Option.some.inj h, rfl⟩ (fun t ht => ht) dX12_canDo_100
      · have h := ite_f c10 h
        refine fw_aload_n C dX12_canDo_85 rfl 0 rfl ?_
        refine fw_get C (ci := 10) (Cn := RX12) (Tc := TX12) (N := 19) (j := 0) ly_X12_canDo_12 rfl (hG _ (List.mem_of_getElem? (i := 0) rfl)) (of10_0 _) (ce10 T ad _ _) (by decide) (cx_ts C _ fl_X12_canDo_13) (fun _ h => h) (v := .ref (ad 10 0 1)) rfl dX12_canDo_86 ?_
        refine fw_bipush C dX12_canDo_89 (v := 6) rfl ?_
        obtain ⟨b11, h⟩ := gd_some h
        refine fw_iald2 C (hG _ (List.mem_of_getElem? (i := 0) rfl)) (of10_1 _) (ca10_1 T ad _ _) b11 (Nat.le_of_ble_eq_true rfl) dX12_canDo_91 ?_
        refine fw_if_ne C dX12_canDo_92 (tgt := 99) rfl (fun c12 => ?_) (fun c12 => ?_)
        · have h := ite_f c12 h
          refine fw_iconst C dX12_canDo_99 (v := 0) rfl ?_
          exact fw_zret C hrt (by decide) Y ⟨Option.some.inj h, rfl⟩ (fun t ht => ht) dX12_canDo_100
        · have h := ite_t c12 h
          refine fw_iconst C dX12_canDo_95 (v := 1) rfl ?_
          refine fw_goto C dX12_canDo_96 (tgt := 100) rfl ?_
          exact fw_zret C hrt (by decide) Y ⟨Option.some.inj h, rfl⟩ (fun t ht => ht) dX12_canDo_100
    · have h := ite_f c7 h
      by_cases c13 : a1 = 2
      · have h := ite_t c13 h
        refine fw_tableIn C dX12_canDo_1 (by rw [c13]; decide) (by rw [c13]; decide) (off := 74) (by rw [c13]; rfl) (tgt := 75) rfl ?_
        refine fw_iload_n C dX12_canDo_75 rfl 2 rfl ?_
        refine fw_iconst C dX12_canDo_76 (v := 1) rfl ?_
        refine fw_bipush C dX12_canDo_77 (v := 9) rfl ?_
        obtain ⟨r14, q15, h⟩ := bd1_some h
        refine fw_callSi C (As := [.int a2, .int 1, .int 9]) (c_X12_in ga0 q15) (va_cwS 3 (cx_ts C) gX12_canDo_X12_in rfl rfl rfl (by decide +kernel) ⟨Nat.le_of_ble_eq_true rfl, Nat.le_of_ble_eq_true rfl⟩) rfl (st := []) rfl (Nat.le_of_ble_eq_true rfl) ⟨Nat.le_refl 0, Nat.le_refl 0⟩ dX12_canDo_79 (pp2 ?_)
        refine fw_if_eq C dX12_canDo_82 (tgt := 99) rfl (fun c16 => ?_) (fun c16 => ?_)
        · have h := ite_t c16 h
          refine fw_iconst C dX12_canDo_99 (v := 0) rfl ?_
          exact fw_zret C hrt (by decide) Y ⟨Option.some.inj h, rfl⟩ (fun t ht => ht) dX12_canDo_100
        · have h := ite_f c16 h
          refine fw_aload_n C dX12_canDo_85 rfl 0 rfl ?_
          refine fw_get C (ci := 10) (Cn := RX12) (Tc := TX12) (N := 19) (j := 0) ly_X12_canDo_12 rfl (hG _ (List.mem_of_getElem? (i := 0) rfl)) (of10_0 _) (ce10 T ad _ _) (by decide) (cx_ts C _ fl_X12_canDo_13) (fun _ h => h) (v := .ref (ad 10 0 1)) rfl dX12_canDo_86 ?_
          refine fw_bipush C dX12_canDo_89 (v := 6) rfl ?_
          obtain ⟨b17, h⟩ := gd_some h
          refine fw_iald2 C (hG _ (List.mem_of_getElem? (i := 0) rfl)) (of10_1 _) (ca10_1 T ad _ _) b17 (Nat.le_of_ble_eq_true rfl) dX12_canDo_91 ?_
          refine fw_if_ne C dX12_canDo_92 (tgt := 99) rfl (fun c18 => ?_) (fun c18 => ?_)
          · have h := ite_f c18 h
            refine fw_iconst C dX12_canDo_99 (v := 0) rfl ?_
            exact fw_zret C hrt (by decide) Y ⟨Option.some.inj h, rfl⟩ (fun t ht => ht) dX12_canDo_100
          · have h := ite_t c18 h
            refine fw_iconst C dX12_canDo_95 (v := 1) rfl ?_
            refine fw_goto C dX12_canDo_96 (tgt := 100) rfl ?_
            exact fw_zret C hrt (by decide) Y ⟨Option.some.inj h, rfl⟩ (fun t ht => ht) dX12_canDo_100
      · have h := ite_f c13 h
        by_cases c19 : a1 = 3
        · have h := ite_t c19 h
          refine fw_tableIn C dX12_canDo_1 (by rw [c19]; decide) (by rw [c19]; decide) (off := 100) (by rw [c19]; rfl) (tgt := 101) rfl ?_
          refine fw_aload_n C dX12_canDo_101 rfl 0 rfl ?_
          refine fw_iload_n C dX12_canDo_102 rfl 2 rfl ?_
          refine fw_bipush C dX12_canDo_103 (v := 17) rfl ?_
          obtain ⟨r20, q21, h⟩ := bd1_some h
          refine fw_callVi C (ci := 10) (Cn := RX12) (Tc := TX12) (N := 19) (As := [.int a2, .int 17]) (c_X12_of (gac (hG _ (List.mem_of_getElem? (i := 0) rfl)) ga0) q21) (cwV 2 (cx_ts C) gX12_canDo_X12_of rfl rfl rfl (by decide +kernel) ⟨Nat.le_of_ble_eq_true rfl, Nat.le_of_ble_eq_true rfl⟩) rfl (hG _ (List.mem_of_getElem? (i := 0) rfl)) (of10_0 _) (ce10 T ad _ _) rfl (st := []) rfl (Nat.le_of_ble_eq_true rfl) ⟨Nat.le_refl 0, Nat.le_refl 0⟩ dX12_canDo_105 (pp2 ?_)
          refine fw_iconst C dX12_canDo_108 (v := 1) rfl ?_
          refine fw_icmp_ne C dX12_canDo_109 (tgt := 116) rfl (fun c22 => ?_) (fun c22 => ?_)
          · have h := ite_f c22 h
            refine fw_iconst C dX12_canDo_116 (v := 0) rfl ?_
            exact fw_zret C hrt (by decide) Y ⟨Option.some.inj h, rfl⟩ (fun t ht => ht) dX12_canDo_117
          · have h := ite_t c22 h
            refine fw_iconst C dX12_canDo_112 (v := 1) rfl ?_
            refine fw_goto C dX12_canDo_113 (tgt := 117) rfl ?_
            exact fw_zret C hrt (by decide) Y ⟨Option.some.inj h, rfl⟩ (fun t ht => ht) dX12_canDo_117
        · have h := ite_f c19 h
          by_cases c23 : a1 = 4
          · have h := ite_t c23 h
            refine fw_tableIn C dX12_canDo_1 (by rw [c23]; decide) (by rw [c23]; decide) (off := 117) (by rw [c23]; rfl) (tgt := 118) rfl ?_
            refine fw_aload_n C dX12_canDo_118 rfl 0 rfl ?_
            refine fw_iload_n C dX12_canDo_119 rfl 2 rfl ?_
            obtain ⟨r24, q25, h⟩ := bd1_some h
            refine fw_callVi C (ci := 10) (Cn := RX12) (Tc := TX12) (N := 19) (As := [.int a2]) (c_X12_canRedo (gac (hG _ (List.mem_of_getElem? (i := 0) rfl)) ga0) q25) (cwV 1 (cx_ts C) gX12_canDo_X12_canRedo rfl rfl rfl (by decide +kernel) ⟨Nat.le_of_ble_eq_true rfl, Nat.le_of_ble_eq_true rfl⟩) rfl (hG _ (List.mem_of_getElem? (i := 0) rfl)) (of10_0 _) (ce10 T ad _ _) rfl (st := []) rfl (Nat.le_of_ble_eq_true rfl) ⟨Nat.le_refl 0, Nat.le_refl 0⟩ dX12_canDo_120 (pp2 ?_)
            obtain ⟨b26, h⟩ := gd_some h
            exact fw_zret C hrt (of_decide_eq_true b26) Y ⟨Option.some.inj h, rfl⟩ (fun t ht => ht) dX12_canDo_123
          · have h := ite_f c23 h
            by_cases c27 : a1 = 5
            · have h := ite_t c27 h
              refine fw_tableIn C dX12_canDo_1 (by rw [c27]; decide) (by rw [c27]; decide) (off := 123) (by rw [c27]; rfl) (tgt := 124) rfl ?_
              refine fw_iload_n C dX12_canDo_124 rfl 2 rfl ?_
              refine fw_iconst C dX12_canDo_125 (v := 1) rfl ?_
              refine fw_iconst C dX12_canDo_126 (v := 4) rfl ?_
              obtain ⟨r28, q29, h⟩ := bd1_some h
              refine fw_callSi C (As := [.int a2, .int 1, .int 4]) (c_X12_in ga0 q29) (va_cwS 3 (cx_ts C) gX12_canDo_X12_in rfl rfl rfl (by decide +kernel) ⟨Nat.le_of_ble_eq_true rfl, Nat.le_of_ble_eq_true rfl⟩) rfl (st := []) rfl (Nat.le_of_ble_eq_true rfl) ⟨Nat.le_refl 0, Nat.le_refl 0⟩ dX12_canDo_127 (pp2 ?_)
              obtain ⟨b30, h⟩ := gd_some h
              exact fw_zret C hrt (of_decide_eq_true b30) Y ⟨Option.some.inj h, rfl⟩ (fun t ht => ht) dX12_canDo_130
            · have h := ite_f c27 h
              by_cases c31 : a1 = 6
              · have h := ite_t c31 h
                refine fw_tableIn C dX12_canDo_1 (by rw [c31]; decide) (by rw [c31]; decide) (off := 130) (by rw [c31]; rfl) (tgt := 131) rfl ?_
                refine fw_iload_n C dX12_canDo_131 rfl 3 rfl ?_
                refine fw_iconst C dX12_canDo_132 (v := 1) rfl ?_
                refine fw_bipush C dX12_canDo_133 (v := 60) rfl ?_
                obtain ⟨r32, q33, h⟩ := bd1_some h
                refine fw_callSi C (As := [.int a3, .int 1, .int 60]) (c_X12_in ga0 q33) (va_cwS 3 (cx_ts C) gX12_canDo_X12_in rfl rfl rfl (by decide +kernel) ⟨Nat.le_of_ble_eq_true rfl, Nat.le_of_ble_eq_true rfl⟩) rfl (st := []) rfl (Nat.le_of_ble_eq_true rfl) ⟨Nat.le_refl 0, Nat.le_refl 0⟩ dX12_canDo_135 (pp2 ?_)
                obtain ⟨b34, h⟩ := gd_some h
                exact fw_zret C hrt (of_decide_eq_true b34) Y ⟨Option.some.inj h, rfl⟩ (fun t ht => ht) dX12_canDo_138
              · have h := ite_f c31 h
                have c1 : ¬ (a1).toInt = 0 := fun q => c1 (Int32.toInt_inj.mp (by rw [q]; rfl))
                have c7 : ¬ (a1).toInt = 1 := fun q => c7 (Int32.toInt_inj.mp (by rw [q]; rfl))
                have c13 : ¬ (a1).toInt = 2 := fun q => c13 (Int32.toInt_inj.mp (by rw [q]; rfl))
                have c19 : ¬ (a1).toInt = 3 := fun q => c19 (Int32.toInt_inj.mp (by rw [q]; rfl))
                have c23 : ¬ (a1).toInt = 4 := fun q => c23 (Int32.toInt_inj.mp (by rw [q]; rfl))
                have c27 : ¬ (a1).toInt = 5 := fun q => c27 (Int32.toInt_inj.mp (by rw [q]; rfl))
                have c31 : ¬ (a1).toInt = 6 := fun q => c31 (Int32.toInt_inj.mp (by rw [q]; rfl))
                refine fw_tableOut C dX12_canDo_1 (by omega) (tgt := 139) rfl ?_
                refine fw_aload_n C dX12_canDo_139 rfl 0 rfl ?_
                obtain ⟨r35, q36, h⟩ := bd1_some h
                refine fw_callVi C (ci := 10) (Cn := RX12) (Tc := TX12) (N := 19) (As := []) (c_X12_servingReason (gac (hG _ (List.mem_of_getElem? (i := 0) rfl)) ga0) q36) (cwV 0 (cx_ts C) gX12_canDo_X12_servingReason rfl rfl rfl (by decide +kernel) ⟨Nat.le_of_ble_eq_true rfl, Nat.le_of_ble_eq_true rfl⟩) rfl (hG _ (List.mem_of_getElem? (i := 0) rfl)) (of10_0 _) (ce10 T ad _ _) rfl (st := []) rfl (Nat.le_of_ble_eq_true rfl) ⟨Nat.le_refl 0, Nat.le_refl 0⟩ dX12_canDo_140 (pp2 ?_)
                refine fw_if_ne C dX12_canDo_143 (tgt := 150) rfl (fun c37 => ?_) (fun c37 => ?_)
                · have h := ite_f c37 h
                  refine fw_iconst C dX12_canDo_150 (v := 0) rfl ?_
                  exact fw_zret C hrt (by decide) Y ⟨Option.some.inj h, rfl⟩ (fun t ht => ht) dX12_canDo_151
                · have h := ite_t c37 h
                  refine fw_iconst C dX12_canDo_146 (v := 1) rfl ?_
                  refine fw_goto C dX12_canDo_147 (tgt := 151) rfl ?_
                  exact fw_zret C hrt (by decide) Y ⟨Option.some.inj h, rfl⟩ (fun t ht => ht) dX12_canDo_151
end
set_option maxRecDepth 100000 in
set_option maxHeartbeats 4000000 in
theorem c_X12_canDo {l : Launch} {N0 : Nat} {T : Nat → ClassId} {D : va_G} {gr : List (Nat × Nat)} {ad : Nat → Nat → Nat → Nat} {Y : Mem} {a1 : Int32} {a2 : Int32} {a3 : Int32} {res : Int32} (hG : ∀ q ∈ [(10, 0)], q ∈ gr) (h : X12_canDo Y a1 a2 a3 = some res) : CI l yX12_canDo wsX12_canDo (Rm 5) N0 T D gr ad Y [.ref (ad 10 0 0), .int a1, .int a2, .int a3] (fun r Y1 => r = res ∧ Y1 = Y) :=
  fw_body (by decide +kernel) rfl (Nat.le_of_ble_eq_true rfl) (fun p e s m below meth c C hrt => w_X12_canDo C hrt hG  h)
section
variable {p : Program} {l : Launch} {e : Env} {s : State} {m : MethodId} {below : List Frame} {meth : Method} {c : Code} {N0 : Nat} {T : Nat → ClassId} {D : va_G} {gr : List (Nat × Nat)} {ad : Nat → Nat → Nat → Nat}
set_option maxRecDepth 100000 in
set_option maxHeartbeats 4000000 in
theorem w_X12_nameOf {Y : Mem} {a0 : Int32} (C : Cx p s m [.int a0].toArray meth c cX12_nameOf 1 wsX12_nameOf RX12 N0 T D gr ad) (hrt : meth.sig.returnType = (some (.object "java/lang/String"))) (hG : ∀ q ∈ [], q ∈ gr) {res : Nat} (h : X12_nameOf Y a0 = some res) : FW p l e (Rm 0) s m [.int a0].toArray below meth c 1 N0 T D gr ad 0 0 (MQ below (va_Qq (fun r Y1 => r = some (ad 21 res 0) ∧ Y1 = Y) (WB T D gr ad) (fun q => N0 ≤ q)) [.int a0].toArray s 0 0 (fun q => N0 ≤ q)) Y 0 [(0, .int a0)] [] := by
  unfold X12_nameOf at h
  refine fw_iload_n C dX12_nameOf_0 rfl 0 rfl ?_
  by_cases c1 : a0 = 0
  · have h := ite_t c1 h
    refine fw_tableIn C dX12_nameOf_1 (by rw [c1]; decide) (by rw [c1]; decide) (off := 43) (by rw [c1]; rfl) (tgt := 44) rfl ?_
    refine fw_ldcS C ((cx_st C).2.1 _ (List.mem_of_getElem? (i := 38) rfl)) dX12_nameOf_44 ?_
    exact fw_qret C hrt (r := some ((ad 21 8 0))) rfl Y ⟨by rw [← Option.some.inj h] <;> rfl, rfl⟩ (fun t ht => ht) dX12_nameOf_46
  · have h := ite_f c1 h
    by_cases c2 : a0 = 1
    · have h := ite_t c2 h
      refine fw_tableIn C dX12_nameOf_1 (by rw [c2]; decide) (by rw [c2]; decide) (off := 46) (by rw [c2]; rfl) (tgt := 47) rfl ?_
      refine fw_ldcS C ((cx_st C).2.1 _ (List.mem_of_getElem? (i := 39) rfl)) dX12_nameOf_47 ?_
      exact fw_qret C hrt (r := some ((ad 21 9 0))) rfl Y ⟨by rw [← Option.some.inj h] <;> rfl, rfl⟩ (fun t ht => ht) dX12_nameOf_49
    · have h := ite_f c2 h
      by_cases c3 : a0 = 2
      · have h := ite_t c3 h
        refine fw_tableIn C dX12_nameOf_1 (by rw [c3]; decide) (by rw [c3]; decide) (off := 49) (by rw [c3]; rfl) (tgt := 50) rfl ?_
        refine fw_ldcS C ((cx_st C).2.1 _ (List.mem_of_getElem? (i := 40) rfl)) dX12_nameOf_50 ?_
        exact fw_qret C hrt (r := some ((ad 21 10 0))) rfl Y ⟨by rw [← Option.some.inj h] <;> rfl, rfl⟩ (fun t ht => ht) dX12_nameOf_52
      · have h := ite_f c3 h
        by_cases c4 : a0 = 3
        · have h := ite_t c4 h
          refine fw_tableIn C dX12_nameOf_1 (by rw [c4]; decide) (by rw [c4]; decide) (off := 52) (by rw [c4]; rfl) (tgt := 53) rfl ?_
          refine fw_ldcS C ((cx_st C).2.1 _ (List.mem_of_getElem? (i := 41) rfl)) dX12_nameOf_53 ?_
          exact fw_qret C hrt (r := some ((ad 21 11 0))) rfl Y ⟨by rw [← Option.some.inj h] <;> rfl, rfl⟩ (fun t ht => ht) dX12_nameOf_55
        · have h := ite_f c4 h
          by_cases c5 : a0 = 4
          · have h := ite_t c5 h
            refine fw_tableIn C dX12_nameOf_1 (by rw [c5]; decide) (by rw [c5]; decide) (off := 55) (by rw [c5]; rfl) (tgt := 56) rfl ?_
            refine fw_ldcS C ((cx_st C).2.1 _ (List.mem_of_getElem? (i := 42) rfl)) dX12_nameOf_56 ?_
            exact fw_qret C hrt (r := some ((ad 21 12 0))) rfl Y ⟨by rw [← Option.some.inj h] <;> rfl, rfl⟩ (fun t ht => ht) dX12_nameOf_58
          · have h := ite_f c5 h
            by_cases c6 : a0 = 5
            · have h := ite_t c6 h
              refine fw_tableIn C dX12_nameOf_1 (by rw [c6]; decide) (by rw [c6]; decide) (off := 58) (by rw [c6]; rfl) (tgt := 59) rfl ?_
              refine fw_ldcS C ((cx_st C).2.1 _ (List.mem_of_getElem? (i := 43) rfl)) dX12_nameOf_59 ?_
              exact fw_qret C hrt (r := some ((ad 21 13 0))) rfl Y ⟨by rw [← Option.some.inj h] <;> rfl, rfl⟩ (fun t ht => ht) dX12_nameOf_61
            · have h := ite_f c6 h
              by_cases c7 : a0 = 6
              · have h := ite_t c7 h
                refine fw_tableIn C dX12_nameOf_1 (by rw [c7]; decide) (by rw [c7]; decide) (off := 61) (by rw [c7]; rfl) (tgt := 62) rfl ?_
                refine fw_ldcS C ((cx_st C).2.1 _ (List.mem_of_getElem? (i := 44) rfl)) dX12_nameOf_62 ?_
                exact fw_qret C hrt (r := some ((ad 21 14 0))) rfl Y ⟨by rw [← Option.some.inj h] <;> rfl, rfl⟩ (fun t ht => ht) dX12_nameOf_64
              · have h := ite_f c7 h
                have c1 : ¬ (a0).toInt = 0 := fun q => c1 (Int32.toInt_inj.mp (by rw [q]; rfl))
                have c2 : ¬ (a0).toInt = 1 := fun q => c2 (Int32.toInt_inj.mp (by rw [q]; rfl))
                have c3 : ¬ (a0).toInt = 2 := fun q => c3 (Int32.toInt_inj.mp (by rw [q]; rfl))
                have c4 : ¬ (a0).toInt = 3 := fun q => c4 (Int32.toInt_inj.mp (by rw [q]; rfl))
                have c5 : ¬ (a0).toInt = 4 := fun q => c5 (Int32.toInt_inj.mp (by rw [q]; rfl))
                have c6 : ¬ (a0).toInt = 5 := fun q => c6 (Int32.toInt_inj.mp (by rw [q]; rfl))
                have c7 : ¬ (a0).toInt = 6 := fun q => c7 (Int32.toInt_inj.mp (by rw [q]; rfl))
                refine fw_tableOut C dX12_nameOf_1 (by omega) (tgt := 65) rfl ?_
                refine fw_ldcS C ((cx_st C).2.1 _ (List.mem_of_getElem? (i := 45) rfl)) dX12_nameOf_65 ?_
                exact fw_qret C hrt (r := some ((ad 21 15 0))) rfl Y ⟨by rw [← Option.some.inj h] <;> rfl, rfl⟩ (fun t ht => ht) dX12_nameOf_67
end
set_option maxRecDepth 100000 in
set_option maxHeartbeats 4000000 in
theorem c_X12_nameOf {l : Launch} {N0 : Nat} {T : Nat → ClassId} {D : va_G} {gr : List (Nat × Nat)} {ad : Nat → Nat → Nat → Nat} {Y : Mem} {a0 : Int32} {res : Nat} (hG : ∀ q ∈ [], q ∈ gr) (h : X12_nameOf Y a0 = some res) : CQ l yX12_nameOf wsX12_nameOf (Rm 0) N0 T D gr ad Y [.int a0] (fun r Y1 => r = some (ad 21 res 0) ∧ Y1 = Y) :=
  fw_body (by decide +kernel) rfl (Nat.le_of_ble_eq_true rfl) (fun p e s m below meth c C hrt => w_X12_nameOf C hrt hG  h)
theorem fl_J0_coder_7d493_38 : Cond.fieldLink RJ0 38 "java/lang/String" "COMPACT_STRINGS" "Z" ∈ wsJ0_coder_7d493 := by decide +kernel
theorem fl_J0_coder_7d493_15 : Cond.fieldLink RJ0 15 "java/lang/String" "coder" "B" ∈ wsJ0_coder_7d493 := by decide +kernel
section
variable {p : Program} {l : Launch} {e : Env} {s : State} {m : MethodId} {below : List Frame} {meth : Method} {c : Code} {N0 : Nat} {T : Nat → ClassId} {D : va_G} {gr : List (Nat × Nat)} {ad : Nat → Nat → Nat → Nat}
set_option maxRecDepth 100000 in
set_option maxHeartbeats 4000000 in
theorem w_J0_coder_7d493 {Y : Mem} {w0 : Nat} (C : Cx p s m [.ref (ad 21 w0 0)].toArray meth c cJ0_coder_7d493 1 wsJ0_coder_7d493 RJ0 N0 T D gr ad) (hrt : meth.sig.returnType = (some .byte)) (hG : ∀ q ∈ [], q ∈ gr) {res : Int32} (h : J0_coder_7d493 Y w0 = some res) : FW p l e (Rm 0) s m [.ref (ad 21 w0 0)].toArray below meth c 1 N0 T D gr ad 0 0 (MQ below (va_Qi (fun r Y1 => r = res ∧ Y1 = Y) (WB T D gr ad) (fun q => N0 ≤ q)) [.ref (ad 21 w0 0)].toArray s 0 0 (fun q => N0 ≤ q)) Y 0 [(0, .ref (ad 21 w0 0))] [] := by
  unfold J0_coder_7d493 at h
  refine fw_gets C (v := .int 1) (cx_st C).2.2.2.2.2.1 (cx_ts C _ fl_J0_coder_7d493_38) (fun _ h => h) dJ0_coder_7d493_0 ?_
  refine fw_if_eq C dJ0_coder_7d493_3 (tgt := 13) rfl (fun c1 => ?_) (fun c1 => ?_)
  · exact absurd c1 (by decide)
  · refine fw_aload_n C dJ0_coder_7d493_6 rfl 0 rfl ?_
    obtain ⟨b2, h⟩ := gd_some h
    have b2 := of_decide_eq_true b2
    refine fw_getO C (v := .int 0) ((cx_st C).1 _ b2).2.1 (cx_ts C _ fl_J0_coder_7d493_15) (fun _ h => h) dJ0_coder_7d493_7 ?_
    refine fw_goto C dJ0_coder_7d493_10 (tgt := 14) rfl ?_
    exact fw_bret C hrt rfl Y ⟨Option.some.inj h, rfl⟩ (fun t ht => ht) dJ0_coder_7d493_14
end
set_option maxRecDepth 100000 in
set_option maxHeartbeats 4000000 in
theorem c_J0_coder_7d493 {l : Launch} {N0 : Nat} {T : Nat → ClassId} {D : va_G} {gr : List (Nat × Nat)} {ad : Nat → Nat → Nat → Nat} {Y : Mem} {w0 : Nat} {res : Int32} (hG : ∀ q ∈ [], q ∈ gr) (h : J0_coder_7d493 Y w0 = some res) : CI l yJ0_coder_7d493 wsJ0_coder_7d493 (Rm 0) N0 T D gr ad Y [.ref (ad 21 w0 0)] (fun r Y1 => r = res ∧ Y1 = Y) :=
  fw_body (by decide +kernel) rfl (Nat.le_of_ble_eq_true rfl) (fun p e s m below meth c C hrt => w_J0_coder_7d493 C hrt hG  h)
theorem fl_J0_length_8abf5_9 : Cond.fieldLink RJ0 9 "java/lang/String" "value" "[B" ∈ wsJ0_length_8abf5 := by decide +kernel
section
variable {p : Program} {l : Launch} {e : Env} {s : State} {m : MethodId} {below : List Frame} {meth : Method} {c : Code} {N0 : Nat} {T : Nat → ClassId} {D : va_G} {gr : List (Nat × Nat)} {ad : Nat → Nat → Nat → Nat}
set_option maxRecDepth 100000 in
set_option maxHeartbeats 4000000 in
theorem w_J0_length_8abf5 {Y : Mem} {w0 : Nat} (C : Cx p s m [.ref (ad 21 w0 0)].toArray meth c cJ0_length_8abf5 1 wsJ0_length_8abf5 RJ0 N0 T D gr ad) (hrt : meth.sig.returnType = (some .int)) (hG : ∀ q ∈ [], q ∈ gr) {res : Int32} (h : J0_length_8abf5 Y w0 = some res) : FW p l e (Rm 1) s m [.ref (ad 21 w0 0)].toArray below meth c 1 N0 T D gr ad 0 0 (MQ below (va_Qi (fun r Y1 => r = res ∧ Y1 = Y) (WB T D gr ad) (fun q => N0 ≤ q)) [.ref (ad 21 w0 0)].toArray s 0 0 (fun q => N0 ≤ q)) Y 0 [(0, .ref (ad 21 w0 0))] [] := by
  unfold J0_length_8abf5 at h
  refine fw_aload_n C dJ0_length_8abf5_0 rfl 0 rfl ?_
  obtain ⟨b1, h⟩ := gd_some h
  have b1 := of_decide_eq_true b1
  refine fw_getO C (v := .ref (ad 22 w0 0)) ((cx_st C).1 _ b1).2.2.1 (cx_ts C _ fl_J0_length_8abf5_9) (fun _ h => h) dJ0_length_8abf5_1 ?_
  refine fw_tlen C ((cx_st C).1 _ b1).2.2.2 (v := (Int32.ofNat (sByt w0).length)) rfl dJ0_length_8abf5_4 ?_
  refine fw_aload_n C dJ0_length_8abf5_5 rfl 0 rfl ?_
  obtain ⟨r2, q3, h⟩ := bd1_some h
  refine fw_callOi C (Cn := RJ0) (As := []) (c_J0_coder_7d493 ga0 q3) (cwV 0 (cx_ts C) gJ0_length_8abf5_J0_coder_7d493 rfl rfl rfl (by decide +kernel) ⟨Nat.le_of_ble_eq_true rfl, Nat.le_of_ble_eq_true rfl⟩) ((cx_st C).1 _ b1).1 rfl (st := [.int ((Int32.ofNat (sByt w0).length))]) rfl (Nat.le_of_ble_eq_true rfl) ⟨Nat.le_refl 0, Nat.le_refl 0⟩ dJ0_length_8abf5_6 (pp2 ?_)
  refine fw_ishr C dJ0_length_8abf5_9 ?_
  exact fw_iret C hrt Y ⟨Option.some.inj h, rfl⟩ (fun t ht => ht) dJ0_length_8abf5_10
end
set_option maxRecDepth 100000 in
set_option maxHeartbeats 4000000 in
theorem c_J0_length_8abf5 {l : Launch} {N0 : Nat} {T : Nat → ClassId} {D : va_G} {gr : List (Nat × Nat)} {ad : Nat → Nat → Nat → Nat} {Y : Mem} {w0 : Nat} {res : Int32} (hG : ∀ q ∈ [], q ∈ gr) (h : J0_length_8abf5 Y w0 = some res) : CI l yJ0_length_8abf5 wsJ0_length_8abf5 (Rm 1) N0 T D gr ad Y [.ref (ad 21 w0 0)] (fun r Y1 => r = res ∧ Y1 = Y) :=
  fw_body (by decide +kernel) rfl (Nat.le_of_ble_eq_true rfl) (fun p e s m below meth c C hrt => w_J0_length_8abf5 C hrt hG  h)
theorem fl_J0_isLatin1_aae02_38 : Cond.fieldLink RJ0 38 "java/lang/String" "COMPACT_STRINGS" "Z" ∈ wsJ0_isLatin1_aae02 := by decide +kernel
theorem fl_J0_isLatin1_aae02_15 : Cond.fieldLink RJ0 15 "java/lang/String" "coder" "B" ∈ wsJ0_isLatin1_aae02 := by decide +kernel
section
variable {p : Program} {l : Launch} {e : Env} {s : State} {m : MethodId} {below : List Frame} {meth : Method} {c : Code} {N0 : Nat} {T : Nat → ClassId} {D : va_G} {gr : List (Nat × Nat)} {ad : Nat → Nat → Nat → Nat}
set_option maxRecDepth 100000 in
set_option maxHeartbeats 4000000 in
theorem w_J0_isLatin1_aae02 {Y : Mem} {w0 : Nat} (C : Cx p s m [.ref (ad 21 w0 0)].toArray meth c cJ0_isLatin1_aae02 1 wsJ0_isLatin1_aae02 RJ0 N0 T D gr ad) (hrt : meth.sig.returnType = (some .boolean)) (hG : ∀ q ∈ [], q ∈ gr) {res : Int32} (h : J0_isLatin1_aae02 Y w0 = some res) : FW p l e (Rm 0) s m [.ref (ad 21 w0 0)].toArray below meth c 1 N0 T D gr ad 0 0 (MQ below (va_Qi (fun r Y1 => r = res ∧ Y1 = Y) (WB T D gr ad) (fun q => N0 ≤ q)) [.ref (ad 21 w0 0)].toArray s 0 0 (fun q => N0 ≤ q)) Y 0 [(0, .ref (ad 21 w0 0))] [] := by
  unfold J0_isLatin1_aae02 at h
  refine fw_gets C (v := .int 1) (cx_st C).2.2.2.2.2.1 (cx_ts C _ fl_J0_isLatin1_aae02_38) (fun _ h => h) dJ0_isLatin1_aae02_0 ?_
  refine fw_if_eq C dJ0_isLatin1_aae02_3 (tgt := 17) rfl (fun c1 => ?_) (fun c1 => ?_)
  · exact absurd c1 (by decide)
  · refine fw_aload_n C dJ0_isLatin1_aae02_6 rfl 0 rfl ?_
    obtain ⟨b2, h⟩ := gd_some h
    have b2 := of_decide_eq_true b2
    refine fw_getO C (v := .int 0) ((cx_st C).1 _ b2).2.1 (cx_ts C _ fl_J0_isLatin1_aae02_15) (fun _ h => h) dJ0_isLatin1_aae02_7 ?_
    refine fw_if_ne C dJ0_isLatin1_aae02_10 (tgt := 17) rfl (fun c3 => ?_) (fun c3 => ?_)
    · exact absurd c3 (by decide)
    · refine fw_iconst C dJ0_isLatin1_aae02_13 (v := 1) rfl ?_
      refine fw_goto C dJ0_isLatin1_aae02_14 (tgt := 18) rfl ?_
      exact fw_zret C hrt (by decide) Y ⟨Option.some.inj h, rfl⟩ (fun t ht => ht) dJ0_isLatin1_aae02_18
end
set_option maxRecDepth 100000 in
set_option maxHeartbeats 4000000 in
theorem c_J0_isLatin1_aae02 {l : Launch} {N0 : Nat} {T : Nat → ClassId} {D : va_G} {gr : List (Nat × Nat)} {ad : Nat → Nat → Nat → Nat} {Y : Mem} {w0 : Nat} {res : Int32} (hG : ∀ q ∈ [], q ∈ gr) (h : J0_isLatin1_aae02 Y w0 = some res) : CI l yJ0_isLatin1_aae02 wsJ0_isLatin1_aae02 (Rm 0) N0 T D gr ad Y [.ref (ad 21 w0 0)] (fun r Y1 => r = res ∧ Y1 = Y) :=
  fw_body (by decide +kernel) rfl (Nat.le_of_ble_eq_true rfl) (fun p e s m below meth c C hrt => w_J0_isLatin1_aae02 C hrt hG  h)
section
variable {p : Program} {l : Launch} {e : Env} {s : State} {m : MethodId} {below : List Frame} {meth : Method} {c : Code} {N0 : Nat} {T : Nat → ClassId} {D : va_G} {gr : List (Nat × Nat)} {ad : Nat → Nat → Nat → Nat}
set_option maxRecDepth 100000 in
set_option maxHeartbeats 4000000 in
theorem w_J3_checkIndex_8e157 {Y : Mem} {a0 : Int32} {a1 : Int32} {x2 : Nat} (C : Cx p s m [.int a0, .int a1, .ref x2].toArray meth c cJ3_checkIndex_8e157 3 wsJ3_checkIndex_8e157 RJ3 N0 T D gr ad) (hrt : meth.sig.returnType = (some .int)) (hG : ∀ q ∈ [], q ∈ gr) {res : Int32} (h : J3_checkIndex_8e157 Y a0 a1 = some res) : FW p l e (Rm 0) s m [.int a0, .int a1, .ref x2].toArray below meth c 3 N0 T D gr ad 0 0 (MQ below (va_Qi (fun r Y1 => r = res ∧ Y1 = Y) (WB T D gr ad) (fun q => N0 ≤ q)) [.int a0, .int a1, .ref x2].toArray s 0 0 (fun q => N0 ≤ q)) Y 0 [(0, .int a0), (1, .int a1), (2, .ref x2)] [] := by
  unfold J3_checkIndex_8e157 at h
  refine fw_iload_n C dJ3_checkIndex_8e157_0 rfl 0 rfl ?_
  refine fw_if_lt C dJ3_checkIndex_8e157_1 (tgt := 9) rfl (fun c1 => ?_) (fun c1 => ?_)
  · have h := ite_t c1 h
    cases h
  · have h := ite_f c1 h
    refine fw_iload_n C dJ3_checkIndex_8e157_4 rfl 0 rfl ?_
    refine fw_iload_n C dJ3_checkIndex_8e157_5 rfl 1 rfl ?_
    refine fw_icmp_lt C dJ3_checkIndex_8e157_6 (tgt := 16) rfl (fun c2 => ?_) (fun c2 => ?_)
    · have h := ite_t c2 h
      refine fw_iload_n C dJ3_checkIndex_8e157_16 rfl 0 rfl ?_
      exact fw_iret C hrt Y ⟨Option.some.inj h, rfl⟩ (fun t ht => ht) dJ3_checkIndex_8e157_17
    · have h := ite_f c2 h
      cases h
end
set_option maxRecDepth 100000 in
set_option maxHeartbeats 4000000 in
theorem c_J3_checkIndex_8e157 {l : Launch} {N0 : Nat} {T : Nat → ClassId} {D : va_G} {gr : List (Nat × Nat)} {ad : Nat → Nat → Nat → Nat} {Y : Mem} {a0 : Int32} {a1 : Int32} {x2 : Nat} {res : Int32} (hG : ∀ q ∈ [], q ∈ gr) (h : J3_checkIndex_8e157 Y a0 a1 = some res) : CI l yJ3_checkIndex_8e157 wsJ3_checkIndex_8e157 (Rm 0) N0 T D gr ad Y [.int a0, .int a1, .ref x2] (fun r Y1 => r = res ∧ Y1 = Y) :=
  fw_body (by decide +kernel) rfl (Nat.le_of_ble_eq_true rfl) (fun p e s m below meth c C hrt => w_J3_checkIndex_8e157 C hrt hG  h)
section
variable {p : Program} {l : Launch} {e : Env} {s : State} {m : MethodId} {below : List Frame} {meth : Method} {c : Code} {N0 : Nat} {T : Nat → ClassId} {D : va_G} {gr : List (Nat × Nat)} {ad : Nat → Nat → Nat → Nat}
set_option maxRecDepth 100000 in
set_option maxHeartbeats 4000000 in
theorem w_J3_checkIndex_8e157N {Y : Mem} {a0 : Int32} {a1 : Int32} (C : Cx p s m [.int a0, .int a1, .null].toArray meth c cJ3_checkIndex_8e157 3 wsJ3_checkIndex_8e157 RJ3 N0 T D gr ad) (hrt : meth.sig.returnType = (some .int)) (hG : ∀ q ∈ [], q ∈ gr) {res : Int32} (h : J3_checkIndex_8e157 Y a0 a1 = some res) : FW p l e (Rm 0) s m [.int a0, .int a1, .null].toArray below meth c 3 N0 T D gr ad 0 0 (MQ below (va_Qi (fun r Y1 => r = res ∧ Y1 = Y) (WB T D gr ad) (fun q => N0 ≤ q)) [.int a0, .int a1, .null].toArray s 0 0 (fun q => N0 ≤ q)) Y 0 [(0, .int a0), (1, .int a1), (2, .null)] [] := by
  unfold J3_checkIndex_8e157 at h
  refine fw_iload_n C dJ3_checkIndex_8e157_0 rfl 0 rfl ?_
  refine fw_if_lt C dJ3_checkIndex_8e157_1 (tgt := 9) rfl (fun c1 => ?_) (fun c1 => ?_)
  · have h := ite_t c1 h
    cases h
  · have h := ite_f c1 h
    refine fw_iload_n C dJ3_checkIndex_8e157_4 rfl 0 rfl ?_
    refine fw_iload_n C dJ3_checkIndex_8e157_5 rfl 1 rfl ?_
    refine fw_icmp_lt C dJ3_checkIndex_8e157_6 (tgt := 16) rfl (fun c2 => ?_) (fun c2 => ?_)
    · have h := ite_t c2 h
      refine fw_iload_n C dJ3_checkIndex_8e157_16 rfl 0 rfl ?_
      exact fw_iret C hrt Y ⟨Option.some.inj h, rfl⟩ (fun t ht => ht) dJ3_checkIndex_8e157_17
    · have h := ite_f c2 h
      cases h
end
set_option maxRecDepth 100000 in
set_option maxHeartbeats 4000000 in
theorem c_J3_checkIndex_8e157N {l : Launch} {N0 : Nat} {T : Nat → ClassId} {D : va_G} {gr : List (Nat × Nat)} {ad : Nat → Nat → Nat → Nat} {Y : Mem} {a0 : Int32} {a1 : Int32} {res : Int32} (hG : ∀ q ∈ [], q ∈ gr) (h : J3_checkIndex_8e157 Y a0 a1 = some res) : CI l yJ3_checkIndex_8e157 wsJ3_checkIndex_8e157 (Rm 0) N0 T D gr ad Y [.int a0, .int a1, .null] (fun r Y1 => r = res ∧ Y1 = Y) :=
  fw_body (by decide +kernel) rfl (Nat.le_of_ble_eq_true rfl) (fun p e s m below meth c C hrt => w_J3_checkIndex_8e157N C hrt hG  h)
theorem fl_J0_checkIndex_df160_1053 : Cond.fieldLink RJ0 1053 "jdk/internal/util/Preconditions" "SIOOBE_FORMATTER" "Ljava/util/function/BiFunction;" ∈ wsJ0_checkIndex_df160 := by decide +kernel
section
variable {p : Program} {l : Launch} {e : Env} {s : State} {m : MethodId} {below : List Frame} {meth : Method} {c : Code} {N0 : Nat} {T : Nat → ClassId} {D : va_G} {gr : List (Nat × Nat)} {ad : Nat → Nat → Nat → Nat}
set_option maxRecDepth 100000 in
set_option maxHeartbeats 4000000 in
theorem w_J0_checkIndex_df160 {Y : Mem} {a0 : Int32} {a1 : Int32} (C : Cx p s m [.int a0, .int a1].toArray meth c cJ0_checkIndex_df160 2 wsJ0_checkIndex_df160 RJ0 N0 T D gr ad) (hrt : meth.sig.returnType = none) (hG : ∀ q ∈ [], q ∈ gr) {res : Unit} (h : J0_checkIndex_df160 Y a0 a1 = some res) : FW p l e (Rm 1) s m [.int a0, .int a1].toArray below meth c 2 N0 T D gr ad 0 0 (MQ below (va_Qv (fun Y1 => Y1 = Y) (WB T D gr ad) (fun q => N0 ≤ q)) [.int a0, .int a1].toArray s 0 0 (fun q => N0 ≤ q)) Y 0 [(0, .int a0), (1, .int a1)] [] := by
  unfold J0_checkIndex_df160 at h
  refine fw_iload_n C dJ0_checkIndex_df160_0 rfl 0 rfl ?_
  refine fw_iload_n C dJ0_checkIndex_df160_1 rfl 1 rfl ?_
  refine fw_getsq2 C (cx_st C).2.2.2.2.2.2.1 (cx_ts C _ fl_J0_checkIndex_df160_1053) (fun _ h => h) dJ0_checkIndex_df160_2 ?_ (fun x9 => ?_)
  · obtain ⟨r1, q2, h⟩ := bd1_some h
    refine fw_callSi C (As := [.int a0, .int a1, .null]) (c_J3_checkIndex_8e157N ga0 q2) (va_cwS 3 (cx_ts C) gJ0_checkIndex_df160_J3_checkIndex_8e157 rfl rfl rfl (by decide +kernel) ⟨Nat.le_of_ble_eq_true rfl, Nat.le_of_ble_eq_true rfl⟩) rfl (st := []) rfl (Nat.le_of_ble_eq_true rfl) ⟨Nat.le_refl 0, Nat.le_refl 0⟩ dJ0_checkIndex_df160_5 (pp2 ?_)
    refine fw_pop C dJ0_checkIndex_df160_8 rfl ?_
    exact fw_vret C hrt Y rfl (fun t ht => ht) dJ0_checkIndex_df160_9
  · obtain ⟨r1, q2, h⟩ := bd1_some h
    refine fw_callSi C (As := [.int a0, .int a1, .ref x9]) (c_J3_checkIndex_8e157 ga0 q2) (va_cwS 3 (cx_ts C) gJ0_checkIndex_df160_J3_checkIndex_8e157 rfl rfl rfl (by decide +kernel) ⟨Nat.le_of_ble_eq_true rfl, Nat.le_of_ble_eq_true rfl⟩) rfl (st := []) rfl (Nat.le_of_ble_eq_true rfl) ⟨Nat.le_refl 0, Nat.le_refl 0⟩ dJ0_checkIndex_df160_5 (pp2 ?_)
    refine fw_pop C dJ0_checkIndex_df160_8 rfl ?_
    exact fw_vret C hrt Y rfl (fun t ht => ht) dJ0_checkIndex_df160_9
end
set_option maxRecDepth 100000 in
set_option maxHeartbeats 4000000 in
theorem c_J0_checkIndex_df160 {l : Launch} {N0 : Nat} {T : Nat → ClassId} {D : va_G} {gr : List (Nat × Nat)} {ad : Nat → Nat → Nat → Nat} {Y : Mem} {a0 : Int32} {a1 : Int32} {res : Unit} (hG : ∀ q ∈ [], q ∈ gr) (h : J0_checkIndex_df160 Y a0 a1 = some res) : CV l yJ0_checkIndex_df160 wsJ0_checkIndex_df160 (Rm 1) N0 T D gr ad Y [.int a0, .int a1] (fun Y1 => Y1 = Y) :=
  fw_body (by decide +kernel) rfl (Nat.le_of_ble_eq_true rfl) (fun p e s m below meth c C hrt => w_J0_checkIndex_df160 C hrt hG  h)
