section
variable {p : Program} {l : Launch} {e : Env} {s : State} {m : MethodId} {below : List Frame} {meth : Method} {c : Code} {N0 : Nat} {T : Nat → ClassId} {D : va_G} {gr : List (Nat × Nat)} {ad : Nat → Nat → Nat → Nat}
set_option maxRecDepth 100000 in
set_option maxHeartbeats 4000000 in
theorem w_X12_countWithStatus_b15 {a1 : Int32} (C : Cx p s m [.ref (ad 10 0 0), .int a1].toArray meth c cX12_countWithStatus 2 wsX12_countWithStatus RX12 N0 T D gr ad) (hrt : meth.sig.returnType = (some .int)) (hG : ∀ q ∈ [(10, 0)], q ∈ gr) {res : Int32 × Mem} (Y : Mem) (s0 : Int32) (h : X12_countWithStatus_b15 a1  Y s0 = some res) : FW p l e (Rm 2) s m [.ref (ad 10 0 0), .int a1].toArray below meth c 2 N0 T D gr ad 0 0 (MQ below (va_Qi (fun r Y1 => (r, Y1) = res) (WB T D gr ad) (fun q => N0 ≤ q)) [.ref (ad 10 0 0), .int a1].toArray s 0 0 (fun q => N0 ≤ q)) Y 15 [(0, .ref (ad 10 0 0)), (1, .int a1)] [.int s0, .ref (ad 10 0 0)] := by
  unfold X12_countWithStatus_b15 at h
  refine fw_iconst C dX12_countWithStatus_15 (v := 0) rfl ?_
  refine fw_iconst C dX12_countWithStatus_16 (v := 0) rfl ?_
  obtain ⟨r4, Y6, q5, h⟩ := bd2_some h
  refine fw_callVi C (ci := 10) (Cn := RX12) (Tc := TX12) (N := 19) (As := [.int s0, .int 0, .int 0]) (c_X12_fails (gac (hG _ (List.mem_of_getElem? (i := 0) rfl)) ga0) q5) (cwV 3 (cx_ts C) gX12_countWithStatus_X12_fails rfl rfl rfl (by decide +kernel) ⟨Nat.le_of_ble_eq_true rfl, Nat.le_of_ble_eq_true rfl⟩) rfl (hG _ (List.mem_of_getElem? (i := 0) rfl)) (of10_0 _) (ce10 T ad _ _) rfl (st := []) rfl (Nat.le_of_ble_eq_true rfl) ⟨Nat.le_refl 0, Nat.le_refl 0⟩ dX12_countWithStatus_17 (ppw ?_)
  refine fw_if_eq C dX12_countWithStatus_20 (tgt := 25) rfl (fun c7 => ?_) (fun c7 => ?_)
  · have h := ite_t c7 h
    refine fw_aload_n C dX12_countWithStatus_25 rfl 0 rfl ?_
    refine fw_iload_n C dX12_countWithStatus_26 rfl 1 rfl ?_
    obtain ⟨r8, q9, h⟩ := bd1_some h
    refine fw_callVi C (ci := 10) (Cn := RX12) (Tc := TX12) (N := 19) (As := [.int a1]) (c_X12_withStatus (gac (hG _ (List.mem_of_getElem? (i := 0) rfl)) ga0) q9) (cwV 1 (cx_ts C) gX12_countWithStatus_X12_withStatus rfl rfl rfl (by decide +kernel) ⟨Nat.le_of_ble_eq_true rfl, Nat.le_of_ble_eq_true rfl⟩) rfl (hG _ (List.mem_of_getElem? (i := 0) rfl)) (of10_0 _) (ce10 T ad _ _) rfl (st := []) rfl (Nat.le_of_ble_eq_true rfl) ⟨Nat.le_refl 0, Nat.le_refl 0⟩ dX12_countWithStatus_27 (pp2 ?_)
    exact fw_iret C hrt Y6 (Option.some.inj h) (fun t ht => ht) dX12_countWithStatus_30
  · have h := ite_f c7 h
    refine fw_iconst C dX12_countWithStatus_23 (v := 0) rfl ?_
    exact fw_iret C hrt Y6 (Option.some.inj h) (fun t ht => ht) dX12_countWithStatus_24
set_option maxRecDepth 100000 in
set_option maxHeartbeats 4000000 in
theorem w_X12_countWithStatus {Y : Mem} {a1 : Int32} (C : Cx p s m [.ref (ad 10 0 0), .int a1].toArray meth c cX12_countWithStatus 2 wsX12_countWithStatus RX12 N0 T D gr ad) (hrt : meth.sig.returnType = (some .int)) (hG : ∀ q ∈ [(10, 0)], q ∈ gr) {res : Int32 × Mem} (h : X12_countWithStatus Y a1 = some res) : FW p l e (Rm 2) s m [.ref (ad 10 0 0), .int a1].toArray below meth c 2 N0 T D gr ad 0 0 (MQ below (va_Qi (fun r Y1 => (r, Y1) = res) (WB T D gr ad) (fun q => N0 ≤ q)) [.ref (ad 10 0 0), .int a1].toArray s 0 0 (fun q => N0 ≤ q)) Y 0 [(0, .ref (ad 10 0 0)), (1, .int a1)] [] := by
  unfold X12_countWithStatus at h
  refine fw_aload_n C dX12_countWithStatus_0 rfl 0 rfl ?_
  refine fw_iload_n C dX12_countWithStatus_1 rfl 1 rfl ?_
  refine fw_iconst C dX12_countWithStatus_2 (v := 0) rfl ?_
  refine fw_iconst C dX12_countWithStatus_3 (v := 3) rfl ?_
  obtain ⟨r1, q2, h⟩ := bd1_some h
  refine fw_callSi C (As := [.int a1, .int 0, .int 3]) (c_X12_in ga0 q2) (va_cwS 3 (cx_ts C) gX12_countWithStatus_X12_in rfl rfl rfl (by decide +kernel) ⟨Nat.le_of_ble_eq_true rfl, Nat.le_of_ble_eq_true rfl⟩) rfl (st := [.ref (ad 10 0 0)]) rfl (Nat.le_of_ble_eq_true rfl) ⟨Nat.le_refl 0, Nat.le_refl 0⟩ dX12_countWithStatus_4 (pp2 ?_)
  refine fw_if_ne C dX12_countWithStatus_7 (tgt := 14) rfl (fun c3 => ?_) (fun c3 => ?_)
  · have h := ite_f c3 h
    refine fw_iconst C dX12_countWithStatus_14 (v := 0) rfl ?_
    exact w_X12_countWithStatus_b15 C hrt hG   _ _ h
  · have h := ite_t c3 h
    refine fw_iconst C dX12_countWithStatus_10 (v := 1) rfl ?_
    refine fw_goto C dX12_countWithStatus_11 (tgt := 15) rfl ?_
    exact w_X12_countWithStatus_b15 C hrt hG   _ _ h
end
set_option maxRecDepth 100000 in
set_option maxHeartbeats 4000000 in
theorem c_X12_countWithStatus {l : Launch} {N0 : Nat} {T : Nat → ClassId} {D : va_G} {gr : List (Nat × Nat)} {ad : Nat → Nat → Nat → Nat} {Y : Mem} {a1 : Int32} {res : Int32 × Mem} (hG : ∀ q ∈ [(10, 0)], q ∈ gr) (h : X12_countWithStatus Y a1 = some res) : CI l yX12_countWithStatus wsX12_countWithStatus (Rm 2) N0 T D gr ad Y [.ref (ad 10 0 0), .int a1] (fun r Y1 => (r, Y1) = res) :=
  fw_body (by decide +kernel) rfl (Nat.le_of_ble_eq_true rfl) (fun p e s m below meth c C hrt => w_X12_countWithStatus C hrt hG  h)
theorem ly_X12_criticalStep_12 : ∀ w ∈ u_ws RX12 TX12 19, w ∈ wsX12_criticalStep := by decide +kernel
theorem fl_X12_criticalStep_1 : Cond.fieldLink RX12 1 "RecipeSchedulerModel" "thrown" "I" ∈ wsX12_criticalStep := by decide +kernel
theorem fl_X12_criticalStep_13 : Cond.fieldLink RX12 13 "RecipeSchedulerModel" "m" "[I" ∈ wsX12_criticalStep := by decide +kernel
theorem fl_X12_criticalStep_42 : Cond.fieldLink RX12 42 "RecipeSchedulerModel" "paths" "[I" ∈ wsX12_criticalStep := by decide +kernel
section
variable {p : Program} {l : Launch} {e : Env} {s : State} {m : MethodId} {below : List Frame} {meth : Method} {c : Code} {N0 : Nat} {T : Nat → ClassId} {D : va_G} {gr : List (Nat × Nat)} {ad : Nat → Nat → Nat → Nat}
set_option maxRecDepth 100000 in
set_option maxHeartbeats 4000000 in
theorem w_X12_criticalStep_b89 {a1 : Int32} (C : Cx p s m [.ref (ad 10 0 0), .int a1].toArray meth c cX12_criticalStep 7 wsX12_criticalStep RX12 N0 T D gr ad) (hrt : meth.sig.returnType = (some .int)) (hG : ∀ q ∈ [(10, 0)], q ∈ gr) {res : Int32 × Mem} {k24 : Mem → Int32 → Int32 → Int32 → Int32 → Option (Int32 × Mem)} (hk24 : ∀ (Y : Mem) (l5 : Int32) (l4 : Int32) (l3 : Int32) (l2 : Int32), k24 Y l5 l4 l3 l2 = some res → FW p l e (Rm 3) s m [.ref (ad 10 0 0), .int a1].toArray below meth c 7 N0 T D gr ad 0 0 (MQ below (va_Qi (fun r Y1 => (r, Y1) = res) (WB T D gr ad) (fun q => N0 ≤ q)) [.ref (ad 10 0 0), .int a1].toArray s 0 0 (fun q => N0 ≤ q)) Y 24 [(5, .int l5), (4, .int l4), (3, .int l3), (2, .int l2), (0, .ref (ad 10 0 0)), (1, .int a1)] []) (Y : Mem) (l5 : Int32) (l4 : Int32) (l3 : Int32) (l2 : Int32) (h : X12_criticalStep_b89 a1 k24 Y l5 l4 l3 l2 = some res) : FW p l e (Rm 3) s m [.ref (ad 10 0 0), .int a1].toArray below meth c 7 N0 T D gr ad 0 0 (MQ below (va_Qi (fun r Y1 => (r, Y1) = res) (WB T D gr ad) (fun q => N0 ≤ q)) [.ref (ad 10 0 0), .int a1].toArray s 0 0 (fun q => N0 ≤ q)) Y 89 [(5, .int l5), (4, .int l4), (3, .int l3), (2, .int l2), (0, .ref (ad 10 0 0)), (1, .int a1)] [] := by
  unfold X12_criticalStep_b89 at h
  refine fw_iinc C dX12_criticalStep_89 (kk := 0) (v := l5 + 1) rfl rfl (by decide) (L' := [(5, .int (l5 + 1)), (4, .int l4), (3, .int l3), (2, .int l2), (0, .ref (ad 10 0 0)), (1, .int a1)]) rfl ?_
  refine fw_goto C dX12_criticalStep_92 (tgt := 24) rfl ?_
  exact hk24 _ _ _ _ _ h
set_option maxRecDepth 100000 in
set_option maxHeartbeats 4000000 in
theorem w_X12_criticalStep_b85 {a1 : Int32} (C : Cx p s m [.ref (ad 10 0 0), .int a1].toArray meth c cX12_criticalStep 7 wsX12_criticalStep RX12 N0 T D gr ad) (hrt : meth.sig.returnType = (some .int)) (hG : ∀ q ∈ [(10, 0)], q ∈ gr) {res : Int32 × Mem} {k24 : Mem → Int32 → Int32 → Int32 → Int32 → Option (Int32 × Mem)} (hk24 : ∀ (Y : Mem) (l5 : Int32) (l4 : Int32) (l3 : Int32) (l2 : Int32), k24 Y l5 l4 l3 l2 = some res → FW p l e (Rm 3) s m [.ref (ad 10 0 0), .int a1].toArray below meth c 7 N0 T D gr ad 0 0 (MQ below (va_Qi (fun r Y1 => (r, Y1) = res) (WB T D gr ad) (fun q => N0 ≤ q)) [.ref (ad 10 0 0), .int a1].toArray s 0 0 (fun q => N0 ≤ q)) Y 24 [(5, .int l5), (4, .int l4), (3, .int l3), (2, .int l2), (0, .ref (ad 10 0 0)), (1, .int a1)] []) (Y : Mem) (l5 : Int32) (l3 : Int32) (l2 : Int32) (h : X12_criticalStep_b85 a1 k24 Y l5 l3 l2 = some res) : FW p l e (Rm 3) s m [.ref (ad 10 0 0), .int a1].toArray below meth c 7 N0 T D gr ad 0 0 (MQ below (va_Qi (fun r Y1 => (r, Y1) = res) (WB T D gr ad) (fun q => N0 ≤ q)) [.ref (ad 10 0 0), .int a1].toArray s 0 0 (fun q => N0 ≤ q)) Y 85 [(5, .int l5), (3, .int l3), (2, .int l2), (0, .ref (ad 10 0 0)), (1, .int a1)] [] := by
  unfold X12_criticalStep_b85 at h
  refine fw_iload C dX12_criticalStep_85 0 rfl ?_
  refine fw_istore C dX12_criticalStep_87 (by decide) (L' := [(4, .int l5), (5, .int l5), (3, .int l3), (2, .int l2), (0, .ref (ad 10 0 0)), (1, .int a1)]) rfl ?_
  refine fw_sub [1, 0, 2, 3, 4, 5] (L' := [(5, .int l5), (4, .int l5), (3, .int l3), (2, .int l2), (0, .ref (ad 10 0 0)), (1, .int a1)]) rfl ?_
  exact w_X12_criticalStep_b89 C hrt hG  hk24 _ _ _ _ _ h
set_option maxRecDepth 100000 in
set_option maxHeartbeats 4000000 in
theorem w_X12_criticalStep_b55 {a1 : Int32} (C : Cx p s m [.ref (ad 10 0 0), .int a1].toArray meth c cX12_criticalStep 7 wsX12_criticalStep RX12 N0 T D gr ad) (hrt : meth.sig.returnType = (some .int)) (hG : ∀ q ∈ [(10, 0)], q ∈ gr) {res : Int32 × Mem} {k24 : Mem → Int32 → Int32 → Int32 → Int32 → Option (Int32 × Mem)} (hk24 : ∀ (Y : Mem) (l5 : Int32) (l4 : Int32) (l3 : Int32) (l2 : Int32), k24 Y l5 l4 l3 l2 = some res → FW p l e (Rm 3) s m [.ref (ad 10 0 0), .int a1].toArray below meth c 7 N0 T D gr ad 0 0 (MQ below (va_Qi (fun r Y1 => (r, Y1) = res) (WB T D gr ad) (fun q => N0 ≤ q)) [.ref (ad 10 0 0), .int a1].toArray s 0 0 (fun q => N0 ≤ q)) Y 24 [(5, .int l5), (4, .int l4), (3, .int l3), (2, .int l2), (0, .ref (ad 10 0 0)), (1, .int a1)] []) (Y : Mem) (l5 : Int32) (l4 : Int32) (l3 : Int32) (l2 : Int32) (s0 : Int32) (h : X12_criticalStep_b55 a1 k24 Y l5 l4 l3 l2 s0 = some res) : FW p l e (Rm 3) s m [.ref (ad 10 0 0), .int a1].toArray below meth c 7 N0 T D gr ad 0 0 (MQ below (va_Qi (fun r Y1 => (r, Y1) = res) (WB T D gr ad) (fun q => N0 ≤ q)) [.ref (ad 10 0 0), .int a1].toArray s 0 0 (fun q => N0 ≤ q)) Y 55 [(5, .int l5), (4, .int l4), (3, .int l3), (2, .int l2), (0, .ref (ad 10 0 0)), (1, .int a1)] [.int s0] := by
  unfold X12_criticalStep_b55 at h
  refine fw_istore C dX12_criticalStep_55 (by decide) (L' := [(6, .int s0), (5, .int l5), (4, .int l4), (3, .int l3), (2, .int l2), (0, .ref (ad 10 0 0)), (1, .int a1)]) rfl ?_
  refine fw_iload C dX12_criticalStep_57 0 rfl ?_
  refine fw_if_eq C dX12_criticalStep_59 (tgt := 89) rfl (fun c11 => ?_) (fun c11 => ?_)
  · have h := ite_t c11 h
    refine fw_sub [1, 2, 3, 4, 5, 6] (L' := [(5, .int l5), (4, .int l4), (3, .int l3), (2, .int l2), (0, .ref (ad 10 0 0)), (1, .int a1)]) rfl ?_
    exact w_X12_criticalStep_b89 C hrt hG  hk24 _ _ _ _ _ h
  · have h := ite_f c11 h
    refine fw_iload C dX12_criticalStep_62 2 rfl ?_
    refine fw_iconst C dX12_criticalStep_64 (v := (-1)) rfl ?_
    refine fw_icmp_eq C dX12_criticalStep_65 (tgt := 85) rfl (fun c12 => ?_) (fun c12 => ?_)
    · have h := ite_t c12 h
      refine fw_sub [1, 3, 4, 5, 6] (L' := [(5, .int l5), (3, .int l3), (2, .int l2), (0, .ref (ad 10 0 0)), (1, .int a1)]) rfl ?_
      exact w_X12_criticalStep_b85 C hrt hG  hk24 _ _ _ _ h
    · have h := ite_f c12 h
      refine fw_aload_n C dX12_criticalStep_68 rfl 5 rfl ?_
      refine fw_get C (ci := 10) (Cn := RX12) (Tc := TX12) (N := 19) (j := 10) ly_X12_criticalStep_12 rfl (hG _ (List.mem_of_getElem? (i := 0) rfl)) (of10_0 _) (ce10 T ad _ _) (by decide) (cx_ts C _ fl_X12_criticalStep_42) (fun _ h => h) (v := .ref (ad 10 0 5)) rfl dX12_criticalStep_69 ?_
      refine fw_iload C dX12_criticalStep_72 1 rfl ?_
      obtain ⟨b13, h⟩ := gd_some h
      refine fw_iald2 C (hG _ (List.mem_of_getElem? (i := 0) rfl)) (of10_5 _) (ca10_5 T ad _ _) b13 (Nat.le_of_ble_eq_true rfl) dX12_criticalStep_74 ?_
      refine fw_aload_n C dX12_criticalStep_75 rfl 5 rfl ?_
      refine fw_get C (ci := 10) (Cn := RX12) (Tc := TX12) (N := 19) (j := 10) ly_X12_criticalStep_12 rfl (hG _ (List.mem_of_getElem? (i := 0) rfl)) (of10_0 _) (ce10 T ad _ _) (by decide) (cx_ts C _ fl_X12_criticalStep_42) (fun _ h => h) (v := .ref (ad 10 0 5)) rfl dX12_criticalStep_76 ?_
      refine fw_iload C dX12_criticalStep_79 2 rfl ?_
      obtain ⟨b14, h⟩ := gd_some h
      refine fw_iald2 C (hG _ (List.mem_of_getElem? (i := 0) rfl)) (of10_5 _) (ca10_5 T ad _ _) b14 (Nat.le_of_ble_eq_true rfl) dX12_criticalStep_81 ?_
      refine fw_icmp_le C dX12_criticalStep_82 (tgt := 89) rfl (fun c15 => ?_) (fun c15 => ?_)
      · have h := ite_t c15 h
        refine fw_sub [1, 2, 3, 4, 5, 6] (L' := [(5, .int l5), (4, .int l4), (3, .int l3), (2, .int l2), (0, .ref (ad 10 0 0)), (1, .int a1)]) rfl ?_
        exact w_X12_criticalStep_b89 C hrt hG  hk24 _ _ _ _ _ h
      · have h := ite_f c15 h
        refine fw_sub [1, 3, 4, 5, 6] (L' := [(5, .int l5), (3, .int l3), (2, .int l2), (0, .ref (ad 10 0 0)), (1, .int a1)]) rfl ?_
        exact w_X12_criticalStep_b85 C hrt hG  hk24 _ _ _ _ h
set_option maxRecDepth 100000 in
set_option maxHeartbeats 4000000 in
theorem w_X12_criticalStep_b50 {a1 : Int32} (C : Cx p s m [.ref (ad 10 0 0), .int a1].toArray meth c cX12_criticalStep 7 wsX12_criticalStep RX12 N0 T D gr ad) (hrt : meth.sig.returnType = (some .int)) (hG : ∀ q ∈ [(10, 0)], q ∈ gr) {res : Int32 × Mem} {k24 : Mem → Int32 → Int32 → Int32 → Int32 → Option (Int32 × Mem)} (hk24 : ∀ (Y : Mem) (l5 : Int32) (l4 : Int32) (l3 : Int32) (l2 : Int32), k24 Y l5 l4 l3 l2 = some res → FW p l e (Rm 3) s m [.ref (ad 10 0 0), .int a1].toArray below meth c 7 N0 T D gr ad 0 0 (MQ below (va_Qi (fun r Y1 => (r, Y1) = res) (WB T D gr ad) (fun q => N0 ≤ q)) [.ref (ad 10 0 0), .int a1].toArray s 0 0 (fun q => N0 ≤ q)) Y 24 [(5, .int l5), (4, .int l4), (3, .int l3), (2, .int l2), (0, .ref (ad 10 0 0)), (1, .int a1)] []) (Y : Mem) (l5 : Int32) (l4 : Int32) (l3 : Int32) (l2 : Int32) (h : X12_criticalStep_b50 a1 k24 Y l5 l4 l3 l2 = some res) : FW p l e (Rm 3) s m [.ref (ad 10 0 0), .int a1].toArray below meth c 7 N0 T D gr ad 0 0 (MQ below (va_Qi (fun r Y1 => (r, Y1) = res) (WB T D gr ad) (fun q => N0 ≤ q)) [.ref (ad 10 0 0), .int a1].toArray s 0 0 (fun q => N0 ≤ q)) Y 50 [(5, .int l5), (4, .int l4), (3, .int l3), (2, .int l2), (0, .ref (ad 10 0 0)), (1, .int a1)] [] := by
  unfold X12_criticalStep_b50 at h
  refine fw_iconst C dX12_criticalStep_50 (v := 1) rfl ?_
  refine fw_goto C dX12_criticalStep_51 (tgt := 55) rfl ?_
  exact w_X12_criticalStep_b55 C hrt hG  hk24 _ _ _ _ _ _ h
set_option maxRecDepth 100000 in
set_option maxHeartbeats 4000000 in
theorem w_X12_criticalStep_b24 {a1 : Int32} (C : Cx p s m [.ref (ad 10 0 0), .int a1].toArray meth c cX12_criticalStep 7 wsX12_criticalStep RX12 N0 T D gr ad) (hrt : meth.sig.returnType = (some .int)) (hG : ∀ q ∈ [(10, 0)], q ∈ gr) {res : Int32 × Mem} {k13 : Mem → Int32 → Int32 → Option (Int32 × Mem)} (hk13 : ∀ (Y : Mem) (l3 : Int32) (l2 : Int32), k13 Y l3 l2 = some res → FW p l e (Rm 3) s m [.ref (ad 10 0 0), .int a1].toArray below meth c 7 N0 T D gr ad 0 0 (MQ below (va_Qi (fun r Y1 => (r, Y1) = res) (WB T D gr ad) (fun q => N0 ≤ q)) [.ref (ad 10 0 0), .int a1].toArray s 0 0 (fun q => N0 ≤ q)) Y 13 [(3, .int l3), (2, .int l2), (0, .ref (ad 10 0 0)), (1, .int a1)] []) : ∀ (n : Nat) (Y : Mem) (l5 : Int32) (l4 : Int32) (l3 : Int32) (l2 : Int32), X12_criticalStep_b24 a1 k13 n Y l5 l4 l3 l2 = some res → FW p l e (Rm 3) s m [.ref (ad 10 0 0), .int a1].toArray below meth c 7 N0 T D gr ad 0 0 (MQ below (va_Qi (fun r Y1 => (r, Y1) = res) (WB T D gr ad) (fun q => N0 ≤ q)) [.ref (ad 10 0 0), .int a1].toArray s 0 0 (fun q => N0 ≤ q)) Y 24 [(5, .int l5), (4, .int l4), (3, .int l3), (2, .int l2), (0, .ref (ad 10 0 0)), (1, .int a1)] [] := by
  intro n
  induction n with
  | zero =>
    intro Y l5 l4 l3 l2 h
    unfold X12_criticalStep_b24 at h
    cases h
  | succ n ih =>
    intro Y l5 l4 l3 l2 h
    unfold X12_criticalStep_b24 at h
    refine fw_iload C dX12_criticalStep_24 0 rfl ?_
    refine fw_aload_n C dX12_criticalStep_26 rfl 4 rfl ?_
    refine fw_get C (ci := 10) (Cn := RX12) (Tc := TX12) (N := 19) (j := 0) ly_X12_criticalStep_12 rfl (hG _ (List.mem_of_getElem? (i := 0) rfl)) (of10_0 _) (ce10 T ad _ _) (by decide) (cx_ts C _ fl_X12_criticalStep_13) (fun _ h => h) (v := .ref (ad 10 0 1)) rfl dX12_criticalStep_27 ?_
    refine fw_bipush C dX12_criticalStep_30 (v := 13) rfl ?_
    obtain ⟨b7, h⟩ := gd_some h
    refine fw_iald2 C (hG _ (List.mem_of_getElem? (i := 0) rfl)) (of10_1 _) (ca10_1 T ad _ _) b7 (Nat.le_of_ble_eq_true rfl) dX12_criticalStep_32 ?_
    refine fw_icmp_ge C dX12_criticalStep_33 (tgt := 95) rfl (fun c8 => ?_) (fun c8 => ?_)
    · have h := ite_t c8 h
      refine fw_iload C dX12_criticalStep_95 1 rfl ?_
      refine fw_iconst C dX12_criticalStep_97 (v := (-1)) rfl ?_
      refine fw_icmp_ne C dX12_criticalStep_98 (tgt := 103) rfl (fun c9 => ?_) (fun c9 => ?_)
      · have h := ite_f c9 h
        refine fw_iload C dX12_criticalStep_103 1 rfl ?_
        refine fw_istore_n C dX12_criticalStep_105 rfl (by decide) (L' := [(2, .int l4), (5, .int l5), (4, .int l4), (3, .int l3), (0, .ref (ad 10 0 0)), (1, .int a1)]) rfl ?_
        refine fw_iinc C dX12_criticalStep_106 (kk := 3) (v := l3 + 1) rfl rfl (by decide) (L' := [(3, .int (l3 + 1)), (2, .int l4), (5, .int l5), (4, .int l4), (0, .ref (ad 10 0 0)), (1, .int a1)]) rfl ?_
        refine fw_goto C dX12_criticalStep_109 (tgt := 13) rfl ?_
        refine fw_sub [0, 1, 4, 5] (L' := [(3, .int (l3 + 1)), (2, .int l4), (0, .ref (ad 10 0 0)), (1, .int a1)]) rfl ?_
        exact hk13 _ _ _ h
      · have h := ite_t c9 h
        refine fw_iconst C dX12_criticalStep_101 (v := (-1)) rfl ?_
        exact fw_iret C hrt Y (Option.some.inj h) (fun t ht => ht) dX12_criticalStep_102
    · have h := ite_f c8 h
      refine fw_iload_n C dX12_criticalStep_36 rfl 2 rfl ?_
      refine fw_if_eq C dX12_criticalStep_37 (tgt := 50) rfl (fun c10 => ?_) (fun c10 => ?_)
      · have h := ite_t c10 h
        exact w_X12_criticalStep_b50 C hrt hG  ih _ _ _ _ _ h
      · have h := ite_f c10 h
        refine fw_aload_n C dX12_criticalStep_40 rfl 4 rfl ?_
        refine fw_iload_n C dX12_criticalStep_41 rfl 3 rfl ?_
        refine fw_iload C dX12_criticalStep_42 0 rfl ?_
        obtain ⟨r16, q17, h⟩ := bd1_some h
        refine fw_callVi C (ci := 10) (Cn := RX12) (Tc := TX12) (N := 19) (As := [.int l2, .int l5]) (c_X12_isPredecessor (gac (hG _ (List.mem_of_getElem? (i := 0) rfl)) ga0) q17) (cwV 2 (cx_ts C) gX12_criticalStep_X12_isPredecessor rfl rfl rfl (by decide +kernel) ⟨Nat.le_of_ble_eq_true rfl, Nat.le_of_ble_eq_true rfl⟩) rfl (hG _ (List.mem_of_getElem? (i := 0) rfl)) (of10_0 _) (ce10 T ad _ _) rfl (st := []) rfl (Nat.le_of_ble_eq_true rfl) ⟨Nat.le_refl 0, Nat.le_refl 0⟩ dX12_criticalStep_44 (pp2 ?_)
        refine fw_if_eq C dX12_criticalStep_47 (tgt := 54) rfl (fun c18 => ?_) (fun c18 => ?_)
        · have h := ite_t c18 h
          refine fw_iconst C dX12_criticalStep_54 (v := 0) rfl ?_
          exact w_X12_criticalStep_b55 C hrt hG  ih _ _ _ _ _ _ h
        · have h := ite_f c18 h
          exact w_X12_criticalStep_b50 C hrt hG  ih _ _ _ _ _ h
set_option maxRecDepth 100000 in
set_option maxHeartbeats 4000000 in
theorem w_X12_criticalStep_b13 {a1 : Int32} (C : Cx p s m [.ref (ad 10 0 0), .int a1].toArray meth c cX12_criticalStep 7 wsX12_criticalStep RX12 N0 T D gr ad) (hrt : meth.sig.returnType = (some .int)) (hG : ∀ q ∈ [(10, 0)], q ∈ gr) {res : Int32 × Mem} : ∀ (n : Nat) (Y : Mem) (l3 : Int32) (l2 : Int32), X12_criticalStep_b13 a1  n Y l3 l2 = some res → FW p l e (Rm 3) s m [.ref (ad 10 0 0), .int a1].toArray below meth c 7 N0 T D gr ad 0 0 (MQ below (va_Qi (fun r Y1 => (r, Y1) = res) (WB T D gr ad) (fun q => N0 ≤ q)) [.ref (ad 10 0 0), .int a1].toArray s 0 0 (fun q => N0 ≤ q)) Y 13 [(3, .int l3), (2, .int l2), (0, .ref (ad 10 0 0)), (1, .int a1)] [] := by
  intro n
  induction n with
  | zero =>
    intro Y l3 l2 h
    unfold X12_criticalStep_b13 at h
    cases h
  | succ n ih =>
    intro Y l3 l2 h
    unfold X12_criticalStep_b13 at h
    refine fw_iload_n C dX12_criticalStep_13 rfl 0 rfl ?_
    refine fw_iload_n C dX12_criticalStep_14 rfl 3 rfl ?_
    refine fw_icmp_gt C dX12_criticalStep_15 (tgt := 112) rfl (fun c6 => ?_) (fun c6 => ?_)
    · have h := ite_t c6 h
      refine fw_iload_n C dX12_criticalStep_112 rfl 1 rfl ?_
      exact fw_iret C hrt Y (Option.some.inj h) (fun t ht => ht) dX12_criticalStep_113
    · have h := ite_f c6 h
      refine fw_iconst C dX12_criticalStep_18 (v := (-1)) rfl ?_
      refine fw_istore C dX12_criticalStep_19 (by decide) (L' := [(4, .int ((-1))), (3, .int l3), (2, .int l2), (0, .ref (ad 10 0 0)), (1, .int a1)]) rfl ?_
      refine fw_iconst C dX12_criticalStep_21 (v := 0) rfl ?_
      refine fw_istore C dX12_criticalStep_22 (by decide) (L' := [(5, .int 0), (4, .int ((-1))), (3, .int l3), (2, .int l2), (0, .ref (ad 10 0 0)), (1, .int a1)]) rfl ?_
      exact w_X12_criticalStep_b24 C hrt hG  ih _ _ _ _ _ _ h
set_option maxRecDepth 100000 in
set_option maxHeartbeats 4000000 in
theorem w_X12_criticalStep {Y : Mem} {a1 : Int32} (C : Cx p s m [.ref (ad 10 0 0), .int a1].toArray meth c cX12_criticalStep 7 wsX12_criticalStep RX12 N0 T D gr ad) (hrt : meth.sig.returnType = (some .int)) (hG : ∀ q ∈ [(10, 0)], q ∈ gr) {res : Int32 × Mem} (h : X12_criticalStep Y a1 = some res) : FW p l e (Rm 3) s m [.ref (ad 10 0 0), .int a1].toArray below meth c 7 N0 T D gr ad 0 0 (MQ below (va_Qi (fun r Y1 => (r, Y1) = res) (WB T D gr ad) (fun q => N0 ≤ q)) [.ref (ad 10 0 0), .int a1].toArray s 0 0 (fun q => N0 ≤ q)) Y 0 [(0, .ref (ad 10 0 0)), (1, .int a1)] [] := by
  unfold X12_criticalStep at h
  refine fw_aload_n C dX12_criticalStep_0 rfl 0 rfl ?_
  refine fw_iconst C dX12_criticalStep_1 (v := 0) rfl ?_
  obtain ⟨Y1, e2, h⟩ := lt_some h
  refine fw_put C (ci := 10) (Cn := RX12) (Tc := TX12) (N := 19) (j := 9) (ty := .int) (upd (Y 10 0 0) 9 0) ly_X12_criticalStep_12 rfl tyX12_ok nmX12 (hG _ (List.mem_of_getElem? (i := 0) rfl)) (of10_0 _) (ce10 T ad _ _) (by decide) (cx_ts C _ fl_X12_criticalStep_1) (fun _ h => h) rfl (by decide +kernel) rfl rfl (Nat.le_of_ble_eq_true rfl) (ce10_put9 T ad _ _ _) dX12_criticalStep_2 ?_
  refine fw_mem ((up_eq _ _ _ _ _ _).symm.trans e2) ?_
  refine fw_aload_n C dX12_criticalStep_5 rfl 0 rfl ?_
  obtain ⟨Y5, q4, h⟩ := bd1_some h
  refine fw_callVv C (ci := 10) (Cn := RX12) (Tc := TX12) (N := 19) (As := []) (c_X12_computePaths (gac (hG _ (List.mem_of_getElem? (i := 0) rfl)) ga0) q4) (cwV 0 (cx_ts C) gX12_criticalStep_X12_computePaths rfl rfl rfl (by decide +kernel) ⟨Nat.le_of_ble_eq_true rfl, Nat.le_of_ble_eq_true rfl⟩) rfl (hG _ (List.mem_of_getElem? (i := 0) rfl)) (of10_0 _) (ce10 T ad _ _) rfl (st := []) rfl (Nat.le_of_ble_eq_true rfl) ⟨Nat.le_refl 0, Nat.le_refl 0⟩ dX12_criticalStep_6 (ppv ?_)
  refine fw_iconst C dX12_criticalStep_9 (v := (-1)) rfl ?_
  refine fw_istore_n C dX12_criticalStep_10 rfl (by decide) (L' := [(2, .int ((-1))), (0, .ref (ad 10 0 0)), (1, .int a1)]) rfl ?_
  refine fw_iconst C dX12_criticalStep_11 (v := 0) rfl ?_
  refine fw_istore_n C dX12_criticalStep_12 rfl (by decide) (L' := [(3, .int 0), (2, .int ((-1))), (0, .ref (ad 10 0 0)), (1, .int a1)]) rfl ?_
  exact w_X12_criticalStep_b13 C hrt hG   _ _ _ _ h
end
set_option maxRecDepth 100000 in
set_option maxHeartbeats 4000000 in
theorem c_X12_criticalStep {l : Launch} {N0 : Nat} {T : Nat → ClassId} {D : va_G} {gr : List (Nat × Nat)} {ad : Nat → Nat → Nat → Nat} {Y : Mem} {a1 : Int32} {res : Int32 × Mem} (hG : ∀ q ∈ [(10, 0)], q ∈ gr) (h : X12_criticalStep Y a1 = some res) : CI l yX12_criticalStep wsX12_criticalStep (Rm 3) N0 T D gr ad Y [.ref (ad 10 0 0), .int a1] (fun r Y1 => (r, Y1) = res) :=
  fw_body (by decide +kernel) rfl (Nat.le_of_ble_eq_true rfl) (fun p e s m below meth c C hrt => w_X12_criticalStep C hrt hG  h)
theorem ly_X12_dependsOn_12 : ∀ w ∈ u_ws RX12 TX12 19, w ∈ wsX12_dependsOn := by decide +kernel
theorem fl_X12_dependsOn_13 : Cond.fieldLink RX12 13 "RecipeSchedulerModel" "m" "[I" ∈ wsX12_dependsOn := by decide +kernel
theorem fl_X12_dependsOn_48 : Cond.fieldLink RX12 48 "RecipeSchedulerModel" "isReached" "[Z" ∈ wsX12_dependsOn := by decide +kernel
section
variable {p : Program} {l : Launch} {e : Env} {s : State} {m : MethodId} {below : List Frame} {meth : Method} {c : Code} {N0 : Nat} {T : Nat → ClassId} {D : va_G} {gr : List (Nat × Nat)} {ad : Nat → Nat → Nat → Nat}
set_option maxRecDepth 100000 in
set_option maxHeartbeats 4000000 in
theorem w_X12_dependsOn_b117 {a1 : Int32} {a2 : Int32} (C : Cx p s m [.ref (ad 10 0 0), .int a1, .int a2].toArray meth c cX12_dependsOn 5 wsX12_dependsOn RX12 N0 T D gr ad) (hrt : meth.sig.returnType = (some .boolean)) (hG : ∀ q ∈ [(10, 0)], q ∈ gr) {res : Int32 × Mem} {k67 : Mem → Int32 → Option (Int32 × Mem)} (hk67 : ∀ (Y : Mem) (l3 : Int32), k67 Y l3 = some res → FW p l e (Rm 2) s m [.ref (ad 10 0 0), .int a1, .int a2].toArray below meth c 5 N0 T D gr ad 0 0 (MQ below (va_Qi (fun r Y1 => (r, Y1) = res) (WB T D gr ad) (fun q => N0 ≤ q)) [.ref (ad 10 0 0), .int a1, .int a2].toArray s 0 0 (fun q => N0 ≤ q)) Y 67 [(3, .int l3), (0, .ref (ad 10 0 0)), (1, .int a1), (2, .int a2)] []) (Y : Mem) (l3 : Int32) (h : X12_dependsOn_b117 a1 a2 k67 Y l3 = some res) : FW p l e (Rm 2) s m [.ref (ad 10 0 0), .int a1, .int a2].toArray below meth c 5 N0 T D gr ad 0 0 (MQ below (va_Qi (fun r Y1 => (r, Y1) = res) (WB T D gr ad) (fun q => N0 ≤ q)) [.ref (ad 10 0 0), .int a1, .int a2].toArray s 0 0 (fun q => N0 ≤ q)) Y 117 [(3, .int l3), (0, .ref (ad 10 0 0)), (1, .int a1), (2, .int a2)] [] := by
  unfold X12_dependsOn_b117 at h
  refine fw_iinc C dX12_dependsOn_117 (kk := 0) (v := l3 + (-1)) rfl rfl (by decide) (L' := [(3, .int (l3 + (-1))), (0, .ref (ad 10 0 0)), (1, .int a1), (2, .int a2)]) rfl ?_
  refine fw_goto C dX12_dependsOn_120 (tgt := 67) rfl ?_
  exact hk67 _ _ h
set_option maxRecDepth 100000 in
set_option maxHeartbeats 4000000 in
theorem w_X12_dependsOn_b74 {a1 : Int32} {a2 : Int32} (C : Cx p s m [.ref (ad 10 0 0), .int a1, .int a2].toArray meth c cX12_dependsOn 5 wsX12_dependsOn RX12 N0 T D gr ad) (hrt : meth.sig.returnType = (some .boolean)) (hG : ∀ q ∈ [(10, 0)], q ∈ gr) {res : Int32 × Mem} {k67 : Mem → Int32 → Option (Int32 × Mem)} (hk67 : ∀ (Y : Mem) (l3 : Int32), k67 Y l3 = some res → FW p l e (Rm 2) s m [.ref (ad 10 0 0), .int a1, .int a2].toArray below meth c 5 N0 T D gr ad 0 0 (MQ below (va_Qi (fun r Y1 => (r, Y1) = res) (WB T D gr ad) (fun q => N0 ≤ q)) [.ref (ad 10 0 0), .int a1, .int a2].toArray s 0 0 (fun q => N0 ≤ q)) Y 67 [(3, .int l3), (0, .ref (ad 10 0 0)), (1, .int a1), (2, .int a2)] []) : ∀ (n : Nat) (Y : Mem) (l4 : Int32) (l3 : Int32), X12_dependsOn_b74 a1 a2 k67 n Y l4 l3 = some res → FW p l e (Rm 2) s m [.ref (ad 10 0 0), .int a1, .int a2].toArray below meth c 5 N0 T D gr ad 0 0 (MQ below (va_Qi (fun r Y1 => (r, Y1) = res) (WB T D gr ad) (fun q => N0 ≤ q)) [.ref (ad 10 0 0), .int a1, .int a2].toArray s 0 0 (fun q => N0 ≤ q)) Y 74 [(4, .int l4), (3, .int l3), (0, .ref (ad 10 0 0)), (1, .int a1), (2, .int a2)] [] := by
  intro n
  induction n with
  | zero =>
    intro Y l4 l3 h
    unfold X12_dependsOn_b74 at h
    cases h
  | succ n ih =>
    intro Y l4 l3 h
    unfold X12_dependsOn_b74 at h
    refine fw_aload_n C dX12_dependsOn_74 rfl 2 rfl ?_
    refine fw_get C (ci := 10) (Cn := RX12) (Tc := TX12) (N := 19) (j := 12) ly_X12_dependsOn_12 rfl (hG _ (List.mem_of_getElem? (i := 0) rfl)) (of10_0 _) (ce10 T ad _ _) (by decide) (cx_ts C _ fl_X12_dependsOn_48) (fun _ h => h) (v := .ref (ad 10 0 7)) rfl dX12_dependsOn_75 ?_
    refine fw_iload_n C dX12_dependsOn_78 rfl 1 rfl ?_
    obtain ⟨b17, h⟩ := gd_some h
    refine fw_zald2 C (hG _ (List.mem_of_getElem? (i := 0) rfl)) (of10_7 _) (ca10_7 T ad _ _) b17 (Nat.le_of_ble_eq_true rfl) dX12_dependsOn_79 ?_
    refine fw_if_eq C dX12_dependsOn_80 (tgt := 117) rfl (fun c18 => ?_) (fun c18 => ?_)
    · have h := ite_t c18 h
      refine fw_sub [1, 2, 3, 4] (L' := [(3, .int l3), (0, .ref (ad 10 0 0)), (1, .int a1), (2, .int a2)]) rfl ?_
      exact w_X12_dependsOn_b117 C hrt hG  hk67 _ _ h
    · have h := ite_f c18 h
      refine fw_iload C dX12_dependsOn_83 0 rfl ?_
      refine fw_aload_n C dX12_dependsOn_85 rfl 2 rfl ?_
      refine fw_iload_n C dX12_dependsOn_86 rfl 1 rfl ?_
      refine fw_bipush C dX12_dependsOn_87 (v := 12) rfl ?_
      obtain ⟨r19, q20, h⟩ := bd1_some h
      refine fw_callVi C (ci := 10) (Cn := RX12) (Tc := TX12) (N := 19) (As := [.int l3, .int 12]) (c_X12_of (gac (hG _ (List.mem_of_getElem? (i := 0) rfl)) ga0) q20) (cwV 2 (cx_ts C) gX12_dependsOn_X12_of rfl rfl rfl (by decide +kernel) ⟨Nat.le_of_ble_eq_true rfl, Nat.le_of_ble_eq_true rfl⟩) rfl (hG _ (List.mem_of_getElem? (i := 0) rfl)) (of10_0 _) (ce10 T ad _ _) rfl (st := [.int l4]) rfl (Nat.le_of_ble_eq_true rfl) ⟨Nat.le_refl 0, Nat.le_refl 0⟩ dX12_dependsOn_89 (pp2 ?_)
      refine fw_icmp_ge C dX12_dependsOn_92 (tgt := 117) rfl (fun c21 => ?_) (fun c21 => ?_)
      · have h := ite_t c21 h
        refine fw_sub [1, 2, 3, 4] (L' := [(3, .int l3), (0, .ref (ad 10 0 0)), (1, .int a1), (2, .int a2)]) rfl ?_
        exact w_X12_dependsOn_b117 C hrt hG  hk67 _ _ h
      · have h := ite_f c21 h
        refine fw_aload_n C dX12_dependsOn_95 rfl 2 rfl ?_
        refine fw_get C (ci := 10) (Cn := RX12) (Tc := TX12) (N := 19) (j := 12) ly_X12_dependsOn_12 rfl (hG _ (List.mem_of_getElem? (i := 0) rfl)) (of10_0 _) (ce10 T ad _ _) (by decide) (cx_ts C _ fl_X12_dependsOn_48) (fun _ h => h) (v := .ref (ad 10 0 7)) rfl dX12_dependsOn_96 ?_
        refine fw_aload_n C dX12_dependsOn_99 rfl 2 rfl ?_
        refine fw_iload_n C dX12_dependsOn_100 rfl 1 rfl ?_
        refine fw_bipush C dX12_dependsOn_101 (v := 13) rfl ?_
        refine fw_iload C dX12_dependsOn_103 0 rfl ?_
        refine fw_iadd C dX12_dependsOn_105 ?_
        obtain ⟨r22, q23, h⟩ := bd1_some h
        refine fw_callVi C (ci := 10) (Cn := RX12) (Tc := TX12) (N := 19) (As := [.int l3, .int (13 + l4)]) (c_X12_of (gac (hG _ (List.mem_of_getElem? (i := 0) rfl)) ga0) q23) (cwV 2 (cx_ts C) gX12_dependsOn_X12_of rfl rfl rfl (by decide +kernel) ⟨Nat.le_of_ble_eq_true rfl, Nat.le_of_ble_eq_true rfl⟩) rfl (hG _ (List.mem_of_getElem? (i := 0) rfl)) (of10_0 _) (ce10 T ad _ _) rfl (st := [.ref (ad 10 0 7)]) rfl (Nat.le_of_ble_eq_true rfl) ⟨Nat.le_refl 0, Nat.le_refl 0⟩ dX12_dependsOn_106 (pp2 ?_)
        refine fw_iconst C dX12_dependsOn_109 (v := 1) rfl ?_
        obtain ⟨b24, h⟩ := gd_some h
        obtain ⟨Y25, e26, h⟩ := lt_some h
        refine fw_zast2 C (hG _ (List.mem_of_getElem? (i := 0) rfl)) (of10_7 _) (ca10_7 T ad _) b24 (Nat.le_of_ble_eq_true rfl) dX12_dependsOn_110 ?_
        refine fw_mem e26 ?_
        refine fw_iinc C dX12_dependsOn_111 (kk := 0) (v := l4 + 1) rfl rfl (by decide) (L' := [(4, .int (l4 + 1)), (3, .int l3), (0, .ref (ad 10 0 0)), (1, .int a1), (2, .int a2)]) rfl ?_
        refine fw_goto C dX12_dependsOn_114 (tgt := 74) rfl ?_
        exact ih _ _ _ h
set_option maxRecDepth 100000 in
set_option maxHeartbeats 4000000 in
theorem w_X12_dependsOn_b67 {a1 : Int32} {a2 : Int32} (C : Cx p s m [.ref (ad 10 0 0), .int a1, .int a2].toArray meth c cX12_dependsOn 5 wsX12_dependsOn RX12 N0 T D gr ad) (hrt : meth.sig.returnType = (some .boolean)) (hG : ∀ q ∈ [(10, 0)], q ∈ gr) {res : Int32 × Mem} : ∀ (n : Nat) (Y : Mem) (l3 : Int32), X12_dependsOn_b67 a1 a2  n Y l3 = some res → FW p l e (Rm 2) s m [.ref (ad 10 0 0), .int a1, .int a2].toArray below meth c 5 N0 T D gr ad 0 0 (MQ below (va_Qi (fun r Y1 => (r, Y1) = res) (WB T D gr ad) (fun q => N0 ≤ q)) [.ref (ad 10 0 0), .int a1, .int a2].toArray s 0 0 (fun q => N0 ≤ q)) Y 67 [(3, .int l3), (0, .ref (ad 10 0 0)), (1, .int a1), (2, .int a2)] [] := by
  intro n
  induction n with
  | zero =>
    intro Y l3 h
    unfold X12_dependsOn_b67 at h
    cases h
  | succ n ih =>
    intro Y l3 h
    unfold X12_dependsOn_b67 at h
    refine fw_iload_n C dX12_dependsOn_67 rfl 0 rfl ?_
    refine fw_if_lt C dX12_dependsOn_68 (tgt := 123) rfl (fun c13 => ?_) (fun c13 => ?_)
    · have h := ite_t c13 h
      refine fw_iload_n C dX12_dependsOn_123 rfl 2 rfl ?_
      refine fw_iload_n C dX12_dependsOn_124 rfl 3 rfl ?_
      refine fw_icmp_eq C dX12_dependsOn_125 (tgt := 141) rfl (fun c14 => ?_) (fun c14 => ?_)
      · have h := ite_t c14 h
        refine fw_iconst C dX12_dependsOn_141 (v := 0) rfl ?_
        exact fw_zret C hrt (by decide) Y (Option.some.inj h) (fun t ht => ht) dX12_dependsOn_142
      · have h := ite_f c14 h
        refine fw_aload_n C dX12_dependsOn_128 rfl 1 rfl ?_
        refine fw_get C (ci := 10) (Cn := RX12) (Tc := TX12) (N := 19) (j := 12) ly_X12_dependsOn_12 rfl (hG _ (List.mem_of_getElem? (i := 0) rfl)) (of10_0 _) (ce10 T ad _ _) (by decide) (cx_ts C _ fl_X12_dependsOn_48) (fun _ h => h) (v := .ref (ad 10 0 7)) rfl dX12_dependsOn_129 ?_
        refine fw_iload_n C dX12_dependsOn_132 rfl 3 rfl ?_
        obtain ⟨b15, h⟩ := gd_some h
        refine fw_zald2 C (hG _ (List.mem_of_getElem? (i := 0) rfl)) (of10_7 _) (ca10_7 T ad _ _) b15 (Nat.le_of_ble_eq_true rfl) dX12_dependsOn_133 ?_
        refine fw_if_eq C dX12_dependsOn_134 (tgt := 141) rfl (fun c16 => ?_) (fun c16 => ?_)
        · have h := ite_t c16 h
          refine fw_iconst C dX12_dependsOn_141 (v := 0) rfl ?_
          exact fw_zret C hrt (by decide) Y (Option.some.inj h) (fun t ht => ht) dX12_dependsOn_142
        · have h := ite_f c16 h
          refine fw_iconst C dX12_dependsOn_137 (v := 1) rfl ?_
          refine fw_goto C dX12_dependsOn_138 (tgt := 142) rfl ?_
          exact fw_zret C hrt (by decide) Y (Option.some.inj h) (fun t ht => ht) dX12_dependsOn_142
    · have h := ite_f c13 h
      refine fw_iconst C dX12_dependsOn_71 (v := 0) rfl ?_
      refine fw_istore C dX12_dependsOn_72 (by decide) (L' := [(4, .int 0), (3, .int l3), (0, .ref (ad 10 0 0)), (1, .int a1), (2, .int a2)]) rfl ?_
      exact w_X12_dependsOn_b74 C hrt hG  ih _ _ _ _ h
set_option maxRecDepth 100000 in
set_option maxHeartbeats 4000000 in
theorem w_X12_dependsOn_b34 {a1 : Int32} {a2 : Int32} (C : Cx p s m [.ref (ad 10 0 0), .int a1, .int a2].toArray meth c cX12_dependsOn 5 wsX12_dependsOn RX12 N0 T D gr ad) (hrt : meth.sig.returnType = (some .boolean)) (hG : ∀ q ∈ [(10, 0)], q ∈ gr) {res : Int32 × Mem} : ∀ (n : Nat) (Y : Mem) (l3 : Int32), X12_dependsOn_b34 a1 a2  n Y l3 = some res → FW p l e (Rm 2) s m [.ref (ad 10 0 0), .int a1, .int a2].toArray below meth c 5 N0 T D gr ad 0 0 (MQ below (va_Qi (fun r Y1 => (r, Y1) = res) (WB T D gr ad) (fun q => N0 ≤ q)) [.ref (ad 10 0 0), .int a1, .int a2].toArray s 0 0 (fun q => N0 ≤ q)) Y 34 [(3, .int l3), (0, .ref (ad 10 0 0)), (1, .int a1), (2, .int a2)] [] := by
  intro n
  induction n with
  | zero =>
    intro Y l3 h
    unfold X12_dependsOn_b34 at h
    cases h
  | succ n ih =>
    intro Y l3 h
    unfold X12_dependsOn_b34 at h
    refine fw_iload_n C dX12_dependsOn_34 rfl 0 rfl ?_
    refine fw_aload_n C dX12_dependsOn_35 rfl 1 rfl ?_
    refine fw_get C (ci := 10) (Cn := RX12) (Tc := TX12) (N := 19) (j := 0) ly_X12_dependsOn_12 rfl (hG _ (List.mem_of_getElem? (i := 0) rfl)) (of10_0 _) (ce10 T ad _ _) (by decide) (cx_ts C _ fl_X12_dependsOn_13) (fun _ h => h) (v := .ref (ad 10 0 1)) rfl dX12_dependsOn_36 ?_
    refine fw_bipush C dX12_dependsOn_39 (v := 13) rfl ?_
    obtain ⟨b8, h⟩ := gd_some h
    refine fw_iald2 C (hG _ (List.mem_of_getElem? (i := 0) rfl)) (of10_1 _) (ca10_1 T ad _ _) b8 (Nat.le_of_ble_eq_true rfl) dX12_dependsOn_41 ?_
    refine fw_icmp_ge C dX12_dependsOn_42 (tgt := 58) rfl (fun c9 => ?_) (fun c9 => ?_)
    · have h := ite_t c9 h
      refine fw_aload_n C dX12_dependsOn_58 rfl 1 rfl ?_
      refine fw_get C (ci := 10) (Cn := RX12) (Tc := TX12) (N := 19) (j := 12) ly_X12_dependsOn_12 rfl (hG _ (List.mem_of_getElem? (i := 0) rfl)) (of10_0 _) (ce10 T ad _ _) (by decide) (cx_ts C _ fl_X12_dependsOn_48) (fun _ h => h) (v := .ref (ad 10 0 7)) rfl dX12_dependsOn_59 ?_
      refine fw_iload_n C dX12_dependsOn_62 rfl 2 rfl ?_
      refine fw_iconst C dX12_dependsOn_63 (v := 1) rfl ?_
      obtain ⟨b10, h⟩ := gd_some h
      obtain ⟨Y11, e12, h⟩ := lt_some h
      refine fw_zast2 C (hG _ (List.mem_of_getElem? (i := 0) rfl)) (of10_7 _) (ca10_7 T ad _) b10 (Nat.le_of_ble_eq_true rfl) dX12_dependsOn_64 ?_
      refine fw_mem e12 ?_
      refine fw_iload_n C dX12_dependsOn_65 rfl 2 rfl ?_
      refine fw_istore_n C dX12_dependsOn_66 rfl (by decide) (L' := [(3, .int a1), (0, .ref (ad 10 0 0)), (1, .int a1), (2, .int a2)]) rfl ?_
      exact w_X12_dependsOn_b67 C hrt hG   _ _ _ h
    · have h := ite_f c9 h
      refine fw_aload_n C dX12_dependsOn_45 rfl 1 rfl ?_
      refine fw_get C (ci := 10) (Cn := RX12) (Tc := TX12) (N := 19) (j := 12) ly_X12_dependsOn_12 rfl (hG _ (List.mem_of_getElem? (i := 0) rfl)) (of10_0 _) (ce10 T ad _ _) (by decide) (cx_ts C _ fl_X12_dependsOn_48) (fun _ h => h) (v := .ref (ad 10 0 7)) rfl dX12_dependsOn_46 ?_
      refine fw_iload_n C dX12_dependsOn_49 rfl 0 rfl ?_
      refine fw_iconst C dX12_dependsOn_50 (v := 0) rfl ?_
      obtain ⟨b27, h⟩ := gd_some h
      obtain ⟨Y28, e29, h⟩ := lt_some h
      refine fw_zast2 C (hG _ (List.mem_of_getElem? (i := 0) rfl)) (of10_7 _) (ca10_7 T ad _) b27 (Nat.le_of_ble_eq_true rfl) dX12_dependsOn_51 ?_
      refine fw_mem e29 ?_
      refine fw_iinc C dX12_dependsOn_52 (kk := 0) (v := l3 + 1) rfl rfl (by decide) (L' := [(3, .int (l3 + 1)), (0, .ref (ad 10 0 0)), (1, .int a1), (2, .int a2)]) rfl ?_
      refine fw_goto C dX12_dependsOn_55 (tgt := 34) rfl ?_
      exact ih _ _ h
set_option maxRecDepth 100000 in
set_option maxHeartbeats 4000000 in
theorem w_X12_dependsOn_b22 {a1 : Int32} {a2 : Int32} (C : Cx p s m [.ref (ad 10 0 0), .int a1, .int a2].toArray meth c cX12_dependsOn 5 wsX12_dependsOn RX12 N0 T D gr ad) (hrt : meth.sig.returnType = (some .boolean)) (hG : ∀ q ∈ [(10, 0)], q ∈ gr) {res : Int32 × Mem} (Y : Mem) (s0 : Int32) (h : X12_dependsOn_b22 a1 a2  Y s0 = some res) : FW p l e (Rm 2) s m [.ref (ad 10 0 0), .int a1, .int a2].toArray below meth c 5 N0 T D gr ad 0 0 (MQ below (va_Qi (fun r Y1 => (r, Y1) = res) (WB T D gr ad) (fun q => N0 ≤ q)) [.ref (ad 10 0 0), .int a1, .int a2].toArray s 0 0 (fun q => N0 ≤ q)) Y 22 [(0, .ref (ad 10 0 0)), (1, .int a1), (2, .int a2)] [.int s0, .ref (ad 10 0 0)] := by
  unfold X12_dependsOn_b22 at h
  refine fw_iconst C dX12_dependsOn_22 (v := 0) rfl ?_
  refine fw_iconst C dX12_dependsOn_23 (v := 0) rfl ?_
  obtain ⟨r4, Y6, q5, h⟩ := bd2_some h
  refine fw_callVi C (ci := 10) (Cn := RX12) (Tc := TX12) (N := 19) (As := [.int s0, .int 0, .int 0]) (c_X12_fails (gac (hG _ (List.mem_of_getElem? (i := 0) rfl)) ga0) q5) (cwV 3 (cx_ts C) gX12_dependsOn_X12_fails rfl rfl rfl (by decide +kernel) ⟨Nat.le_of_ble_eq_true rfl, Nat.le_of_ble_eq_true rfl⟩) rfl (hG _ (List.mem_of_getElem? (i := 0) rfl)) (of10_0 _) (ce10 T ad _ _) rfl (st := []) rfl (Nat.le_of_ble_eq_true rfl) ⟨Nat.le_refl 0, Nat.le_refl 0⟩ dX12_dependsOn_24 (ppw ?_)
  refine fw_if_eq C dX12_dependsOn_27 (tgt := 32) rfl (fun c7 => ?_) (fun c7 => ?_)
  · have h := ite_t c7 h
    refine fw_iconst C dX12_dependsOn_32 (v := 0) rfl ?_
    refine fw_istore_n C dX12_dependsOn_33 rfl (by decide) (L' := [(3, .int 0), (0, .ref (ad 10 0 0)), (1, .int a1), (2, .int a2)]) rfl ?_
    exact w_X12_dependsOn_b34 C hrt hG   _ _ _ h
  · have h := ite_f c7 h
    refine fw_iconst C dX12_dependsOn_30 (v := 0) rfl ?_
    exact fw_zret C hrt (by decide) Y6 (Option.some.inj h) (fun t ht => ht) dX12_dependsOn_31
set_option maxRecDepth 100000 in
set_option maxHeartbeats 4000000 in
theorem w_X12_dependsOn_b17 {a1 : Int32} {a2 : Int32} (C : Cx p s m [.ref (ad 10 0 0), .int a1, .int a2].toArray meth c cX12_dependsOn 5 wsX12_dependsOn RX12 N0 T D gr ad) (hrt : meth.sig.returnType = (some .boolean)) (hG : ∀ q ∈ [(10, 0)], q ∈ gr) {res : Int32 × Mem} (Y : Mem) (h : X12_dependsOn_b17 a1 a2  Y = some res) : FW p l e (Rm 2) s m [.ref (ad 10 0 0), .int a1, .int a2].toArray below meth c 5 N0 T D gr ad 0 0 (MQ below (va_Qi (fun r Y1 => (r, Y1) = res) (WB T D gr ad) (fun q => N0 ≤ q)) [.ref (ad 10 0 0), .int a1, .int a2].toArray s 0 0 (fun q => N0 ≤ q)) Y 17 [(0, .ref (ad 10 0 0)), (1, .int a1), (2, .int a2)] [.ref (ad 10 0 0)] := by
  unfold X12_dependsOn_b17 at h
  refine fw_iconst C dX12_dependsOn_17 (v := 1) rfl ?_
  refine fw_goto C dX12_dependsOn_18 (tgt := 22) rfl ?_
  exact w_X12_dependsOn_b22 C hrt hG   _ _ h
set_option maxRecDepth 100000 in
set_option maxHeartbeats 4000000 in
theorem w_X12_dependsOn {Y : Mem} {a1 : Int32} {a2 : Int32} (C : Cx p s m [.ref (ad 10 0 0), .int a1, .int a2].toArray meth c cX12_dependsOn 5 wsX12_dependsOn RX12 N0 T D gr ad) (hrt : meth.sig.returnType = (some .boolean)) (hG : ∀ q ∈ [(10, 0)], q ∈ gr) {res : Int32 × Mem} (h : X12_dependsOn Y a1 a2 = some res) : FW p l e (Rm 2) s m [.ref (ad 10 0 0), .int a1, .int a2].toArray below meth c 5 N0 T D gr ad 0 0 (MQ below (va_Qi (fun r Y1 => (r, Y1) = res) (WB T D gr ad) (fun q => N0 ≤ q)) [.ref (ad 10 0 0), .int a1, .int a2].toArray s 0 0 (fun q => N0 ≤ q)) Y 0 [(0, .ref (ad 10 0 0)), (1, .int a1), (2, .int a2)] [] := by
  unfold X12_dependsOn at h
  refine fw_aload_n C dX12_dependsOn_0 rfl 0 rfl ?_
  refine fw_aload_n C dX12_dependsOn_1 rfl 0 rfl ?_
  refine fw_iload_n C dX12_dependsOn_2 rfl 1 rfl ?_
  obtain ⟨r1, q2, h⟩ := bd1_some h
  refine fw_callVi C (ci := 10) (Cn := RX12) (Tc := TX12) (N := 19) (As := [.int a1]) (c_X12_isStep (gac (hG _ (List.mem_of_getElem? (i := 0) rfl)) ga0) q2) (cwV 1 (cx_ts C) gX12_dependsOn_X12_isStep rfl rfl rfl (by decide +kernel) ⟨Nat.le_of_ble_eq_true rfl, Nat.le_of_ble_eq_true rfl⟩) rfl (hG _ (List.mem_of_getElem? (i := 0) rfl)) (of10_0 _) (ce10 T ad _ _) rfl (st := [.ref (ad 10 0 0)]) rfl (Nat.le_of_ble_eq_true rfl) ⟨Nat.le_refl 0, Nat.le_refl 0⟩ dX12_dependsOn_3 (pp2 ?_)
  refine fw_if_eq C dX12_dependsOn_6 (tgt := 17) rfl (fun c3 => ?_) (fun c3 => ?_)
  · have h := ite_t c3 h
    exact w_X12_dependsOn_b17 C hrt hG   _ h
  · have h := ite_f c3 h
    refine fw_aload_n C dX12_dependsOn_9 rfl 0 rfl ?_
    refine fw_iload_n C dX12_dependsOn_10 rfl 2 rfl ?_
    obtain ⟨r30, q31, h⟩ := bd1_some h
    refine fw_callVi C (ci := 10) (Cn := RX12) (Tc := TX12) (N := 19) (As := [.int a2]) (c_X12_isStep (gac (hG _ (List.mem_of_getElem? (i := 0) rfl)) ga0) q31) (cwV 1 (cx_ts C) gX12_dependsOn_X12_isStep rfl rfl rfl (by decide +kernel) ⟨Nat.le_of_ble_eq_true rfl, Nat.le_of_ble_eq_true rfl⟩) rfl (hG _ (List.mem_of_getElem? (i := 0) rfl)) (of10_0 _) (ce10 T ad _ _) rfl (st := [.ref (ad 10 0 0)]) rfl (Nat.le_of_ble_eq_true rfl) ⟨Nat.le_refl 0, Nat.le_refl 0⟩ dX12_dependsOn_11 (pp2 ?_)
    refine fw_if_ne C dX12_dependsOn_14 (tgt := 21) rfl (fun c32 => ?_) (fun c32 => ?_)
    · have h := ite_f c32 h
      refine fw_iconst C dX12_dependsOn_21 (v := 0) rfl ?_
      exact w_X12_dependsOn_b22 C hrt hG   _ _ h
    · have h := ite_t c32 h
      exact w_X12_dependsOn_b17 C hrt hG   _ h
end
set_option maxRecDepth 100000 in
set_option maxHeartbeats 4000000 in
theorem c_X12_dependsOn {l : Launch} {N0 : Nat} {T : Nat → ClassId} {D : va_G} {gr : List (Nat × Nat)} {ad : Nat → Nat → Nat → Nat} {Y : Mem} {a1 : Int32} {a2 : Int32} {res : Int32 × Mem} (hG : ∀ q ∈ [(10, 0)], q ∈ gr) (h : X12_dependsOn Y a1 a2 = some res) : CI l yX12_dependsOn wsX12_dependsOn (Rm 2) N0 T D gr ad Y [.ref (ad 10 0 0), .int a1, .int a2] (fun r Y1 => (r, Y1) = res) :=
  fw_body (by decide +kernel) rfl (Nat.le_of_ble_eq_true rfl) (fun p e s m below meth c C hrt => w_X12_dependsOn C hrt hG  h)
