theorem ly_X12_fewestCooks_12 : ∀ w ∈ u_ws RX12 TX12 19, w ∈ wsX12_fewestCooks := by decide +kernel
theorem fl_X12_fewestCooks_1 : Cond.fieldLink RX12 1 "RecipeSchedulerModel" "thrown" "I" ∈ wsX12_fewestCooks := by decide +kernel
section
variable {p : Program} {l : Launch} {e : Env} {s : State} {m : MethodId} {below : List Frame} {meth : Method} {c : Code} {N0 : Nat} {T : Nat → ClassId} {D : va_G} {gr : List (Nat × Nat)} {ad : Nat → Nat → Nat → Nat}
set_option maxRecDepth 100000 in
set_option maxHeartbeats 4000000 in
theorem w_X12_fewestCooks_b13  (C : Cx p s m [.ref (ad 10 0 0)].toArray meth c cX12_fewestCooks 3 wsX12_fewestCooks RX12 N0 T D gr ad) (hrt : meth.sig.returnType = (some .int)) (hG : ∀ q ∈ [(10, 0)], q ∈ gr) {res : Int32 × Mem} : ∀ (n : Nat) (Y : Mem) (l2 : Int32) (l1 : Int32), X12_fewestCooks_b13   n Y l2 l1 = some res → FW p l e (Rm 10) s m [.ref (ad 10 0 0)].toArray below meth c 3 N0 T D gr ad 0 0 (MQ below (va_Qi (fun r Y1 => (r, Y1) = res) (WB T D gr ad) (fun q => N0 ≤ q)) [.ref (ad 10 0 0)].toArray s 0 0 (fun q => N0 ≤ q)) Y 13 [(2, .int l2), (1, .int l1), (0, .ref (ad 10 0 0))] [] := by
  intro n
  induction n with
  | zero =>
    intro Y l2 l1 h
    unfold X12_fewestCooks_b13 at h
    cases h
  | succ n ih =>
    intro Y l2 l1 h
    unfold X12_fewestCooks_b13 at h
    refine fw_aload_n C dX12_fewestCooks_13 rfl 2 rfl ?_
    refine fw_iload_n C dX12_fewestCooks_14 rfl 0 rfl ?_
    obtain ⟨r6, Y8, q7, h⟩ := bd2_some h
    refine fw_callVi C (ci := 10) (Cn := RX12) (Tc := TX12) (N := 19) (As := [.int l2]) (c_X12_finishWith (gac (hG _ (List.mem_of_getElem? (i := 0) rfl)) ga0) q7) (cwV 1 (cx_ts C) gX12_fewestCooks_X12_finishWith rfl rfl rfl (by decide +kernel) ⟨Nat.le_of_ble_eq_true rfl, Nat.le_of_ble_eq_true rfl⟩) rfl (hG _ (List.mem_of_getElem? (i := 0) rfl)) (of10_0 _) (ce10 T ad _ _) rfl (st := []) rfl (Nat.le_of_ble_eq_true rfl) ⟨Nat.le_refl 0, Nat.le_refl 0⟩ dX12_fewestCooks_15 (ppw ?_)
    refine fw_iload_n C dX12_fewestCooks_18 rfl 1 rfl ?_
    refine fw_icmp_eq C dX12_fewestCooks_19 (tgt := 28) rfl (fun c9 => ?_) (fun c9 => ?_)
    · have h := ite_t c9 h
      refine fw_iload_n C dX12_fewestCooks_28 rfl 0 rfl ?_
      exact fw_iret C hrt Y8 (Option.some.inj h) (fun t ht => ht) dX12_fewestCooks_29
    · have h := ite_f c9 h
      refine fw_iinc C dX12_fewestCooks_22 (kk := 0) (v := l2 + 1) rfl rfl (by decide) (L' := [(2, .int (l2 + 1)), (1, .int l1), (0, .ref (ad 10 0 0))]) rfl ?_
      refine fw_goto C dX12_fewestCooks_25 (tgt := 13) rfl ?_
      exact ih _ _ _ h
set_option maxRecDepth 100000 in
set_option maxHeartbeats 4000000 in
theorem w_X12_fewestCooks {Y : Mem} (C : Cx p s m [.ref (ad 10 0 0)].toArray meth c cX12_fewestCooks 3 wsX12_fewestCooks RX12 N0 T D gr ad) (hrt : meth.sig.returnType = (some .int)) (hG : ∀ q ∈ [(10, 0)], q ∈ gr) {res : Int32 × Mem} (h : X12_fewestCooks Y = some res) : FW p l e (Rm 10) s m [.ref (ad 10 0 0)].toArray below meth c 3 N0 T D gr ad 0 0 (MQ below (va_Qi (fun r Y1 => (r, Y1) = res) (WB T D gr ad) (fun q => N0 ≤ q)) [.ref (ad 10 0 0)].toArray s 0 0 (fun q => N0 ≤ q)) Y 0 [(0, .ref (ad 10 0 0))] [] := by
  unfold X12_fewestCooks at h
  refine fw_aload_n C dX12_fewestCooks_0 rfl 0 rfl ?_
  refine fw_iconst C dX12_fewestCooks_1 (v := 0) rfl ?_
  obtain ⟨Y1, e2, h⟩ := lt_some h
  refine fw_put C (ci := 10) (Cn := RX12) (Tc := TX12) (N := 19) (j := 9) (ty := .int) (upd (Y 10 0 0) 9 0) ly_X12_fewestCooks_12 rfl tyX12_ok nmX12 (hG _ (List.mem_of_getElem? (i := 0) rfl)) (of10_0 _) (ce10 T ad _ _) (by decide) (cx_ts C _ fl_X12_fewestCooks_1) (fun _ h => h) rfl (by decide +kernel) rfl rfl (Nat.le_of_ble_eq_true rfl) (ce10_put9 T ad _ _ _) dX12_fewestCooks_2 ?_
  refine fw_mem ((up_eq _ _ _ _ _ _).symm.trans e2) ?_
  refine fw_aload_n C dX12_fewestCooks_5 rfl 0 rfl ?_
  refine fw_iconst C dX12_fewestCooks_6 (v := 4) rfl ?_
  obtain ⟨r3, Y5, q4, h⟩ := bd2_some h
  refine fw_callVi C (ci := 10) (Cn := RX12) (Tc := TX12) (N := 19) (As := [.int 4]) (c_X12_finishWith (gac (hG _ (List.mem_of_getElem? (i := 0) rfl)) ga0) q4) (cwV 1 (cx_ts C) gX12_fewestCooks_X12_finishWith rfl rfl rfl (by decide +kernel) ⟨Nat.le_of_ble_eq_true rfl, Nat.le_of_ble_eq_true rfl⟩) rfl (hG _ (List.mem_of_getElem? (i := 0) rfl)) (of10_0 _) (ce10 T ad _ _) rfl (st := []) rfl (Nat.le_of_ble_eq_true rfl) ⟨Nat.le_refl 0, Nat.le_refl 0⟩ dX12_fewestCooks_7 (ppw ?_)
  refine fw_istore_n C dX12_fewestCooks_10 rfl (by decide) (L' := [(1, .int r3), (0, .ref (ad 10 0 0))]) rfl ?_
  refine fw_iconst C dX12_fewestCooks_11 (v := 1) rfl ?_
  refine fw_istore_n C dX12_fewestCooks_12 rfl (by decide) (L' := [(2, .int 1), (1, .int r3), (0, .ref (ad 10 0 0))]) rfl ?_
  exact w_X12_fewestCooks_b13 C hrt hG   _ _ _ _ h
end
set_option maxRecDepth 100000 in
set_option maxHeartbeats 4000000 in
theorem c_X12_fewestCooks {l : Launch} {N0 : Nat} {T : Nat → ClassId} {D : va_G} {gr : List (Nat × Nat)} {ad : Nat → Nat → Nat → Nat} {Y : Mem} {res : Int32 × Mem} (hG : ∀ q ∈ [(10, 0)], q ∈ gr) (h : X12_fewestCooks Y = some res) : CI l yX12_fewestCooks wsX12_fewestCooks (Rm 10) N0 T D gr ad Y [.ref (ad 10 0 0)] (fun r Y1 => (r, Y1) = res) :=
  fw_body (by decide +kernel) rfl (Nat.le_of_ble_eq_true rfl) (fun p e s m below meth c C hrt => w_X12_fewestCooks C hrt hG  h)
theorem ly_X12_isNamed_12 : ∀ w ∈ u_ws RX12 TX12 19, w ∈ wsX12_isNamed := by decide +kernel
theorem fl_X12_isNamed_13 : Cond.fieldLink RX12 13 "RecipeSchedulerModel" "m" "[I" ∈ wsX12_isNamed := by decide +kernel
theorem fl_X12_isNamed_24 : Cond.fieldLink RX12 24 "RecipeSchedulerModel" "buffer" "[I" ∈ wsX12_isNamed := by decide +kernel
section
variable {p : Program} {l : Launch} {e : Env} {s : State} {m : MethodId} {below : List Frame} {meth : Method} {c : Code} {N0 : Nat} {T : Nat → ClassId} {D : va_G} {gr : List (Nat × Nat)} {ad : Nat → Nat → Nat → Nat}
set_option maxRecDepth 100000 in
set_option maxHeartbeats 4000000 in
theorem w_X12_isNamed_b15 {Y : Mem} {a1 : Int32} {a2 : Int32} {a3 : Int32} (C : Cx p s m [.ref (ad 10 0 0), .int a1, .int a2, .int a3].toArray meth c cX12_isNamed 5 wsX12_isNamed RX12 N0 T D gr ad) (hrt : meth.sig.returnType = (some .boolean)) (hG : ∀ q ∈ [(10, 0)], q ∈ gr) {res : Int32} : ∀ (n : Nat) (l4 : Int32), X12_isNamed_b15 Y a1 a2 a3  n l4 = some res → FW p l e (Rm 0) s m [.ref (ad 10 0 0), .int a1, .int a2, .int a3].toArray below meth c 5 N0 T D gr ad 0 0 (MQ below (va_Qi (fun r Y1 => r = res ∧ Y1 = Y) (WB T D gr ad) (fun q => N0 ≤ q)) [.ref (ad 10 0 0), .int a1, .int a2, .int a3].toArray s 0 0 (fun q => N0 ≤ q)) Y 15 [(4, .int l4), (0, .ref (ad 10 0 0)), (1, .int a1), (2, .int a2), (3, .int a3)] [] := by
  intro n
  induction n with
  | zero =>
    intro l4 h
    unfold X12_isNamed_b15 at h
    cases h
  | succ n ih =>
    intro l4 h
    unfold X12_isNamed_b15 at h
    refine fw_iload C dX12_isNamed_15 0 rfl ?_
    refine fw_iload_n C dX12_isNamed_17 rfl 4 rfl ?_
    refine fw_icmp_ge C dX12_isNamed_18 (tgt := 52) rfl (fun c3 => ?_) (fun c3 => ?_)
    · have h := ite_t c3 h
      refine fw_iconst C dX12_isNamed_52 (v := 1) rfl ?_
      exact fw_zret C hrt (by decide) Y ⟨Option.some.inj h, rfl⟩ (fun t ht => ht) dX12_isNamed_53
    · have h := ite_f c3 h
      refine fw_aload_n C dX12_isNamed_21 rfl 1 rfl ?_
      refine fw_get C (ci := 10) (Cn := RX12) (Tc := TX12) (N := 19) (j := 0) ly_X12_isNamed_12 rfl (hG _ (List.mem_of_getElem? (i := 0) rfl)) (of10_0 _) (ce10 T ad _ _) (by decide) (cx_ts C _ fl_X12_isNamed_13) (fun _ h => h) (v := .ref (ad 10 0 1)) rfl dX12_isNamed_22 ?_
      refine fw_iload_n C dX12_isNamed_25 rfl 2 rfl ?_
      refine fw_iconst C dX12_isNamed_26 (v := 1) rfl ?_
      refine fw_iadd C dX12_isNamed_27 ?_
      refine fw_iload C dX12_isNamed_28 0 rfl ?_
      refine fw_iadd C dX12_isNamed_30 ?_
      obtain ⟨b4, h⟩ := gd_some h
      refine fw_iald2 C (hG _ (List.mem_of_getElem? (i := 0) rfl)) (of10_1 _) (ca10_1 T ad _ _) b4 (Nat.le_of_ble_eq_true rfl) dX12_isNamed_31 ?_
      refine fw_aload_n C dX12_isNamed_32 rfl 1 rfl ?_
      refine fw_get C (ci := 10) (Cn := RX12) (Tc := TX12) (N := 19) (j := 3) ly_X12_isNamed_12 rfl (hG _ (List.mem_of_getElem? (i := 0) rfl)) (of10_0 _) (ce10 T ad _ _) (by decide) (cx_ts C _ fl_X12_isNamed_24) (fun _ h => h) (v := .ref (ad 10 0 3)) rfl dX12_isNamed_33 ?_
      refine fw_iload_n C dX12_isNamed_36 rfl 3 rfl ?_
      refine fw_iload C dX12_isNamed_37 0 rfl ?_
      refine fw_iadd C dX12_isNamed_39 ?_
      obtain ⟨b5, h⟩ := gd_some h
      refine fw_iald2 C (hG _ (List.mem_of_getElem? (i := 0) rfl)) (of10_3 _) (ca10_3 T ad _ _) b5 (Nat.le_of_ble_eq_true rfl) dX12_isNamed_40 ?_
      refine fw_icmp_eq C dX12_isNamed_41 (tgt := 46) rfl (fun c6 => ?_) (fun c6 => ?_)
      · have h := ite_t c6 h
        refine fw_iinc C dX12_isNamed_46 (kk := 0) (v := l4 + 1) rfl rfl (by decide) (L' := [(4, .int (l4 + 1)), (0, .ref (ad 10 0 0)), (1, .int a1), (2, .int a2), (3, .int a3)]) rfl ?_
        refine fw_goto C dX12_isNamed_49 (tgt := 15) rfl ?_
        exact ih _ h
      · have h := ite_f c6 h
        refine fw_iconst C dX12_isNamed_44 (v := 0) rfl ?_
        exact fw_zret C hrt (by decide) Y ⟨Option.some.inj h, rfl⟩ (fun t ht => ht) dX12_isNamed_45
set_option maxRecDepth 100000 in
set_option maxHeartbeats 4000000 in
theorem w_X12_isNamed {Y : Mem} {a1 : Int32} {a2 : Int32} {a3 : Int32} (C : Cx p s m [.ref (ad 10 0 0), .int a1, .int a2, .int a3].toArray meth c cX12_isNamed 5 wsX12_isNamed RX12 N0 T D gr ad) (hrt : meth.sig.returnType = (some .boolean)) (hG : ∀ q ∈ [(10, 0)], q ∈ gr) {res : Int32} (h : X12_isNamed Y a1 a2 a3 = some res) : FW p l e (Rm 0) s m [.ref (ad 10 0 0), .int a1, .int a2, .int a3].toArray below meth c 5 N0 T D gr ad 0 0 (MQ below (va_Qi (fun r Y1 => r = res ∧ Y1 = Y) (WB T D gr ad) (fun q => N0 ≤ q)) [.ref (ad 10 0 0), .int a1, .int a2, .int a3].toArray s 0 0 (fun q => N0 ≤ q)) Y 0 [(0, .ref (ad 10 0 0)), (1, .int a1), (2, .int a2), (3, .int a3)] [] := by
  unfold X12_isNamed at h
  refine fw_aload_n C dX12_isNamed_0 rfl 0 rfl ?_
  refine fw_get C (ci := 10) (Cn := RX12) (Tc := TX12) (N := 19) (j := 0) ly_X12_isNamed_12 rfl (hG _ (List.mem_of_getElem? (i := 0) rfl)) (of10_0 _) (ce10 T ad _ _) (by decide) (cx_ts C _ fl_X12_isNamed_13) (fun _ h => h) (v := .ref (ad 10 0 1)) rfl dX12_isNamed_1 ?_
  refine fw_iload_n C dX12_isNamed_4 rfl 1 rfl ?_
  obtain ⟨b1, h⟩ := gd_some h
  refine fw_iald2 C (hG _ (List.mem_of_getElem? (i := 0) rfl)) (of10_1 _) (ca10_1 T ad _ _) b1 (Nat.le_of_ble_eq_true rfl) dX12_isNamed_5 ?_
  refine fw_iload_n C dX12_isNamed_6 rfl 3 rfl ?_
  refine fw_icmp_eq C dX12_isNamed_7 (tgt := 12) rfl (fun c2 => ?_) (fun c2 => ?_)
  · have h := ite_t c2 h
    refine fw_iconst C dX12_isNamed_12 (v := 0) rfl ?_
    refine fw_istore C dX12_isNamed_13 (by decide) (L' := [(4, .int 0), (0, .ref (ad 10 0 0)), (1, .int a1), (2, .int a2), (3, .int a3)]) rfl ?_
    exact w_X12_isNamed_b15 C hrt hG   _ _ h
  · have h := ite_f c2 h
    refine fw_iconst C dX12_isNamed_10 (v := 0) rfl ?_
    exact fw_zret C hrt (by decide) Y ⟨Option.some.inj h, rfl⟩ (fun t ht => ht) dX12_isNamed_11
end
set_option maxRecDepth 100000 in
set_option maxHeartbeats 4000000 in
theorem c_X12_isNamed {l : Launch} {N0 : Nat} {T : Nat → ClassId} {D : va_G} {gr : List (Nat × Nat)} {ad : Nat → Nat → Nat → Nat} {Y : Mem} {a1 : Int32} {a2 : Int32} {a3 : Int32} {res : Int32} (hG : ∀ q ∈ [(10, 0)], q ∈ gr) (h : X12_isNamed Y a1 a2 a3 = some res) : CI l yX12_isNamed wsX12_isNamed (Rm 0) N0 T D gr ad Y [.ref (ad 10 0 0), .int a1, .int a2, .int a3] (fun r Y1 => r = res ∧ Y1 = Y) :=
  fw_body (by decide +kernel) rfl (Nat.le_of_ble_eq_true rfl) (fun p e s m below meth c C hrt => w_X12_isNamed C hrt hG  h)
theorem ly_X12_stepNamed_12 : ∀ w ∈ u_ws RX12 TX12 19, w ∈ wsX12_stepNamed := by decide +kernel
theorem fl_X12_stepNamed_13 : Cond.fieldLink RX12 13 "RecipeSchedulerModel" "m" "[I" ∈ wsX12_stepNamed := by decide +kernel
section
variable {p : Program} {l : Launch} {e : Env} {s : State} {m : MethodId} {below : List Frame} {meth : Method} {c : Code} {N0 : Nat} {T : Nat → ClassId} {D : va_G} {gr : List (Nat × Nat)} {ad : Nat → Nat → Nat → Nat}
set_option maxRecDepth 100000 in
set_option maxHeartbeats 4000000 in
theorem w_X12_stepNamed_b2 {Y : Mem} {a1 : Int32} {a2 : Int32} (C : Cx p s m [.ref (ad 10 0 0), .int a1, .int a2].toArray meth c cX12_stepNamed 4 wsX12_stepNamed RX12 N0 T D gr ad) (hrt : meth.sig.returnType = (some .int)) (hG : ∀ q ∈ [(10, 0)], q ∈ gr) {res : Int32} : ∀ (n : Nat) (l3 : Int32), X12_stepNamed_b2 Y a1 a2  n l3 = some res → FW p l e (Rm 1) s m [.ref (ad 10 0 0), .int a1, .int a2].toArray below meth c 4 N0 T D gr ad 0 0 (MQ below (va_Qi (fun r Y1 => r = res ∧ Y1 = Y) (WB T D gr ad) (fun q => N0 ≤ q)) [.ref (ad 10 0 0), .int a1, .int a2].toArray s 0 0 (fun q => N0 ≤ q)) Y 2 [(3, .int l3), (0, .ref (ad 10 0 0)), (1, .int a1), (2, .int a2)] [] := by
  intro n
  induction n with
  | zero =>
    intro l3 h
    unfold X12_stepNamed_b2 at h
    cases h
  | succ n ih =>
    intro l3 h
    unfold X12_stepNamed_b2 at h
    refine fw_iload_n C dX12_stepNamed_2 rfl 0 rfl ?_
    refine fw_aload_n C dX12_stepNamed_3 rfl 1 rfl ?_
    refine fw_get C (ci := 10) (Cn := RX12) (Tc := TX12) (N := 19) (j := 0) ly_X12_stepNamed_12 rfl (hG _ (List.mem_of_getElem? (i := 0) rfl)) (of10_0 _) (ce10 T ad _ _) (by decide) (cx_ts C _ fl_X12_stepNamed_13) (fun _ h => h) (v := .ref (ad 10 0 1)) rfl dX12_stepNamed_4 ?_
    refine fw_bipush C dX12_stepNamed_7 (v := 13) rfl ?_
    obtain ⟨b1, h⟩ := gd_some h
    refine fw_iald2 C (hG _ (List.mem_of_getElem? (i := 0) rfl)) (of10_1 _) (ca10_1 T ad _ _) b1 (Nat.le_of_ble_eq_true rfl) dX12_stepNamed_9 ?_
    refine fw_icmp_ge C dX12_stepNamed_10 (tgt := 37) rfl (fun c2 => ?_) (fun c2 => ?_)
    · have h := ite_t c2 h
      refine fw_iconst C dX12_stepNamed_37 (v := (-1)) rfl ?_
      exact fw_iret C hrt Y ⟨Option.some.inj h, rfl⟩ (fun t ht => ht) dX12_stepNamed_38
    · have h := ite_f c2 h
      refine fw_aload_n C dX12_stepNamed_13 rfl 1 rfl ?_
      refine fw_bipush C dX12_stepNamed_14 (v := 46) rfl ?_
      refine fw_iload_n C dX12_stepNamed_16 rfl 0 rfl ?_
      refine fw_bipush C dX12_stepNamed_17 (v := 24) rfl ?_
      refine fw_imul C dX12_stepNamed_19 ?_
      refine fw_iadd C dX12_stepNamed_20 ?_
      refine fw_iload_n C dX12_stepNamed_21 rfl 2 rfl ?_
      refine fw_iload_n C dX12_stepNamed_22 rfl 3 rfl ?_
      obtain ⟨r3, q4, h⟩ := bd1_some h
      refine fw_callVi C (ci := 10) (Cn := RX12) (Tc := TX12) (N := 19) (As := [.int (46 + (l3 * 24)), .int a1, .int a2]) (c_X12_isNamed (gac (hG _ (List.mem_of_getElem? (i := 0) rfl)) ga0) q4) (cwV 3 (cx_ts C) gX12_stepNamed_X12_isNamed rfl rfl rfl (by decide +kernel) ⟨Nat.le_of_ble_eq_true rfl, Nat.le_of_ble_eq_true rfl⟩) rfl (hG _ (List.mem_of_getElem? (i := 0) rfl)) (of10_0 _) (ce10 T ad _ _) rfl (st := []) rfl (Nat.le_of_ble_eq_true rfl) ⟨Nat.le_refl 0, Nat.le_refl 0⟩ dX12_stepNamed_23 (pp2 ?_)
      refine fw_if_eq C dX12_stepNamed_26 (tgt := 31) rfl (fun c5 => ?_) (fun c5 => ?_)
      · have h := ite_t c5 h
        refine fw_iinc C dX12_stepNamed_31 (kk := 0) (v := l3 + 1) rfl rfl (by decide) (L' := [(3, .int (l3 + 1)), (0, .ref (ad 10 0 0)), (1, .int a1), (2, .int a2)]) rfl ?_
        refine fw_goto C dX12_stepNamed_34 (tgt := 2) rfl ?_
        exact ih _ h
      · have h := ite_f c5 h
        refine fw_iload_n C dX12_stepNamed_29 rfl 0 rfl ?_
        exact fw_iret C hrt Y ⟨Option.some.inj h, rfl⟩ (fun t ht => ht) dX12_stepNamed_30
set_option maxRecDepth 100000 in
set_option maxHeartbeats 4000000 in
theorem w_X12_stepNamed {Y : Mem} {a1 : Int32} {a2 : Int32} (C : Cx p s m [.ref (ad 10 0 0), .int a1, .int a2].toArray meth c cX12_stepNamed 4 wsX12_stepNamed RX12 N0 T D gr ad) (hrt : meth.sig.returnType = (some .int)) (hG : ∀ q ∈ [(10, 0)], q ∈ gr) {res : Int32} (h : X12_stepNamed Y a1 a2 = some res) : FW p l e (Rm 1) s m [.ref (ad 10 0 0), .int a1, .int a2].toArray below meth c 4 N0 T D gr ad 0 0 (MQ below (va_Qi (fun r Y1 => r = res ∧ Y1 = Y) (WB T D gr ad) (fun q => N0 ≤ q)) [.ref (ad 10 0 0), .int a1, .int a2].toArray s 0 0 (fun q => N0 ≤ q)) Y 0 [(0, .ref (ad 10 0 0)), (1, .int a1), (2, .int a2)] [] := by
  unfold X12_stepNamed at h
  refine fw_iconst C dX12_stepNamed_0 (v := 0) rfl ?_
  refine fw_istore_n C dX12_stepNamed_1 rfl (by decide) (L' := [(3, .int 0), (0, .ref (ad 10 0 0)), (1, .int a1), (2, .int a2)]) rfl ?_
  exact w_X12_stepNamed_b2 C hrt hG   _ _ h
end
set_option maxRecDepth 100000 in
set_option maxHeartbeats 4000000 in
theorem c_X12_stepNamed {l : Launch} {N0 : Nat} {T : Nat → ClassId} {D : va_G} {gr : List (Nat × Nat)} {ad : Nat → Nat → Nat → Nat} {Y : Mem} {a1 : Int32} {a2 : Int32} {res : Int32} (hG : ∀ q ∈ [(10, 0)], q ∈ gr) (h : X12_stepNamed Y a1 a2 = some res) : CI l yX12_stepNamed wsX12_stepNamed (Rm 1) N0 T D gr ad Y [.ref (ad 10 0 0), .int a1, .int a2] (fun r Y1 => r = res ∧ Y1 = Y) :=
  fw_body (by decide +kernel) rfl (Nat.le_of_ble_eq_true rfl) (fun p e s m below meth c C hrt => w_X12_stepNamed C hrt hG  h)
theorem ly_X12_findStep_12 : ∀ w ∈ u_ws RX12 TX12 19, w ∈ wsX12_findStep := by decide +kernel
theorem fl_X12_findStep_27 : Cond.fieldLink RX12 27 "RecipeSchedulerModel" "length" "I" ∈ wsX12_findStep := by decide +kernel
section
variable {p : Program} {l : Launch} {e : Env} {s : State} {m : MethodId} {below : List Frame} {meth : Method} {c : Code} {N0 : Nat} {T : Nat → ClassId} {D : va_G} {gr : List (Nat × Nat)} {ad : Nat → Nat → Nat → Nat}
set_option maxRecDepth 100000 in
set_option maxHeartbeats 4000000 in
theorem w_X12_findStep_b21  (C : Cx p s m [.ref (ad 10 0 0)].toArray meth c cX12_findStep 2 wsX12_findStep RX12 N0 T D gr ad) (hrt : meth.sig.returnType = (some .int)) (hG : ∀ q ∈ [(10, 0)], q ∈ gr) {res : Int32 × Mem} (Y : Mem) (l1 : Int32) (s0 : Int32) (h : X12_findStep_b21   Y l1 s0 = some res) : FW p l e (Rm 2) s m [.ref (ad 10 0 0)].toArray below meth c 2 N0 T D gr ad 0 0 (MQ below (va_Qi (fun r Y1 => (r, Y1) = res) (WB T D gr ad) (fun q => N0 ≤ q)) [.ref (ad 10 0 0)].toArray s 0 0 (fun q => N0 ≤ q)) Y 21 [(1, .int l1)] [.int s0, .ref (ad 10 0 0)] := by
  unfold X12_findStep_b21 at h
  refine fw_iconst C dX12_findStep_21 (v := 0) rfl ?_
  refine fw_iconst C dX12_findStep_22 (v := 0) rfl ?_
  obtain ⟨r4, Y6, q5, h⟩ := bd2_some h
  refine fw_callVi C (ci := 10) (Cn := RX12) (Tc := TX12) (N := 19) (As := [.int s0, .int 0, .int 0]) (c_X12_fails (gac (hG _ (List.mem_of_getElem? (i := 0) rfl)) ga0) q5) (cwV 3 (cx_ts C) gX12_findStep_X12_fails rfl rfl rfl (by decide +kernel) ⟨Nat.le_of_ble_eq_true rfl, Nat.le_of_ble_eq_true rfl⟩) rfl (hG _ (List.mem_of_getElem? (i := 0) rfl)) (of10_0 _) (ce10 T ad _ _) rfl (st := []) rfl (Nat.le_of_ble_eq_true rfl) ⟨Nat.le_refl 0, Nat.le_refl 0⟩ dX12_findStep_23 (ppw ?_)
  refine fw_if_eq C dX12_findStep_26 (tgt := 31) rfl (fun c7 => ?_) (fun c7 => ?_)
  · have h := ite_t c7 h
    refine fw_iload_n C dX12_findStep_31 rfl 0 rfl ?_
    exact fw_iret C hrt Y6 (Option.some.inj h) (fun t ht => ht) dX12_findStep_32
  · have h := ite_f c7 h
    refine fw_iconst C dX12_findStep_29 (v := 0) rfl ?_
    exact fw_iret C hrt Y6 (Option.some.inj h) (fun t ht => ht) dX12_findStep_30
set_option maxRecDepth 100000 in
set_option maxHeartbeats 4000000 in
theorem w_X12_findStep {Y : Mem} (C : Cx p s m [.ref (ad 10 0 0)].toArray meth c cX12_findStep 2 wsX12_findStep RX12 N0 T D gr ad) (hrt : meth.sig.returnType = (some .int)) (hG : ∀ q ∈ [(10, 0)], q ∈ gr) {res : Int32 × Mem} (h : X12_findStep Y = some res) : FW p l e (Rm 2) s m [.ref (ad 10 0 0)].toArray below meth c 2 N0 T D gr ad 0 0 (MQ below (va_Qi (fun r Y1 => (r, Y1) = res) (WB T D gr ad) (fun q => N0 ≤ q)) [.ref (ad 10 0 0)].toArray s 0 0 (fun q => N0 ≤ q)) Y 0 [(0, .ref (ad 10 0 0))] [] := by
  unfold X12_findStep at h
  refine fw_aload_n C dX12_findStep_0 rfl 0 rfl ?_
  refine fw_iconst C dX12_findStep_1 (v := 0) rfl ?_
  refine fw_aload_n C dX12_findStep_2 rfl 0 rfl ?_
  refine fw_get C (ci := 10) (Cn := RX12) (Tc := TX12) (N := 19) (j := 4) ly_X12_findStep_12 rfl (hG _ (List.mem_of_getElem? (i := 0) rfl)) (of10_0 _) (ce10 T ad _ _) (by decide) (cx_ts C _ fl_X12_findStep_27) (fun _ h => h) (v := .int (Y 10 0 0 4)) rfl dX12_findStep_3 ?_
  obtain ⟨r1, q2, h⟩ := bd1_some h
  refine fw_callVi C (ci := 10) (Cn := RX12) (Tc := TX12) (N := 19) (As := [.int 0, .int (Y 10 0 0 4)]) (c_X12_stepNamed (gac (hG _ (List.mem_of_getElem? (i := 0) rfl)) ga0) q2) (cwV 2 (cx_ts C) gX12_findStep_X12_stepNamed rfl rfl rfl (by decide +kernel) ⟨Nat.le_of_ble_eq_true rfl, Nat.le_of_ble_eq_true rfl⟩) rfl (hG _ (List.mem_of_getElem? (i := 0) rfl)) (of10_0 _) (ce10 T ad _ _) rfl (st := []) rfl (Nat.le_of_ble_eq_true rfl) ⟨Nat.le_refl 0, Nat.le_refl 0⟩ dX12_findStep_6 (pp2 ?_)
  refine fw_istore_n C dX12_findStep_9 rfl (by decide) (L' := [(1, .int r1), (0, .ref (ad 10 0 0))]) rfl ?_
  refine fw_aload_n C dX12_findStep_10 rfl 1 rfl ?_
  refine fw_iload_n C dX12_findStep_11 rfl 0 rfl ?_
  refine fw_iconst C dX12_findStep_12 (v := (-1)) rfl ?_
  refine fw_icmp_ne C dX12_findStep_13 (tgt := 20) rfl (fun c3 => ?_) (fun c3 => ?_)
  · have h := ite_f c3 h
    refine fw_iconst C dX12_findStep_20 (v := 0) rfl ?_
    refine fw_sub [0] (L' := [(1, .int r1)]) rfl ?_
    exact w_X12_findStep_b21 C hrt hG   _ _ _ h
  · have h := ite_t c3 h
    refine fw_iconst C dX12_findStep_16 (v := 1) rfl ?_
    refine fw_goto C dX12_findStep_17 (tgt := 21) rfl ?_
    refine fw_sub [0] (L' := [(1, .int r1)]) rfl ?_
    exact w_X12_findStep_b21 C hrt hG   _ _ _ h
end
set_option maxRecDepth 100000 in
set_option maxHeartbeats 4000000 in
theorem c_X12_findStep {l : Launch} {N0 : Nat} {T : Nat → ClassId} {D : va_G} {gr : List (Nat × Nat)} {ad : Nat → Nat → Nat → Nat} {Y : Mem} {res : Int32 × Mem} (hG : ∀ q ∈ [(10, 0)], q ∈ gr) (h : X12_findStep Y = some res) : CI l yX12_findStep wsX12_findStep (Rm 2) N0 T D gr ad Y [.ref (ad 10 0 0)] (fun r Y1 => (r, Y1) = res) :=
  fw_body (by decide +kernel) rfl (Nat.le_of_ble_eq_true rfl) (fun p e s m below meth c C hrt => w_X12_findStep C hrt hG  h)
theorem ly_X12_inconsistencies_12 : ∀ w ∈ u_ws RX12 TX12 19, w ∈ wsX12_inconsistencies := by decide +kernel
theorem fl_X12_inconsistencies_1 : Cond.fieldLink RX12 1 "RecipeSchedulerModel" "thrown" "I" ∈ wsX12_inconsistencies := by decide +kernel
theorem fl_X12_inconsistencies_13 : Cond.fieldLink RX12 13 "RecipeSchedulerModel" "m" "[I" ∈ wsX12_inconsistencies := by decide +kernel
section
variable {p : Program} {l : Launch} {e : Env} {s : State} {m : MethodId} {below : List Frame} {meth : Method} {c : Code} {N0 : Nat} {T : Nat → ClassId} {D : va_G} {gr : List (Nat × Nat)} {ad : Nat → Nat → Nat → Nat}
set_option maxRecDepth 100000 in
set_option maxHeartbeats 4000000 in
theorem w_X12_inconsistencies_b121  (C : Cx p s m [.ref (ad 10 0 0)].toArray meth c cX12_inconsistencies 5 wsX12_inconsistencies RX12 N0 T D gr ad) (hrt : meth.sig.returnType = (some .int)) (hG : ∀ q ∈ [(10, 0)], q ∈ gr) {res : Int32 × Mem} {k37 : Mem → Int32 → Int32 → Option (Int32 × Mem)} (hk37 : ∀ (Y : Mem) (l2 : Int32) (l1 : Int32), k37 Y l2 l1 = some res → FW p l e (Rm 2) s m [.ref (ad 10 0 0)].toArray below meth c 5 N0 T D gr ad 0 0 (MQ below (va_Qi (fun r Y1 => (r, Y1) = res) (WB T D gr ad) (fun q => N0 ≤ q)) [.ref (ad 10 0 0)].toArray s 0 0 (fun q => N0 ≤ q)) Y 37 [(2, .int l2), (1, .int l1), (0, .ref (ad 10 0 0))] []) (Y : Mem) (l2 : Int32) (s0 : Int32) (s1 : Int32) (h : X12_inconsistencies_b121  k37 Y l2 s0 s1 = some res) : FW p l e (Rm 2) s m [.ref (ad 10 0 0)].toArray below meth c 5 N0 T D gr ad 0 0 (MQ below (va_Qi (fun r Y1 => (r, Y1) = res) (WB T D gr ad) (fun q => N0 ≤ q)) [.ref (ad 10 0 0)].toArray s 0 0 (fun q => N0 ≤ q)) Y 121 [(2, .int l2), (0, .ref (ad 10 0 0))] [.int s0, .int s1] := by
  unfold X12_inconsistencies_b121 at h
  refine fw_iadd C dX12_inconsistencies_121 ?_
  obtain ⟨v18, e19, h⟩ := lt_some h
  refine fw_top (v' := .int v18) (by rw [e19]) ?_
  refine fw_istore_n C dX12_inconsistencies_122 rfl (by decide) (L' := [(1, .int v18), (2, .int l2), (0, .ref (ad 10 0 0))]) rfl ?_
  refine fw_iinc C dX12_inconsistencies_123 (kk := 1) (v := l2 + 1) rfl rfl (by decide) (L' := [(2, .int (l2 + 1)), (1, .int v18), (0, .ref (ad 10 0 0))]) rfl ?_
  refine fw_goto C dX12_inconsistencies_126 (tgt := 37) rfl ?_
  exact hk37 _ _ _ h
set_option maxRecDepth 100000 in
set_option maxHeartbeats 4000000 in
theorem w_X12_inconsistencies_b120  (C : Cx p s m [.ref (ad 10 0 0)].toArray meth c cX12_inconsistencies 5 wsX12_inconsistencies RX12 N0 T D gr ad) (hrt : meth.sig.returnType = (some .int)) (hG : ∀ q ∈ [(10, 0)], q ∈ gr) {res : Int32 × Mem} {k37 : Mem → Int32 → Int32 → Option (Int32 × Mem)} (hk37 : ∀ (Y : Mem) (l2 : Int32) (l1 : Int32), k37 Y l2 l1 = some res → FW p l e (Rm 2) s m [.ref (ad 10 0 0)].toArray below meth c 5 N0 T D gr ad 0 0 (MQ below (va_Qi (fun r Y1 => (r, Y1) = res) (WB T D gr ad) (fun q => N0 ≤ q)) [.ref (ad 10 0 0)].toArray s 0 0 (fun q => N0 ≤ q)) Y 37 [(2, .int l2), (1, .int l1), (0, .ref (ad 10 0 0))] []) (Y : Mem) (l2 : Int32) (s0 : Int32) (h : X12_inconsistencies_b120  k37 Y l2 s0 = some res) : FW p l e (Rm 2) s m [.ref (ad 10 0 0)].toArray below meth c 5 N0 T D gr ad 0 0 (MQ below (va_Qi (fun r Y1 => (r, Y1) = res) (WB T D gr ad) (fun q => N0 ≤ q)) [.ref (ad 10 0 0)].toArray s 0 0 (fun q => N0 ≤ q)) Y 120 [(2, .int l2), (0, .ref (ad 10 0 0))] [.int s0] := by
  unfold X12_inconsistencies_b120 at h
  refine fw_iconst C dX12_inconsistencies_120 (v := 0) rfl ?_
  exact w_X12_inconsistencies_b121 C hrt hG  hk37 _ _ _ _ h
set_option maxRecDepth 100000 in
set_option maxHeartbeats 4000000 in
theorem w_X12_inconsistencies_b93  (C : Cx p s m [.ref (ad 10 0 0)].toArray meth c cX12_inconsistencies 5 wsX12_inconsistencies RX12 N0 T D gr ad) (hrt : meth.sig.returnType = (some .int)) (hG : ∀ q ∈ [(10, 0)], q ∈ gr) {res : Int32 × Mem} {k53 : Mem → Int32 → Int32 → Int32 → Int32 → Option (Int32 × Mem)} (hk53 : ∀ (Y : Mem) (l4 : Int32) (l3 : Int32) (l2 : Int32) (l1 : Int32), k53 Y l4 l3 l2 l1 = some res → FW p l e (Rm 2) s m [.ref (ad 10 0 0)].toArray below meth c 5 N0 T D gr ad 0 0 (MQ below (va_Qi (fun r Y1 => (r, Y1) = res) (WB T D gr ad) (fun q => N0 ≤ q)) [.ref (ad 10 0 0)].toArray s 0 0 (fun q => N0 ≤ q)) Y 53 [(4, .int l4), (3, .int l3), (2, .int l2), (1, .int l1), (0, .ref (ad 10 0 0))] []) (Y : Mem) (l4 : Int32) (l2 : Int32) (l1 : Int32) (s0 : Int32) (h : X12_inconsistencies_b93  k53 Y l4 l2 l1 s0 = some res) : FW p l e (Rm 2) s m [.ref (ad 10 0 0)].toArray below meth c 5 N0 T D gr ad 0 0 (MQ below (va_Qi (fun r Y1 => (r, Y1) = res) (WB T D gr ad) (fun q => N0 ≤ q)) [.ref (ad 10 0 0)].toArray s 0 0 (fun q => N0 ≤ q)) Y 93 [(4, .int l4), (2, .int l2), (1, .int l1), (0, .ref (ad 10 0 0))] [.int s0] := by
  unfold X12_inconsistencies_b93 at h
  refine fw_istore_n C dX12_inconsistencies_93 rfl (by decide) (L' := [(3, .int s0), (4, .int l4), (2, .int l2), (1, .int l1), (0, .ref (ad 10 0 0))]) rfl ?_
  refine fw_iinc C dX12_inconsistencies_94 (kk := 1) (v := l4 + 1) rfl rfl (by decide) (L' := [(4, .int (l4 + 1)), (3, .int s0), (2, .int l2), (1, .int l1), (0, .ref (ad 10 0 0))]) rfl ?_
  refine fw_goto C dX12_inconsistencies_97 (tgt := 53) rfl ?_
  exact hk53 _ _ _ _ _ h
set_option maxRecDepth 100000 in
set_option maxHeartbeats 4000000 in
theorem w_X12_inconsistencies_b88  (C : Cx p s m [.ref (ad 10 0 0)].toArray meth c cX12_inconsistencies 5 wsX12_inconsistencies RX12 N0 T D gr ad) (hrt : meth.sig.returnType = (some .int)) (hG : ∀ q ∈ [(10, 0)], q ∈ gr) {res : Int32 × Mem} {k53 : Mem → Int32 → Int32 → Int32 → Int32 → Option (Int32 × Mem)} (hk53 : ∀ (Y : Mem) (l4 : Int32) (l3 : Int32) (l2 : Int32) (l1 : Int32), k53 Y l4 l3 l2 l1 = some res → FW p l e (Rm 2) s m [.ref (ad 10 0 0)].toArray below meth c 5 N0 T D gr ad 0 0 (MQ below (va_Qi (fun r Y1 => (r, Y1) = res) (WB T D gr ad) (fun q => N0 ≤ q)) [.ref (ad 10 0 0)].toArray s 0 0 (fun q => N0 ≤ q)) Y 53 [(4, .int l4), (3, .int l3), (2, .int l2), (1, .int l1), (0, .ref (ad 10 0 0))] []) (Y : Mem) (l4 : Int32) (l2 : Int32) (l1 : Int32) (h : X12_inconsistencies_b88  k53 Y l4 l2 l1 = some res) : FW p l e (Rm 2) s m [.ref (ad 10 0 0)].toArray below meth c 5 N0 T D gr ad 0 0 (MQ below (va_Qi (fun r Y1 => (r, Y1) = res) (WB T D gr ad) (fun q => N0 ≤ q)) [.ref (ad 10 0 0)].toArray s 0 0 (fun q => N0 ≤ q)) Y 88 [(4, .int l4), (2, .int l2), (1, .int l1), (0, .ref (ad 10 0 0))] [] := by
  unfold X12_inconsistencies_b88 at h
  refine fw_iconst C dX12_inconsistencies_88 (v := 1) rfl ?_
  refine fw_goto C dX12_inconsistencies_89 (tgt := 93) rfl ?_
  exact w_X12_inconsistencies_b93 C hrt hG  hk53 _ _ _ _ _ h
set_option maxRecDepth 100000 in
set_option maxHeartbeats 4000000 in
theorem w_X12_inconsistencies_b53  (C : Cx p s m [.ref (ad 10 0 0)].toArray meth c cX12_inconsistencies 5 wsX12_inconsistencies RX12 N0 T D gr ad) (hrt : meth.sig.returnType = (some .int)) (hG : ∀ q ∈ [(10, 0)], q ∈ gr) {res : Int32 × Mem} {k37 : Mem → Int32 → Int32 → Option (Int32 × Mem)} (hk37 : ∀ (Y : Mem) (l2 : Int32) (l1 : Int32), k37 Y l2 l1 = some res → FW p l e (Rm 2) s m [.ref (ad 10 0 0)].toArray below meth c 5 N0 T D gr ad 0 0 (MQ below (va_Qi (fun r Y1 => (r, Y1) = res) (WB T D gr ad) (fun q => N0 ≤ q)) [.ref (ad 10 0 0)].toArray s 0 0 (fun q => N0 ≤ q)) Y 37 [(2, .int l2), (1, .int l1), (0, .ref (ad 10 0 0))] []) : ∀ (n : Nat) (Y : Mem) (l4 : Int32) (l3 : Int32) (l2 : Int32) (l1 : Int32), X12_inconsistencies_b53  k37 n Y l4 l3 l2 l1 = some res → FW p l e (Rm 2) s m [.ref (ad 10 0 0)].toArray below meth c 5 N0 T D gr ad 0 0 (MQ below (va_Qi (fun r Y1 => (r, Y1) = res) (WB T D gr ad) (fun q => N0 ≤ q)) [.ref (ad 10 0 0)].toArray s 0 0 (fun q => N0 ≤ q)) Y 53 [(4, .int l4), (3, .int l3), (2, .int l2), (1, .int l1), (0, .ref (ad 10 0 0))] [] := by
  intro n
  induction n with
  | zero =>
    intro Y l4 l3 l2 l1 h
    unfold X12_inconsistencies_b53 at h
    cases h
  | succ n ih =>
    intro Y l4 l3 l2 l1 h
    unfold X12_inconsistencies_b53 at h
    refine fw_iload C dX12_inconsistencies_53 0 rfl ?_
    refine fw_aload_n C dX12_inconsistencies_55 rfl 4 rfl ?_
    refine fw_iload_n C dX12_inconsistencies_56 rfl 2 rfl ?_
    refine fw_bipush C dX12_inconsistencies_57 (v := 12) rfl ?_
    obtain ⟨r12, q13, h⟩ := bd1_some h
    refine fw_callVi C (ci := 10) (Cn := RX12) (Tc := TX12) (N := 19) (As := [.int l2, .int 12]) (c_X12_of (gac (hG _ (List.mem_of_getElem? (i := 0) rfl)) ga0) q13) (cwV 2 (cx_ts C) gX12_inconsistencies_X12_of rfl rfl rfl (by decide +kernel) ⟨Nat.le_of_ble_eq_true rfl, Nat.le_of_ble_eq_true rfl⟩) rfl (hG _ (List.mem_of_getElem? (i := 0) rfl)) (of10_0 _) (ce10 T ad _ _) rfl (st := [.int l4]) rfl (Nat.le_of_ble_eq_true rfl) ⟨Nat.le_refl 0, Nat.le_refl 0⟩ dX12_inconsistencies_59 (pp2 ?_)
    refine fw_icmp_ge C dX12_inconsistencies_62 (tgt := 100) rfl (fun c14 => ?_) (fun c14 => ?_)
    · have h := ite_t c14 h
      refine fw_iload_n C dX12_inconsistencies_100 rfl 3 rfl ?_
      refine fw_aload_n C dX12_inconsistencies_101 rfl 4 rfl ?_
      refine fw_iload_n C dX12_inconsistencies_102 rfl 2 rfl ?_
      refine fw_bipush C dX12_inconsistencies_103 (v := 17) rfl ?_
      obtain ⟨r15, q16, h⟩ := bd1_some h
      refine fw_callVi C (ci := 10) (Cn := RX12) (Tc := TX12) (N := 19) (As := [.int l2, .int 17]) (c_X12_of (gac (hG _ (List.mem_of_getElem? (i := 0) rfl)) ga0) q16) (cwV 2 (cx_ts C) gX12_inconsistencies_X12_of rfl rfl rfl (by decide +kernel) ⟨Nat.le_of_ble_eq_true rfl, Nat.le_of_ble_eq_true rfl⟩) rfl (hG _ (List.mem_of_getElem? (i := 0) rfl)) (of10_0 _) (ce10 T ad _ _) rfl (st := [.int l1]) rfl (Nat.le_of_ble_eq_true rfl) ⟨Nat.le_refl 0, Nat.le_refl 0⟩ dX12_inconsistencies_105 (pp2 ?_)
      refine fw_iconst C dX12_inconsistencies_108 (v := 1) rfl ?_
      refine fw_icmp_ne C dX12_inconsistencies_109 (tgt := 120) rfl (fun c17 => ?_) (fun c17 => ?_)
      · have h := ite_f c17 h
        refine fw_sub [2, 4] (L' := [(2, .int l2), (0, .ref (ad 10 0 0))]) rfl ?_
        exact w_X12_inconsistencies_b120 C hrt hG  hk37 _ _ _ h
      · have h := ite_t c17 h
        refine fw_iload_n C dX12_inconsistencies_112 rfl 1 rfl ?_
        refine fw_if_eq C dX12_inconsistencies_113 (tgt := 120) rfl (fun c20 => ?_) (fun c20 => ?_)
        · have h := ite_t c20 h
          refine fw_sub [2, 4] (L' := [(2, .int l2), (0, .ref (ad 10 0 0))]) rfl ?_
          exact w_X12_inconsistencies_b120 C hrt hG  hk37 _ _ _ h
        · have h := ite_f c20 h
          refine fw_iconst C dX12_inconsistencies_116 (v := 1) rfl ?_
          refine fw_goto C dX12_inconsistencies_117 (tgt := 121) rfl ?_
          refine fw_sub [2, 4] (L' := [(2, .int l2), (0, .ref (ad 10 0 0))]) rfl ?_
          exact w_X12_inconsistencies_b121 C hrt hG  hk37 _ _ _ _ h
    · have h := ite_f c14 h
      refine fw_iload_n C dX12_inconsistencies_65 rfl 1 rfl ?_
      refine fw_if_ne C dX12_inconsistencies_66 (tgt := 88) rfl (fun c21 => ?_) (fun c21 => ?_)
      · have h := ite_f c21 h
        refine fw_sub [0, 2, 3, 4] (L' := [(4, .int l4), (2, .int l2), (1, .int l1), (0, .ref (ad 10 0 0))]) rfl ?_
        exact w_X12_inconsistencies_b88 C hrt hG  ih _ _ _ _ h
      · have h := ite_t c21 h
        refine fw_aload_n C dX12_inconsistencies_69 rfl 4 rfl ?_
        refine fw_aload_n C dX12_inconsistencies_70 rfl 4 rfl ?_
        refine fw_iload_n C dX12_inconsistencies_71 rfl 2 rfl ?_
        refine fw_bipush C dX12_inconsistencies_72 (v := 13) rfl ?_
        refine fw_iload C dX12_inconsistencies_74 0 rfl ?_
        refine fw_iadd C dX12_inconsistencies_76 ?_
        obtain ⟨r22, q23, h⟩ := bd1_some h
        refine fw_callVi C (ci := 10) (Cn := RX12) (Tc := TX12) (N := 19) (As := [.int l2, .int (13 + l4)]) (c_X12_of (gac (hG _ (List.mem_of_getElem? (i := 0) rfl)) ga0) q23) (cwV 2 (cx_ts C) gX12_inconsistencies_X12_of rfl rfl rfl (by decide +kernel) ⟨Nat.le_of_ble_eq_true rfl, Nat.le_of_ble_eq_true rfl⟩) rfl (hG _ (List.mem_of_getElem? (i := 0) rfl)) (of10_0 _) (ce10 T ad _ _) rfl (st := [.ref (ad 10 0 0)]) rfl (Nat.le_of_ble_eq_true rfl) ⟨Nat.le_refl 0, Nat.le_refl 0⟩ dX12_inconsistencies_77 (pp2 ?_)
        refine fw_bipush C dX12_inconsistencies_80 (v := 21) rfl ?_
        obtain ⟨r24, q25, h⟩ := bd1_some h
        refine fw_callVi C (ci := 10) (Cn := RX12) (Tc := TX12) (N := 19) (As := [.int r22, .int 21]) (c_X12_of (gac (hG _ (List.mem_of_getElem? (i := 0) rfl)) ga0) q25) (cwV 2 (cx_ts C) gX12_inconsistencies_X12_of rfl rfl rfl (by decide +kernel) ⟨Nat.le_of_ble_eq_true rfl, Nat.le_of_ble_eq_true rfl⟩) rfl (hG _ (List.mem_of_getElem? (i := 0) rfl)) (of10_0 _) (ce10 T ad _ _) rfl (st := []) rfl (Nat.le_of_ble_eq_true rfl) ⟨Nat.le_refl 0, Nat.le_refl 0⟩ dX12_inconsistencies_82 (pp2 ?_)
        refine fw_if_ne C dX12_inconsistencies_85 (tgt := 92) rfl (fun c26 => ?_) (fun c26 => ?_)
        · have h := ite_f c26 h
          refine fw_iconst C dX12_inconsistencies_92 (v := 0) rfl ?_
          refine fw_sub [0, 2, 3, 4] (L' := [(4, .int l4), (2, .int l2), (1, .int l1), (0, .ref (ad 10 0 0))]) rfl ?_
          exact w_X12_inconsistencies_b93 C hrt hG  ih _ _ _ _ _ h
        · have h := ite_t c26 h
          refine fw_sub [0, 2, 3, 4] (L' := [(4, .int l4), (2, .int l2), (1, .int l1), (0, .ref (ad 10 0 0))]) rfl ?_
          exact w_X12_inconsistencies_b88 C hrt hG  ih _ _ _ _ h
set_option maxRecDepth 100000 in
set_option maxHeartbeats 4000000 in
theorem w_X12_inconsistencies_b37  (C : Cx p s m [.ref (ad 10 0 0)].toArray meth c cX12_inconsistencies 5 wsX12_inconsistencies RX12 N0 T D gr ad) (hrt : meth.sig.returnType = (some .int)) (hG : ∀ q ∈ [(10, 0)], q ∈ gr) {res : Int32 × Mem} : ∀ (n : Nat) (Y : Mem) (l2 : Int32) (l1 : Int32), X12_inconsistencies_b37   n Y l2 l1 = some res → FW p l e (Rm 2) s m [.ref (ad 10 0 0)].toArray below meth c 5 N0 T D gr ad 0 0 (MQ below (va_Qi (fun r Y1 => (r, Y1) = res) (WB T D gr ad) (fun q => N0 ≤ q)) [.ref (ad 10 0 0)].toArray s 0 0 (fun q => N0 ≤ q)) Y 37 [(2, .int l2), (1, .int l1), (0, .ref (ad 10 0 0))] [] := by
  intro n
  induction n with
  | zero =>
    intro Y l2 l1 h
    unfold X12_inconsistencies_b37 at h
    cases h
  | succ n ih =>
    intro Y l2 l1 h
    unfold X12_inconsistencies_b37 at h
    refine fw_iload_n C dX12_inconsistencies_37 rfl 0 rfl ?_
    refine fw_aload_n C dX12_inconsistencies_38 rfl 2 rfl ?_
    refine fw_get C (ci := 10) (Cn := RX12) (Tc := TX12) (N := 19) (j := 0) ly_X12_inconsistencies_12 rfl (hG _ (List.mem_of_getElem? (i := 0) rfl)) (of10_0 _) (ce10 T ad _ _) (by decide) (cx_ts C _ fl_X12_inconsistencies_13) (fun _ h => h) (v := .ref (ad 10 0 1)) rfl dX12_inconsistencies_39 ?_
    refine fw_bipush C dX12_inconsistencies_42 (v := 13) rfl ?_
    obtain ⟨b10, h⟩ := gd_some h
    refine fw_iald2 C (hG _ (List.mem_of_getElem? (i := 0) rfl)) (of10_1 _) (ca10_1 T ad _ _) b10 (Nat.le_of_ble_eq_true rfl) dX12_inconsistencies_44 ?_
    refine fw_icmp_ge C dX12_inconsistencies_45 (tgt := 129) rfl (fun c11 => ?_) (fun c11 => ?_)
    · have h := ite_t c11 h
      refine fw_iload_n C dX12_inconsistencies_129 rfl 1 rfl ?_
      exact fw_iret C hrt Y (Option.some.inj h) (fun t ht => ht) dX12_inconsistencies_130
    · have h := ite_f c11 h
      refine fw_iconst C dX12_inconsistencies_48 (v := 0) rfl ?_
      refine fw_istore_n C dX12_inconsistencies_49 rfl (by decide) (L' := [(3, .int 0), (2, .int l2), (1, .int l1), (0, .ref (ad 10 0 0))]) rfl ?_
      refine fw_iconst C dX12_inconsistencies_50 (v := 0) rfl ?_
      refine fw_istore C dX12_inconsistencies_51 (by decide) (L' := [(4, .int 0), (3, .int 0), (2, .int l2), (1, .int l1), (0, .ref (ad 10 0 0))]) rfl ?_
      exact w_X12_inconsistencies_b53 C hrt hG  ih _ _ _ _ _ _ h
set_option maxRecDepth 100000 in
set_option maxHeartbeats 4000000 in
theorem w_X12_inconsistencies {Y : Mem} (C : Cx p s m [.ref (ad 10 0 0)].toArray meth c cX12_inconsistencies 5 wsX12_inconsistencies RX12 N0 T D gr ad) (hrt : meth.sig.returnType = (some .int)) (hG : ∀ q ∈ [(10, 0)], q ∈ gr) {res : Int32 × Mem} (h : X12_inconsistencies Y = some res) : FW p l e (Rm 2) s m [.ref (ad 10 0 0)].toArray below meth c 5 N0 T D gr ad 0 0 (MQ below (va_Qi (fun r Y1 => (r, Y1) = res) (WB T D gr ad) (fun q => N0 ≤ q)) [.ref (ad 10 0 0)].toArray s 0 0 (fun q => N0 ≤ q)) Y 0 [(0, .ref (ad 10 0 0))] [] := by
  unfold X12_inconsistencies at h
  refine fw_aload_n C dX12_inconsistencies_0 rfl 0 rfl ?_
  refine fw_iconst C dX12_inconsistencies_1 (v := 0) rfl ?_
  obtain ⟨Y1, e2, h⟩ := lt_some h
  refine fw_put C (ci := 10) (Cn := RX12) (Tc := TX12) (N := 19) (j := 9) (ty := .int) (upd (Y 10 0 0) 9 0) ly_X12_inconsistencies_12 rfl tyX12_ok nmX12 (hG _ (List.mem_of_getElem? (i := 0) rfl)) (of10_0 _) (ce10 T ad _ _) (by decide) (cx_ts C _ fl_X12_inconsistencies_1) (fun _ h => h) rfl (by decide +kernel) rfl rfl (Nat.le_of_ble_eq_true rfl) (ce10_put9 T ad _ _ _) dX12_inconsistencies_2 ?_
  refine fw_mem ((up_eq _ _ _ _ _ _).symm.trans e2) ?_
  refine fw_aload_n C dX12_inconsistencies_5 rfl 0 rfl ?_
  refine fw_get C (ci := 10) (Cn := RX12) (Tc := TX12) (N := 19) (j := 0) ly_X12_inconsistencies_12 rfl (hG _ (List.mem_of_getElem? (i := 0) rfl)) (of10_0 _) (ce10 T ad _ _) (by decide) (cx_ts C _ fl_X12_inconsistencies_13) (fun _ h => h) (v := .ref (ad 10 0 1)) rfl dX12_inconsistencies_6 ?_
  refine fw_bipush C dX12_inconsistencies_9 (v := 7) rfl ?_
  obtain ⟨b3, h⟩ := gd_some h
  refine fw_iald2 C (hG _ (List.mem_of_getElem? (i := 0) rfl)) (of10_1 _) (ca10_1 T ad _ _) b3 (Nat.le_of_ble_eq_true rfl) dX12_inconsistencies_11 ?_
  refine fw_aload_n C dX12_inconsistencies_12 rfl 0 rfl ?_
  refine fw_get C (ci := 10) (Cn := RX12) (Tc := TX12) (N := 19) (j := 0) ly_X12_inconsistencies_12 rfl (hG _ (List.mem_of_getElem? (i := 0) rfl)) (of10_0 _) (ce10 T ad _ _) (by decide) (cx_ts C _ fl_X12_inconsistencies_13) (fun _ h => h) (v := .ref (ad 10 0 1)) rfl dX12_inconsistencies_13 ?_
  refine fw_bipush C dX12_inconsistencies_16 (v := 8) rfl ?_
  obtain ⟨b4, h⟩ := gd_some h
  refine fw_iald2 C (hG _ (List.mem_of_getElem? (i := 0) rfl)) (of10_1 _) (ca10_1 T ad _ _) b4 (Nat.le_of_ble_eq_true rfl) dX12_inconsistencies_18 ?_
  refine fw_isub C dX12_inconsistencies_19 ?_
  refine fw_aload_n C dX12_inconsistencies_20 rfl 0 rfl ?_
  refine fw_iconst C dX12_inconsistencies_21 (v := 1) rfl ?_
  obtain ⟨r5, q6, h⟩ := bd1_some h
  refine fw_callVi C (ci := 10) (Cn := RX12) (Tc := TX12) (N := 19) (As := [.int 1]) (c_X12_withStatus (gac (hG _ (List.mem_of_getElem? (i := 0) rfl)) ga0) q6) (cwV 1 (cx_ts C) gX12_inconsistencies_X12_withStatus rfl rfl rfl (by decide +kernel) ⟨Nat.le_of_ble_eq_true rfl, Nat.le_of_ble_eq_true rfl⟩) rfl (hG _ (List.mem_of_getElem? (i := 0) rfl)) (of10_0 _) (ce10 T ad _ _) rfl (st := [.int ((Y1 10 0 1 (ix 7)) - (Y1 10 0 1 (ix 8)))]) rfl (Nat.le_of_ble_eq_true rfl) ⟨Nat.le_refl 0, Nat.le_refl 0⟩ dX12_inconsistencies_22 (pp2 ?_)
  refine fw_isub C dX12_inconsistencies_25 ?_
  refine fw_aload_n C dX12_inconsistencies_26 rfl 0 rfl ?_
  refine fw_get C (ci := 10) (Cn := RX12) (Tc := TX12) (N := 19) (j := 0) ly_X12_inconsistencies_12 rfl (hG _ (List.mem_of_getElem? (i := 0) rfl)) (of10_0 _) (ce10 T ad _ _) (by decide) (cx_ts C _ fl_X12_inconsistencies_13) (fun _ h => h) (v := .ref (ad 10 0 1)) rfl dX12_inconsistencies_27 ?_
  refine fw_bipush C dX12_inconsistencies_30 (v := 11) rfl ?_
  obtain ⟨b7, h⟩ := gd_some h
  refine fw_iald2 C (hG _ (List.mem_of_getElem? (i := 0) rfl)) (of10_1 _) (ca10_1 T ad _ _) b7 (Nat.le_of_ble_eq_true rfl) dX12_inconsistencies_32 ?_
  refine fw_isub C dX12_inconsistencies_33 ?_
  obtain ⟨v8, e9, h⟩ := lt_some h
  refine fw_top (v' := .int v8) (by rw [e9]) ?_
  refine fw_istore_n C dX12_inconsistencies_34 rfl (by decide) (L' := [(1, .int v8), (0, .ref (ad 10 0 0))]) rfl ?_
  refine fw_iconst C dX12_inconsistencies_35 (v := 0) rfl ?_
  refine fw_istore_n C dX12_inconsistencies_36 rfl (by decide) (L' := [(2, .int 0), (1, .int v8), (0, .ref (ad 10 0 0))]) rfl ?_
  exact w_X12_inconsistencies_b37 C hrt hG   _ _ _ _ h
end
set_option maxRecDepth 100000 in
set_option maxHeartbeats 4000000 in
theorem c_X12_inconsistencies {l : Launch} {N0 : Nat} {T : Nat → ClassId} {D : va_G} {gr : List (Nat × Nat)} {ad : Nat → Nat → Nat → Nat} {Y : Mem} {res : Int32 × Mem} (hG : ∀ q ∈ [(10, 0)], q ∈ gr) (h : X12_inconsistencies Y = some res) : CI l yX12_inconsistencies wsX12_inconsistencies (Rm 2) N0 T D gr ad Y [.ref (ad 10 0 0)] (fun r Y1 => (r, Y1) = res) :=
  fw_body (by decide +kernel) rfl (Nat.le_of_ble_eq_true rfl) (fun p e s m below meth c C hrt => w_X12_inconsistencies C hrt hG  h)
section
variable {p : Program} {l : Launch} {e : Env} {s : State} {m : MethodId} {below : List Frame} {meth : Method} {c : Code} {N0 : Nat} {T : Nat → ClassId} {D : va_G} {gr : List (Nat × Nat)} {ad : Nat → Nat → Nat → Nat}
set_option maxRecDepth 100000 in
set_option maxHeartbeats 4000000 in
theorem w_X12_isHot {Y : Mem} {a1 : Int32} (C : Cx p s m [.ref (ad 10 0 0), .int a1].toArray meth c cX12_isHot 2 wsX12_isHot RX12 N0 T D gr ad) (hrt : meth.sig.returnType = (some .boolean)) (hG : ∀ q ∈ [(10, 0)], q ∈ gr) {res : Int32 × Mem} (h : X12_isHot Y a1 = some res) : FW p l e (Rm 3) s m [.ref (ad 10 0 0), .int a1].toArray below meth c 2 N0 T D gr ad 0 0 (MQ below (va_Qi (fun r Y1 => (r, Y1) = res) (WB T D gr ad) (fun q => N0 ≤ q)) [.ref (ad 10 0 0), .int a1].toArray s 0 0 (fun q => N0 ≤ q)) Y 0 [(0, .ref (ad 10 0 0)), (1, .int a1)] [] := by
  unfold X12_isHot at h
  refine fw_aload_n C dX12_isHot_0 rfl 0 rfl ?_
  refine fw_iload_n C dX12_isHot_1 rfl 1 rfl ?_
  refine fw_bipush C dX12_isHot_2 (v := 10) rfl ?_
  obtain ⟨r1, Y3, q2, h⟩ := bd2_some h
  refine fw_callVi C (ci := 10) (Cn := RX12) (Tc := TX12) (N := 19) (As := [.int a1, .int 10]) (c_X12_field (gac (hG _ (List.mem_of_getElem? (i := 0) rfl)) ga0) q2) (cwV 2 (cx_ts C) gX12_isHot_X12_field rfl rfl rfl (by decide +kernel) ⟨Nat.le_of_ble_eq_true rfl, Nat.le_of_ble_eq_true rfl⟩) rfl (hG _ (List.mem_of_getElem? (i := 0) rfl)) (of10_0 _) (ce10 T ad _ _) rfl (st := []) rfl (Nat.le_of_ble_eq_true rfl) ⟨Nat.le_refl 0, Nat.le_refl 0⟩ dX12_isHot_4 (ppw ?_)
  refine fw_iconst C dX12_isHot_7 (v := 1) rfl ?_
  refine fw_icmp_ne C dX12_isHot_8 (tgt := 15) rfl (fun c4 => ?_) (fun c4 => ?_)
  · have h := ite_f c4 h
    refine fw_iconst C dX12_isHot_15 (v := 0) rfl ?_
    exact fw_zret C hrt (by decide) Y3 (Option.some.inj h) (fun t ht => ht) dX12_isHot_16
  · have h := ite_t c4 h
    refine fw_iconst C dX12_isHot_11 (v := 1) rfl ?_
    refine fw_goto C dX12_isHot_12 (tgt := 16) rfl ?_
    exact fw_zret C hrt (by decide) Y3 (Option.some.inj h) (fun t ht => ht) dX12_isHot_16
end
set_option maxRecDepth 100000 in
set_option maxHeartbeats 4000000 in
theorem c_X12_isHot {l : Launch} {N0 : Nat} {T : Nat → ClassId} {D : va_G} {gr : List (Nat × Nat)} {ad : Nat → Nat → Nat → Nat} {Y : Mem} {a1 : Int32} {res : Int32 × Mem} (hG : ∀ q ∈ [(10, 0)], q ∈ gr) (h : X12_isHot Y a1 = some res) : CI l yX12_isHot wsX12_isHot (Rm 3) N0 T D gr ad Y [.ref (ad 10 0 0), .int a1] (fun r Y1 => (r, Y1) = res) :=
  fw_body (by decide +kernel) rfl (Nat.le_of_ble_eq_true rfl) (fun p e s m below meth c C hrt => w_X12_isHot C hrt hG  h)
