theorem ly_X12_parseScript_12 : ∀ w ∈ u_ws RX12 TX12 19, w ∈ wsX12_parseScript := by decide +kernel
theorem fl_X12_parseScript_57 : Cond.fieldLink RX12 57 "RecipeSchedulerModel" "type" "I" ∈ wsX12_parseScript := by decide +kernel
theorem fl_X12_parseScript_66 : Cond.fieldLink RX12 66 "RecipeSchedulerModel" "commands" "[I" ∈ wsX12_parseScript := by decide +kernel
section
variable {p : Program} {l : Launch} {e : Env} {s : State} {m : MethodId} {below : List Frame} {meth : Method} {c : Code} {N0 : Nat} {T : Nat → ClassId} {D : va_G} {gr : List (Nat × Nat)} {ad : Nat → Nat → Nat → Nat}
set_option maxRecDepth 100000 in
set_option maxHeartbeats 4000000 in
theorem w_X12_parseScript_b46  (C : Cx p s m [.ref (ad 10 0 0)].toArray meth c cX12_parseScript 4 wsX12_parseScript RX12 N0 T D gr ad) (hrt : meth.sig.returnType = (some .int)) (hG : ∀ q ∈ [(10, 0)], q ∈ gr) {res : Int32 × Mem} {k2 : Mem → Int32 → Option (Int32 × Mem)} (hk2 : ∀ (Y : Mem) (l1 : Int32), k2 Y l1 = some res → FW p l e (Rm 6) s m [.ref (ad 10 0 0)].toArray below meth c 4 N0 T D gr ad 0 0 (MQ below (va_Qi (fun r Y1 => (r, Y1) = res) (WB T D gr ad) (fun q => N0 ≤ q)) [.ref (ad 10 0 0)].toArray s 0 0 (fun q => N0 ≤ q)) Y 2 [(1, .int l1), (0, .ref (ad 10 0 0))] []) (Y : Mem) (l2 : Int32) (l1 : Int32) (s0 : Int32) (h : X12_parseScript_b46  k2 Y l2 l1 s0 = some res) : FW p l e (Rm 6) s m [.ref (ad 10 0 0)].toArray below meth c 4 N0 T D gr ad 0 0 (MQ below (va_Qi (fun r Y1 => (r, Y1) = res) (WB T D gr ad) (fun q => N0 ≤ q)) [.ref (ad 10 0 0)].toArray s 0 0 (fun q => N0 ≤ q)) Y 46 [(2, .int l2), (1, .int l1), (0, .ref (ad 10 0 0))] [.int s0] := by
  unfold X12_parseScript_b46 at h
  refine fw_istore_n C dX12_parseScript_46 rfl (by decide) (L' := [(3, .int s0), (2, .int l2), (1, .int l1), (0, .ref (ad 10 0 0))]) rfl ?_
  refine fw_iload_n C dX12_parseScript_47 rfl 0 rfl ?_
  refine fw_if_ne C dX12_parseScript_48 (tgt := 53) rfl (fun c8 => ?_) (fun c8 => ?_)
  · have h := ite_f c8 h
    refine fw_aload_n C dX12_parseScript_53 rfl 3 rfl ?_
    obtain ⟨Y11, q10, h⟩ := bd1_some h
    refine fw_callVv C (ci := 10) (Cn := RX12) (Tc := TX12) (N := 19) (As := []) (c_X12_token (gac (hG _ (List.mem_of_getElem? (i := 0) rfl)) ga0) q10) (cwV 0 (cx_ts C) gX12_parseScript_X12_token rfl rfl rfl (by decide +kernel) ⟨Nat.le_of_ble_eq_true rfl, Nat.le_of_ble_eq_true rfl⟩) rfl (hG _ (List.mem_of_getElem? (i := 0) rfl)) (of10_0 _) (ce10 T ad _ _) rfl (st := []) rfl (Nat.le_of_ble_eq_true rfl) ⟨Nat.le_refl 0, Nat.le_refl 0⟩ dX12_parseScript_54 (ppv ?_)
    refine fw_aload_n C dX12_parseScript_57 rfl 3 rfl ?_
    refine fw_get C (ci := 10) (Cn := RX12) (Tc := TX12) (N := 19) (j := 18) ly_X12_parseScript_12 rfl (hG _ (List.mem_of_getElem? (i := 0) rfl)) (of10_0 _) (ce10 T ad _ _) (by decide) (cx_ts C _ fl_X12_parseScript_66) (fun _ h => h) (v := .ref (ad 10 0 9)) rfl dX12_parseScript_58 ?_
    refine fw_iload_n C dX12_parseScript_61 rfl 2 rfl ?_
    refine fw_iconst C dX12_parseScript_62 (v := 3) rfl ?_
    refine fw_imul C dX12_parseScript_63 ?_
    refine fw_iload_n C dX12_parseScript_64 rfl 1 rfl ?_
    obtain ⟨b12, h⟩ := gd_some h
    obtain ⟨Y13, e14, h⟩ := lt_some h
    refine fw_iast2 C (hG _ (List.mem_of_getElem? (i := 0) rfl)) (of10_9 _) (ca10_9 T ad _) b12 (Nat.le_of_ble_eq_true rfl) dX12_parseScript_65 ?_
    refine fw_mem e14 ?_
    refine fw_aload_n C dX12_parseScript_66 rfl 3 rfl ?_
    refine fw_iload_n C dX12_parseScript_67 rfl 1 rfl ?_
    refine fw_iload_n C dX12_parseScript_68 rfl 2 rfl ?_
    refine fw_iconst C dX12_parseScript_69 (v := 3) rfl ?_
    refine fw_imul C dX12_parseScript_70 ?_
    refine fw_iconst C dX12_parseScript_71 (v := 1) rfl ?_
    refine fw_iadd C dX12_parseScript_72 ?_
    obtain ⟨r15, Y17, q16, h⟩ := bd2_some h
    refine fw_callVi C (ci := 10) (Cn := RX12) (Tc := TX12) (N := 19) (As := [.int l2, .int ((l1 * 3) + 1)]) (c_X12_parseArguments (gac (hG _ (List.mem_of_getElem? (i := 0) rfl)) ga0) q16) (cwV 2 (cx_ts C) gX12_parseScript_X12_parseArguments rfl rfl rfl (by decide +kernel) ⟨Nat.le_of_ble_eq_true rfl, Nat.le_of_ble_eq_true rfl⟩) rfl (hG _ (List.mem_of_getElem? (i := 0) rfl)) (of10_0 _) (ce10 T ad _ _) rfl (st := []) rfl (Nat.le_of_ble_eq_true rfl) ⟨Nat.le_refl 0, Nat.le_refl 0⟩ dX12_parseScript_73 (ppw ?_)
    refine fw_if_eq C dX12_parseScript_76 (tgt := 86) rfl (fun c18 => ?_) (fun c18 => ?_)
    · have h := ite_t c18 h
      refine fw_iconst C dX12_parseScript_86 (v := (-1)) rfl ?_
      exact fw_iret C hrt Y17 (Option.some.inj h) (fun t ht => ht) dX12_parseScript_87
    · have h := ite_f c18 h
      refine fw_aload_n C dX12_parseScript_79 rfl 3 rfl ?_
      obtain ⟨r19, Y21, q20, h⟩ := bd2_some h
      refine fw_callVi C (ci := 10) (Cn := RX12) (Tc := TX12) (N := 19) (As := []) (c_X12_semicolon (gac (hG _ (List.mem_of_getElem? (i := 0) rfl)) ga0) q20) (cwV 0 (cx_ts C) gX12_parseScript_X12_semicolon rfl rfl rfl (by decide +kernel) ⟨Nat.le_of_ble_eq_true rfl, Nat.le_of_ble_eq_true rfl⟩) rfl (hG _ (List.mem_of_getElem? (i := 0) rfl)) (of10_0 _) (ce10 T ad _ _) rfl (st := []) rfl (Nat.le_of_ble_eq_true rfl) ⟨Nat.le_refl 0, Nat.le_refl 0⟩ dX12_parseScript_80 (ppw ?_)
      refine fw_if_ne C dX12_parseScript_83 (tgt := 88) rfl (fun c22 => ?_) (fun c22 => ?_)
      · have h := ite_f c22 h
        refine fw_iinc C dX12_parseScript_88 (kk := 2) (v := l1 + 1) rfl rfl (by decide) (L' := [(1, .int (l1 + 1)), (3, .int s0), (2, .int l2), (0, .ref (ad 10 0 0))]) rfl ?_
        refine fw_goto C dX12_parseScript_91 (tgt := 2) rfl ?_
        refine fw_sub [0, 3] (L' := [(1, .int (l1 + 1)), (0, .ref (ad 10 0 0))]) rfl ?_
        exact hk2 _ _ h
      · have h := ite_t c22 h
        refine fw_iconst C dX12_parseScript_86 (v := (-1)) rfl ?_
        exact fw_iret C hrt Y21 (Option.some.inj h) (fun t ht => ht) dX12_parseScript_87
  · have h := ite_t c8 h
    refine fw_iconst C dX12_parseScript_51 (v := (-1)) rfl ?_
    exact fw_iret C hrt Y (Option.some.inj h) (fun t ht => ht) dX12_parseScript_52
set_option maxRecDepth 100000 in
set_option maxHeartbeats 4000000 in
theorem w_X12_parseScript_b33  (C : Cx p s m [.ref (ad 10 0 0)].toArray meth c cX12_parseScript 4 wsX12_parseScript RX12 N0 T D gr ad) (hrt : meth.sig.returnType = (some .int)) (hG : ∀ q ∈ [(10, 0)], q ∈ gr) {res : Int32 × Mem} {k2 : Mem → Int32 → Option (Int32 × Mem)} (hk2 : ∀ (Y : Mem) (l1 : Int32), k2 Y l1 = some res → FW p l e (Rm 6) s m [.ref (ad 10 0 0)].toArray below meth c 4 N0 T D gr ad 0 0 (MQ below (va_Qi (fun r Y1 => (r, Y1) = res) (WB T D gr ad) (fun q => N0 ≤ q)) [.ref (ad 10 0 0)].toArray s 0 0 (fun q => N0 ≤ q)) Y 2 [(1, .int l1), (0, .ref (ad 10 0 0))] []) (Y : Mem) (l2 : Int32) (l1 : Int32) (h : X12_parseScript_b33  k2 Y l2 l1 = some res) : FW p l e (Rm 6) s m [.ref (ad 10 0 0)].toArray below meth c 4 N0 T D gr ad 0 0 (MQ below (va_Qi (fun r Y1 => (r, Y1) = res) (WB T D gr ad) (fun q => N0 ≤ q)) [.ref (ad 10 0 0)].toArray s 0 0 (fun q => N0 ≤ q)) Y 33 [(2, .int l2), (1, .int l1), (0, .ref (ad 10 0 0))] [] := by
  unfold X12_parseScript_b33 at h
  refine fw_iconst C dX12_parseScript_33 (v := 1) rfl ?_
  refine fw_goto C dX12_parseScript_34 (tgt := 46) rfl ?_
  exact w_X12_parseScript_b46 C hrt hG  hk2 _ _ _ _ h
set_option maxRecDepth 100000 in
set_option maxHeartbeats 4000000 in
theorem w_X12_parseScript_b2  (C : Cx p s m [.ref (ad 10 0 0)].toArray meth c cX12_parseScript 4 wsX12_parseScript RX12 N0 T D gr ad) (hrt : meth.sig.returnType = (some .int)) (hG : ∀ q ∈ [(10, 0)], q ∈ gr) {res : Int32 × Mem} : ∀ (n : Nat) (Y : Mem) (l1 : Int32), X12_parseScript_b2   n Y l1 = some res → FW p l e (Rm 6) s m [.ref (ad 10 0 0)].toArray below meth c 4 N0 T D gr ad 0 0 (MQ below (va_Qi (fun r Y1 => (r, Y1) = res) (WB T D gr ad) (fun q => N0 ≤ q)) [.ref (ad 10 0 0)].toArray s 0 0 (fun q => N0 ≤ q)) Y 2 [(1, .int l1), (0, .ref (ad 10 0 0))] [] := by
  intro n
  induction n with
  | zero =>
    intro Y l1 h
    unfold X12_parseScript_b2 at h
    cases h
  | succ n ih =>
    intro Y l1 h
    unfold X12_parseScript_b2 at h
    refine fw_aload_n C dX12_parseScript_2 rfl 1 rfl ?_
    refine fw_get C (ci := 10) (Cn := RX12) (Tc := TX12) (N := 19) (j := 15) ly_X12_parseScript_12 rfl (hG _ (List.mem_of_getElem? (i := 0) rfl)) (of10_0 _) (ce10 T ad _ _) (by decide) (cx_ts C _ fl_X12_parseScript_57) (fun _ h => h) (v := .int (Y 10 0 0 15)) rfl dX12_parseScript_3 ?_
    refine fw_if_eq C dX12_parseScript_6 (tgt := 94) rfl (fun c1 => ?_) (fun c1 => ?_)
    · have h := ite_t c1 h
      refine fw_iload_n C dX12_parseScript_94 rfl 0 rfl ?_
      exact fw_iret C hrt Y (Option.some.inj h) (fun t ht => ht) dX12_parseScript_95
    · have h := ite_f c1 h
      refine fw_aload_n C dX12_parseScript_9 rfl 1 rfl ?_
      obtain ⟨r2, q3, h⟩ := bd1_some h
      refine fw_callVi C (ci := 10) (Cn := RX12) (Tc := TX12) (N := 19) (As := []) (c_X12_commandHere (gac (hG _ (List.mem_of_getElem? (i := 0) rfl)) ga0) q3) (cwV 0 (cx_ts C) gX12_parseScript_X12_commandHere rfl rfl rfl (by decide +kernel) ⟨Nat.le_of_ble_eq_true rfl, Nat.le_of_ble_eq_true rfl⟩) rfl (hG _ (List.mem_of_getElem? (i := 0) rfl)) (of10_0 _) (ce10 T ad _ _) rfl (st := []) rfl (Nat.le_of_ble_eq_true rfl) ⟨Nat.le_refl 0, Nat.le_refl 0⟩ dX12_parseScript_10 (pp2 ?_)
      refine fw_istore_n C dX12_parseScript_13 rfl (by decide) (L' := [(2, .int r2), (1, .int l1), (0, .ref (ad 10 0 0))]) rfl ?_
      refine fw_iload_n C dX12_parseScript_14 rfl 0 rfl ?_
      refine fw_iconst C dX12_parseScript_15 (v := (-1)) rfl ?_
      refine fw_icmp_eq C dX12_parseScript_16 (tgt := 41) rfl (fun c4 => ?_) (fun c4 => ?_)
      · have h := ite_t c4 h
        refine fw_aload_n C dX12_parseScript_41 rfl 2 rfl ?_
        refine fw_iconst C dX12_parseScript_42 (v := 1) rfl ?_
        obtain ⟨r5, Y7, q6, h⟩ := bd2_some h
        refine fw_callVi C (ci := 10) (Cn := RX12) (Tc := TX12) (N := 19) (As := [.int 1]) (c_X12_wrong (gac (hG _ (List.mem_of_getElem? (i := 0) rfl)) ga0) q6) (cwV 1 (cx_ts C) gX12_parseScript_X12_wrong rfl rfl rfl (by decide +kernel) ⟨Nat.le_of_ble_eq_true rfl, Nat.le_of_ble_eq_true rfl⟩) rfl (hG _ (List.mem_of_getElem? (i := 0) rfl)) (of10_0 _) (ce10 T ad _ _) rfl (st := []) rfl (Nat.le_of_ble_eq_true rfl) ⟨Nat.le_refl 0, Nat.le_refl 0⟩ dX12_parseScript_43 (ppw ?_)
        exact w_X12_parseScript_b46 C hrt hG  ih _ _ _ _ h
      · have h := ite_f c4 h
        refine fw_iload_n C dX12_parseScript_19 rfl 1 rfl ?_
        refine fw_bipush C dX12_parseScript_20 (v := 30) rfl ?_
        refine fw_icmp_lt C dX12_parseScript_22 (tgt := 33) rfl (fun c23 => ?_) (fun c23 => ?_)
        · have h := ite_t c23 h
          exact w_X12_parseScript_b33 C hrt hG  ih _ _ _ h
        · have h := ite_f c23 h
          refine fw_aload_n C dX12_parseScript_25 rfl 2 rfl ?_
          refine fw_iconst C dX12_parseScript_26 (v := 5) rfl ?_
          obtain ⟨r24, Y26, q25, h⟩ := bd2_some h
          refine fw_callVi C (ci := 10) (Cn := RX12) (Tc := TX12) (N := 19) (As := [.int 5]) (c_X12_wrong (gac (hG _ (List.mem_of_getElem? (i := 0) rfl)) ga0) q25) (cwV 1 (cx_ts C) gX12_parseScript_X12_wrong rfl rfl rfl (by decide +kernel) ⟨Nat.le_of_ble_eq_true rfl, Nat.le_of_ble_eq_true rfl⟩) rfl (hG _ (List.mem_of_getElem? (i := 0) rfl)) (of10_0 _) (ce10 T ad _ _) rfl (st := []) rfl (Nat.le_of_ble_eq_true rfl) ⟨Nat.le_refl 0, Nat.le_refl 0⟩ dX12_parseScript_27 (ppw ?_)
          refine fw_if_eq C dX12_parseScript_30 (tgt := 37) rfl (fun c27 => ?_) (fun c27 => ?_)
          · have h := ite_t c27 h
            refine fw_iconst C dX12_parseScript_37 (v := 0) rfl ?_
            refine fw_goto C dX12_parseScript_38 (tgt := 46) rfl ?_
            exact w_X12_parseScript_b46 C hrt hG  ih _ _ _ _ h
          · have h := ite_f c27 h
            exact w_X12_parseScript_b33 C hrt hG  ih _ _ _ h
set_option maxRecDepth 100000 in
set_option maxHeartbeats 4000000 in
theorem w_X12_parseScript {Y : Mem} (C : Cx p s m [.ref (ad 10 0 0)].toArray meth c cX12_parseScript 4 wsX12_parseScript RX12 N0 T D gr ad) (hrt : meth.sig.returnType = (some .int)) (hG : ∀ q ∈ [(10, 0)], q ∈ gr) {res : Int32 × Mem} (h : X12_parseScript Y = some res) : FW p l e (Rm 6) s m [.ref (ad 10 0 0)].toArray below meth c 4 N0 T D gr ad 0 0 (MQ below (va_Qi (fun r Y1 => (r, Y1) = res) (WB T D gr ad) (fun q => N0 ≤ q)) [.ref (ad 10 0 0)].toArray s 0 0 (fun q => N0 ≤ q)) Y 0 [(0, .ref (ad 10 0 0))] [] := by
  unfold X12_parseScript at h
  refine fw_iconst C dX12_parseScript_0 (v := 0) rfl ?_
  refine fw_istore_n C dX12_parseScript_1 rfl (by decide) (L' := [(1, .int 0), (0, .ref (ad 10 0 0))]) rfl ?_
  exact w_X12_parseScript_b2 C hrt hG   _ _ _ h
end
set_option maxRecDepth 100000 in
set_option maxHeartbeats 4000000 in
theorem c_X12_parseScript {l : Launch} {N0 : Nat} {T : Nat → ClassId} {D : va_G} {gr : List (Nat × Nat)} {ad : Nat → Nat → Nat → Nat} {Y : Mem} {res : Int32 × Mem} (hG : ∀ q ∈ [(10, 0)], q ∈ gr) (h : X12_parseScript Y = some res) : CI l yX12_parseScript wsX12_parseScript (Rm 6) N0 T D gr ad Y [.ref (ad 10 0 0)] (fun r Y1 => (r, Y1) = res) :=
  fw_body (by decide +kernel) rfl (Nat.le_of_ble_eq_true rfl) (fun p e s m below meth c C hrt => w_X12_parseScript C hrt hG  h)
theorem ly_X12_pass_12 : ∀ w ∈ u_ws RX12 TX12 19, w ∈ wsX12_pass := by decide +kernel
theorem fl_X12_pass_13 : Cond.fieldLink RX12 13 "RecipeSchedulerModel" "m" "[I" ∈ wsX12_pass := by decide +kernel
section
variable {p : Program} {l : Launch} {e : Env} {s : State} {m : MethodId} {below : List Frame} {meth : Method} {c : Code} {N0 : Nat} {T : Nat → ClassId} {D : va_G} {gr : List (Nat × Nat)} {ad : Nat → Nat → Nat → Nat}
set_option maxRecDepth 100000 in
set_option maxHeartbeats 4000000 in
theorem w_X12_pass_b42 {a1 : Int32} (C : Cx p s m [.ref (ad 10 0 0), .int a1].toArray meth c cX12_pass 3 wsX12_pass RX12 N0 T D gr ad) (hrt : meth.sig.returnType = (some .int)) (hG : ∀ q ∈ [(10, 0)], q ∈ gr) {res : Int32 × Mem} (Y : Mem) (s0 : Int32) (s1 : Int32) (h : X12_pass_b42 a1  Y s0 s1 = some res) : FW p l e (Rm 9) s m [.ref (ad 10 0 0), .int a1].toArray below meth c 3 N0 T D gr ad 0 0 (MQ below (va_Qi (fun r Y1 => (r, Y1) = res) (WB T D gr ad) (fun q => N0 ≤ q)) [.ref (ad 10 0 0), .int a1].toArray s 0 0 (fun q => N0 ≤ q)) Y 42 [(0, .ref (ad 10 0 0)), (1, .int a1)] [.int s0, .int s1, .ref (ad 10 0 0)] := by
  unfold X12_pass_b42 at h
  refine fw_iconst C dX12_pass_42 (v := 0) rfl ?_
  obtain ⟨r5, Y7, q6, h⟩ := bd2_some h
  refine fw_callVi C (ci := 10) (Cn := RX12) (Tc := TX12) (N := 19) (As := [.int s1, .int s0, .int 0]) (c_X12_fails (gac (hG _ (List.mem_of_getElem? (i := 0) rfl)) ga0) q6) (cwV 3 (cx_ts C) gX12_pass_X12_fails rfl rfl rfl (by decide +kernel) ⟨Nat.le_of_ble_eq_true rfl, Nat.le_of_ble_eq_true rfl⟩) rfl (hG _ (List.mem_of_getElem? (i := 0) rfl)) (of10_0 _) (ce10 T ad _ _) rfl (st := []) rfl (Nat.le_of_ble_eq_true rfl) ⟨Nat.le_refl 0, Nat.le_refl 0⟩ dX12_pass_43 (ppw ?_)
  refine fw_if_eq C dX12_pass_46 (tgt := 51) rfl (fun c8 => ?_) (fun c8 => ?_)
  · have h := ite_t c8 h
    refine fw_aload_n C dX12_pass_51 rfl 0 rfl ?_
    refine fw_iconst C dX12_pass_52 (v := 0) rfl ?_
    obtain ⟨Y11, q10, h⟩ := bd1_some h
    refine fw_callVv C (ci := 10) (Cn := RX12) (Tc := TX12) (N := 19) (As := [.int 0]) (c_X12_remember (gac (hG _ (List.mem_of_getElem? (i := 0) rfl)) ga0) q10) (cwV 1 (cx_ts C) gX12_pass_X12_remember rfl rfl rfl (by decide +kernel) ⟨Nat.le_of_ble_eq_true rfl, Nat.le_of_ble_eq_true rfl⟩) rfl (hG _ (List.mem_of_getElem? (i := 0) rfl)) (of10_0 _) (ce10 T ad _ _) rfl (st := []) rfl (Nat.le_of_ble_eq_true rfl) ⟨Nat.le_refl 0, Nat.le_refl 0⟩ dX12_pass_53 (ppv ?_)
    refine fw_aload_n C dX12_pass_56 rfl 0 rfl ?_
    refine fw_iload_n C dX12_pass_57 rfl 1 rfl ?_
    obtain ⟨r12, Y14, q13, h⟩ := bd2_some h
    refine fw_callVi C (ci := 10) (Cn := RX12) (Tc := TX12) (N := 19) (As := [.int a1]) (c_X12_passMinutes (gac (hG _ (List.mem_of_getElem? (i := 0) rfl)) ga0) q13) (cwV 1 (cx_ts C) gX12_pass_X12_passMinutes rfl rfl rfl (by decide +kernel) ⟨Nat.le_of_ble_eq_true rfl, Nat.le_of_ble_eq_true rfl⟩) rfl (hG _ (List.mem_of_getElem? (i := 0) rfl)) (of10_0 _) (ce10 T ad _ _) rfl (st := []) rfl (Nat.le_of_ble_eq_true rfl) ⟨Nat.le_refl 0, Nat.le_refl 0⟩ dX12_pass_58 (ppw ?_)
    exact fw_iret C hrt Y14 (Option.some.inj h) (fun t ht => ht) dX12_pass_61
  · have h := ite_f c8 h
    refine fw_iconst C dX12_pass_49 (v := 0) rfl ?_
    exact fw_iret C hrt Y7 (Option.some.inj h) (fun t ht => ht) dX12_pass_50
set_option maxRecDepth 100000 in
set_option maxHeartbeats 4000000 in
theorem w_X12_pass_b41 {a1 : Int32} (C : Cx p s m [.ref (ad 10 0 0), .int a1].toArray meth c cX12_pass 3 wsX12_pass RX12 N0 T D gr ad) (hrt : meth.sig.returnType = (some .int)) (hG : ∀ q ∈ [(10, 0)], q ∈ gr) {res : Int32 × Mem} (Y : Mem) (s0 : Int32) (h : X12_pass_b41 a1  Y s0 = some res) : FW p l e (Rm 9) s m [.ref (ad 10 0 0), .int a1].toArray below meth c 3 N0 T D gr ad 0 0 (MQ below (va_Qi (fun r Y1 => (r, Y1) = res) (WB T D gr ad) (fun q => N0 ≤ q)) [.ref (ad 10 0 0), .int a1].toArray s 0 0 (fun q => N0 ≤ q)) Y 41 [(0, .ref (ad 10 0 0)), (1, .int a1)] [.int s0, .ref (ad 10 0 0)] := by
  unfold X12_pass_b41 at h
  refine fw_iconst C dX12_pass_41 (v := 0) rfl ?_
  exact w_X12_pass_b42 C hrt hG   _ _ _ h
set_option maxRecDepth 100000 in
set_option maxHeartbeats 4000000 in
theorem w_X12_pass_b19 {a1 : Int32} (C : Cx p s m [.ref (ad 10 0 0), .int a1].toArray meth c cX12_pass 3 wsX12_pass RX12 N0 T D gr ad) (hrt : meth.sig.returnType = (some .int)) (hG : ∀ q ∈ [(10, 0)], q ∈ gr) {res : Int32 × Mem} (Y : Mem) (l2 : Int32) (s0 : Int32) (h : X12_pass_b19 a1  Y l2 s0 = some res) : FW p l e (Rm 9) s m [.ref (ad 10 0 0), .int a1].toArray below meth c 3 N0 T D gr ad 0 0 (MQ below (va_Qi (fun r Y1 => (r, Y1) = res) (WB T D gr ad) (fun q => N0 ≤ q)) [.ref (ad 10 0 0), .int a1].toArray s 0 0 (fun q => N0 ≤ q)) Y 19 [(2, .int l2), (0, .ref (ad 10 0 0)), (1, .int a1)] [.int s0, .ref (ad 10 0 0)] := by
  unfold X12_pass_b19 at h
  refine fw_iload_n C dX12_pass_19 rfl 0 rfl ?_
  refine fw_if_eq C dX12_pass_20 (tgt := 41) rfl (fun c4 => ?_) (fun c4 => ?_)
  · have h := ite_t c4 h
    refine fw_sub [1, 2] (L' := [(0, .ref (ad 10 0 0)), (1, .int a1)]) rfl ?_
    exact w_X12_pass_b41 C hrt hG   _ _ h
  · have h := ite_f c4 h
    refine fw_aload_n C dX12_pass_23 rfl 1 rfl ?_
    refine fw_get C (ci := 10) (Cn := RX12) (Tc := TX12) (N := 19) (j := 0) ly_X12_pass_12 rfl (hG _ (List.mem_of_getElem? (i := 0) rfl)) (of10_0 _) (ce10 T ad _ _) (by decide) (cx_ts C _ fl_X12_pass_13) (fun _ h => h) (v := .ref (ad 10 0 1)) rfl dX12_pass_24 ?_
    refine fw_iconst C dX12_pass_27 (v := 4) rfl ?_
    obtain ⟨b15, h⟩ := gd_some h
    refine fw_iald2 C (hG _ (List.mem_of_getElem? (i := 0) rfl)) (of10_1 _) (ca10_1 T ad _ _) b15 (Nat.le_of_ble_eq_true rfl) dX12_pass_28 ?_
    refine fw_iload_n C dX12_pass_29 rfl 2 rfl ?_
    refine fw_iadd C dX12_pass_30 ?_
    refine fw_sipush C dX12_pass_31 (v := 9999) rfl ?_
    refine fw_icmp_le C dX12_pass_34 (tgt := 41) rfl (fun c16 => ?_) (fun c16 => ?_)
    · have h := ite_t c16 h
      refine fw_sub [1, 2] (L' := [(0, .ref (ad 10 0 0)), (1, .int a1)]) rfl ?_
      exact w_X12_pass_b41 C hrt hG   _ _ h
    · have h := ite_f c16 h
      refine fw_iconst C dX12_pass_37 (v := 1) rfl ?_
      refine fw_goto C dX12_pass_38 (tgt := 42) rfl ?_
      refine fw_sub [1, 2] (L' := [(0, .ref (ad 10 0 0)), (1, .int a1)]) rfl ?_
      exact w_X12_pass_b42 C hrt hG   _ _ _ h
set_option maxRecDepth 100000 in
set_option maxHeartbeats 4000000 in
theorem w_X12_pass {Y : Mem} {a1 : Int32} (C : Cx p s m [.ref (ad 10 0 0), .int a1].toArray meth c cX12_pass 3 wsX12_pass RX12 N0 T D gr ad) (hrt : meth.sig.returnType = (some .int)) (hG : ∀ q ∈ [(10, 0)], q ∈ gr) {res : Int32 × Mem} (h : X12_pass Y a1 = some res) : FW p l e (Rm 9) s m [.ref (ad 10 0 0), .int a1].toArray below meth c 3 N0 T D gr ad 0 0 (MQ below (va_Qi (fun r Y1 => (r, Y1) = res) (WB T D gr ad) (fun q => N0 ≤ q)) [.ref (ad 10 0 0), .int a1].toArray s 0 0 (fun q => N0 ≤ q)) Y 0 [(0, .ref (ad 10 0 0)), (1, .int a1)] [] := by
  unfold X12_pass at h
  refine fw_iload_n C dX12_pass_0 rfl 1 rfl ?_
  refine fw_iconst C dX12_pass_1 (v := 1) rfl ?_
  refine fw_sipush C dX12_pass_2 (v := 200) rfl ?_
  obtain ⟨r1, q2, h⟩ := bd1_some h
  refine fw_callSi C (As := [.int a1, .int 1, .int 200]) (c_X12_in ga0 q2) (va_cwS 3 (cx_ts C) gX12_pass_X12_in rfl rfl rfl (by decide +kernel) ⟨Nat.le_of_ble_eq_true rfl, Nat.le_of_ble_eq_true rfl⟩) rfl (st := []) rfl (Nat.le_of_ble_eq_true rfl) ⟨Nat.le_refl 0, Nat.le_refl 0⟩ dX12_pass_5 (pp2 ?_)
  refine fw_istore_n C dX12_pass_8 rfl (by decide) (L' := [(2, .int r1), (0, .ref (ad 10 0 0)), (1, .int a1)]) rfl ?_
  refine fw_aload_n C dX12_pass_9 rfl 1 rfl ?_
  refine fw_iload_n C dX12_pass_10 rfl 0 rfl ?_
  refine fw_if_ne C dX12_pass_11 (tgt := 18) rfl (fun c3 => ?_) (fun c3 => ?_)
  · have h := ite_f c3 h
    refine fw_iconst C dX12_pass_18 (v := 0) rfl ?_
    exact w_X12_pass_b19 C hrt hG   _ _ _ h
  · have h := ite_t c3 h
    refine fw_iconst C dX12_pass_14 (v := 1) rfl ?_
    refine fw_goto C dX12_pass_15 (tgt := 19) rfl ?_
    exact w_X12_pass_b19 C hrt hG   _ _ _ h
end
set_option maxRecDepth 100000 in
set_option maxHeartbeats 4000000 in
theorem c_X12_pass {l : Launch} {N0 : Nat} {T : Nat → ClassId} {D : va_G} {gr : List (Nat × Nat)} {ad : Nat → Nat → Nat → Nat} {Y : Mem} {a1 : Int32} {res : Int32 × Mem} (hG : ∀ q ∈ [(10, 0)], q ∈ gr) (h : X12_pass Y a1 = some res) : CI l yX12_pass wsX12_pass (Rm 9) N0 T D gr ad Y [.ref (ad 10 0 0), .int a1] (fun r Y1 => (r, Y1) = res) :=
  fw_body (by decide +kernel) rfl (Nat.le_of_ble_eq_true rfl) (fun p e s m below meth c C hrt => w_X12_pass C hrt hG  h)
theorem ly_X12_pathLength_12 : ∀ w ∈ u_ws RX12 TX12 19, w ∈ wsX12_pathLength := by decide +kernel
theorem fl_X12_pathLength_42 : Cond.fieldLink RX12 42 "RecipeSchedulerModel" "paths" "[I" ∈ wsX12_pathLength := by decide +kernel
section
variable {p : Program} {l : Launch} {e : Env} {s : State} {m : MethodId} {below : List Frame} {meth : Method} {c : Code} {N0 : Nat} {T : Nat → ClassId} {D : va_G} {gr : List (Nat × Nat)} {ad : Nat → Nat → Nat → Nat}
set_option maxRecDepth 100000 in
set_option maxHeartbeats 4000000 in
theorem w_X12_pathLength_b14 {a1 : Int32} (C : Cx p s m [.ref (ad 10 0 0), .int a1].toArray meth c cX12_pathLength 2 wsX12_pathLength RX12 N0 T D gr ad) (hrt : meth.sig.returnType = (some .int)) (hG : ∀ q ∈ [(10, 0)], q ∈ gr) {res : Int32 × Mem} (Y : Mem) (s0 : Int32) (h : X12_pathLength_b14 a1  Y s0 = some res) : FW p l e (Rm 3) s m [.ref (ad 10 0 0), .int a1].toArray below meth c 2 N0 T D gr ad 0 0 (MQ below (va_Qi (fun r Y1 => (r, Y1) = res) (WB T D gr ad) (fun q => N0 ≤ q)) [.ref (ad 10 0 0), .int a1].toArray s 0 0 (fun q => N0 ≤ q)) Y 14 [(0, .ref (ad 10 0 0)), (1, .int a1)] [.int s0, .ref (ad 10 0 0)] := by
  unfold X12_pathLength_b14 at h
  refine fw_iconst C dX12_pathLength_14 (v := 0) rfl ?_
  refine fw_iconst C dX12_pathLength_15 (v := 0) rfl ?_
  obtain ⟨r4, Y6, q5, h⟩ := bd2_some h
  refine fw_callVi C (ci := 10) (Cn := RX12) (Tc := TX12) (N := 19) (As := [.int s0, .int 0, .int 0]) (c_X12_fails (gac (hG _ (List.mem_of_getElem? (i := 0) rfl)) ga0) q5) (cwV 3 (cx_ts C) gX12_pathLength_X12_fails rfl rfl rfl (by decide +kernel) ⟨Nat.le_of_ble_eq_true rfl, Nat.le_of_ble_eq_true rfl⟩) rfl (hG _ (List.mem_of_getElem? (i := 0) rfl)) (of10_0 _) (ce10 T ad _ _) rfl (st := []) rfl (Nat.le_of_ble_eq_true rfl) ⟨Nat.le_refl 0, Nat.le_refl 0⟩ dX12_pathLength_16 (ppw ?_)
  refine fw_if_eq C dX12_pathLength_19 (tgt := 24) rfl (fun c7 => ?_) (fun c7 => ?_)
  · have h := ite_t c7 h
    refine fw_aload_n C dX12_pathLength_24 rfl 0 rfl ?_
    obtain ⟨Y10, q9, h⟩ := bd1_some h
    refine fw_callVv C (ci := 10) (Cn := RX12) (Tc := TX12) (N := 19) (As := []) (c_X12_computePaths (gac (hG _ (List.mem_of_getElem? (i := 0) rfl)) ga0) q9) (cwV 0 (cx_ts C) gX12_pathLength_X12_computePaths rfl rfl rfl (by decide +kernel) ⟨Nat.le_of_ble_eq_true rfl, Nat.le_of_ble_eq_true rfl⟩) rfl (hG _ (List.mem_of_getElem? (i := 0) rfl)) (of10_0 _) (ce10 T ad _ _) rfl (st := []) rfl (Nat.le_of_ble_eq_true rfl) ⟨Nat.le_refl 0, Nat.le_refl 0⟩ dX12_pathLength_25 (ppv ?_)
    refine fw_aload_n C dX12_pathLength_28 rfl 0 rfl ?_
    refine fw_get C (ci := 10) (Cn := RX12) (Tc := TX12) (N := 19) (j := 10) ly_X12_pathLength_12 rfl (hG _ (List.mem_of_getElem? (i := 0) rfl)) (of10_0 _) (ce10 T ad _ _) (by decide) (cx_ts C _ fl_X12_pathLength_42) (fun _ h => h) (v := .ref (ad 10 0 5)) rfl dX12_pathLength_29 ?_
    refine fw_iload_n C dX12_pathLength_32 rfl 1 rfl ?_
    obtain ⟨b11, h⟩ := gd_some h
    refine fw_iald2 C (hG _ (List.mem_of_getElem? (i := 0) rfl)) (of10_5 _) (ca10_5 T ad _ _) b11 (Nat.le_of_ble_eq_true rfl) dX12_pathLength_33 ?_
    exact fw_iret C hrt Y10 (Option.some.inj h) (fun t ht => ht) dX12_pathLength_34
  · have h := ite_f c7 h
    refine fw_iconst C dX12_pathLength_22 (v := 0) rfl ?_
    exact fw_iret C hrt Y6 (Option.some.inj h) (fun t ht => ht) dX12_pathLength_23
set_option maxRecDepth 100000 in
set_option maxHeartbeats 4000000 in
theorem w_X12_pathLength {Y : Mem} {a1 : Int32} (C : Cx p s m [.ref (ad 10 0 0), .int a1].toArray meth c cX12_pathLength 2 wsX12_pathLength RX12 N0 T D gr ad) (hrt : meth.sig.returnType = (some .int)) (hG : ∀ q ∈ [(10, 0)], q ∈ gr) {res : Int32 × Mem} (h : X12_pathLength Y a1 = some res) : FW p l e (Rm 3) s m [.ref (ad 10 0 0), .int a1].toArray below meth c 2 N0 T D gr ad 0 0 (MQ below (va_Qi (fun r Y1 => (r, Y1) = res) (WB T D gr ad) (fun q => N0 ≤ q)) [.ref (ad 10 0 0), .int a1].toArray s 0 0 (fun q => N0 ≤ q)) Y 0 [(0, .ref (ad 10 0 0)), (1, .int a1)] [] := by
  unfold X12_pathLength at h
  refine fw_aload_n C dX12_pathLength_0 rfl 0 rfl ?_
  refine fw_aload_n C dX12_pathLength_1 rfl 0 rfl ?_
  refine fw_iload_n C dX12_pathLength_2 rfl 1 rfl ?_
  obtain ⟨r1, q2, h⟩ := bd1_some h
  refine fw_callVi C (ci := 10) (Cn := RX12) (Tc := TX12) (N := 19) (As := [.int a1]) (c_X12_isStep (gac (hG _ (List.mem_of_getElem? (i := 0) rfl)) ga0) q2) (cwV 1 (cx_ts C) gX12_pathLength_X12_isStep rfl rfl rfl (by decide +kernel) ⟨Nat.le_of_ble_eq_true rfl, Nat.le_of_ble_eq_true rfl⟩) rfl (hG _ (List.mem_of_getElem? (i := 0) rfl)) (of10_0 _) (ce10 T ad _ _) rfl (st := [.ref (ad 10 0 0)]) rfl (Nat.le_of_ble_eq_true rfl) ⟨Nat.le_refl 0, Nat.le_refl 0⟩ dX12_pathLength_3 (pp2 ?_)
  refine fw_if_ne C dX12_pathLength_6 (tgt := 13) rfl (fun c3 => ?_) (fun c3 => ?_)
  · have h := ite_f c3 h
    refine fw_iconst C dX12_pathLength_13 (v := 0) rfl ?_
    exact w_X12_pathLength_b14 C hrt hG   _ _ h
  · have h := ite_t c3 h
    refine fw_iconst C dX12_pathLength_9 (v := 1) rfl ?_
    refine fw_goto C dX12_pathLength_10 (tgt := 14) rfl ?_
    exact w_X12_pathLength_b14 C hrt hG   _ _ h
end
set_option maxRecDepth 100000 in
set_option maxHeartbeats 4000000 in
theorem c_X12_pathLength {l : Launch} {N0 : Nat} {T : Nat → ClassId} {D : va_G} {gr : List (Nat × Nat)} {ad : Nat → Nat → Nat → Nat} {Y : Mem} {a1 : Int32} {res : Int32 × Mem} (hG : ∀ q ∈ [(10, 0)], q ∈ gr) (h : X12_pathLength Y a1 = some res) : CI l yX12_pathLength wsX12_pathLength (Rm 3) N0 T D gr ad Y [.ref (ad 10 0 0), .int a1] (fun r Y1 => (r, Y1) = res) :=
  fw_body (by decide +kernel) rfl (Nat.le_of_ble_eq_true rfl) (fun p e s m below meth c C hrt => w_X12_pathLength C hrt hG  h)
section
variable {p : Program} {l : Launch} {e : Env} {s : State} {m : MethodId} {below : List Frame} {meth : Method} {c : Code} {N0 : Nat} {T : Nat → ClassId} {D : va_G} {gr : List (Nat × Nat)} {ad : Nat → Nat → Nat → Nat}
set_option maxRecDepth 100000 in
set_option maxHeartbeats 4000000 in
theorem w_X12_predecessor_b14 {a1 : Int32} {a2 : Int32} (C : Cx p s m [.ref (ad 10 0 0), .int a1, .int a2].toArray meth c cX12_predecessor 3 wsX12_predecessor RX12 N0 T D gr ad) (hrt : meth.sig.returnType = (some .int)) (hG : ∀ q ∈ [(10, 0)], q ∈ gr) {res : Int32 × Mem} (Y : Mem) (s0 : Int32) (h : X12_predecessor_b14 a1 a2  Y s0 = some res) : FW p l e (Rm 2) s m [.ref (ad 10 0 0), .int a1, .int a2].toArray below meth c 3 N0 T D gr ad 0 0 (MQ below (va_Qi (fun r Y1 => (r, Y1) = res) (WB T D gr ad) (fun q => N0 ≤ q)) [.ref (ad 10 0 0), .int a1, .int a2].toArray s 0 0 (fun q => N0 ≤ q)) Y 14 [(0, .ref (ad 10 0 0)), (1, .int a1), (2, .int a2)] [.int s0, .ref (ad 10 0 0)] := by
  unfold X12_predecessor_b14 at h
  refine fw_iconst C dX12_predecessor_14 (v := 0) rfl ?_
  refine fw_iconst C dX12_predecessor_15 (v := 0) rfl ?_
  obtain ⟨r4, Y6, q5, h⟩ := bd2_some h
  refine fw_callVi C (ci := 10) (Cn := RX12) (Tc := TX12) (N := 19) (As := [.int s0, .int 0, .int 0]) (c_X12_fails (gac (hG _ (List.mem_of_getElem? (i := 0) rfl)) ga0) q5) (cwV 3 (cx_ts C) gX12_predecessor_X12_fails rfl rfl rfl (by decide +kernel) ⟨Nat.le_of_ble_eq_true rfl, Nat.le_of_ble_eq_true rfl⟩) rfl (hG _ (List.mem_of_getElem? (i := 0) rfl)) (of10_0 _) (ce10 T ad _ _) rfl (st := []) rfl (Nat.le_of_ble_eq_true rfl) ⟨Nat.le_refl 0, Nat.le_refl 0⟩ dX12_predecessor_16 (ppw ?_)
  refine fw_if_eq C dX12_predecessor_19 (tgt := 24) rfl (fun c7 => ?_) (fun c7 => ?_)
  · have h := ite_t c7 h
    refine fw_iload_n C dX12_predecessor_24 rfl 2 rfl ?_
    refine fw_iconst C dX12_predecessor_25 (v := 0) rfl ?_
    refine fw_aload_n C dX12_predecessor_26 rfl 0 rfl ?_
    refine fw_iload_n C dX12_predecessor_27 rfl 1 rfl ?_
    refine fw_bipush C dX12_predecessor_28 (v := 12) rfl ?_
    obtain ⟨r8, q9, h⟩ := bd1_some h
    refine fw_callVi C (ci := 10) (Cn := RX12) (Tc := TX12) (N := 19) (As := [.int a1, .int 12]) (c_X12_of (gac (hG _ (List.mem_of_getElem? (i := 0) rfl)) ga0) q9) (cwV 2 (cx_ts C) gX12_predecessor_X12_of rfl rfl rfl (by decide +kernel) ⟨Nat.le_of_ble_eq_true rfl, Nat.le_of_ble_eq_true rfl⟩) rfl (hG _ (List.mem_of_getElem? (i := 0) rfl)) (of10_0 _) (ce10 T ad _ _) rfl (st := [.int 0, .int a2]) rfl (Nat.le_of_ble_eq_true rfl) ⟨Nat.le_refl 0, Nat.le_refl 0⟩ dX12_predecessor_30 (pp2 ?_)
    refine fw_iconst C dX12_predecessor_33 (v := 1) rfl ?_
    refine fw_isub C dX12_predecessor_34 ?_
    obtain ⟨r10, q11, h⟩ := bd1_some h
    refine fw_callSi C (As := [.int a2, .int 0, .int (r8 - 1)]) (c_X12_in ga0 q11) (va_cwS 3 (cx_ts C) gX12_predecessor_X12_in rfl rfl rfl (by decide +kernel) ⟨Nat.le_of_ble_eq_true rfl, Nat.le_of_ble_eq_true rfl⟩) rfl (st := []) rfl (Nat.le_of_ble_eq_true rfl) ⟨Nat.le_refl 0, Nat.le_refl 0⟩ dX12_predecessor_35 (pp2 ?_)
    refine fw_if_eq C dX12_predecessor_38 (tgt := 53) rfl (fun c12 => ?_) (fun c12 => ?_)
    · have h := ite_t c12 h
      refine fw_iconst C dX12_predecessor_53 (v := (-1)) rfl ?_
      exact fw_iret C hrt Y6 (Option.some.inj h) (fun t ht => ht) dX12_predecessor_54
    · have h := ite_f c12 h
      refine fw_aload_n C dX12_predecessor_41 rfl 0 rfl ?_
      refine fw_iload_n C dX12_predecessor_42 rfl 1 rfl ?_
      refine fw_bipush C dX12_predecessor_43 (v := 13) rfl ?_
      refine fw_iload_n C dX12_predecessor_45 rfl 2 rfl ?_
      refine fw_iadd C dX12_predecessor_46 ?_
      obtain ⟨r13, q14, h⟩ := bd1_some h
      refine fw_callVi C (ci := 10) (Cn := RX12) (Tc := TX12) (N := 19) (As := [.int a1, .int (13 + a2)]) (c_X12_of (gac (hG _ (List.mem_of_getElem? (i := 0) rfl)) ga0) q14) (cwV 2 (cx_ts C) gX12_predecessor_X12_of rfl rfl rfl (by decide +kernel) ⟨Nat.le_of_ble_eq_true rfl, Nat.le_of_ble_eq_true rfl⟩) rfl (hG _ (List.mem_of_getElem? (i := 0) rfl)) (of10_0 _) (ce10 T ad _ _) rfl (st := []) rfl (Nat.le_of_ble_eq_true rfl) ⟨Nat.le_refl 0, Nat.le_refl 0⟩ dX12_predecessor_47 (pp2 ?_)
      refine fw_goto C dX12_predecessor_50 (tgt := 54) rfl ?_
      exact fw_iret C hrt Y6 (Option.some.inj h) (fun t ht => ht) dX12_predecessor_54
  · have h := ite_f c7 h
    refine fw_iconst C dX12_predecessor_22 (v := 0) rfl ?_
    exact fw_iret C hrt Y6 (Option.some.inj h) (fun t ht => ht) dX12_predecessor_23
set_option maxRecDepth 100000 in
set_option maxHeartbeats 4000000 in
theorem w_X12_predecessor {Y : Mem} {a1 : Int32} {a2 : Int32} (C : Cx p s m [.ref (ad 10 0 0), .int a1, .int a2].toArray meth c cX12_predecessor 3 wsX12_predecessor RX12 N0 T D gr ad) (hrt : meth.sig.returnType = (some .int)) (hG : ∀ q ∈ [(10, 0)], q ∈ gr) {res : Int32 × Mem} (h : X12_predecessor Y a1 a2 = some res) : FW p l e (Rm 2) s m [.ref (ad 10 0 0), .int a1, .int a2].toArray below meth c 3 N0 T D gr ad 0 0 (MQ below (va_Qi (fun r Y1 => (r, Y1) = res) (WB T D gr ad) (fun q => N0 ≤ q)) [.ref (ad 10 0 0), .int a1, .int a2].toArray s 0 0 (fun q => N0 ≤ q)) Y 0 [(0, .ref (ad 10 0 0)), (1, .int a1), (2, .int a2)] [] := by
  unfold X12_predecessor at h
  refine fw_aload_n C dX12_predecessor_0 rfl 0 rfl ?_
  refine fw_aload_n C dX12_predecessor_1 rfl 0 rfl ?_
  refine fw_iload_n C dX12_predecessor_2 rfl 1 rfl ?_
  obtain ⟨r1, q2, h⟩ := bd1_some h
  refine fw_callVi C (ci := 10) (Cn := RX12) (Tc := TX12) (N := 19) (As := [.int a1]) (c_X12_isStep (gac (hG _ (List.mem_of_getElem? (i := 0) rfl)) ga0) q2) (cwV 1 (cx_ts C) gX12_predecessor_X12_isStep rfl rfl rfl (by decide +kernel) ⟨Nat.le_of_ble_eq_true rfl, Nat.le_of_ble_eq_true rfl⟩) rfl (hG _ (List.mem_of_getElem? (i := 0) rfl)) (of10_0 _) (ce10 T ad _ _) rfl (st := [.ref (ad 10 0 0)]) rfl (Nat.le_of_ble_eq_true rfl) ⟨Nat.le_refl 0, Nat.le_refl 0⟩ dX12_predecessor_3 (pp2 ?_)
  refine fw_if_ne C dX12_predecessor_6 (tgt := 13) rfl (fun c3 => ?_) (fun c3 => ?_)
  · have h := ite_f c3 h
    refine fw_iconst C dX12_predecessor_13 (v := 0) rfl ?_
    exact w_X12_predecessor_b14 C hrt hG   _ _ h
  · have h := ite_t c3 h
    refine fw_iconst C dX12_predecessor_9 (v := 1) rfl ?_
    refine fw_goto C dX12_predecessor_10 (tgt := 14) rfl ?_
    exact w_X12_predecessor_b14 C hrt hG   _ _ h
end
set_option maxRecDepth 100000 in
set_option maxHeartbeats 4000000 in
theorem c_X12_predecessor {l : Launch} {N0 : Nat} {T : Nat → ClassId} {D : va_G} {gr : List (Nat × Nat)} {ad : Nat → Nat → Nat → Nat} {Y : Mem} {a1 : Int32} {a2 : Int32} {res : Int32 × Mem} (hG : ∀ q ∈ [(10, 0)], q ∈ gr) (h : X12_predecessor Y a1 a2 = some res) : CI l yX12_predecessor wsX12_predecessor (Rm 2) N0 T D gr ad Y [.ref (ad 10 0 0), .int a1, .int a2] (fun r Y1 => (r, Y1) = res) :=
  fw_body (by decide +kernel) rfl (Nat.le_of_ble_eq_true rfl) (fun p e s m below meth c C hrt => w_X12_predecessor C hrt hG  h)
theorem ly_X12_put_12 : ∀ w ∈ u_ws RX12 TX12 19, w ∈ wsX12_put := by decide +kernel
theorem fl_X12_put_36 : Cond.fieldLink RX12 36 "RecipeSchedulerModel" "written" "[I" ∈ wsX12_put := by decide +kernel
theorem fl_X12_put_39 : Cond.fieldLink RX12 39 "RecipeSchedulerModel" "writtenLength" "I" ∈ wsX12_put := by decide +kernel
section
variable {p : Program} {l : Launch} {e : Env} {s : State} {m : MethodId} {below : List Frame} {meth : Method} {c : Code} {N0 : Nat} {T : Nat → ClassId} {D : va_G} {gr : List (Nat × Nat)} {ad : Nat → Nat → Nat → Nat}
set_option maxRecDepth 100000 in
set_option maxHeartbeats 4000000 in
theorem w_X12_put {Y : Mem} {a1 : Int32} (C : Cx p s m [.ref (ad 10 0 0), .int a1].toArray meth c cX12_put 2 wsX12_put RX12 N0 T D gr ad) (hrt : meth.sig.returnType = none) (hG : ∀ q ∈ [(10, 0)], q ∈ gr) {res : Mem} (h : X12_put Y a1 = some res) : FW p l e (Rm 0) s m [.ref (ad 10 0 0), .int a1].toArray below meth c 2 N0 T D gr ad 0 0 (MQ below (va_Qv (fun Y1 => Y1 = res) (WB T D gr ad) (fun q => N0 ≤ q)) [.ref (ad 10 0 0), .int a1].toArray s 0 0 (fun q => N0 ≤ q)) Y 0 [(0, .ref (ad 10 0 0)), (1, .int a1)] [] := by
  unfold X12_put at h
  refine fw_aload_n C dX12_put_0 rfl 0 rfl ?_
  refine fw_get C (ci := 10) (Cn := RX12) (Tc := TX12) (N := 19) (j := 7) ly_X12_put_12 rfl (hG _ (List.mem_of_getElem? (i := 0) rfl)) (of10_0 _) (ce10 T ad _ _) (by decide) (cx_ts C _ fl_X12_put_36) (fun _ h => h) (v := .ref (ad 10 0 4)) rfl dX12_put_1 ?_
  refine fw_aload_n C dX12_put_4 rfl 0 rfl ?_
  refine fw_get C (ci := 10) (Cn := RX12) (Tc := TX12) (N := 19) (j := 8) ly_X12_put_12 rfl (hG _ (List.mem_of_getElem? (i := 0) rfl)) (of10_0 _) (ce10 T ad _ _) (by decide) (cx_ts C _ fl_X12_put_39) (fun _ h => h) (v := .int (Y 10 0 0 8)) rfl dX12_put_5 ?_
  refine fw_iload_n C dX12_put_8 rfl 1 rfl ?_
  obtain ⟨b1, h⟩ := gd_some h
  obtain ⟨Y2, e3, h⟩ := lt_some h
  refine fw_iast2 C (hG _ (List.mem_of_getElem? (i := 0) rfl)) (of10_4 _) (ca10_4 T ad _) b1 (Nat.le_of_ble_eq_true rfl) dX12_put_9 ?_
  refine fw_mem e3 ?_
  refine fw_aload_n C dX12_put_10 rfl 0 rfl ?_
  refine fw_dup C dX12_put_11 rfl ?_
  refine fw_get C (ci := 10) (Cn := RX12) (Tc := TX12) (N := 19) (j := 8) ly_X12_put_12 rfl (hG _ (List.mem_of_getElem? (i := 0) rfl)) (of10_0 _) (ce10 T ad _ _) (by decide) (cx_ts C _ fl_X12_put_39) (fun _ h => h) (v := .int (Y2 10 0 0 8)) rfl dX12_put_12 ?_
  refine fw_iconst C dX12_put_15 (v := 1) rfl ?_
  refine fw_iadd C dX12_put_16 ?_
  obtain ⟨Y4, e5, h⟩ := lt_some h
  refine fw_put C (ci := 10) (Cn := RX12) (Tc := TX12) (N := 19) (j := 8) (ty := .int) (upd (Y2 10 0 0) 8 ((Y2 10 0 0 8) + 1)) ly_X12_put_12 rfl tyX12_ok nmX12 (hG _ (List.mem_of_getElem? (i := 0) rfl)) (of10_0 _) (ce10 T ad _ _) (by decide) (cx_ts C _ fl_X12_put_39) (fun _ h => h) rfl (by decide +kernel) rfl rfl (Nat.le_of_ble_eq_true rfl) (ce10_put8 T ad _ _ _) dX12_put_17 ?_
  refine fw_mem ((up_eq _ _ _ _ _ _).symm.trans e5) ?_
  exact fw_vret C hrt Y4 (Option.some.inj h) (fun t ht => ht) dX12_put_20
end
set_option maxRecDepth 100000 in
set_option maxHeartbeats 4000000 in
theorem c_X12_put {l : Launch} {N0 : Nat} {T : Nat → ClassId} {D : va_G} {gr : List (Nat × Nat)} {ad : Nat → Nat → Nat → Nat} {Y : Mem} {a1 : Int32} {res : Mem} (hG : ∀ q ∈ [(10, 0)], q ∈ gr) (h : X12_put Y a1 = some res) : CV l yX12_put wsX12_put (Rm 0) N0 T D gr ad Y [.ref (ad 10 0 0), .int a1] (fun Y1 => Y1 = res) :=
  fw_body (by decide +kernel) rfl (Nat.le_of_ble_eq_true rfl) (fun p e s m below meth c C hrt => w_X12_put C hrt hG  h)
