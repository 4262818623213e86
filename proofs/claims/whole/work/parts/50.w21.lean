theorem ly_X12_runScript_12 : ∀ w ∈ u_ws RX12 TX12 19, w ∈ wsX12_runScript := by decide +kernel
theorem fl_X12_runScript_27 : Cond.fieldLink RX12 27 "RecipeSchedulerModel" "length" "I" ∈ wsX12_runScript := by decide +kernel
theorem fl_X12_runScript_66 : Cond.fieldLink RX12 66 "RecipeSchedulerModel" "commands" "[I" ∈ wsX12_runScript := by decide +kernel
section
variable {p : Program} {l : Launch} {e : Env} {s : State} {m : MethodId} {below : List Frame} {meth : Method} {c : Code} {N0 : Nat} {T : Nat → ClassId} {D : va_G} {gr : List (Nat × Nat)} {ad : Nat → Nat → Nat → Nat}
set_option maxRecDepth 100000 in
set_option maxHeartbeats 4000000 in
theorem w_X12_runScript_b42  (C : Cx p s m [.ref (ad 10 0 0)].toArray meth c cX12_runScript 3 wsX12_runScript RX12 N0 T D gr ad) (hrt : meth.sig.returnType = (some .int)) (hG : ∀ q ∈ [(10, 0)], q ∈ gr) {res : Int32 × Mem} : ∀ (n : Nat) (Y : Mem) (l2 : Int32) (l1 : Int32), X12_runScript_b42   n Y l2 l1 = some res → FW p l e (Rm 10) s m [.ref (ad 10 0 0)].toArray below meth c 3 N0 T D gr ad 0 0 (MQ below (va_Qi (fun r Y1 => (r, Y1) = res) (WB T D gr ad) (fun q => N0 ≤ q)) [.ref (ad 10 0 0)].toArray s 0 0 (fun q => N0 ≤ q)) Y 42 [(2, .int l2), (1, .int l1), (0, .ref (ad 10 0 0))] [] := by
  intro n
  induction n with
  | zero =>
    intro Y l2 l1 h
    unfold X12_runScript_b42 at h
    cases h
  | succ n ih =>
    intro Y l2 l1 h
    unfold X12_runScript_b42 at h
    refine fw_iload_n C dX12_runScript_42 rfl 0 rfl ?_
    refine fw_iload_n C dX12_runScript_43 rfl 1 rfl ?_
    refine fw_icmp_ge C dX12_runScript_44 (tgt := 120) rfl (fun c17 => ?_) (fun c17 => ?_)
    · have h := ite_t c17 h
      refine fw_iload_n C dX12_runScript_120 rfl 0 rfl ?_
      exact fw_iret C hrt Y (Option.some.inj h) (fun t ht => ht) dX12_runScript_121
    · have h := ite_f c17 h
      refine fw_aload_n C dX12_runScript_47 rfl 2 rfl ?_
      refine fw_aload_n C dX12_runScript_48 rfl 2 rfl ?_
      refine fw_get C (ci := 10) (Cn := RX12) (Tc := TX12) (N := 19) (j := 18) ly_X12_runScript_12 rfl (hG _ (List.mem_of_getElem? (i := 0) rfl)) (of10_0 _) (ce10 T ad _ _) (by decide) (cx_ts C _ fl_X12_runScript_66) (fun _ h => h) (v := .ref (ad 10 0 9)) rfl dX12_runScript_49 ?_
      refine fw_iload_n C dX12_runScript_52 rfl 0 rfl ?_
      refine fw_iconst C dX12_runScript_53 (v := 3) rfl ?_
      refine fw_imul C dX12_runScript_54 ?_
      obtain ⟨b18, h⟩ := gd_some h
      refine fw_iald2 C (hG _ (List.mem_of_getElem? (i := 0) rfl)) (of10_9 _) (ca10_9 T ad _ _) b18 (Nat.le_of_ble_eq_true rfl) dX12_runScript_55 ?_
      refine fw_aload_n C dX12_runScript_56 rfl 2 rfl ?_
      refine fw_get C (ci := 10) (Cn := RX12) (Tc := TX12) (N := 19) (j := 18) ly_X12_runScript_12 rfl (hG _ (List.mem_of_getElem? (i := 0) rfl)) (of10_0 _) (ce10 T ad _ _) (by decide) (cx_ts C _ fl_X12_runScript_66) (fun _ h => h) (v := .ref (ad 10 0 9)) rfl dX12_runScript_57 ?_
      refine fw_iload_n C dX12_runScript_60 rfl 0 rfl ?_
      refine fw_iconst C dX12_runScript_61 (v := 3) rfl ?_
      refine fw_imul C dX12_runScript_62 ?_
      refine fw_iconst C dX12_runScript_63 (v := 1) rfl ?_
      refine fw_iadd C dX12_runScript_64 ?_
      obtain ⟨b19, h⟩ := gd_some h
      refine fw_iald2 C (hG _ (List.mem_of_getElem? (i := 0) rfl)) (of10_9 _) (ca10_9 T ad _ _) b19 (Nat.le_of_ble_eq_true rfl) dX12_runScript_65 ?_
      refine fw_aload_n C dX12_runScript_66 rfl 2 rfl ?_
      refine fw_get C (ci := 10) (Cn := RX12) (Tc := TX12) (N := 19) (j := 18) ly_X12_runScript_12 rfl (hG _ (List.mem_of_getElem? (i := 0) rfl)) (of10_0 _) (ce10 T ad _ _) (by decide) (cx_ts C _ fl_X12_runScript_66) (fun _ h => h) (v := .ref (ad 10 0 9)) rfl dX12_runScript_67 ?_
      refine fw_iload_n C dX12_runScript_70 rfl 0 rfl ?_
      refine fw_iconst C dX12_runScript_71 (v := 3) rfl ?_
      refine fw_imul C dX12_runScript_72 ?_
      refine fw_iconst C dX12_runScript_73 (v := 2) rfl ?_
      refine fw_iadd C dX12_runScript_74 ?_
      obtain ⟨b20, h⟩ := gd_some h
      refine fw_iald2 C (hG _ (List.mem_of_getElem? (i := 0) rfl)) (of10_9 _) (ca10_9 T ad _ _) b20 (Nat.le_of_ble_eq_true rfl) dX12_runScript_75 ?_
      obtain ⟨r21, q22, h⟩ := bd1_some h
      refine fw_callVi C (ci := 10) (Cn := RX12) (Tc := TX12) (N := 19) (As := [.int (Y 10 0 9 (ix (l2 * 3))), .int (Y 10 0 9 (ix ((l2 * 3) + 1))), .int (Y 10 0 9 (ix ((l2 * 3) + 2)))]) (c_X12_canDo (gac (hG _ (List.mem_of_getElem? (i := 0) rfl)) ga0) q22) (cwV 3 (cx_ts C) gX12_runScript_X12_canDo rfl rfl rfl (by decide +kernel) ⟨Nat.le_of_ble_eq_true rfl, Nat.le_of_ble_eq_true rfl⟩) rfl (hG _ (List.mem_of_getElem? (i := 0) rfl)) (of10_0 _) (ce10 T ad _ _) rfl (st := []) rfl (Nat.le_of_ble_eq_true rfl) ⟨Nat.le_refl 0, Nat.le_refl 0⟩ dX12_runScript_76 (pp2 ?_)
      refine fw_if_eq C dX12_runScript_79 (tgt := 120) rfl (fun c23 => ?_) (fun c23 => ?_)
      · have h := ite_t c23 h
        refine fw_iload_n C dX12_runScript_120 rfl 0 rfl ?_
        exact fw_iret C hrt Y (Option.some.inj h) (fun t ht => ht) dX12_runScript_121
      · have h := ite_f c23 h
        refine fw_aload_n C dX12_runScript_82 rfl 2 rfl ?_
        refine fw_aload_n C dX12_runScript_83 rfl 2 rfl ?_
        refine fw_get C (ci := 10) (Cn := RX12) (Tc := TX12) (N := 19) (j := 18) ly_X12_runScript_12 rfl (hG _ (List.mem_of_getElem? (i := 0) rfl)) (of10_0 _) (ce10 T ad _ _) (by decide) (cx_ts C _ fl_X12_runScript_66) (fun _ h => h) (v := .ref (ad 10 0 9)) rfl dX12_runScript_84 ?_
        refine fw_iload_n C dX12_runScript_87 rfl 0 rfl ?_
        refine fw_iconst C dX12_runScript_88 (v := 3) rfl ?_
        refine fw_imul C dX12_runScript_89 ?_
        refine fw_iald2 C (hG _ (List.mem_of_getElem? (i := 0) rfl)) (of10_9 _) (ca10_9 T ad _ _) b18 (Nat.le_of_ble_eq_true rfl) dX12_runScript_90 ?_
        refine fw_aload_n C dX12_runScript_91 rfl 2 rfl ?_
        refine fw_get C (ci := 10) (Cn := RX12) (Tc := TX12) (N := 19) (j := 18) ly_X12_runScript_12 rfl (hG _ (List.mem_of_getElem? (i := 0) rfl)) (of10_0 _) (ce10 T ad _ _) (by decide) (cx_ts C _ fl_X12_runScript_66) (fun _ h => h) (v := .ref (ad 10 0 9)) rfl dX12_runScript_92 ?_
        refine fw_iload_n C dX12_runScript_95 rfl 0 rfl ?_
        refine fw_iconst C dX12_runScript_96 (v := 3) rfl ?_
        refine fw_imul C dX12_runScript_97 ?_
        refine fw_iconst C dX12_runScript_98 (v := 1) rfl ?_
        refine fw_iadd C dX12_runScript_99 ?_
        refine fw_iald2 C (hG _ (List.mem_of_getElem? (i := 0) rfl)) (of10_9 _) (ca10_9 T ad _ _) b19 (Nat.le_of_ble_eq_true rfl) dX12_runScript_100 ?_
        refine fw_aload_n C dX12_runScript_101 rfl 2 rfl ?_
        refine fw_get C (ci := 10) (Cn := RX12) (Tc := TX12) (N := 19) (j := 18) ly_X12_runScript_12 rfl (hG _ (List.mem_of_getElem? (i := 0) rfl)) (of10_0 _) (ce10 T ad _ _) (by decide) (cx_ts C _ fl_X12_runScript_66) (fun _ h => h) (v := .ref (ad 10 0 9)) rfl dX12_runScript_102 ?_
        refine fw_iload_n C dX12_runScript_105 rfl 0 rfl ?_
        refine fw_iconst C dX12_runScript_106 (v := 3) rfl ?_
        refine fw_imul C dX12_runScript_107 ?_
        refine fw_iconst C dX12_runScript_108 (v := 2) rfl ?_
        refine fw_iadd C dX12_runScript_109 ?_
        refine fw_iald2 C (hG _ (List.mem_of_getElem? (i := 0) rfl)) (of10_9 _) (ca10_9 T ad _ _) b20 (Nat.le_of_ble_eq_true rfl) dX12_runScript_110 ?_
        obtain ⟨Y26, q25, h⟩ := bd1_some h
        refine fw_callVv C (ci := 10) (Cn := RX12) (Tc := TX12) (N := 19) (As := [.int (Y 10 0 9 (ix (l2 * 3))), .int (Y 10 0 9 (ix ((l2 * 3) + 1))), .int (Y 10 0 9 (ix ((l2 * 3) + 2)))]) (c_X12_doIt (gac (hG _ (List.mem_of_getElem? (i := 0) rfl)) ga0) q25) (cwV 3 (cx_ts C) gX12_runScript_X12_doIt rfl rfl rfl (by decide +kernel) ⟨Nat.le_of_ble_eq_true rfl, Nat.le_of_ble_eq_true rfl⟩) rfl (hG _ (List.mem_of_getElem? (i := 0) rfl)) (of10_0 _) (ce10 T ad _ _) rfl (st := []) rfl (Nat.le_of_ble_eq_true rfl) ⟨Nat.le_refl 0, Nat.le_refl 0⟩ dX12_runScript_111 (ppv ?_)
        refine fw_iinc C dX12_runScript_114 (kk := 0) (v := l2 + 1) rfl rfl (by decide) (L' := [(2, .int (l2 + 1)), (1, .int l1), (0, .ref (ad 10 0 0))]) rfl ?_
        refine fw_goto C dX12_runScript_117 (tgt := 42) rfl ?_
        exact ih _ _ _ h
set_option maxRecDepth 100000 in
set_option maxHeartbeats 4000000 in
theorem w_X12_runScript_b25  (C : Cx p s m [.ref (ad 10 0 0)].toArray meth c cX12_runScript 3 wsX12_runScript RX12 N0 T D gr ad) (hrt : meth.sig.returnType = (some .int)) (hG : ∀ q ∈ [(10, 0)], q ∈ gr) {res : Int32 × Mem} (Y : Mem) (l1 : Int32) (s0 : Int32) (h : X12_runScript_b25   Y l1 s0 = some res) : FW p l e (Rm 10) s m [.ref (ad 10 0 0)].toArray below meth c 3 N0 T D gr ad 0 0 (MQ below (va_Qi (fun r Y1 => (r, Y1) = res) (WB T D gr ad) (fun q => N0 ≤ q)) [.ref (ad 10 0 0)].toArray s 0 0 (fun q => N0 ≤ q)) Y 25 [(1, .int l1), (0, .ref (ad 10 0 0))] [.int s0, .ref (ad 10 0 0)] := by
  unfold X12_runScript_b25 at h
  refine fw_iconst C dX12_runScript_25 (v := 0) rfl ?_
  refine fw_iconst C dX12_runScript_26 (v := 0) rfl ?_
  obtain ⟨r10, Y12, q11, h⟩ := bd2_some h
  refine fw_callVi C (ci := 10) (Cn := RX12) (Tc := TX12) (N := 19) (As := [.int s0, .int 0, .int 0]) (c_X12_fails (gac (hG _ (List.mem_of_getElem? (i := 0) rfl)) ga0) q11) (cwV 3 (cx_ts C) gX12_runScript_X12_fails rfl rfl rfl (by decide +kernel) ⟨Nat.le_of_ble_eq_true rfl, Nat.le_of_ble_eq_true rfl⟩) rfl (hG _ (List.mem_of_getElem? (i := 0) rfl)) (of10_0 _) (ce10 T ad _ _) rfl (st := []) rfl (Nat.le_of_ble_eq_true rfl) ⟨Nat.le_refl 0, Nat.le_refl 0⟩ dX12_runScript_27 (ppw ?_)
  refine fw_if_eq C dX12_runScript_30 (tgt := 35) rfl (fun c13 => ?_) (fun c13 => ?_)
  · have h := ite_t c13 h
    refine fw_aload_n C dX12_runScript_35 rfl 1 rfl ?_
    refine fw_iconst C dX12_runScript_36 (v := 0) rfl ?_
    obtain ⟨Y16, q15, h⟩ := bd1_some h
    refine fw_callVv C (ci := 10) (Cn := RX12) (Tc := TX12) (N := 19) (As := [.int 0]) (c_X12_remember (gac (hG _ (List.mem_of_getElem? (i := 0) rfl)) ga0) q15) (cwV 1 (cx_ts C) gX12_runScript_X12_remember rfl rfl rfl (by decide +kernel) ⟨Nat.le_of_ble_eq_true rfl, Nat.le_of_ble_eq_true rfl⟩) rfl (hG _ (List.mem_of_getElem? (i := 0) rfl)) (of10_0 _) (ce10 T ad _ _) rfl (st := []) rfl (Nat.le_of_ble_eq_true rfl) ⟨Nat.le_refl 0, Nat.le_refl 0⟩ dX12_runScript_37 (ppv ?_)
    refine fw_iconst C dX12_runScript_40 (v := 0) rfl ?_
    refine fw_istore_n C dX12_runScript_41 rfl (by decide) (L' := [(2, .int 0), (1, .int l1), (0, .ref (ad 10 0 0))]) rfl ?_
    exact w_X12_runScript_b42 C hrt hG   _ _ _ _ h
  · have h := ite_f c13 h
    refine fw_iconst C dX12_runScript_33 (v := 0) rfl ?_
    exact fw_iret C hrt Y12 (Option.some.inj h) (fun t ht => ht) dX12_runScript_34
set_option maxRecDepth 100000 in
set_option maxHeartbeats 4000000 in
theorem w_X12_runScript {Y : Mem} (C : Cx p s m [.ref (ad 10 0 0)].toArray meth c cX12_runScript 3 wsX12_runScript RX12 N0 T D gr ad) (hrt : meth.sig.returnType = (some .int)) (hG : ∀ q ∈ [(10, 0)], q ∈ gr) {res : Int32 × Mem} (h : X12_runScript Y = some res) : FW p l e (Rm 10) s m [.ref (ad 10 0 0)].toArray below meth c 3 N0 T D gr ad 0 0 (MQ below (va_Qi (fun r Y1 => (r, Y1) = res) (WB T D gr ad) (fun q => N0 ≤ q)) [.ref (ad 10 0 0)].toArray s 0 0 (fun q => N0 ≤ q)) Y 0 [(0, .ref (ad 10 0 0))] [] := by
  unfold X12_runScript at h
  refine fw_aload_n C dX12_runScript_0 rfl 0 rfl ?_
  obtain ⟨Y3, q2, h⟩ := bd1_some h
  refine fw_callVv C (ci := 10) (Cn := RX12) (Tc := TX12) (N := 19) (As := []) (c_X12_begin (gac (hG _ (List.mem_of_getElem? (i := 0) rfl)) ga0) q2) (cwV 0 (cx_ts C) gX12_runScript_X12_begin rfl rfl rfl (by decide +kernel) ⟨Nat.le_of_ble_eq_true rfl, Nat.le_of_ble_eq_true rfl⟩) rfl (hG _ (List.mem_of_getElem? (i := 0) rfl)) (of10_0 _) (ce10 T ad _ _) rfl (st := []) rfl (Nat.le_of_ble_eq_true rfl) ⟨Nat.le_refl 0, Nat.le_refl 0⟩ dX12_runScript_1 (ppv ?_)
  refine fw_aload_n C dX12_runScript_4 rfl 0 rfl ?_
  obtain ⟨r4, Y6, q5, h⟩ := bd2_some h
  refine fw_callVi C (ci := 10) (Cn := RX12) (Tc := TX12) (N := 19) (As := []) (c_X12_parseScript (gac (hG _ (List.mem_of_getElem? (i := 0) rfl)) ga0) q5) (cwV 0 (cx_ts C) gX12_runScript_X12_parseScript rfl rfl rfl (by decide +kernel) ⟨Nat.le_of_ble_eq_true rfl, Nat.le_of_ble_eq_true rfl⟩) rfl (hG _ (List.mem_of_getElem? (i := 0) rfl)) (of10_0 _) (ce10 T ad _ _) rfl (st := []) rfl (Nat.le_of_ble_eq_true rfl) ⟨Nat.le_refl 0, Nat.le_refl 0⟩ dX12_runScript_5 (ppw ?_)
  refine fw_istore_n C dX12_runScript_8 rfl (by decide) (L' := [(1, .int r4), (0, .ref (ad 10 0 0))]) rfl ?_
  refine fw_aload_n C dX12_runScript_9 rfl 1 rfl ?_
  refine fw_iconst C dX12_runScript_10 (v := 0) rfl ?_
  obtain ⟨Y7, e8, h⟩ := lt_some h
  refine fw_put C (ci := 10) (Cn := RX12) (Tc := TX12) (N := 19) (j := 4) (ty := .int) (upd (Y6 10 0 0) 4 0) ly_X12_runScript_12 rfl tyX12_ok nmX12 (hG _ (List.mem_of_getElem? (i := 0) rfl)) (of10_0 _) (ce10 T ad _ _) (by decide) (cx_ts C _ fl_X12_runScript_27) (fun _ h => h) rfl (by decide +kernel) rfl rfl (Nat.le_of_ble_eq_true rfl) (ce10_put4 T ad _ _ _) dX12_runScript_11 ?_
  refine fw_mem ((up_eq _ _ _ _ _ _).symm.trans e8) ?_
  refine fw_aload_n C dX12_runScript_14 rfl 1 rfl ?_
  refine fw_iload_n C dX12_runScript_15 rfl 0 rfl ?_
  refine fw_iconst C dX12_runScript_16 (v := (-1)) rfl ?_
  refine fw_icmp_ne C dX12_runScript_17 (tgt := 24) rfl (fun c9 => ?_) (fun c9 => ?_)
  · have h := ite_f c9 h
    refine fw_iconst C dX12_runScript_24 (v := 0) rfl ?_
    exact w_X12_runScript_b25 C hrt hG   _ _ _ h
  · have h := ite_t c9 h
    refine fw_iconst C dX12_runScript_20 (v := 1) rfl ?_
    refine fw_goto C dX12_runScript_21 (tgt := 25) rfl ?_
    exact w_X12_runScript_b25 C hrt hG   _ _ _ h
end
set_option maxRecDepth 100000 in
set_option maxHeartbeats 4000000 in
theorem c_X12_runScript {l : Launch} {N0 : Nat} {T : Nat → ClassId} {D : va_G} {gr : List (Nat × Nat)} {ad : Nat → Nat → Nat → Nat} {Y : Mem} {res : Int32 × Mem} (hG : ∀ q ∈ [(10, 0)], q ∈ gr) (h : X12_runScript Y = some res) : CI l yX12_runScript wsX12_runScript (Rm 10) N0 T D gr ad Y [.ref (ad 10 0 0)] (fun r Y1 => (r, Y1) = res) :=
  fw_body (by decide +kernel) rfl (Nat.le_of_ble_eq_true rfl) (fun p e s m below meth c C hrt => w_X12_runScript C hrt hG  h)
theorem ly_X12_salt_12 : ∀ w ∈ u_ws RX12 TX12 19, w ∈ wsX12_salt := by decide +kernel
theorem fl_X12_salt_13 : Cond.fieldLink RX12 13 "RecipeSchedulerModel" "m" "[I" ∈ wsX12_salt := by decide +kernel
section
variable {p : Program} {l : Launch} {e : Env} {s : State} {m : MethodId} {below : List Frame} {meth : Method} {c : Code} {N0 : Nat} {T : Nat → ClassId} {D : va_G} {gr : List (Nat × Nat)} {ad : Nat → Nat → Nat → Nat}
set_option maxRecDepth 100000 in
set_option maxHeartbeats 4000000 in
theorem w_X12_salt {Y : Mem} (C : Cx p s m [.ref (ad 10 0 0)].toArray meth c cX12_salt 1 wsX12_salt RX12 N0 T D gr ad) (hrt : meth.sig.returnType = (some .int)) (hG : ∀ q ∈ [(10, 0)], q ∈ gr) {res : Int32 × Mem} (h : X12_salt Y = some res) : FW p l e (Rm 1) s m [.ref (ad 10 0 0)].toArray below meth c 1 N0 T D gr ad 0 0 (MQ below (va_Qi (fun r Y1 => (r, Y1) = res) (WB T D gr ad) (fun q => N0 ≤ q)) [.ref (ad 10 0 0)].toArray s 0 0 (fun q => N0 ≤ q)) Y 0 [(0, .ref (ad 10 0 0))] [] := by
  unfold X12_salt at h
  refine fw_aload_n C dX12_salt_0 rfl 0 rfl ?_
  refine fw_aload_n C dX12_salt_1 rfl 0 rfl ?_
  refine fw_get C (ci := 10) (Cn := RX12) (Tc := TX12) (N := 19) (j := 0) ly_X12_salt_12 rfl (hG _ (List.mem_of_getElem? (i := 0) rfl)) (of10_0 _) (ce10 T ad _ _) (by decide) (cx_ts C _ fl_X12_salt_13) (fun _ h => h) (v := .ref (ad 10 0 1)) rfl dX12_salt_2 ?_
  refine fw_iconst C dX12_salt_5 (v := 5) rfl ?_
  obtain ⟨b1, h⟩ := gd_some h
  refine fw_iald2 C (hG _ (List.mem_of_getElem? (i := 0) rfl)) (of10_1 _) (ca10_1 T ad _ _) b1 (Nat.le_of_ble_eq_true rfl) dX12_salt_6 ?_
  obtain ⟨r2, Y4, q3, h⟩ := bd2_some h
  refine fw_callVi C (ci := 10) (Cn := RX12) (Tc := TX12) (N := 19) (As := [.int (Y 10 0 1 (ix 5))]) (c_X12_plain (gac (hG _ (List.mem_of_getElem? (i := 0) rfl)) ga0) q3) (cwV 1 (cx_ts C) gX12_salt_X12_plain rfl rfl rfl (by decide +kernel) ⟨Nat.le_of_ble_eq_true rfl, Nat.le_of_ble_eq_true rfl⟩) rfl (hG _ (List.mem_of_getElem? (i := 0) rfl)) (of10_0 _) (ce10 T ad _ _) rfl (st := []) rfl (Nat.le_of_ble_eq_true rfl) ⟨Nat.le_refl 0, Nat.le_refl 0⟩ dX12_salt_7 (ppw ?_)
  exact fw_iret C hrt Y4 (Option.some.inj h) (fun t ht => ht) dX12_salt_10
end
set_option maxRecDepth 100000 in
set_option maxHeartbeats 4000000 in
theorem c_X12_salt {l : Launch} {N0 : Nat} {T : Nat → ClassId} {D : va_G} {gr : List (Nat × Nat)} {ad : Nat → Nat → Nat → Nat} {Y : Mem} {res : Int32 × Mem} (hG : ∀ q ∈ [(10, 0)], q ∈ gr) (h : X12_salt Y = some res) : CI l yX12_salt wsX12_salt (Rm 1) N0 T D gr ad Y [.ref (ad 10 0 0)] (fun r Y1 => (r, Y1) = res) :=
  fw_body (by decide +kernel) rfl (Nat.le_of_ble_eq_true rfl) (fun p e s m below meth c C hrt => w_X12_salt C hrt hG  h)
theorem ly_X12_saltNeeded_12 : ∀ w ∈ u_ws RX12 TX12 19, w ∈ wsX12_saltNeeded := by decide +kernel
theorem fl_X12_saltNeeded_1 : Cond.fieldLink RX12 1 "RecipeSchedulerModel" "thrown" "I" ∈ wsX12_saltNeeded := by decide +kernel
theorem fl_X12_saltNeeded_13 : Cond.fieldLink RX12 13 "RecipeSchedulerModel" "m" "[I" ∈ wsX12_saltNeeded := by decide +kernel
section
variable {p : Program} {l : Launch} {e : Env} {s : State} {m : MethodId} {below : List Frame} {meth : Method} {c : Code} {N0 : Nat} {T : Nat → ClassId} {D : va_G} {gr : List (Nat × Nat)} {ad : Nat → Nat → Nat → Nat}
set_option maxRecDepth 100000 in
set_option maxHeartbeats 4000000 in
theorem w_X12_saltNeeded_b14  (C : Cx p s m [.ref (ad 10 0 0)].toArray meth c cX12_saltNeeded 3 wsX12_saltNeeded RX12 N0 T D gr ad) (hrt : meth.sig.returnType = (some .int)) (hG : ∀ q ∈ [(10, 0)], q ∈ gr) {res : Int32 × Mem} : ∀ (n : Nat) (Y : Mem) (l2 : Int32) (l1 : Int32), X12_saltNeeded_b14   n Y l2 l1 = some res → FW p l e (Rm 1) s m [.ref (ad 10 0 0)].toArray below meth c 3 N0 T D gr ad 0 0 (MQ below (va_Qi (fun r Y1 => (r, Y1) = res) (WB T D gr ad) (fun q => N0 ≤ q)) [.ref (ad 10 0 0)].toArray s 0 0 (fun q => N0 ≤ q)) Y 14 [(2, .int l2), (1, .int l1), (0, .ref (ad 10 0 0))] [] := by
  intro n
  induction n with
  | zero =>
    intro Y l2 l1 h
    unfold X12_saltNeeded_b14 at h
    cases h
  | succ n ih =>
    intro Y l2 l1 h
    unfold X12_saltNeeded_b14 at h
    refine fw_iload_n C dX12_saltNeeded_14 rfl 0 rfl ?_
    refine fw_aload_n C dX12_saltNeeded_15 rfl 2 rfl ?_
    refine fw_get C (ci := 10) (Cn := RX12) (Tc := TX12) (N := 19) (j := 0) ly_X12_saltNeeded_12 rfl (hG _ (List.mem_of_getElem? (i := 0) rfl)) (of10_0 _) (ce10 T ad _ _) (by decide) (cx_ts C _ fl_X12_saltNeeded_13) (fun _ h => h) (v := .ref (ad 10 0 1)) rfl dX12_saltNeeded_16 ?_
    refine fw_bipush C dX12_saltNeeded_19 (v := 13) rfl ?_
    obtain ⟨b6, h⟩ := gd_some h
    refine fw_iald2 C (hG _ (List.mem_of_getElem? (i := 0) rfl)) (of10_1 _) (ca10_1 T ad _ _) b6 (Nat.le_of_ble_eq_true rfl) dX12_saltNeeded_21 ?_
    refine fw_icmp_ge C dX12_saltNeeded_22 (tgt := 41) rfl (fun c7 => ?_) (fun c7 => ?_)
    · have h := ite_t c7 h
      refine fw_iload_n C dX12_saltNeeded_41 rfl 1 rfl ?_
      refine fw_aload_n C dX12_saltNeeded_42 rfl 2 rfl ?_
      refine fw_get C (ci := 10) (Cn := RX12) (Tc := TX12) (N := 19) (j := 0) ly_X12_saltNeeded_12 rfl (hG _ (List.mem_of_getElem? (i := 0) rfl)) (of10_0 _) (ce10 T ad _ _) (by decide) (cx_ts C _ fl_X12_saltNeeded_13) (fun _ h => h) (v := .ref (ad 10 0 1)) rfl dX12_saltNeeded_43 ?_
      refine fw_iconst C dX12_saltNeeded_46 (v := 2) rfl ?_
      obtain ⟨b8, h⟩ := gd_some h
      refine fw_iald2 C (hG _ (List.mem_of_getElem? (i := 0) rfl)) (of10_1 _) (ca10_1 T ad _ _) b8 (Nat.le_of_ble_eq_true rfl) dX12_saltNeeded_47 ?_
      refine fw_icmp_ge C dX12_saltNeeded_48 (tgt := 60) rfl (fun c9 => ?_) (fun c9 => ?_)
      · have h := ite_t c9 h
        refine fw_iload_n C dX12_saltNeeded_60 rfl 1 rfl ?_
        refine fw_aload_n C dX12_saltNeeded_61 rfl 2 rfl ?_
        refine fw_get C (ci := 10) (Cn := RX12) (Tc := TX12) (N := 19) (j := 0) ly_X12_saltNeeded_12 rfl (hG _ (List.mem_of_getElem? (i := 0) rfl)) (of10_0 _) (ce10 T ad _ _) (by decide) (cx_ts C _ fl_X12_saltNeeded_13) (fun _ h => h) (v := .ref (ad 10 0 1)) rfl dX12_saltNeeded_62 ?_
        refine fw_iconst C dX12_saltNeeded_65 (v := 3) rfl ?_
        obtain ⟨b10, h⟩ := gd_some h
        refine fw_iald2 C (hG _ (List.mem_of_getElem? (i := 0) rfl)) (of10_1 _) (ca10_1 T ad _ _) b10 (Nat.le_of_ble_eq_true rfl) dX12_saltNeeded_66 ?_
        refine fw_icmp_le C dX12_saltNeeded_67 (tgt := 81) rfl (fun c11 => ?_) (fun c11 => ?_)
        · have h := ite_t c11 h
          refine fw_iconst C dX12_saltNeeded_81 (v := 0) rfl ?_
          exact fw_iret C hrt Y (Option.some.inj h) (fun t ht => ht) dX12_saltNeeded_82
        · have h := ite_f c11 h
          refine fw_aload_n C dX12_saltNeeded_70 rfl 2 rfl ?_
          refine fw_get C (ci := 10) (Cn := RX12) (Tc := TX12) (N := 19) (j := 0) ly_X12_saltNeeded_12 rfl (hG _ (List.mem_of_getElem? (i := 0) rfl)) (of10_0 _) (ce10 T ad _ _) (by decide) (cx_ts C _ fl_X12_saltNeeded_13) (fun _ h => h) (v := .ref (ad 10 0 1)) rfl dX12_saltNeeded_71 ?_
          refine fw_iconst C dX12_saltNeeded_74 (v := 3) rfl ?_
          refine fw_iald2 C (hG _ (List.mem_of_getElem? (i := 0) rfl)) (of10_1 _) (ca10_1 T ad _ _) b10 (Nat.le_of_ble_eq_true rfl) dX12_saltNeeded_75 ?_
          refine fw_iload_n C dX12_saltNeeded_76 rfl 1 rfl ?_
          refine fw_isub C dX12_saltNeeded_77 ?_
          refine fw_goto C dX12_saltNeeded_78 (tgt := 82) rfl ?_
          exact fw_iret C hrt Y (Option.some.inj h) (fun t ht => ht) dX12_saltNeeded_82
      · have h := ite_f c9 h
        refine fw_aload_n C dX12_saltNeeded_51 rfl 2 rfl ?_
        refine fw_get C (ci := 10) (Cn := RX12) (Tc := TX12) (N := 19) (j := 0) ly_X12_saltNeeded_12 rfl (hG _ (List.mem_of_getElem? (i := 0) rfl)) (of10_0 _) (ce10 T ad _ _) (by decide) (cx_ts C _ fl_X12_saltNeeded_13) (fun _ h => h) (v := .ref (ad 10 0 1)) rfl dX12_saltNeeded_52 ?_
        refine fw_iconst C dX12_saltNeeded_55 (v := 2) rfl ?_
        refine fw_iald2 C (hG _ (List.mem_of_getElem? (i := 0) rfl)) (of10_1 _) (ca10_1 T ad _ _) b8 (Nat.le_of_ble_eq_true rfl) dX12_saltNeeded_56 ?_
        refine fw_iload_n C dX12_saltNeeded_57 rfl 1 rfl ?_
        refine fw_isub C dX12_saltNeeded_58 ?_
        exact fw_iret C hrt Y (Option.some.inj h) (fun t ht => ht) dX12_saltNeeded_59
    · have h := ite_f c7 h
      refine fw_iload_n C dX12_saltNeeded_25 rfl 1 rfl ?_
      refine fw_aload_n C dX12_saltNeeded_26 rfl 2 rfl ?_
      refine fw_iload_n C dX12_saltNeeded_27 rfl 0 rfl ?_
      refine fw_bipush C dX12_saltNeeded_28 (v := 8) rfl ?_
      obtain ⟨r12, q13, h⟩ := bd1_some h
      refine fw_callVi C (ci := 10) (Cn := RX12) (Tc := TX12) (N := 19) (As := [.int l2, .int 8]) (c_X12_of (gac (hG _ (List.mem_of_getElem? (i := 0) rfl)) ga0) q13) (cwV 2 (cx_ts C) gX12_saltNeeded_X12_of rfl rfl rfl (by decide +kernel) ⟨Nat.le_of_ble_eq_true rfl, Nat.le_of_ble_eq_true rfl⟩) rfl (hG _ (List.mem_of_getElem? (i := 0) rfl)) (of10_0 _) (ce10 T ad _ _) rfl (st := [.int l1]) rfl (Nat.le_of_ble_eq_true rfl) ⟨Nat.le_refl 0, Nat.le_refl 0⟩ dX12_saltNeeded_30 (pp2 ?_)
      refine fw_iadd C dX12_saltNeeded_33 ?_
      obtain ⟨v14, e15, h⟩ := lt_some h
      refine fw_top (v' := .int v14) (by rw [e15]) ?_
      refine fw_istore_n C dX12_saltNeeded_34 rfl (by decide) (L' := [(1, .int v14), (2, .int l2), (0, .ref (ad 10 0 0))]) rfl ?_
      refine fw_iinc C dX12_saltNeeded_35 (kk := 1) (v := l2 + 1) rfl rfl (by decide) (L' := [(2, .int (l2 + 1)), (1, .int v14), (0, .ref (ad 10 0 0))]) rfl ?_
      refine fw_goto C dX12_saltNeeded_38 (tgt := 14) rfl ?_
      exact ih _ _ _ h
set_option maxRecDepth 100000 in
set_option maxHeartbeats 4000000 in
theorem w_X12_saltNeeded {Y : Mem} (C : Cx p s m [.ref (ad 10 0 0)].toArray meth c cX12_saltNeeded 3 wsX12_saltNeeded RX12 N0 T D gr ad) (hrt : meth.sig.returnType = (some .int)) (hG : ∀ q ∈ [(10, 0)], q ∈ gr) {res : Int32 × Mem} (h : X12_saltNeeded Y = some res) : FW p l e (Rm 1) s m [.ref (ad 10 0 0)].toArray below meth c 3 N0 T D gr ad 0 0 (MQ below (va_Qi (fun r Y1 => (r, Y1) = res) (WB T D gr ad) (fun q => N0 ≤ q)) [.ref (ad 10 0 0)].toArray s 0 0 (fun q => N0 ≤ q)) Y 0 [(0, .ref (ad 10 0 0))] [] := by
  unfold X12_saltNeeded at h
  refine fw_aload_n C dX12_saltNeeded_0 rfl 0 rfl ?_
  refine fw_iconst C dX12_saltNeeded_1 (v := 0) rfl ?_
  obtain ⟨Y1, e2, h⟩ := lt_some h
  refine fw_put C (ci := 10) (Cn := RX12) (Tc := TX12) (N := 19) (j := 9) (ty := .int) (upd (Y 10 0 0) 9 0) ly_X12_saltNeeded_12 rfl tyX12_ok nmX12 (hG _ (List.mem_of_getElem? (i := 0) rfl)) (of10_0 _) (ce10 T ad _ _) (by decide) (cx_ts C _ fl_X12_saltNeeded_1) (fun _ h => h) rfl (by decide +kernel) rfl rfl (Nat.le_of_ble_eq_true rfl) (ce10_put9 T ad _ _ _) dX12_saltNeeded_2 ?_
  refine fw_mem ((up_eq _ _ _ _ _ _).symm.trans e2) ?_
  refine fw_aload_n C dX12_saltNeeded_5 rfl 0 rfl ?_
  refine fw_get C (ci := 10) (Cn := RX12) (Tc := TX12) (N := 19) (j := 0) ly_X12_saltNeeded_12 rfl (hG _ (List.mem_of_getElem? (i := 0) rfl)) (of10_0 _) (ce10 T ad _ _) (by decide) (cx_ts C _ fl_X12_saltNeeded_13) (fun _ h => h) (v := .ref (ad 10 0 1)) rfl dX12_saltNeeded_6 ?_
  refine fw_iconst C dX12_saltNeeded_9 (v := 5) rfl ?_
  obtain ⟨b3, h⟩ := gd_some h
  refine fw_iald2 C (hG _ (List.mem_of_getElem? (i := 0) rfl)) (of10_1 _) (ca10_1 T ad _ _) b3 (Nat.le_of_ble_eq_true rfl) dX12_saltNeeded_10 ?_
  obtain ⟨v4, e5, h⟩ := lt_some h
  refine fw_top (v' := .int v4) (by rw [e5]) ?_
  refine fw_istore_n C dX12_saltNeeded_11 rfl (by decide) (L' := [(1, .int v4), (0, .ref (ad 10 0 0))]) rfl ?_
  refine fw_iconst C dX12_saltNeeded_12 (v := 0) rfl ?_
  refine fw_istore_n C dX12_saltNeeded_13 rfl (by decide) (L' := [(2, .int 0), (1, .int v4), (0, .ref (ad 10 0 0))]) rfl ?_
  exact w_X12_saltNeeded_b14 C hrt hG   _ _ _ _ h
end
set_option maxRecDepth 100000 in
set_option maxHeartbeats 4000000 in
theorem c_X12_saltNeeded {l : Launch} {N0 : Nat} {T : Nat → ClassId} {D : va_G} {gr : List (Nat × Nat)} {ad : Nat → Nat → Nat → Nat} {Y : Mem} {res : Int32 × Mem} (hG : ∀ q ∈ [(10, 0)], q ∈ gr) (h : X12_saltNeeded Y = some res) : CI l yX12_saltNeeded wsX12_saltNeeded (Rm 1) N0 T D gr ad Y [.ref (ad 10 0 0)] (fun r Y1 => (r, Y1) = res) :=
  fw_body (by decide +kernel) rfl (Nat.le_of_ble_eq_true rfl) (fun p e s m below meth c C hrt => w_X12_saltNeeded C hrt hG  h)
theorem ly_X12_save_12 : ∀ w ∈ u_ws RX12 TX12 19, w ∈ wsX12_save := by decide +kernel
theorem fl_X12_save_17 : Cond.fieldLink RX12 17 "RecipeSchedulerModel" "isSaved" "[Z" ∈ wsX12_save := by decide +kernel
theorem fl_X12_save_13 : Cond.fieldLink RX12 13 "RecipeSchedulerModel" "m" "[I" ∈ wsX12_save := by decide +kernel
section
variable {p : Program} {l : Launch} {e : Env} {s : State} {m : MethodId} {below : List Frame} {meth : Method} {c : Code} {N0 : Nat} {T : Nat → ClassId} {D : va_G} {gr : List (Nat × Nat)} {ad : Nat → Nat → Nat → Nat}
set_option maxRecDepth 100000 in
set_option maxHeartbeats 4000000 in
theorem w_X12_save_b15 {a1 : Int32} (C : Cx p s m [.ref (ad 10 0 0), .int a1].toArray meth c cX12_save 2 wsX12_save RX12 N0 T D gr ad) (hrt : meth.sig.returnType = (some .int)) (hG : ∀ q ∈ [(10, 0)], q ∈ gr) {res : Int32 × Mem} (Y : Mem) (s0 : Int32) (h : X12_save_b15 a1  Y s0 = some res) : FW p l e (Rm 1) s m [.ref (ad 10 0 0), .int a1].toArray below meth c 2 N0 T D gr ad 0 0 (MQ below (va_Qi (fun r Y1 => (r, Y1) = res) (WB T D gr ad) (fun q => N0 ≤ q)) [.ref (ad 10 0 0), .int a1].toArray s 0 0 (fun q => N0 ≤ q)) Y 15 [(0, .ref (ad 10 0 0)), (1, .int a1)] [.int s0, .ref (ad 10 0 0)] := by
  unfold X12_save_b15 at h
  refine fw_iconst C dX12_save_15 (v := 0) rfl ?_
  refine fw_iconst C dX12_save_16 (v := 0) rfl ?_
  obtain ⟨r4, Y6, q5, h⟩ := bd2_some h
  refine fw_callVi C (ci := 10) (Cn := RX12) (Tc := TX12) (N := 19) (As := [.int s0, .int 0, .int 0]) (c_X12_fails (gac (hG _ (List.mem_of_getElem? (i := 0) rfl)) ga0) q5) (cwV 3 (cx_ts C) gX12_save_X12_fails rfl rfl rfl (by decide +kernel) ⟨Nat.le_of_ble_eq_true rfl, Nat.le_of_ble_eq_true rfl⟩) rfl (hG _ (List.mem_of_getElem? (i := 0) rfl)) (of10_0 _) (ce10 T ad _ _) rfl (st := []) rfl (Nat.le_of_ble_eq_true rfl) ⟨Nat.le_refl 0, Nat.le_refl 0⟩ dX12_save_17 (ppw ?_)
  refine fw_if_eq C dX12_save_20 (tgt := 25) rfl (fun c7 => ?_) (fun c7 => ?_)
  · have h := ite_t c7 h
    refine fw_aload_n C dX12_save_25 rfl 0 rfl ?_
    refine fw_iconst C dX12_save_26 (v := 0) rfl ?_
    refine fw_bipush C dX12_save_27 (v := 7) rfl ?_
    refine fw_iload_n C dX12_save_29 rfl 1 rfl ?_
    refine fw_iadd C dX12_save_30 ?_
    obtain ⟨Y10, q9, h⟩ := bd1_some h
    refine fw_callVv C (ci := 10) (Cn := RX12) (Tc := TX12) (N := 19) (As := [.int 0, .int (7 + a1)]) (c_X12_copyBlock (gac (hG _ (List.mem_of_getElem? (i := 0) rfl)) ga0) q9) (cwV 2 (cx_ts C) gX12_save_X12_copyBlock rfl rfl rfl (by decide +kernel) ⟨Nat.le_of_ble_eq_true rfl, Nat.le_of_ble_eq_true rfl⟩) rfl (hG _ (List.mem_of_getElem? (i := 0) rfl)) (of10_0 _) (ce10 T ad _ _) rfl (st := []) rfl (Nat.le_of_ble_eq_true rfl) ⟨Nat.le_refl 0, Nat.le_refl 0⟩ dX12_save_31 (ppv ?_)
    refine fw_aload_n C dX12_save_34 rfl 0 rfl ?_
    refine fw_get C (ci := 10) (Cn := RX12) (Tc := TX12) (N := 19) (j := 1) ly_X12_save_12 rfl (hG _ (List.mem_of_getElem? (i := 0) rfl)) (of10_0 _) (ce10 T ad _ _) (by decide) (cx_ts C _ fl_X12_save_17) (fun _ h => h) (v := .ref (ad 10 0 2)) rfl dX12_save_35 ?_
    refine fw_iload_n C dX12_save_38 rfl 1 rfl ?_
    refine fw_iconst C dX12_save_39 (v := 1) rfl ?_
    obtain ⟨b11, h⟩ := gd_some h
    obtain ⟨Y12, e13, h⟩ := lt_some h
    refine fw_zast2 C (hG _ (List.mem_of_getElem? (i := 0) rfl)) (of10_2 _) (ca10_2 T ad _) b11 (Nat.le_of_ble_eq_true rfl) dX12_save_40 ?_
    refine fw_mem e13 ?_
    refine fw_aload_n C dX12_save_41 rfl 0 rfl ?_
    refine fw_get C (ci := 10) (Cn := RX12) (Tc := TX12) (N := 19) (j := 0) ly_X12_save_12 rfl (hG _ (List.mem_of_getElem? (i := 0) rfl)) (of10_0 _) (ce10 T ad _ _) (by decide) (cx_ts C _ fl_X12_save_13) (fun _ h => h) (v := .ref (ad 10 0 1)) rfl dX12_save_42 ?_
    refine fw_iconst C dX12_save_45 (v := 4) rfl ?_
    obtain ⟨b14, h⟩ := gd_some h
    refine fw_iald2 C (hG _ (List.mem_of_getElem? (i := 0) rfl)) (of10_1 _) (ca10_1 T ad _ _) b14 (Nat.le_of_ble_eq_true rfl) dX12_save_46 ?_
    exact fw_iret C hrt Y12 (Option.some.inj h) (fun t ht => ht) dX12_save_47
  · have h := ite_f c7 h
    refine fw_iconst C dX12_save_23 (v := 0) rfl ?_
    exact fw_iret C hrt Y6 (Option.some.inj h) (fun t ht => ht) dX12_save_24
set_option maxRecDepth 100000 in
set_option maxHeartbeats 4000000 in
theorem w_X12_save {Y : Mem} {a1 : Int32} (C : Cx p s m [.ref (ad 10 0 0), .int a1].toArray meth c cX12_save 2 wsX12_save RX12 N0 T D gr ad) (hrt : meth.sig.returnType = (some .int)) (hG : ∀ q ∈ [(10, 0)], q ∈ gr) {res : Int32 × Mem} (h : X12_save Y a1 = some res) : FW p l e (Rm 1) s m [.ref (ad 10 0 0), .int a1].toArray below meth c 2 N0 T D gr ad 0 0 (MQ below (va_Qi (fun r Y1 => (r, Y1) = res) (WB T D gr ad) (fun q => N0 ≤ q)) [.ref (ad 10 0 0), .int a1].toArray s 0 0 (fun q => N0 ≤ q)) Y 0 [(0, .ref (ad 10 0 0)), (1, .int a1)] [] := by
  unfold X12_save at h
  refine fw_aload_n C dX12_save_0 rfl 0 rfl ?_
  refine fw_iload_n C dX12_save_1 rfl 1 rfl ?_
  refine fw_iconst C dX12_save_2 (v := 0) rfl ?_
  refine fw_iconst C dX12_save_3 (v := 1) rfl ?_
  obtain ⟨r1, q2, h⟩ := bd1_some h
  refine fw_callSi C (As := [.int a1, .int 0, .int 1]) (c_X12_in ga0 q2) (va_cwS 3 (cx_ts C) gX12_save_X12_in rfl rfl rfl (by decide +kernel) ⟨Nat.le_of_ble_eq_true rfl, Nat.le_of_ble_eq_true rfl⟩) rfl (st := [.ref (ad 10 0 0)]) rfl (Nat.le_of_ble_eq_true rfl) ⟨Nat.le_refl 0, Nat.le_refl 0⟩ dX12_save_4 (pp2 ?_)
  refine fw_if_ne C dX12_save_7 (tgt := 14) rfl (fun c3 => ?_) (fun c3 => ?_)
  · have h := ite_f c3 h
    refine fw_iconst C dX12_save_14 (v := 0) rfl ?_
    exact w_X12_save_b15 C hrt hG   _ _ h
  · have h := ite_t c3 h
    refine fw_iconst C dX12_save_10 (v := 1) rfl ?_
    refine fw_goto C dX12_save_11 (tgt := 15) rfl ?_
    exact w_X12_save_b15 C hrt hG   _ _ h
end
set_option maxRecDepth 100000 in
set_option maxHeartbeats 4000000 in
theorem c_X12_save {l : Launch} {N0 : Nat} {T : Nat → ClassId} {D : va_G} {gr : List (Nat × Nat)} {ad : Nat → Nat → Nat → Nat} {Y : Mem} {a1 : Int32} {res : Int32 × Mem} (hG : ∀ q ∈ [(10, 0)], q ∈ gr) (h : X12_save Y a1 = some res) : CI l yX12_save wsX12_save (Rm 1) N0 T D gr ad Y [.ref (ad 10 0 0), .int a1] (fun r Y1 => (r, Y1) = res) :=
  fw_body (by decide +kernel) rfl (Nat.le_of_ble_eq_true rfl) (fun p e s m below meth c C hrt => w_X12_save C hrt hG  h)
theorem ly_X12_serve_12 : ∀ w ∈ u_ws RX12 TX12 19, w ∈ wsX12_serve := by decide +kernel
theorem fl_X12_serve_13 : Cond.fieldLink RX12 13 "RecipeSchedulerModel" "m" "[I" ∈ wsX12_serve := by decide +kernel
section
variable {p : Program} {l : Launch} {e : Env} {s : State} {m : MethodId} {below : List Frame} {meth : Method} {c : Code} {N0 : Nat} {T : Nat → ClassId} {D : va_G} {gr : List (Nat × Nat)} {ad : Nat → Nat → Nat → Nat}
set_option maxRecDepth 100000 in
set_option maxHeartbeats 4000000 in
theorem w_X12_serve_b13  (C : Cx p s m [.ref (ad 10 0 0)].toArray meth c cX12_serve 1 wsX12_serve RX12 N0 T D gr ad) (hrt : meth.sig.returnType = (some .int)) (hG : ∀ q ∈ [(10, 0)], q ∈ gr) {res : Int32 × Mem} (Y : Mem) (s0 : Int32) (h : X12_serve_b13   Y s0 = some res) : FW p l e (Rm 4) s m [.ref (ad 10 0 0)].toArray below meth c 1 N0 T D gr ad 0 0 (MQ below (va_Qi (fun r Y1 => (r, Y1) = res) (WB T D gr ad) (fun q => N0 ≤ q)) [.ref (ad 10 0 0)].toArray s 0 0 (fun q => N0 ≤ q)) Y 13 [(0, .ref (ad 10 0 0))] [.int s0, .ref (ad 10 0 0)] := by
  unfold X12_serve_b13 at h
  refine fw_iconst C dX12_serve_13 (v := 0) rfl ?_
  refine fw_iconst C dX12_serve_14 (v := 0) rfl ?_
  obtain ⟨r4, Y6, q5, h⟩ := bd2_some h
  refine fw_callVi C (ci := 10) (Cn := RX12) (Tc := TX12) (N := 19) (As := [.int s0, .int 0, .int 0]) (c_X12_fails (gac (hG _ (List.mem_of_getElem? (i := 0) rfl)) ga0) q5) (cwV 3 (cx_ts C) gX12_serve_X12_fails rfl rfl rfl (by decide +kernel) ⟨Nat.le_of_ble_eq_true rfl, Nat.le_of_ble_eq_true rfl⟩) rfl (hG _ (List.mem_of_getElem? (i := 0) rfl)) (of10_0 _) (ce10 T ad _ _) rfl (st := []) rfl (Nat.le_of_ble_eq_true rfl) ⟨Nat.le_refl 0, Nat.le_refl 0⟩ dX12_serve_15 (ppw ?_)
  refine fw_if_eq C dX12_serve_18 (tgt := 23) rfl (fun c7 => ?_) (fun c7 => ?_)
  · have h := ite_t c7 h
    refine fw_aload_n C dX12_serve_23 rfl 0 rfl ?_
    refine fw_iconst C dX12_serve_24 (v := 0) rfl ?_
    obtain ⟨Y10, q9, h⟩ := bd1_some h
    refine fw_callVv C (ci := 10) (Cn := RX12) (Tc := TX12) (N := 19) (As := [.int 0]) (c_X12_remember (gac (hG _ (List.mem_of_getElem? (i := 0) rfl)) ga0) q9) (cwV 1 (cx_ts C) gX12_serve_X12_remember rfl rfl rfl (by decide +kernel) ⟨Nat.le_of_ble_eq_true rfl, Nat.le_of_ble_eq_true rfl⟩) rfl (hG _ (List.mem_of_getElem? (i := 0) rfl)) (of10_0 _) (ce10 T ad _ _) rfl (st := []) rfl (Nat.le_of_ble_eq_true rfl) ⟨Nat.le_refl 0, Nat.le_refl 0⟩ dX12_serve_25 (ppv ?_)
    refine fw_aload_n C dX12_serve_28 rfl 0 rfl ?_
    refine fw_get C (ci := 10) (Cn := RX12) (Tc := TX12) (N := 19) (j := 0) ly_X12_serve_12 rfl (hG _ (List.mem_of_getElem? (i := 0) rfl)) (of10_0 _) (ce10 T ad _ _) (by decide) (cx_ts C _ fl_X12_serve_13) (fun _ h => h) (v := .ref (ad 10 0 1)) rfl dX12_serve_29 ?_
    refine fw_bipush C dX12_serve_32 (v := 6) rfl ?_
    refine fw_iconst C dX12_serve_34 (v := 1) rfl ?_
    obtain ⟨b11, h⟩ := gd_some h
    obtain ⟨Y12, e13, h⟩ := lt_some h
    refine fw_iast2 C (hG _ (List.mem_of_getElem? (i := 0) rfl)) (of10_1 _) (ca10_1 T ad _) b11 (Nat.le_of_ble_eq_true rfl) dX12_serve_35 ?_
    refine fw_mem e13 ?_
    refine fw_aload_n C dX12_serve_36 rfl 0 rfl ?_
    obtain ⟨r14, q15, h⟩ := bd1_some h
    refine fw_callVi C (ci := 10) (Cn := RX12) (Tc := TX12) (N := 19) (As := []) (c_X12_tasteNow (gac (hG _ (List.mem_of_getElem? (i := 0) rfl)) ga0) q15) (cwV 0 (cx_ts C) gX12_serve_X12_tasteNow rfl rfl rfl (by decide +kernel) ⟨Nat.le_of_ble_eq_true rfl, Nat.le_of_ble_eq_true rfl⟩) rfl (hG _ (List.mem_of_getElem? (i := 0) rfl)) (of10_0 _) (ce10 T ad _ _) rfl (st := []) rfl (Nat.le_of_ble_eq_true rfl) ⟨Nat.le_refl 0, Nat.le_refl 0⟩ dX12_serve_37 (pp2 ?_)
    exact fw_iret C hrt Y12 (Option.some.inj h) (fun t ht => ht) dX12_serve_40
  · have h := ite_f c7 h
    refine fw_iconst C dX12_serve_21 (v := 0) rfl ?_
    exact fw_iret C hrt Y6 (Option.some.inj h) (fun t ht => ht) dX12_serve_22
set_option maxRecDepth 100000 in
set_option maxHeartbeats 4000000 in
theorem w_X12_serve {Y : Mem} (C : Cx p s m [.ref (ad 10 0 0)].toArray meth c cX12_serve 1 wsX12_serve RX12 N0 T D gr ad) (hrt : meth.sig.returnType = (some .int)) (hG : ∀ q ∈ [(10, 0)], q ∈ gr) {res : Int32 × Mem} (h : X12_serve Y = some res) : FW p l e (Rm 4) s m [.ref (ad 10 0 0)].toArray below meth c 1 N0 T D gr ad 0 0 (MQ below (va_Qi (fun r Y1 => (r, Y1) = res) (WB T D gr ad) (fun q => N0 ≤ q)) [.ref (ad 10 0 0)].toArray s 0 0 (fun q => N0 ≤ q)) Y 0 [(0, .ref (ad 10 0 0))] [] := by
  unfold X12_serve at h
  refine fw_aload_n C dX12_serve_0 rfl 0 rfl ?_
  refine fw_aload_n C dX12_serve_1 rfl 0 rfl ?_
  obtain ⟨r1, q2, h⟩ := bd1_some h
  refine fw_callVi C (ci := 10) (Cn := RX12) (Tc := TX12) (N := 19) (As := []) (c_X12_servingReason (gac (hG _ (List.mem_of_getElem? (i := 0) rfl)) ga0) q2) (cwV 0 (cx_ts C) gX12_serve_X12_servingReason rfl rfl rfl (by decide +kernel) ⟨Nat.le_of_ble_eq_true rfl, Nat.le_of_ble_eq_true rfl⟩) rfl (hG _ (List.mem_of_getElem? (i := 0) rfl)) (of10_0 _) (ce10 T ad _ _) rfl (st := [.ref (ad 10 0 0)]) rfl (Nat.le_of_ble_eq_true rfl) ⟨Nat.le_refl 0, Nat.le_refl 0⟩ dX12_serve_2 (pp2 ?_)
  refine fw_if_eq C dX12_serve_5 (tgt := 12) rfl (fun c3 => ?_) (fun c3 => ?_)
  · have h := ite_t c3 h
    refine fw_iconst C dX12_serve_12 (v := 0) rfl ?_
    exact w_X12_serve_b13 C hrt hG   _ _ h
  · have h := ite_f c3 h
    refine fw_iconst C dX12_serve_8 (v := 1) rfl ?_
    refine fw_goto C dX12_serve_9 (tgt := 13) rfl ?_
    exact w_X12_serve_b13 C hrt hG   _ _ h
end
set_option maxRecDepth 100000 in
set_option maxHeartbeats 4000000 in
theorem c_X12_serve {l : Launch} {N0 : Nat} {T : Nat → ClassId} {D : va_G} {gr : List (Nat × Nat)} {ad : Nat → Nat → Nat → Nat} {Y : Mem} {res : Int32 × Mem} (hG : ∀ q ∈ [(10, 0)], q ∈ gr) (h : X12_serve Y = some res) : CI l yX12_serve wsX12_serve (Rm 4) N0 T D gr ad Y [.ref (ad 10 0 0)] (fun r Y1 => (r, Y1) = res) :=
  fw_body (by decide +kernel) rfl (Nat.le_of_ble_eq_true rfl) (fun p e s m below meth c C hrt => w_X12_serve C hrt hG  h)
theorem ly_X12_setCooks_12 : ∀ w ∈ u_ws RX12 TX12 19, w ∈ wsX12_setCooks := by decide +kernel
theorem fl_X12_setCooks_13 : Cond.fieldLink RX12 13 "RecipeSchedulerModel" "m" "[I" ∈ wsX12_setCooks := by decide +kernel
section
variable {p : Program} {l : Launch} {e : Env} {s : State} {m : MethodId} {below : List Frame} {meth : Method} {c : Code} {N0 : Nat} {T : Nat → ClassId} {D : va_G} {gr : List (Nat × Nat)} {ad : Nat → Nat → Nat → Nat}
set_option maxRecDepth 100000 in
set_option maxHeartbeats 4000000 in
theorem w_X12_setCooks_b15 {a1 : Int32} (C : Cx p s m [.ref (ad 10 0 0), .int a1].toArray meth c cX12_setCooks 3 wsX12_setCooks RX12 N0 T D gr ad) (hrt : meth.sig.returnType = (some .int)) (hG : ∀ q ∈ [(10, 0)], q ∈ gr) {res : Int32 × Mem} (Y : Mem) (s0 : Int32) (h : X12_setCooks_b15 a1  Y s0 = some res) : FW p l e (Rm 2) s m [.ref (ad 10 0 0), .int a1].toArray below meth c 3 N0 T D gr ad 0 0 (MQ below (va_Qi (fun r Y1 => (r, Y1) = res) (WB T D gr ad) (fun q => N0 ≤ q)) [.ref (ad 10 0 0), .int a1].toArray s 0 0 (fun q => N0 ≤ q)) Y 15 [(0, .ref (ad 10 0 0)), (1, .int a1)] [.int s0, .ref (ad 10 0 0)] := by
  unfold X12_setCooks_b15 at h
  refine fw_iconst C dX12_setCooks_15 (v := 0) rfl ?_
  refine fw_iconst C dX12_setCooks_16 (v := 0) rfl ?_
  obtain ⟨r4, Y6, q5, h⟩ := bd2_some h
  refine fw_callVi C (ci := 10) (Cn := RX12) (Tc := TX12) (N := 19) (As := [.int s0, .int 0, .int 0]) (c_X12_fails (gac (hG _ (List.mem_of_getElem? (i := 0) rfl)) ga0) q5) (cwV 3 (cx_ts C) gX12_setCooks_X12_fails rfl rfl rfl (by decide +kernel) ⟨Nat.le_of_ble_eq_true rfl, Nat.le_of_ble_eq_true rfl⟩) rfl (hG _ (List.mem_of_getElem? (i := 0) rfl)) (of10_0 _) (ce10 T ad _ _) rfl (st := []) rfl (Nat.le_of_ble_eq_true rfl) ⟨Nat.le_refl 0, Nat.le_refl 0⟩ dX12_setCooks_17 (ppw ?_)
  refine fw_if_eq C dX12_setCooks_20 (tgt := 25) rfl (fun c7 => ?_) (fun c7 => ?_)
  · have h := ite_t c7 h
    refine fw_aload_n C dX12_setCooks_25 rfl 0 rfl ?_
    refine fw_iconst C dX12_setCooks_26 (v := 0) rfl ?_
    obtain ⟨Y10, q9, h⟩ := bd1_some h
    refine fw_callVv C (ci := 10) (Cn := RX12) (Tc := TX12) (N := 19) (As := [.int 0]) (c_X12_remember (gac (hG _ (List.mem_of_getElem? (i := 0) rfl)) ga0) q9) (cwV 1 (cx_ts C) gX12_setCooks_X12_remember rfl rfl rfl (by decide +kernel) ⟨Nat.le_of_ble_eq_true rfl, Nat.le_of_ble_eq_true rfl⟩) rfl (hG _ (List.mem_of_getElem? (i := 0) rfl)) (of10_0 _) (ce10 T ad _ _) rfl (st := []) rfl (Nat.le_of_ble_eq_true rfl) ⟨Nat.le_refl 0, Nat.le_refl 0⟩ dX12_setCooks_27 (ppv ?_)
    refine fw_aload_n C dX12_setCooks_30 rfl 0 rfl ?_
    refine fw_get C (ci := 10) (Cn := RX12) (Tc := TX12) (N := 19) (j := 0) ly_X12_setCooks_12 rfl (hG _ (List.mem_of_getElem? (i := 0) rfl)) (of10_0 _) (ce10 T ad _ _) (by decide) (cx_ts C _ fl_X12_setCooks_13) (fun _ h => h) (v := .ref (ad 10 0 1)) rfl dX12_setCooks_31 ?_
    refine fw_iconst C dX12_setCooks_34 (v := 0) rfl ?_
    obtain ⟨b11, h⟩ := gd_some h
    refine fw_iald2 C (hG _ (List.mem_of_getElem? (i := 0) rfl)) (of10_1 _) (ca10_1 T ad _ _) b11 (Nat.le_of_ble_eq_true rfl) dX12_setCooks_35 ?_
    obtain ⟨v12, e13, h⟩ := lt_some h
    refine fw_top (v' := .int v12) (by rw [e13]) ?_
    refine fw_istore_n C dX12_setCooks_36 rfl (by decide) (L' := [(2, .int v12), (0, .ref (ad 10 0 0)), (1, .int a1)]) rfl ?_
    refine fw_aload_n C dX12_setCooks_37 rfl 1 rfl ?_
    refine fw_get C (ci := 10) (Cn := RX12) (Tc := TX12) (N := 19) (j := 0) ly_X12_setCooks_12 rfl (hG _ (List.mem_of_getElem? (i := 0) rfl)) (of10_0 _) (ce10 T ad _ _) (by decide) (cx_ts C _ fl_X12_setCooks_13) (fun _ h => h) (v := .ref (ad 10 0 1)) rfl dX12_setCooks_38 ?_
    refine fw_iconst C dX12_setCooks_41 (v := 0) rfl ?_
    refine fw_iload_n C dX12_setCooks_42 rfl 2 rfl ?_
    obtain ⟨Y14, e15, h⟩ := lt_some h
    refine fw_iast2 C (hG _ (List.mem_of_getElem? (i := 0) rfl)) (of10_1 _) (ca10_1 T ad _) b11 (Nat.le_of_ble_eq_true rfl) dX12_setCooks_43 ?_
    refine fw_mem e15 ?_
    refine fw_iload_n C dX12_setCooks_44 rfl 0 rfl ?_
    exact fw_iret C hrt Y14 (Option.some.inj h) (fun t ht => ht) dX12_setCooks_45
  · have h := ite_f c7 h
    refine fw_iconst C dX12_setCooks_23 (v := 0) rfl ?_
    exact fw_iret C hrt Y6 (Option.some.inj h) (fun t ht => ht) dX12_setCooks_24
set_option maxRecDepth 100000 in
set_option maxHeartbeats 4000000 in
theorem w_X12_setCooks {Y : Mem} {a1 : Int32} (C : Cx p s m [.ref (ad 10 0 0), .int a1].toArray meth c cX12_setCooks 3 wsX12_setCooks RX12 N0 T D gr ad) (hrt : meth.sig.returnType = (some .int)) (hG : ∀ q ∈ [(10, 0)], q ∈ gr) {res : Int32 × Mem} (h : X12_setCooks Y a1 = some res) : FW p l e (Rm 2) s m [.ref (ad 10 0 0), .int a1].toArray below meth c 3 N0 T D gr ad 0 0 (MQ below (va_Qi (fun r Y1 => (r, Y1) = res) (WB T D gr ad) (fun q => N0 ≤ q)) [.ref (ad 10 0 0), .int a1].toArray s 0 0 (fun q => N0 ≤ q)) Y 0 [(0, .ref (ad 10 0 0)), (1, .int a1)] [] := by
  unfold X12_setCooks at h
  refine fw_aload_n C dX12_setCooks_0 rfl 0 rfl ?_
  refine fw_iload_n C dX12_setCooks_1 rfl 1 rfl ?_
  refine fw_iconst C dX12_setCooks_2 (v := 1) rfl ?_
  refine fw_iconst C dX12_setCooks_3 (v := 4) rfl ?_
  obtain ⟨r1, q2, h⟩ := bd1_some h
  refine fw_callSi C (As := [.int a1, .int 1, .int 4]) (c_X12_in ga0 q2) (va_cwS 3 (cx_ts C) gX12_setCooks_X12_in rfl rfl rfl (by decide +kernel) ⟨Nat.le_of_ble_eq_true rfl, Nat.le_of_ble_eq_true rfl⟩) rfl (st := [.ref (ad 10 0 0)]) rfl (Nat.le_of_ble_eq_true rfl) ⟨Nat.le_refl 0, Nat.le_refl 0⟩ dX12_setCooks_4 (pp2 ?_)
  refine fw_if_ne C dX12_setCooks_7 (tgt := 14) rfl (fun c3 => ?_) (fun c3 => ?_)
  · have h := ite_f c3 h
    refine fw_iconst C dX12_setCooks_14 (v := 0) rfl ?_
    exact w_X12_setCooks_b15 C hrt hG   _ _ h
  · have h := ite_t c3 h
    refine fw_iconst C dX12_setCooks_10 (v := 1) rfl ?_
    refine fw_goto C dX12_setCooks_11 (tgt := 15) rfl ?_
    exact w_X12_setCooks_b15 C hrt hG   _ _ h
end
set_option maxRecDepth 100000 in
set_option maxHeartbeats 4000000 in
theorem c_X12_setCooks {l : Launch} {N0 : Nat} {T : Nat → ClassId} {D : va_G} {gr : List (Nat × Nat)} {ad : Nat → Nat → Nat → Nat} {Y : Mem} {a1 : Int32} {res : Int32 × Mem} (hG : ∀ q ∈ [(10, 0)], q ∈ gr) (h : X12_setCooks Y a1 = some res) : CI l yX12_setCooks wsX12_setCooks (Rm 2) N0 T D gr ad Y [.ref (ad 10 0 0), .int a1] (fun r Y1 => (r, Y1) = res) :=
  fw_body (by decide +kernel) rfl (Nat.le_of_ble_eq_true rfl) (fun p e s m below meth c C hrt => w_X12_setCooks C hrt hG  h)
