theorem ly_X12_dependsOn_12 : ∀ w ∈ u_ws RX12 TX12 19, w ∈ wsX12_dependsOn := by decide +kernel
theorem fl_X12_dependsOn_13 : Cond.fieldLink RX12 13 "RecipeSchedulerModel" "m" "[I" ∈ wsX12_dependsOn := by decide +kernel
theorem fl_X12_dependsOn_48 : Cond.fieldLink RX12 48 "RecipeSchedulerModel" "isReached" "[Z" ∈ wsX12_dependsOn := by decide +kernel
noncomputable def X12_dependsOn_b117 (a1 : Int32) (a2 : Int32) (k67 : Mem → Int32 → Option (Int32 × Mem)) (Y : Mem) (l3 : Int32) : Option (Int32 × Mem) :=
  k67 Y (l3 + (-1))
noncomputable def X12_dependsOn_b74 (a1 : Int32) (a2 : Int32) (k67 : Mem → Int32 → Option (Int32 × Mem)) : Nat → Mem → Int32 → Int32 → Option (Int32 × Mem)
  | 0, _, _, _ => none
  | n+1, Y, l4, l3 =>
  gd (inb l3 14) <| if (Y 10 0 7 (ix l3)) = 0 then (X12_dependsOn_b117 a1 a2 k67 Y l3) else (bd1 (X12_of Y l3 12) <| fun r19 => if r19 ≤ l4 then (X12_dependsOn_b117 a1 a2 k67 Y l3) else (bd1 (X12_of Y l3 (13 + l4)) <| fun r22 => gd (inb r22 14) <| lt_ (up Y 10 0 7 (ix r22) (vp_nar .boolean 1)) <| fun Y25 => X12_dependsOn_b74 a1 a2 k67 n Y25 (l4 + 1) l3))
noncomputable def X12_dependsOn_b67 (a1 : Int32) (a2 : Int32) : Nat → Mem → Int32 → Option (Int32 × Mem)
  | 0, _, _ => none
  | n+1, Y, l3 =>
  if l3 < 0 then (if a1 = a2 then (some (0, Y)) else (gd (inb a2 14) <| if (Y 10 0 7 (ix a2)) = 0 then (some (0, Y)) else (some (1, Y)))) else (X12_dependsOn_b74 a1 a2 (X12_dependsOn_b67 a1 a2 n) FU Y 0 l3)
noncomputable def X12_dependsOn_b34 (a1 : Int32) (a2 : Int32) : Nat → Mem → Int32 → Option (Int32 × Mem)
  | 0, _, _ => none
  | n+1, Y, l3 =>
  gd (inb 13 4202) <| if (Y 10 0 1 (ix 13)) ≤ l3 then (gd (inb a1 14) <| lt_ (up Y 10 0 7 (ix a1) (vp_nar .boolean 1)) <| fun Y11 => X12_dependsOn_b67 a1 a2 FU Y11 a1) else (gd (inb l3 14) <| lt_ (up Y 10 0 7 (ix l3) (vp_nar .boolean 0)) <| fun Y28 => X12_dependsOn_b34 a1 a2 n Y28 (l3 + 1))
noncomputable def X12_dependsOn_b22 (a1 : Int32) (a2 : Int32) (Y : Mem) (s0 : Int32) : Option (Int32 × Mem) :=
  bd2 (X12_fails Y s0 0 0) <| fun r4 Y6 => if r4 = 0 then (X12_dependsOn_b34 a1 a2 FU Y6 0) else (some (0, Y6))
noncomputable def X12_dependsOn_b17 (a1 : Int32) (a2 : Int32) (Y : Mem) : Option (Int32 × Mem) :=
  X12_dependsOn_b22 a1 a2 Y 1
noncomputable def X12_dependsOn (Y : Mem) (a1 : Int32) (a2 : Int32) : Option (Int32 × Mem) :=
  bd1 (X12_isStep Y a1) <| fun r1 => if r1 = 0 then (X12_dependsOn_b17 a1 a2 Y) else (bd1 (X12_isStep Y a2) <| fun r30 => if r30 = 0 then (X12_dependsOn_b17 a1 a2 Y) else (X12_dependsOn_b22 a1 a2 Y 0))
section
variable {p : Program} {l : Launch} {e : Env} {s : State} {m : MethodId} {below : List Frame} {meth : Method} {c : Code} {N0 : Nat} {T : Nat → ClassId} {D : va_G} {gr : List (Nat × Nat)} {ad : Nat → Nat → Nat → Nat}
set_option maxRecDepth 100000 in
set_option maxHeartbeats 4000000 in
theorem w_X12_dependsOn_b117 {a1 : Int32} {a2 : Int32} (C : Cx p s m [.ref (ad 10 0 0), .int a1, .int a2].toArray meth c cX12_dependsOn 5 wsX12_dependsOn RX12 N0 T D gr ad) (hrt : meth.sig.returnType = (some .boolean)) (hG : ∀ q ∈ [(10, 0)], q ∈ gr) {res : Int32 × Mem} {k67 : Mem → Int32 → Option (Int32 × Mem)} (hk67 : ∀ (Y : Mem) (l3 : Int32), k67 Y l3 = some res → FW p l e (Rm 2) s m [.ref (ad 10 0 0), .int a1, .int a2].toArray below meth c 5 N0 T D gr ad 0 0 (MQ below (va_Qi (fun r Y1 => (r, Y1) = res) (WB T D gr ad) (fun q => N0 ≤ q)) [.ref (ad 10 0 0), .int a1, .int a2].toArray s 0 0 (fun q => N0 ≤ q)) Y 67 [(3, .int l3), (0, .ref (ad 10 0 0)), (1, .int a1), (2, .int a2)] []) (Y : Mem) (l3 : Int32) (h : X12_dependsOn_b117 a1 a2 k67 Y l3 = some res) : FW p l e (Rm 2) s m [.ref (ad 10 0 0), .int a1, .int a2].toArray below meth c 5 N0 T D gr ad 0 0 (MQ below (va_Qi (fun r Y1 => (r, Y1) = res) (WB T D gr ad) (fun q => N0 ≤ q)) [.ref (ad 10 0 0), .int a1, .int a2].toArray s 0 0 (fun q => N0 ≤ q)) Y 117 [(3, .int l3), (0, .ref (ad 10 0 0)), (1, .int a1), (2, .int a2)] [] := by
  unfold X12_dependsOn_b117 at h
  refine fw_iinc C dX12_dependsOn_117 (kk := 0) (v := l3 + (-1)) rfl rfl (by decide) (L' := [(3, .int (l3 + (-1))), (0, .ref (ad 10 0 0)), (1, .int a1), (2, .int a2)]) rfl ?_
  refine fw_goto C dX12_dependsOn_120 (tgt := 67) rfl ?_
  exact hk67 _ _ h
set_option maxRecDepth 100000 in
set_option maxHeartbeats 4000000 in
theorem w_X12_dependsOn_b74 {a1 : Int32} {a2 : Int32} (C : Cx p s m [.ref (ad 10 0 0), .int a1, .int a2].toArray meth c cX12_dependsOn 5 wsX12_dependsOn RX12 N0 T D gr ad) (hrt : meth.sig.returnType = (some .boolean)) (hG : ∀ q ∈ [(10, 0)], q ∈ gr) {res : Int32 × Mem} {k67 : Mem → Int32 → Option (Int32 × Mem)} (hk67 : ∀ (Y : Mem) (l3 : Int32), k67 Y l3 = some res → FW p l e (Rm 2) s m [.ref (ad 10 0 0), .int a1, .int a2].toArray below meth c 5 N0 T D gr ad 0 0 (MQ below (va_Qi (fun r Y1 => (r, Y1) = res) (WB T D gr ad) (fun q => N0 ≤ q)) [.ref (ad 10 0 0), .int a1, .int a2].toArray s 0 0 (fun q => N0 ≤ q)) Y 67 [(3, .int l3), (0, .ref (ad 10 0 0)), (1, .int a1), (2, .int a2)] []) : ∀ (n : Nat) (Y : Mem) (l4 : Int32) (l3 : Int32), X12_dependsOn_b74 a1 a2 k67 n Y l4 l3 = some res → FW p l e (Rm 2) s m [.ref (ad 10 0 0), .int a1, .int a2].toArray below meth c 5 N0 T D gr ad 0 0 (MQ below (va_Qi (fun r Y1 => (r, Y1) = res) (WB T D gr ad) (fun q => N0 ≤ q)) [.ref (ad 10 0 0), .int a1, .int a2].toArray s 0 0 (fun q => N0 ≤ q)) Y 74 [(4, .int l4), (3, .int l3), (0, .ref (ad 10 0 0)), (1, .int a1), (2, .int a2)] [] := by
  intro n
  induction n with
  | zero =>
    intro Y l4 l3 h
    unfold X12_dependsOn_b74 at h
    cases h
  | succ n ih =>
    intro Y l4 l3 h
    unfold X12_dependsOn_b74 at h
    refine fw_aload_n C dX12_dependsOn_74 rfl 2 rfl ?_
    refine fw_get C (ci := 10) (Cn := RX12) (Tc := TX12) (N := 19) (j := 12) ly_X12_dependsOn_12 rfl (hG _ (List.mem_of_getElem? (i := 0) rfl)) (of10_0 _) (ce10 T ad _ _) (by decide) (cx_ts C _ fl_X12_dependsOn_48) (fun _ h => h) (v := .ref (ad 10 0 7)) rfl dX12_dependsOn_75 ?_
    refine fw_iload_n C dX12_dependsOn_78 rfl 1 rfl ?_
    obtain ⟨b17, h⟩ := gd_some h
    refine fw_zald2 C (hG _ (List.mem_of_getElem? (i := 0) rfl)) (of10_7 _) (ca10_7 T ad _ _) b17 (Nat.le_of_ble_eq_true rfl) dX12_dependsOn_79 ?_
    refine fw_if_eq C dX12_dependsOn_80 (tgt := 117) rfl (fun c18 => ?_) (fun c18 => ?_)
    · have h := ite_t c18 h
      refine fw_sub [1, 2, 3, 4] (L' := [(3, .int l3), (0, .ref (ad 10 0 0)), (1, .int a1), (2, .int a2)]) rfl ?_
      exact w_X12_dependsOn_b117 C hrt hG  hk67 _ _ h
    · have h := ite_f c18 h
      refine fw_iload C dX12_dependsOn_83 0 rfl ?_
      refine fw_aload_n C dX12_dependsOn_85 rfl 2 rfl ?_
      refine fw_iload_n C dX12_dependsOn_86 rfl 1 rfl ?_
      refine fw_bipush C dX12_dependsOn_87 (v := 12) rfl ?_
      obtain ⟨r19, q20, h⟩ := bd1_some h
      refine fw_callVi C (ci := 10) (Cn := RX12) (Tc := TX12) (N := 19) (As := [.int l3, .int 12]) (c_X12_of (gac (hG _ (List.mem_of_getElem? (i := 0) rfl)) ga0) q20) (cwV 2 (cx_ts C) gX12_dependsOn_X12_of rfl rfl rfl (by decide +kernel) ⟨Nat.le_of_ble_eq_true rfl, Nat.le_of_ble_eq_true rfl⟩) rfl (hG _ (List.mem_of_getElem? (i := 0) rfl)) (of10_0 _) (ce10 T ad _ _) rfl (st := [.int l4]) rfl (Nat.le_of_ble_eq_true rfl) ⟨Nat.le_refl 0, Nat.le_refl 0⟩ dX12_dependsOn_89 ?_
      rintro _ _ ⟨rfl, rfl⟩
      refine fw_icmp_ge C dX12_dependsOn_92 (tgt := 117) rfl (fun c21 => ?_) (fun c21 => ?_)
      · have h := ite_t c21 h
        refine fw_sub [1, 2, 3, 4] (L' := [(3, .int l3), (0, .ref (ad 10 0 0)), (1, .int a1), (2, .int a2)]) rfl ?_
        exact w_X12_dependsOn_b117 C hrt hG  hk67 _ _ h
      · have h := ite_f c21 h
        refine fw_aload_n C dX12_dependsOn_95 rfl 2 rfl ?_
        refine fw_get C (ci := 10) (Cn := RX12) (Tc := TX12) (N := 19) (j := 12) ly_X12_dependsOn_12 rfl (hG _ (List.mem_of_getElem? (i := 0) rfl)) (of10_0 _) (ce10 T ad _ _) (by decide) (cx_ts C _ fl_X12_dependsOn_48) (fun _ h => h) (v := .ref (ad 10 0 7)) rfl dX12_dependsOn_96 ?_
        refine fw_aload_n C dX12_dependsOn_99 rfl 2 rfl ?_
        refine fw_iload_n C dX12_dependsOn_100 rfl 1 rfl ?_
        refine fw_bipush C dX12_dependsOn_101 (v := 13) rfl ?_
        refine fw_iload C dX12_dependsOn_103 0 rfl ?_
        refine fw_iadd C dX12_dependsOn_105 ?_
        obtain ⟨r22, q23, h⟩ := bd1_some h
        refine fw_callVi C (ci := 10) (Cn := RX12) (Tc := TX12) (N := 19) (As := [.int l3, .int (13 + l4)]) (c_X12_of (gac (hG _ (List.mem_of_getElem? (i := 0) rfl)) ga0) q23) (cwV 2 (cx_ts C) gX12_dependsOn_X12_of rfl rfl rfl (by decide +kernel) ⟨Nat.le_of_ble_eq_true rfl, Nat.le_of_ble_eq_true rfl⟩) rfl (hG _ (List.mem_of_getElem? (i := 0) rfl)) (of10_0 _) (ce10 T ad _ _) rfl (st := [.ref (ad 10 0 7)]) rfl (Nat.le_of_ble_eq_true rfl) ⟨Nat.le_refl 0, Nat.le_refl 0⟩ dX12_dependsOn_106 ?_
        rintro _ _ ⟨rfl, rfl⟩
        refine fw_iconst C dX12_dependsOn_109 (v := 1) rfl ?_
        obtain ⟨b24, h⟩ := gd_some h
        obtain ⟨Y25, e26, h⟩ := lt_some h
        refine fw_zast2 C (hG _ (List.mem_of_getElem? (i := 0) rfl)) (of10_7 _) (ca10_7 T ad _) b24 (Nat.le_of_ble_eq_true rfl) dX12_dependsOn_110 ?_
        refine fw_mem e26 ?_
        refine fw_iinc C dX12_dependsOn_111 (kk := 0) (v := l4 + 1) rfl rfl (by decide) (L' := [(4, .int (l4 + 1)), (3, .int l3), (0, .ref (ad 10 0 0)), (1, .int a1), (2, .int a2)]) rfl ?_
        refine fw_goto C dX12_dependsOn_114 (tgt := 74) rfl ?_
        exact ih _ _ _ h
set_option maxRecDepth 100000 in
set_option maxHeartbeats 4000000 in
theorem w_X12_dependsOn_b67 {a1 : Int32} {a2 : Int32} (C : Cx p s m [.ref (ad 10 0 0), .int a1, .int a2].toArray meth c cX12_dependsOn 5 wsX12_dependsOn RX12 N0 T D gr ad) (hrt : meth.sig.returnType = (some .boolean)) (hG : ∀ q ∈ [(10, 0)], q ∈ gr) {res : Int32 × Mem} : ∀ (n : Nat) (Y : Mem) (l3 : Int32), X12_dependsOn_b67 a1 a2  n Y l3 = some res → FW p l e (Rm 2) s m [.ref (ad 10 0 0), .int a1, .int a2].toArray below meth c 5 N0 T D gr ad 0 0 (MQ below (va_Qi (fun r Y1 => (r, Y1) = res) (WB T D gr ad) (fun q => N0 ≤ q)) [.ref (ad 10 0 0), .int a1, .int a2].toArray s 0 0 (fun q => N0 ≤ q)) Y 67 [(3, .int l3), (0, .ref (ad 10 0 0)), (1, .int a1), (2, .int a2)] [] := by
  intro n
  induction n with
  | zero =>
    intro Y l3 h
    unfold X12_dependsOn_b67 at h
    cases h
  | succ n ih =>
    intro Y l3 h
    unfold X12_dependsOn_b67 at h
    refine fw_iload_n C dX12_dependsOn_67 rfl 0 rfl ?_
    refine fw_if_lt C dX12_dependsOn_68 (tgt := 123) rfl (fun c13 => ?_) (fun c13 => ?_)
    · have h := ite_t c13 h
      refine fw_iload_n C dX12_dependsOn_123 rfl 2 rfl ?_
      refine fw_iload_n C dX12_dependsOn_124 rfl 3 rfl ?_
      refine fw_icmp_eq C dX12_dependsOn_125 (tgt := 141) rfl (fun c14 => ?_) (fun c14 => ?_)
      · have h := ite_t c14 h
        refine fw_iconst C dX12_dependsOn_141 (v := 0) rfl ?_
        exact fw_zret C hrt (by decide) Y (Option.some.inj h) (fun t ht => ht) dX12_dependsOn_142
      · have h := ite_f c14 h
        refine fw_aload_n C dX12_dependsOn_128 rfl 1 rfl ?_
        refine fw_get C (ci := 10) (Cn := RX12) (Tc := TX12) (N := 19) (j := 12) ly_X12_dependsOn_12 rfl (hG _ (List.mem_of_getElem? (i := 0) rfl)) (of10_0 _) (ce10 T ad _ _) (by decide) (cx_ts C _ fl_X12_dependsOn_48) (fun _ h => h) (v := .ref (ad 10 0 7)) rfl dX12_dependsOn_129 ?_
        refine fw_iload_n C dX12_dependsOn_132 rfl 3 rfl ?_
        obtain ⟨b15, h⟩ := gd_some h
        refine fw_zald2 C (hG _ (List.mem_of_getElem? (i := 0) rfl)) (of10_7 _) (ca10_7 T ad _ _) b15 (Nat.le_of_ble_eq_true rfl) dX12_dependsOn_133 ?_
        refine fw_if_eq C dX12_dependsOn_134 (tgt := 141) rfl (fun c16 => ?_) (fun c16 => ?_)
        · have h := ite_t c16 h
          refine fw_iconst C dX12_dependsOn_141 (v := 0) rfl ?_
          exact fw_zret C hrt (by decide) Y (Option.some.inj h) (fun t ht => ht) dX12_dependsOn_142
        · have h := ite_f c16 h
          refine fw_iconst C dX12_dependsOn_137 (v := 1) rfl ?_
          refine fw_goto C dX12_dependsOn_138 (tgt := 142) rfl ?_
          exact fw_zret C hrt (by decide) Y (Option.some.inj h) (fun t ht => ht) dX12_dependsOn_142
    · have h := ite_f c13 h
      refine fw_iconst C dX12_dependsOn_71 (v := 0) rfl ?_
      refine fw_istore C dX12_dependsOn_72 (by decide) (L' := [(4, .int 0), (3, .int l3), (0, .ref (ad 10 0 0)), (1, .int a1), (2, .int a2)]) rfl ?_
      exact w_X12_dependsOn_b74 C hrt hG  ih _ _ _ _ h
set_option maxRecDepth 100000 in
set_option maxHeartbeats 4000000 in
theorem w_X12_dependsOn_b34 {a1 : Int32} {a2 : Int32} (C : Cx p s m [.ref (ad 10 0 0), .int a1, .int a2].toArray meth c cX12_dependsOn 5 wsX12_dependsOn RX12 N0 T D gr ad) (hrt : meth.sig.returnType = (some .boolean)) (hG : ∀ q ∈ [(10, 0)], q ∈ gr) {res : Int32 × Mem} : ∀ (n : Nat) (Y : Mem) (l3 : Int32), X12_dependsOn_b34 a1 a2  n Y l3 = some res → FW p l e (Rm 2) s m [.ref (ad 10 0 0), .int a1, .int a2].toArray below meth c 5 N0 T D gr ad 0 0 (MQ below (va_Qi (fun r Y1 => (r, Y1) = res) (WB T D gr ad) (fun q => N0 ≤ q)) [.ref (ad 10 0 0), .int a1, .int a2].toArray s 0 0 (fun q => N0 ≤ q)) Y 34 [(3, .int l3), (0, .ref (ad 10 0 0)), (1, .int a1), (2, .int a2)] [] := by
  intro n
  induction n with
  | zero =>
    intro Y l3 h
    unfold X12_dependsOn_b34 at h
    cases h
  | succ n ih =>
    intro Y l3 h
    unfold X12_dependsOn_b34 at h
    refine fw_iload_n C dX12_dependsOn_34 rfl 0 rfl ?_
    refine fw_aload_n C dX12_dependsOn_35 rfl 1 rfl ?_
    refine fw_get C (ci := 10) (Cn := RX12) (Tc := TX12) (N := 19) (j := 0) ly_X12_dependsOn_12 rfl (hG _ (List.mem_of_getElem? (i := 0) rfl)) (of10_0 _) (ce10 T ad _ _) (by decide) (cx_ts C _ fl_X12_dependsOn_13) (fun _ h => h) (v := .ref (ad 10 0 1)) rfl dX12_dependsOn_36 ?_
    refine fw_bipush C dX12_dependsOn_39 (v := 13) rfl ?_
    obtain ⟨b8, h⟩ := gd_some h
    refine fw_iald2 C (hG _ (List.mem_of_getElem? (i := 0) rfl)) (of10_1 _) (ca10_1 T ad _ _) b8 (Nat.le_of_ble_eq_true rfl) dX12_dependsOn_41 ?_
    refine fw_icmp_ge C dX12_dependsOn_42 (tgt := 58) rfl (fun c9 => ?_) (fun c9 => ?_)
    · have h := ite_t c9 h
      refine fw_aload_n C dX12_dependsOn_58 rfl 1 rfl ?_
      refine fw_get C (ci := 10) (Cn := RX12) (Tc := TX12) (N := 19) (j := 12) ly_X12_dependsOn_12 rfl (hG _ (List.mem_of_getElem? (i := 0) rfl)) (of10_0 _) (ce10 T ad _ _) (by decide) (cx_ts C _ fl_X12_dependsOn_48) (fun _ h => h) (v := .ref (ad 10 0 7)) rfl dX12_dependsOn_59 ?_
      refine fw_iload_n C dX12_dependsOn_62 rfl 2 rfl ?_
      refine fw_iconst C dX12_dependsOn_63 (v := 1) rfl ?_
      obtain ⟨b10, h⟩ := gd_some h
      obtain ⟨Y11, e12, h⟩ := lt_some h
      refine fw_zast2 C (hG _ (List.mem_of_getElem? (i := 0) rfl)) (of10_7 _) (ca10_7 T ad _) b10 (Nat.le_of_ble_eq_true rfl) dX12_dependsOn_64 ?_
      refine fw_mem e12 ?_
      refine fw_iload_n C dX12_dependsOn_65 rfl 2 rfl ?_
      refine fw_istore_n C dX12_dependsOn_66 rfl (by decide) (L' := [(3, .int a1), (0, .ref (ad 10 0 0)), (1, .int a1), (2, .int a2)]) rfl ?_
      exact w_X12_dependsOn_b67 C hrt hG   _ _ _ h
    · have h := ite_f c9 h
      refine fw_aload_n C dX12_dependsOn_45 rfl 1 rfl ?_
      refine fw_get C (ci := 10) (Cn := RX12) (Tc := TX12) (N := 19) (j := 12) ly_X12_dependsOn_12 rfl (hG _ (List.mem_of_getElem? (i := 0) rfl)) (of10_0 _) (ce10 T ad _ _) (by decide) (cx_ts C _ fl_X12_dependsOn_48) (fun _ h => h) (v := .ref (ad 10 0 7)) rfl dX12_dependsOn_46 ?_
      refine fw_iload_n C dX12_dependsOn_49 rfl 0 rfl ?_
      refine fw_iconst C dX12_dependsOn_50 (v := 0) rfl ?_
      obtain ⟨b27, h⟩ := gd_some h
      obtain ⟨Y28, e29, h⟩ := lt_some h
      refine fw_zast2 C (hG _ (List.mem_of_getElem? (i := 0) rfl)) (of10_7 _) (ca10_7 T ad _) b27 (Nat.le_of_ble_eq_true rfl) dX12_dependsOn_51 ?_
      refine fw_mem e29 ?_
      refine fw_iinc C dX12_dependsOn_52 (kk := 0) (v := l3 + 1) rfl rfl (by decide) (L' := [(3, .int (l3 + 1)), (0, .ref (ad 10 0 0)), (1, .int a1), (2, .int a2)]) rfl ?_
      refine fw_goto C dX12_dependsOn_55 (tgt := 34) rfl ?_
      exact ih _ _ h
set_option maxRecDepth 100000 in
set_option maxHeartbeats 4000000 in
theorem w_X12_dependsOn_b22 {a1 : Int32} {a2 : Int32} (C : Cx p s m [.ref (ad 10 0 0), .int a1, .int a2].toArray meth c cX12_dependsOn 5 wsX12_dependsOn RX12 N0 T D gr ad) (hrt : meth.sig.returnType = (some .boolean)) (hG : ∀ q ∈ [(10, 0)], q ∈ gr) {res : Int32 × Mem} (Y : Mem) (s0 : Int32) (h : X12_dependsOn_b22 a1 a2  Y s0 = some res) : FW p l e (Rm 2) s m [.ref (ad 10 0 0), .int a1, .int a2].toArray below meth c 5 N0 T D gr ad 0 0 (MQ below (va_Qi (fun r Y1 => (r, Y1) = res) (WB T D gr ad) (fun q => N0 ≤ q)) [.ref (ad 10 0 0), .int a1, .int a2].toArray s 0 0 (fun q => N0 ≤ q)) Y 22 [(0, .ref (ad 10 0 0)), (1, .int a1), (2, .int a2)] [.int s0, .ref (ad 10 0 0)] := by
  unfold X12_dependsOn_b22 at h
  refine fw_iconst C dX12_dependsOn_22 (v := 0) rfl ?_
  refine fw_iconst C dX12_dependsOn_23 (v := 0) rfl ?_
  obtain ⟨r4, Y6, q5, h⟩ := bd2_some h
  refine fw_callVi C (ci := 10) (Cn := RX12) (Tc := TX12) (N := 19) (As := [.int s0, .int 0, .int 0]) (c_X12_fails (gac (hG _ (List.mem_of_getElem? (i := 0) rfl)) ga0) q5) (cwV 3 (cx_ts C) gX12_dependsOn_X12_fails rfl rfl rfl (by decide +kernel) ⟨Nat.le_of_ble_eq_true rfl, Nat.le_of_ble_eq_true rfl⟩) rfl (hG _ (List.mem_of_getElem? (i := 0) rfl)) (of10_0 _) (ce10 T ad _ _) rfl (st := []) rfl (Nat.le_of_ble_eq_true rfl) ⟨Nat.le_refl 0, Nat.le_refl 0⟩ dX12_dependsOn_24 ?_
  intro r_ Y_ e_
  obtain ⟨rfl, rfl⟩ := Prod.mk.inj e_
  refine fw_if_eq C dX12_dependsOn_27 (tgt := 32) rfl (fun c7 => ?_) (fun c7 => ?_)
  · have h := ite_t c7 h
    refine fw_iconst C dX12_dependsOn_32 (v := 0) rfl ?_
    refine fw_istore_n C dX12_dependsOn_33 rfl (by decide) (L' := [(3, .int 0), (0, .ref (ad 10 0 0)), (1, .int a1), (2, .int a2)]) rfl ?_
    exact w_X12_dependsOn_b34 C hrt hG   _ _ _ h
  · have h := ite_f c7 h
    refine fw_iconst C dX12_dependsOn_30 (v := 0) rfl ?_
    exact fw_zret C hrt (by decide) Y6 (Option.some.inj h) (fun t ht => ht) dX12_dependsOn_31
set_option maxRecDepth 100000 in
set_option maxHeartbeats 4000000 in
theorem w_X12_dependsOn_b17 {a1 : Int32} {a2 : Int32} (C : Cx p s m [.ref (ad 10 0 0), .int a1, .int a2].toArray meth c cX12_dependsOn 5 wsX12_dependsOn RX12 N0 T D gr ad) (hrt : meth.sig.returnType = (some .boolean)) (hG : ∀ q ∈ [(10, 0)], q ∈ gr) {res : Int32 × Mem} (Y : Mem) (h : X12_dependsOn_b17 a1 a2  Y = some res) : FW p l e (Rm 2) s m [.ref (ad 10 0 0), .int a1, .int a2].toArray below meth c 5 N0 T D gr ad 0 0 (MQ below (va_Qi (fun r Y1 => (r, Y1) = res) (WB T D gr ad) (fun q => N0 ≤ q)) [.ref (ad 10 0 0), .int a1, .int a2].toArray s 0 0 (fun q => N0 ≤ q)) Y 17 [(0, .ref (ad 10 0 0)), (1, .int a1), (2, .int a2)] [.ref (ad 10 0 0)] := by
  unfold X12_dependsOn_b17 at h
  refine fw_iconst C dX12_dependsOn_17 (v := 1) rfl ?_
  refine fw_goto C dX12_dependsOn_18 (tgt := 22) rfl ?_
  exact w_X12_dependsOn_b22 C hrt hG   _ _ h
set_option maxRecDepth 100000 in
set_option maxHeartbeats 4000000 in
theorem w_X12_dependsOn {Y : Mem} {a1 : Int32} {a2 : Int32} (C : Cx p s m [.ref (ad 10 0 0), .int a1, .int a2].toArray meth c cX12_dependsOn 5 wsX12_dependsOn RX12 N0 T D gr ad) (hrt : meth.sig.returnType = (some .boolean)) (hG : ∀ q ∈ [(10, 0)], q ∈ gr) {res : Int32 × Mem} (h : X12_dependsOn Y a1 a2 = some res) : FW p l e (Rm 2) s m [.ref (ad 10 0 0), .int a1, .int a2].toArray below meth c 5 N0 T D gr ad 0 0 (MQ below (va_Qi (fun r Y1 => (r, Y1) = res) (WB T D gr ad) (fun q => N0 ≤ q)) [.ref (ad 10 0 0), .int a1, .int a2].toArray s 0 0 (fun q => N0 ≤ q)) Y 0 [(0, .ref (ad 10 0 0)), (1, .int a1), (2, .int a2)] [] := by
  unfold X12_dependsOn at h
  refine fw_aload_n C dX12_dependsOn_0 rfl 0 rfl ?_
  refine fw_aload_n C dX12_dependsOn_1 rfl 0 rfl ?_
  refine fw_iload_n C dX12_dependsOn_2 rfl 1 rfl ?_
  obtain ⟨r1, q2, h⟩ := bd1_some h
  refine fw_callVi C (ci := 10) (Cn := RX12) (Tc := TX12) (N := 19) (As := [.int a1]) (c_X12_isStep (gac (hG _ (List.mem_of_getElem? (i := 0) rfl)) ga0) q2) (cwV 1 (cx_ts C) gX12_dependsOn_X12_isStep rfl rfl rfl (by decide +kernel) ⟨Nat.le_of_ble_eq_true rfl, Nat.le_of_ble_eq_true rfl⟩) rfl (hG _ (List.mem_of_getElem? (i := 0) rfl)) (of10_0 _) (ce10 T ad _ _) rfl (st := [.ref (ad 10 0 0)]) rfl (Nat.le_of_ble_eq_true rfl) ⟨Nat.le_refl 0, Nat.le_refl 0⟩ dX12_dependsOn_3 ?_
  rintro _ _ ⟨rfl, rfl⟩
  refine fw_if_eq C dX12_dependsOn_6 (tgt := 17) rfl (fun c3 => ?_) (fun c3 => ?_)
  · have h := ite_t c3 h
    exact w_X12_dependsOn_b17 C hrt hG   _ h
  · have h := ite_f c3 h
    refine fw_aload_n C dX12_dependsOn_9 rfl 0 rfl ?_
    refine fw_iload_n C dX12_dependsOn_10 rfl 2 rfl ?_
    obtain ⟨r30, q31, h⟩ := bd1_some h
    refine fw_callVi C (ci := 10) (Cn := RX12) (Tc := TX12) (N := 19) (As := [.int a2]) (c_X12_isStep (gac (hG _ (List.mem_of_getElem? (i := 0) rfl)) ga0) q31) (cwV 1 (cx_ts C) gX12_dependsOn_X12_isStep rfl rfl rfl (by decide +kernel) ⟨Nat.le_of_ble_eq_true rfl, Nat.le_of_ble_eq_true rfl⟩) rfl (hG _ (List.mem_of_getElem? (i := 0) rfl)) (of10_0 _) (ce10 T ad _ _) rfl (st := [.ref (ad 10 0 0)]) rfl (Nat.le_of_ble_eq_true rfl) ⟨Nat.le_refl 0, Nat.le_refl 0⟩ dX12_dependsOn_11 ?_
    rintro _ _ ⟨rfl, rfl⟩
    refine fw_if_ne C dX12_dependsOn_14 (tgt := 21) rfl (fun c32 => ?_) (fun c32 => ?_)
    · have h := ite_f c32 h
      refine fw_iconst C dX12_dependsOn_21 (v := 0) rfl ?_
      exact w_X12_dependsOn_b22 C hrt hG   _ _ h
    · have h := ite_t c32 h
      exact w_X12_dependsOn_b17 C hrt hG   _ h
end
set_option maxRecDepth 100000 in
set_option maxHeartbeats 4000000 in
theorem c_X12_dependsOn {l : Launch} {N0 : Nat} {T : Nat → ClassId} {D : va_G} {gr : List (Nat × Nat)} {ad : Nat → Nat → Nat → Nat} {Y : Mem} {a1 : Int32} {a2 : Int32} {res : Int32 × Mem} (hG : ∀ q ∈ [(10, 0)], q ∈ gr) (h : X12_dependsOn Y a1 a2 = some res) : CI l yX12_dependsOn wsX12_dependsOn (Rm 2) N0 T D gr ad Y [.ref (ad 10 0 0), .int a1, .int a2] (fun r Y1 => (r, Y1) = res) :=
  fw_body (by decide +kernel) rfl (Nat.le_of_ble_eq_true rfl) (fun p e s m below meth c C hrt => w_X12_dependsOn C hrt hG  h)
theorem ly_X12_passMinutes_12 : ∀ w ∈ u_ws RX12 TX12 19, w ∈ wsX12_passMinutes := by decide +kernel
theorem fl_X12_passMinutes_13 : Cond.fieldLink RX12 13 "RecipeSchedulerModel" "m" "[I" ∈ wsX12_passMinutes := by decide +kernel
noncomputable def X12_passMinutes_b10 (a1 : Int32) : Nat → Mem → Int32 → Int32 → Option (Int32 × Mem)
  | 0, _, _, _ => none
  | n+1, Y, l3, l2 =>
  if a1 ≤ l3 then (gd (inb 8 4202) <| some ((Y 10 0 1 (ix 8)) - l2, Y)) else (bd1 (X12_passMinute Y) <| fun Y8 => X12_passMinutes_b10 a1 n Y8 (l3 + 1) l2)
noncomputable def X12_passMinutes (Y : Mem) (a1 : Int32) : Option (Int32 × Mem) :=
  gd (inb 8 4202) <| lt_ (Y 10 0 1 (ix 8)) <| fun v2 => X12_passMinutes_b10 a1 FU Y 0 v2
section
variable {p : Program} {l : Launch} {e : Env} {s : State} {m : MethodId} {below : List Frame} {meth : Method} {c : Code} {N0 : Nat} {T : Nat → ClassId} {D : va_G} {gr : List (Nat × Nat)} {ad : Nat → Nat → Nat → Nat}
set_option maxRecDepth 100000 in
set_option maxHeartbeats 4000000 in
theorem w_X12_passMinutes_b10 {a1 : Int32} (C : Cx p s m [.ref (ad 10 0 0), .int a1].toArray meth c cX12_passMinutes 4 wsX12_passMinutes RX12 N0 T D gr ad) (hrt : meth.sig.returnType = (some .int)) (hG : ∀ q ∈ [(10, 0)], q ∈ gr) {res : Int32 × Mem} : ∀ (n : Nat) (Y : Mem) (l3 : Int32) (l2 : Int32), X12_passMinutes_b10 a1  n Y l3 l2 = some res → FW p l e (Rm 8) s m [.ref (ad 10 0 0), .int a1].toArray below meth c 4 N0 T D gr ad 0 0 (MQ below (va_Qi (fun r Y1 => (r, Y1) = res) (WB T D gr ad) (fun q => N0 ≤ q)) [.ref (ad 10 0 0), .int a1].toArray s 0 0 (fun q => N0 ≤ q)) Y 10 [(3, .int l3), (2, .int l2), (0, .ref (ad 10 0 0)), (1, .int a1)] [] := by
  intro n
  induction n with
  | zero =>
    intro Y l3 l2 h
    unfold X12_passMinutes_b10 at h
    cases h
  | succ n ih =>
    intro Y l3 l2 h
    unfold X12_passMinutes_b10 at h
    refine fw_iload_n C dX12_passMinutes_10 rfl 0 rfl ?_
    refine fw_iload_n C dX12_passMinutes_11 rfl 3 rfl ?_
    refine fw_icmp_ge C dX12_passMinutes_12 (tgt := 25) rfl (fun c4 => ?_) (fun c4 => ?_)
    · have h := ite_t c4 h
      refine fw_aload_n C dX12_passMinutes_25 rfl 2 rfl ?_
      refine fw_get C (ci := 10) (Cn := RX12) (Tc := TX12) (N := 19) (j := 0) ly_X12_passMinutes_12 rfl (hG _ (List.mem_of_getElem? (i := 0) rfl)) (of10_0 _) (ce10 T ad _ _) (by decide) (cx_ts C _ fl_X12_passMinutes_13) (fun _ h => h) (v := .ref (ad 10 0 1)) rfl dX12_passMinutes_26 ?_
      refine fw_bipush C dX12_passMinutes_29 (v := 8) rfl ?_
      obtain ⟨b5, h⟩ := gd_some h
      refine fw_iald2 C (hG _ (List.mem_of_getElem? (i := 0) rfl)) (of10_1 _) (ca10_1 T ad _ _) b5 (Nat.le_of_ble_eq_true rfl) dX12_passMinutes_31 ?_
      refine fw_iload_n C dX12_passMinutes_32 rfl 1 rfl ?_
      refine fw_isub C dX12_passMinutes_33 ?_
      exact fw_iret C hrt Y (Option.some.inj h) (fun t ht => ht) dX12_passMinutes_34
    · have h := ite_f c4 h
      refine fw_aload_n C dX12_passMinutes_15 rfl 2 rfl ?_
      obtain ⟨Y8, q7, h⟩ := bd1_some h
      refine fw_callVv C (ci := 10) (Cn := RX12) (Tc := TX12) (N := 19) (As := []) (c_X12_passMinute (gac (hG _ (List.mem_of_getElem? (i := 0) rfl)) ga0) q7) (cwV 0 (cx_ts C) gX12_passMinutes_X12_passMinute rfl rfl rfl (by decide +kernel) ⟨Nat.le_of_ble_eq_true rfl, Nat.le_of_ble_eq_true rfl⟩) rfl (hG _ (List.mem_of_getElem? (i := 0) rfl)) (of10_0 _) (ce10 T ad _ _) rfl (st := []) rfl (Nat.le_of_ble_eq_true rfl) ⟨Nat.le_refl 0, Nat.le_refl 0⟩ dX12_passMinutes_16 ?_
      rintro _ rfl
      refine fw_iinc C dX12_passMinutes_19 (kk := 0) (v := l3 + 1) rfl rfl (by decide) (L' := [(3, .int (l3 + 1)), (2, .int l2), (0, .ref (ad 10 0 0)), (1, .int a1)]) rfl ?_
      refine fw_goto C dX12_passMinutes_22 (tgt := 10) rfl ?_
      exact ih _ _ _ h
set_option maxRecDepth 100000 in
set_option maxHeartbeats 4000000 in
theorem w_X12_passMinutes {Y : Mem} {a1 : Int32} (C : Cx p s m [.ref (ad 10 0 0), .int a1].toArray meth c cX12_passMinutes 4 wsX12_passMinutes RX12 N0 T D gr ad) (hrt : meth.sig.returnType = (some .int)) (hG : ∀ q ∈ [(10, 0)], q ∈ gr) {res : Int32 × Mem} (h : X12_passMinutes Y a1 = some res) : FW p l e (Rm 8) s m [.ref (ad 10 0 0), .int a1].toArray below meth c 4 N0 T D gr ad 0 0 (MQ below (va_Qi (fun r Y1 => (r, Y1) = res) (WB T D gr ad) (fun q => N0 ≤ q)) [.ref (ad 10 0 0), .int a1].toArray s 0 0 (fun q => N0 ≤ q)) Y 0 [(0, .ref (ad 10 0 0)), (1, .int a1)] [] := by
  unfold X12_passMinutes at h
  refine fw_aload_n C dX12_passMinutes_0 rfl 0 rfl ?_
  refine fw_get C (ci := 10) (Cn := RX12) (Tc := TX12) (N := 19) (j := 0) ly_X12_passMinutes_12 rfl (hG _ (List.mem_of_getElem? (i := 0) rfl)) (of10_0 _) (ce10 T ad _ _) (by decide) (cx_ts C _ fl_X12_passMinutes_13) (fun _ h => h) (v := .ref (ad 10 0 1)) rfl dX12_passMinutes_1 ?_
  refine fw_bipush C dX12_passMinutes_4 (v := 8) rfl ?_
  obtain ⟨b1, h⟩ := gd_some h
  refine fw_iald2 C (hG _ (List.mem_of_getElem? (i := 0) rfl)) (of10_1 _) (ca10_1 T ad _ _) b1 (Nat.le_of_ble_eq_true rfl) dX12_passMinutes_6 ?_
  obtain ⟨v2, e3, h⟩ := lt_some h
  refine fw_top (v' := .int v2) (by rw [e3]) ?_
  refine fw_istore_n C dX12_passMinutes_7 rfl (by decide) (L' := [(2, .int v2), (0, .ref (ad 10 0 0)), (1, .int a1)]) rfl ?_
  refine fw_iconst C dX12_passMinutes_8 (v := 0) rfl ?_
  refine fw_istore_n C dX12_passMinutes_9 rfl (by decide) (L' := [(3, .int 0), (2, .int v2), (0, .ref (ad 10 0 0)), (1, .int a1)]) rfl ?_
  exact w_X12_passMinutes_b10 C hrt hG   _ _ _ _ h
end
set_option maxRecDepth 100000 in
set_option maxHeartbeats 4000000 in
theorem c_X12_passMinutes {l : Launch} {N0 : Nat} {T : Nat → ClassId} {D : va_G} {gr : List (Nat × Nat)} {ad : Nat → Nat → Nat → Nat} {Y : Mem} {a1 : Int32} {res : Int32 × Mem} (hG : ∀ q ∈ [(10, 0)], q ∈ gr) (h : X12_passMinutes Y a1 = some res) : CI l yX12_passMinutes wsX12_passMinutes (Rm 8) N0 T D gr ad Y [.ref (ad 10 0 0), .int a1] (fun r Y1 => (r, Y1) = res) :=
  fw_body (by decide +kernel) rfl (Nat.le_of_ble_eq_true rfl) (fun p e s m below meth c C hrt => w_X12_passMinutes C hrt hG  h)
theorem ly_X12_stopIt_12 : ∀ w ∈ u_ws RX12 TX12 19, w ∈ wsX12_stopIt := by decide +kernel
theorem fl_X12_stopIt_13 : Cond.fieldLink RX12 13 "RecipeSchedulerModel" "m" "[I" ∈ wsX12_stopIt := by decide +kernel
noncomputable def X12_stopIt (Y : Mem) (a1 : Int32) : Option (Int32 × Mem) :=
  bd1 (X12_of Y a1 18) <| fun r1 => bd1 (X12_set Y a1 17 0) <| fun Y5 => bd1 (X12_set Y5 a1 18 0) <| fun Y8 => gd (inb 11 4202) <| lt_ (up Y8 10 0 1 (ix 11) ((Y8 10 0 1 (ix 11)) + 1)) <| fun Y10 => some (r1, Y10)
section
variable {p : Program} {l : Launch} {e : Env} {s : State} {m : MethodId} {below : List Frame} {meth : Method} {c : Code} {N0 : Nat} {T : Nat → ClassId} {D : va_G} {gr : List (Nat × Nat)} {ad : Nat → Nat → Nat → Nat}
set_option maxRecDepth 100000 in
set_option maxHeartbeats 4000000 in
theorem w_X12_stopIt {Y : Mem} {a1 : Int32} (C : Cx p s m [.ref (ad 10 0 0), .int a1].toArray meth c cX12_stopIt 3 wsX12_stopIt RX12 N0 T D gr ad) (hrt : meth.sig.returnType = (some .int)) (hG : ∀ q ∈ [(10, 0)], q ∈ gr) {res : Int32 × Mem} (h : X12_stopIt Y a1 = some res) : FW p l e (Rm 1) s m [.ref (ad 10 0 0), .int a1].toArray below meth c 3 N0 T D gr ad 0 0 (MQ below (va_Qi (fun r Y1 => (r, Y1) = res) (WB T D gr ad) (fun q => N0 ≤ q)) [.ref (ad 10 0 0), .int a1].toArray s 0 0 (fun q => N0 ≤ q)) Y 0 [(0, .ref (ad 10 0 0)), (1, .int a1)] [] := by
  unfold X12_stopIt at h
  refine fw_aload_n C dX12_stopIt_0 rfl 0 rfl ?_
  refine fw_iload_n C dX12_stopIt_1 rfl 1 rfl ?_
  refine fw_bipush C dX12_stopIt_2 (v := 18) rfl ?_
  obtain ⟨r1, q2, h⟩ := bd1_some h
  refine fw_callVi C (ci := 10) (Cn := RX12) (Tc := TX12) (N := 19) (As := [.int a1, .int 18]) (c_X12_of (gac (hG _ (List.mem_of_getElem? (i := 0) rfl)) ga0) q2) (cwV 2 (cx_ts C) gX12_stopIt_X12_of rfl rfl rfl (by decide +kernel) ⟨Nat.le_of_ble_eq_true rfl, Nat.le_of_ble_eq_true rfl⟩) rfl (hG _ (List.mem_of_getElem? (i := 0) rfl)) (of10_0 _) (ce10 T ad _ _) rfl (st := []) rfl (Nat.le_of_ble_eq_true rfl) ⟨Nat.le_refl 0, Nat.le_refl 0⟩ dX12_stopIt_4 ?_
  rintro _ _ ⟨rfl, rfl⟩
  refine fw_istore_n C dX12_stopIt_7 rfl (by decide) (L' := [(2, .int r1), (0, .ref (ad 10 0 0)), (1, .int a1)]) rfl ?_
  refine fw_aload_n C dX12_stopIt_8 rfl 1 rfl ?_
  refine fw_iload_n C dX12_stopIt_9 rfl 2 rfl ?_
  refine fw_bipush C dX12_stopIt_10 (v := 17) rfl ?_
  refine fw_iconst C dX12_stopIt_12 (v := 0) rfl ?_
  obtain ⟨Y5, q4, h⟩ := bd1_some h
  refine fw_callVv C (ci := 10) (Cn := RX12) (Tc := TX12) (N := 19) (As := [.int a1, .int 17, .int 0]) (c_X12_set (gac (hG _ (List.mem_of_getElem? (i := 0) rfl)) ga0) q4) (cwV 3 (cx_ts C) gX12_stopIt_X12_set rfl rfl rfl (by decide +kernel) ⟨Nat.le_of_ble_eq_true rfl, Nat.le_of_ble_eq_true rfl⟩) rfl (hG _ (List.mem_of_getElem? (i := 0) rfl)) (of10_0 _) (ce10 T ad _ _) rfl (st := []) rfl (Nat.le_of_ble_eq_true rfl) ⟨Nat.le_refl 0, Nat.le_refl 0⟩ dX12_stopIt_13 ?_
  rintro _ rfl
  refine fw_aload_n C dX12_stopIt_16 rfl 1 rfl ?_
  refine fw_iload_n C dX12_stopIt_17 rfl 2 rfl ?_
  refine fw_bipush C dX12_stopIt_18 (v := 18) rfl ?_
  refine fw_iconst C dX12_stopIt_20 (v := 0) rfl ?_
  obtain ⟨Y8, q7, h⟩ := bd1_some h
  refine fw_callVv C (ci := 10) (Cn := RX12) (Tc := TX12) (N := 19) (As := [.int a1, .int 18, .int 0]) (c_X12_set (gac (hG _ (List.mem_of_getElem? (i := 0) rfl)) ga0) q7) (cwV 3 (cx_ts C) gX12_stopIt_X12_set rfl rfl rfl (by decide +kernel) ⟨Nat.le_of_ble_eq_true rfl, Nat.le_of_ble_eq_true rfl⟩) rfl (hG _ (List.mem_of_getElem? (i := 0) rfl)) (of10_0 _) (ce10 T ad _ _) rfl (st := []) rfl (Nat.le_of_ble_eq_true rfl) ⟨Nat.le_refl 0, Nat.le_refl 0⟩ dX12_stopIt_21 ?_
  rintro _ rfl
  refine fw_aload_n C dX12_stopIt_24 rfl 1 rfl ?_
  refine fw_get C (ci := 10) (Cn := RX12) (Tc := TX12) (N := 19) (j := 0) ly_X12_stopIt_12 rfl (hG _ (List.mem_of_getElem? (i := 0) rfl)) (of10_0 _) (ce10 T ad _ _) (by decide) (cx_ts C _ fl_X12_stopIt_13) (fun _ h => h) (v := .ref (ad 10 0 1)) rfl dX12_stopIt_25 ?_
  refine fw_bipush C dX12_stopIt_28 (v := 11) rfl ?_
  refine fw_dup2 C dX12_stopIt_30 rfl rfl ?_
  obtain ⟨b9, h⟩ := gd_some h
  refine fw_iald2 C (hG _ (List.mem_of_getElem? (i := 0) rfl)) (of10_1 _) (ca10_1 T ad _ _) b9 (Nat.le_of_ble_eq_true rfl) dX12_stopIt_31 ?_
  refine fw_iconst C dX12_stopIt_32 (v := 1) rfl ?_
  refine fw_iadd C dX12_stopIt_33 ?_
  obtain ⟨Y10, e11, h⟩ := lt_some h
  refine fw_iast2 C (hG _ (List.mem_of_getElem? (i := 0) rfl)) (of10_1 _) (ca10_1 T ad _) b9 (Nat.le_of_ble_eq_true rfl) dX12_stopIt_34 ?_
  refine fw_mem e11 ?_
  refine fw_iload_n C dX12_stopIt_35 rfl 0 rfl ?_
  exact fw_iret C hrt Y10 (Option.some.inj h) (fun t ht => ht) dX12_stopIt_36
end
set_option maxRecDepth 100000 in
set_option maxHeartbeats 4000000 in
theorem c_X12_stopIt {l : Launch} {N0 : Nat} {T : Nat → ClassId} {D : va_G} {gr : List (Nat × Nat)} {ad : Nat → Nat → Nat → Nat} {Y : Mem} {a1 : Int32} {res : Int32 × Mem} (hG : ∀ q ∈ [(10, 0)], q ∈ gr) (h : X12_stopIt Y a1 = some res) : CI l yX12_stopIt wsX12_stopIt (Rm 1) N0 T D gr ad Y [.ref (ad 10 0 0), .int a1] (fun r Y1 => (r, Y1) = res) :=
  fw_body (by decide +kernel) rfl (Nat.le_of_ble_eq_true rfl) (fun p e s m below meth c C hrt => w_X12_stopIt C hrt hG  h)
noncomputable def X12_redoIt (Y : Mem) (a1 : Int32) : Option (Int32 × Mem) :=
  bd1 (X12_of Y a1 19) <| fun r1 => bd1 (X12_set Y a1 17 0) <| fun Y5 => bd1 (X12_set Y5 a1 19 0) <| fun Y8 => some (r1, Y8)
section
variable {p : Program} {l : Launch} {e : Env} {s : State} {m : MethodId} {below : List Frame} {meth : Method} {c : Code} {N0 : Nat} {T : Nat → ClassId} {D : va_G} {gr : List (Nat × Nat)} {ad : Nat → Nat → Nat → Nat}
set_option maxRecDepth 100000 in
set_option maxHeartbeats 4000000 in
theorem w_X12_redoIt {Y : Mem} {a1 : Int32} (C : Cx p s m [.ref (ad 10 0 0), .int a1].toArray meth c cX12_redoIt 3 wsX12_redoIt RX12 N0 T D gr ad) (hrt : meth.sig.returnType = (some .int)) (hG : ∀ q ∈ [(10, 0)], q ∈ gr) {res : Int32 × Mem} (h : X12_redoIt Y a1 = some res) : FW p l e (Rm 1) s m [.ref (ad 10 0 0), .int a1].toArray below meth c 3 N0 T D gr ad 0 0 (MQ below (va_Qi (fun r Y1 => (r, Y1) = res) (WB T D gr ad) (fun q => N0 ≤ q)) [.ref (ad 10 0 0), .int a1].toArray s 0 0 (fun q => N0 ≤ q)) Y 0 [(0, .ref (ad 10 0 0)), (1, .int a1)] [] := by
  unfold X12_redoIt at h
  refine fw_aload_n C dX12_redoIt_0 rfl 0 rfl ?_
  refine fw_iload_n C dX12_redoIt_1 rfl 1 rfl ?_
  refine fw_bipush C dX12_redoIt_2 (v := 19) rfl ?_
  obtain ⟨r1, q2, h⟩ := bd1_some h
  refine fw_callVi C (ci := 10) (Cn := RX12) (Tc := TX12) (N := 19) (As := [.int a1, .int 19]) (c_X12_of (gac (hG _ (List.mem_of_getElem? (i := 0) rfl)) ga0) q2) (cwV 2 (cx_ts C) gX12_redoIt_X12_of rfl rfl rfl (by decide +kernel) ⟨Nat.le_of_ble_eq_true rfl, Nat.le_of_ble_eq_true rfl⟩) rfl (hG _ (List.mem_of_getElem? (i := 0) rfl)) (of10_0 _) (ce10 T ad _ _) rfl (st := []) rfl (Nat.le_of_ble_eq_true rfl) ⟨Nat.le_refl 0, Nat.le_refl 0⟩ dX12_redoIt_4 ?_
  rintro _ _ ⟨rfl, rfl⟩
  refine fw_istore_n C dX12_redoIt_7 rfl (by decide) (L' := [(2, .int r1), (0, .ref (ad 10 0 0)), (1, .int a1)]) rfl ?_
  refine fw_aload_n C dX12_redoIt_8 rfl 1 rfl ?_
  refine fw_iload_n C dX12_redoIt_9 rfl 2 rfl ?_
  refine fw_bipush C dX12_redoIt_10 (v := 17) rfl ?_
  refine fw_iconst C dX12_redoIt_12 (v := 0) rfl ?_
  obtain ⟨Y5, q4, h⟩ := bd1_some h
  refine fw_callVv C (ci := 10) (Cn := RX12) (Tc := TX12) (N := 19) (As := [.int a1, .int 17, .int 0]) (c_X12_set (gac (hG _ (List.mem_of_getElem? (i := 0) rfl)) ga0) q4) (cwV 3 (cx_ts C) gX12_redoIt_X12_set rfl rfl rfl (by decide +kernel) ⟨Nat.le_of_ble_eq_true rfl, Nat.le_of_ble_eq_true rfl⟩) rfl (hG _ (List.mem_of_getElem? (i := 0) rfl)) (of10_0 _) (ce10 T ad _ _) rfl (st := []) rfl (Nat.le_of_ble_eq_true rfl) ⟨Nat.le_refl 0, Nat.le_refl 0⟩ dX12_redoIt_13 ?_
  rintro _ rfl
  refine fw_aload_n C dX12_redoIt_16 rfl 1 rfl ?_
  refine fw_iload_n C dX12_redoIt_17 rfl 2 rfl ?_
  refine fw_bipush C dX12_redoIt_18 (v := 19) rfl ?_
  refine fw_iconst C dX12_redoIt_20 (v := 0) rfl ?_
  obtain ⟨Y8, q7, h⟩ := bd1_some h
  refine fw_callVv C (ci := 10) (Cn := RX12) (Tc := TX12) (N := 19) (As := [.int a1, .int 19, .int 0]) (c_X12_set (gac (hG _ (List.mem_of_getElem? (i := 0) rfl)) ga0) q7) (cwV 3 (cx_ts C) gX12_redoIt_X12_set rfl rfl rfl (by decide +kernel) ⟨Nat.le_of_ble_eq_true rfl, Nat.le_of_ble_eq_true rfl⟩) rfl (hG _ (List.mem_of_getElem? (i := 0) rfl)) (of10_0 _) (ce10 T ad _ _) rfl (st := []) rfl (Nat.le_of_ble_eq_true rfl) ⟨Nat.le_refl 0, Nat.le_refl 0⟩ dX12_redoIt_21 ?_
  rintro _ rfl
  refine fw_iload_n C dX12_redoIt_24 rfl 0 rfl ?_
  exact fw_iret C hrt Y8 (Option.some.inj h) (fun t ht => ht) dX12_redoIt_25
end
set_option maxRecDepth 100000 in
set_option maxHeartbeats 4000000 in
theorem c_X12_redoIt {l : Launch} {N0 : Nat} {T : Nat → ClassId} {D : va_G} {gr : List (Nat × Nat)} {ad : Nat → Nat → Nat → Nat} {Y : Mem} {a1 : Int32} {res : Int32 × Mem} (hG : ∀ q ∈ [(10, 0)], q ∈ gr) (h : X12_redoIt Y a1 = some res) : CI l yX12_redoIt wsX12_redoIt (Rm 1) N0 T D gr ad Y [.ref (ad 10 0 0), .int a1] (fun r Y1 => (r, Y1) = res) :=
  fw_body (by decide +kernel) rfl (Nat.le_of_ble_eq_true rfl) (fun p e s m below meth c C hrt => w_X12_redoIt C hrt hG  h)
theorem ly_X12_doIt_12 : ∀ w ∈ u_ws RX12 TX12 19, w ∈ wsX12_doIt := by decide +kernel
theorem fl_X12_doIt_13 : Cond.fieldLink RX12 13 "RecipeSchedulerModel" "m" "[I" ∈ wsX12_doIt := by decide +kernel
noncomputable def X12_doIt (Y : Mem) (a1 : Int32) (a2 : Int32) (a3 : Int32) : Option (Mem) :=
  if a1 = 0 then (bd2 (X12_passMinutes Y a2) <| fun r2 Y4 => some Y4) else (if a1 = 1 then (gd (inb 5 4202) <| lt_ (up Y 10 0 1 (ix 5) ((Y 10 0 1 (ix 5)) + a2)) <| fun Y7 => some Y7) else (if a1 = 2 then (gd (inb 5 4202) <| lt_ (up Y 10 0 1 (ix 5) ((Y 10 0 1 (ix 5)) - a2)) <| fun Y11 => some Y11) else (if a1 = 3 then (bd2 (X12_stopIt Y a2) <| fun r14 Y16 => some Y16) else (if a1 = 4 then (bd2 (X12_redoIt Y a2) <| fun r18 Y20 => some Y20) else (if a1 = 5 then (gd (inb 0 4202) <| lt_ (up Y 10 0 1 (ix 0) a2) <| fun Y23 => some Y23) else (if a1 = 6 then (bd1 (X12_set Y a2 7 a3) <| fun Y28 => some Y28) else (gd (inb 6 4202) <| lt_ (up Y 10 0 1 (ix 6) 1) <| fun Y30 => some Y30)))))))
section
variable {p : Program} {l : Launch} {e : Env} {s : State} {m : MethodId} {below : List Frame} {meth : Method} {c : Code} {N0 : Nat} {T : Nat → ClassId} {D : va_G} {gr : List (Nat × Nat)} {ad : Nat → Nat → Nat → Nat}
set_option maxRecDepth 100000 in
set_option maxHeartbeats 4000000 in
theorem w_X12_doIt {Y : Mem} {a1 : Int32} {a2 : Int32} {a3 : Int32} (C : Cx p s m [.ref (ad 10 0 0), .int a1, .int a2, .int a3].toArray meth c cX12_doIt 4 wsX12_doIt RX12 N0 T D gr ad) (hrt : meth.sig.returnType = none) (hG : ∀ q ∈ [(10, 0)], q ∈ gr) {res : Mem} (h : X12_doIt Y a1 a2 a3 = some res) : FW p l e (Rm 9) s m [.ref (ad 10 0 0), .int a1, .int a2, .int a3].toArray below meth c 4 N0 T D gr ad 0 0 (MQ below (va_Qv (fun Y1 => Y1 = res) (WB T D gr ad) (fun q => N0 ≤ q)) [.ref (ad 10 0 0), .int a1, .int a2, .int a3].toArray s 0 0 (fun q => N0 ≤ q)) Y 0 [(0, .ref (ad 10 0 0)), (1, .int a1), (2, .int a2), (3, .int a3)] [] := by
  unfold X12_doIt at h
  refine fw_iload_n C dX12_doIt_0 rfl 1 rfl ?_
  by_cases c1 : a1 = 0
  · have h := ite_t c1 h
    refine fw_tableIn C dX12_doIt_1 (by rw [c1]; decide) (by rw [c1]; decide) (off := 43) (by rw [c1]; rfl) (tgt := 44) rfl ?_
    refine fw_aload_n C dX12_doIt_44 rfl 0 rfl ?_
    refine fw_iload_n C dX12_doIt_45 rfl 2 rfl ?_
    obtain ⟨r2, Y4, q3, h⟩ := bd2_some h
    refine fw_callVi C (ci := 10) (Cn := RX12) (Tc := TX12) (N := 19) (As := [.int a2]) (c_X12_passMinutes (gac (hG _ (List.mem_of_getElem? (i := 0) rfl)) ga0) q3) (cwV 1 (cx_ts C) gX12_doIt_X12_passMinutes rfl rfl rfl (by decide +kernel) ⟨Nat.le_of_ble_eq_true rfl, Nat.le_of_ble_eq_true rfl⟩) rfl (hG _ (List.mem_of_getElem? (i := 0) rfl)) (of10_0 _) (ce10 T ad _ _) rfl (st := []) rfl (Nat.le_of_ble_eq_true rfl) ⟨Nat.le_refl 0, Nat.le_refl 0⟩ dX12_doIt_46 ?_
    intro r_ Y_ e_
    obtain ⟨rfl, rfl⟩ := Prod.mk.inj e_
    refine fw_pop C dX12_doIt_49 rfl ?_
    refine fw_goto C dX12_doIt_50 (tgt := 126) rfl ?_
    exact fw_vret C hrt Y4 (Option.some.inj h) (fun t ht => ht) dX12_doIt_126
  · have h := ite_f c1 h
    by_cases c5 : a1 = 1
    · have h := ite_t c5 h
      refine fw_tableIn C dX12_doIt_1 (by rw [c5]; decide) (by rw [c5]; decide) (off := 52) (by rw [c5]; rfl) (tgt := 53) rfl ?_
      refine fw_aload_n C dX12_doIt_53 rfl 0 rfl ?_
      refine fw_get C (ci := 10) (Cn := RX12) (Tc := TX12) (N := 19) (j := 0) ly_X12_doIt_12 rfl (hG _ (List.mem_of_getElem? (i := 0) rfl)) (of10_0 _) (ce10 T ad _ _) (by decide) (cx_ts C _ fl_X12_doIt_13) (fun _ h => h) (v := .ref (ad 10 0 1)) rfl dX12_doIt_54 ?_
      refine fw_iconst C dX12_doIt_57 (v := 5) rfl ?_
      refine fw_dup2 C dX12_doIt_58 rfl rfl ?_
      obtain ⟨b6, h⟩ := gd_some h
      refine fw_iald2 C (hG _ (List.mem_of_getElem? (i := 0) rfl)) (of10_1 _) (ca10_1 T ad _ _) b6 (Nat.le_of_ble_eq_true rfl) dX12_doIt_59 ?_
      refine fw_iload_n C dX12_doIt_60 rfl 2 rfl ?_
      refine fw_iadd C dX12_doIt_61 ?_
      obtain ⟨Y7, e8, h⟩ := lt_some h
      refine fw_iast2 C (hG _ (List.mem_of_getElem? (i := 0) rfl)) (of10_1 _) (ca10_1 T ad _) b6 (Nat.le_of_ble_eq_true rfl) dX12_doIt_62 ?_
      refine fw_mem e8 ?_
      refine fw_goto C dX12_doIt_63 (tgt := 126) rfl ?_
      exact fw_vret C hrt Y7 (Option.some.inj h) (fun t ht => ht) dX12_doIt_126
    · have h := ite_f c5 h
      by_cases c9 : a1 = 2
      · have h := ite_t c9 h
        refine fw_tableIn C dX12_doIt_1 (by rw [c9]; decide) (by rw [c9]; decide) (off := 65) (by rw [c9]; rfl) (tgt := 66) rfl ?_
        refine fw_aload_n C dX12_doIt_66 rfl 0 rfl ?_
        refine fw_get C (ci := 10) (Cn := RX12) (Tc := TX12) (N := 19) (j := 0) ly_X12_doIt_12 rfl (hG _ (List.mem_of_getElem? (i := 0) rfl)) (of10_0 _) (ce10 T ad _ _) (by decide) (cx_ts C _ fl_X12_doIt_13) (fun _ h => h) (v := .ref (ad 10 0 1)) rfl dX12_doIt_67 ?_
        refine fw_iconst C dX12_doIt_70 (v := 5) rfl ?_
        refine fw_dup2 C dX12_doIt_71 rfl rfl ?_
        obtain ⟨b10, h⟩ := gd_some h
        refine fw_iald2 C (hG _ (List.mem_of_getElem? (i := 0) rfl)) (of10_1 _) (ca10_1 T ad _ _) b10 (Nat.le_of_ble_eq_true rfl) dX12_doIt_72 ?_
        refine fw_iload_n C dX12_doIt_73 rfl 2 rfl ?_
        refine fw_isub C dX12_doIt_74 ?_
        obtain ⟨Y11, e12, h⟩ := lt_some h
        refine fw_iast2 C (hG _ (List.mem_of_getElem? (i := 0) rfl)) (of10_1 _) (ca10_1 T ad _) b10 (Nat.le_of_ble_eq_true rfl) dX12_doIt_75 ?_
        refine fw_mem e12 ?_
        refine fw_goto C dX12_doIt_76 (tgt := 126) rfl ?_
        exact fw_vret C hrt Y11 (Option.some.inj h) (fun t ht => ht) dX12_doIt_126
      · have h := ite_f c9 h
        by_cases c13 : a1 = 3
        · have h := ite_t c13 h
          refine fw_tableIn C dX12_doIt_1 (by rw [c13]; decide) (by rw [c13]; decide) (off := 78) (by rw [c13]; rfl) (tgt := 79) rfl ?_
          refine fw_aload_n C dX12_doIt_79 rfl 0 rfl ?_
          refine fw_iload_n C dX12_doIt_80 rfl 2 rfl ?_
          obtain ⟨r14, Y16, q15, h⟩ := bd2_some h
          refine fw_callVi C (ci := 10) (Cn := RX12) (Tc := TX12) (N := 19) (As := [.int a2]) (c_X12_stopIt (gac (hG _ (List.mem_of_getElem? (i := 0) rfl)) ga0) q15) (cwV 1 (cx_ts C) gX12_doIt_X12_stopIt rfl rfl rfl (by decide +kernel) ⟨Nat.le_of_ble_eq_true rfl, Nat.le_of_ble_eq_true rfl⟩) rfl (hG _ (List.mem_of_getElem? (i := 0) rfl)) (of10_0 _) (ce10 T ad _ _) rfl (st := []) rfl (Nat.le_of_ble_eq_true rfl) ⟨Nat.le_refl 0, Nat.le_refl 0⟩ dX12_doIt_81 ?_
          intro r_ Y_ e_
          obtain ⟨rfl, rfl⟩ := Prod.mk.inj e_
          refine fw_pop C dX12_doIt_84 rfl ?_
          refine fw_goto C dX12_doIt_85 (tgt := 126) rfl ?_
          exact fw_vret C hrt Y16 (Option.some.inj h) (fun t ht => ht) dX12_doIt_126
        · have h := ite_f c13 h
          by_cases c17 : a1 = 4
          · have h := ite_t c17 h
            refine fw_tableIn C dX12_doIt_1 (by rw [c17]; decide) (by rw [c17]; decide) (off := 87) (by rw [c17]; rfl) (tgt := 88) rfl ?_
            refine fw_aload_n C dX12_doIt_88 rfl 0 rfl ?_
            refine fw_iload_n C dX12_doIt_89 rfl 2 rfl ?_
            obtain ⟨r18, Y20, q19, h⟩ := bd2_some h
            refine fw_callVi C (ci := 10) (Cn := RX12) (Tc := TX12) (N := 19) (As := [.int a2]) (c_X12_redoIt (gac (hG _ (List.mem_of_getElem? (i := 0) rfl)) ga0) q19) (cwV 1 (cx_ts C) gX12_doIt_X12_redoIt rfl rfl rfl (by decide +kernel) ⟨Nat.le_of_ble_eq_true rfl, Nat.le_of_ble_eq_true rfl⟩) rfl (hG _ (List.mem_of_getElem? (i := 0) rfl)) (of10_0 _) (ce10 T ad _ _) rfl (st := []) rfl (Nat.le_of_ble_eq_true rfl) ⟨Nat.le_refl 0, Nat.le_refl 0⟩ dX12_doIt_90 ?_
            intro r_ Y_ e_
            obtain ⟨rfl, rfl⟩ := Prod.mk.inj e_
            refine fw_pop C dX12_doIt_93 rfl ?_
            refine fw_goto C dX12_doIt_94 (tgt := 126) rfl ?_
            exact fw_vret C hrt Y20 (Option.some.inj h) (fun t ht => ht) dX12_doIt_126
          · have h := ite_f c17 h
            by_cases c21 : a1 = 5
            · have h := ite_t c21 h
              refine fw_tableIn C dX12_doIt_1 (by rw [c21]; decide) (by rw [c21]; decide) (off := 96) (by rw [c21]; rfl) (tgt := 97) rfl ?_
              refine fw_aload_n C dX12_doIt_97 rfl 0 rfl ?_
              refine fw_get C (ci := 10) (Cn := RX12) (Tc := TX12) (N := 19) (j := 0) ly_X12_doIt_12 rfl (hG _ (List.mem_of_getElem? (i := 0) rfl)) (of10_0 _) (ce10 T ad _ _) (by decide) (cx_ts C _ fl_X12_doIt_13) (fun _ h => h) (v := .ref (ad 10 0 1)) rfl dX12_doIt_98 ?_
              refine fw_iconst C dX12_doIt_101 (v := 0) rfl ?_
              refine fw_iload_n C dX12_doIt_102 rfl 2 rfl ?_
              obtain ⟨b22, h⟩ := gd_some h
              obtain ⟨Y23, e24, h⟩ := lt_some h
              refine fw_iast2 C (hG _ (List.mem_of_getElem? (i := 0) rfl)) (of10_1 _) (ca10_1 T ad _) b22 (Nat.le_of_ble_eq_true rfl) dX12_doIt_103 ?_
              refine fw_mem e24 ?_
              refine fw_goto C dX12_doIt_104 (tgt := 126) rfl ?_
              exact fw_vret C hrt Y23 (Option.some.inj h) (fun t ht => ht) dX12_doIt_126
            · have h := ite_f c21 h
              by_cases c25 : a1 = 6
              · have h := ite_t c25 h
                refine fw_tableIn C dX12_doIt_1 (by rw [c25]; decide) (by rw [c25]; decide) (off := 106) (by rw [c25]; rfl) (tgt := 107) rfl ?_
                refine fw_aload_n C dX12_doIt_107 rfl 0 rfl ?_
                refine fw_iload_n C dX12_doIt_108 rfl 2 rfl ?_
                refine fw_bipush C dX12_doIt_109 (v := 7) rfl ?_
                refine fw_iload_n C dX12_doIt_111 rfl 3 rfl ?_
                obtain ⟨Y28, q27, h⟩ := bd1_some h
                refine fw_callVv C (ci := 10) (Cn := RX12) (Tc := TX12) (N := 19) (As := [.int a2, .int 7, .int a3]) (c_X12_set (gac (hG _ (List.mem_of_getElem? (i := 0) rfl)) ga0) q27) (cwV 3 (cx_ts C) gX12_doIt_X12_set rfl rfl rfl (by decide +kernel) ⟨Nat.le_of_ble_eq_true rfl, Nat.le_of_ble_eq_true rfl⟩) rfl (hG _ (List.mem_of_getElem? (i := 0) rfl)) (of10_0 _) (ce10 T ad _ _) rfl (st := []) rfl (Nat.le_of_ble_eq_true rfl) ⟨Nat.le_refl 0, Nat.le_refl 0⟩ dX12_doIt_112 ?_
                rintro _ rfl
                refine fw_goto C dX12_doIt_115 (tgt := 126) rfl ?_
                exact fw_vret C hrt Y28 (Option.some.inj h) (fun t ht => ht) dX12_doIt_126
              · have h := ite_f c25 h
                have c1 : ¬ (a1).toInt = 0 := fun q => c1 (Int32.toInt_inj.mp (by rw [q]; rfl))
                have c5 : ¬ (a1).toInt = 1 := fun q => c5 (Int32.toInt_inj.mp (by rw [q]; rfl))
                have c9 : ¬ (a1).toInt = 2 := fun q => c9 (Int32.toInt_inj.mp (by rw [q]; rfl))
                have c13 : ¬ (a1).toInt = 3 := fun q => c13 (Int32.toInt_inj.mp (by rw [q]; rfl))
                have c17 : ¬ (a1).toInt = 4 := fun q => c17 (Int32.toInt_inj.mp (by rw [q]; rfl))
                have c21 : ¬ (a1).toInt = 5 := fun q => c21 (Int32.toInt_inj.mp (by rw [q]; rfl))
                have c25 : ¬ (a1).toInt = 6 := fun q => c25 (Int32.toInt_inj.mp (by rw [q]; rfl))
                refine fw_tableOut C dX12_doIt_1 (by omega) (tgt := 118) rfl ?_
                refine fw_aload_n C dX12_doIt_118 rfl 0 rfl ?_
                refine fw_get C (ci := 10) (Cn := RX12) (Tc := TX12) (N := 19) (j := 0) ly_X12_doIt_12 rfl (hG _ (List.mem_of_getElem? (i := 0) rfl)) (of10_0 _) (ce10 T ad _ _) (by decide) (cx_ts C _ fl_X12_doIt_13) (fun _ h => h) (v := .ref (ad 10 0 1)) rfl dX12_doIt_119 ?_
                refine fw_bipush C dX12_doIt_122 (v := 6) rfl ?_
                refine fw_iconst C dX12_doIt_124 (v := 1) rfl ?_
                obtain ⟨b29, h⟩ := gd_some h
                obtain ⟨Y30, e31, h⟩ := lt_some h
                refine fw_iast2 C (hG _ (List.mem_of_getElem? (i := 0) rfl)) (of10_1 _) (ca10_1 T ad _) b29 (Nat.le_of_ble_eq_true rfl) dX12_doIt_125 ?_
                refine fw_mem e31 ?_
                exact fw_vret C hrt Y30 (Option.some.inj h) (fun t ht => ht) dX12_doIt_126
end
set_option maxRecDepth 100000 in
set_option maxHeartbeats 4000000 in
theorem c_X12_doIt {l : Launch} {N0 : Nat} {T : Nat → ClassId} {D : va_G} {gr : List (Nat × Nat)} {ad : Nat → Nat → Nat → Nat} {Y : Mem} {a1 : Int32} {a2 : Int32} {a3 : Int32} {res : Mem} (hG : ∀ q ∈ [(10, 0)], q ∈ gr) (h : X12_doIt Y a1 a2 a3 = some res) : CV l yX12_doIt wsX12_doIt (Rm 9) N0 T D gr ad Y [.ref (ad 10 0 0), .int a1, .int a2, .int a3] (fun Y1 => Y1 = res) :=
  fw_body (by decide +kernel) rfl (Nat.le_of_ble_eq_true rfl) (fun p e s m below meth c C hrt => w_X12_doIt C hrt hG  h)
theorem ly_X12_doneShare_12 : ∀ w ∈ u_ws RX12 TX12 19, w ∈ wsX12_doneShare := by decide +kernel
theorem fl_X12_doneShare_1 : Cond.fieldLink RX12 1 "RecipeSchedulerModel" "thrown" "I" ∈ wsX12_doneShare := by decide +kernel
theorem fl_X12_doneShare_13 : Cond.fieldLink RX12 13 "RecipeSchedulerModel" "m" "[I" ∈ wsX12_doneShare := by decide +kernel
noncomputable def X12_doneShare (Y : Mem) : Option (UInt32 × Mem) :=
  lt_ (up Y 10 0 0 9 0) <| fun Y1 => bd1 (X12_withStatus Y1 2) <| fun r3 => gd (inb 13 4202) <| gd (decide (FP.fdiv (FP.i2f r3) (FP.i2f (Y1 10 0 1 (ix 13))) &&& 0x7fffffff ≤ 0x7f800000)) <| some (FP.fdiv (FP.i2f r3) (FP.i2f (Y1 10 0 1 (ix 13))), Y1)
section
variable {p : Program} {l : Launch} {e : Env} {s : State} {m : MethodId} {below : List Frame} {meth : Method} {c : Code} {N0 : Nat} {T : Nat → ClassId} {D : va_G} {gr : List (Nat × Nat)} {ad : Nat → Nat → Nat → Nat}
set_option maxRecDepth 100000 in
set_option maxHeartbeats 4000000 in
theorem w_X12_doneShare {Y : Mem} (C : Cx p s m [.ref (ad 10 0 0)].toArray meth c cX12_doneShare 1 wsX12_doneShare RX12 N0 T D gr ad) (hrt : meth.sig.returnType = (some .float)) (hG : ∀ q ∈ [(10, 0)], q ∈ gr) {res : UInt32 × Mem} (h : X12_doneShare Y = some res) : FW p l e (Rm 2) s m [.ref (ad 10 0 0)].toArray below meth c 1 N0 T D gr ad 0 0 (MQ below (va_Qf (fun r Y1 => (r, Y1) = res) (WB T D gr ad) (fun q => N0 ≤ q)) [.ref (ad 10 0 0)].toArray s 0 0 (fun q => N0 ≤ q)) Y 0 [(0, .ref (ad 10 0 0))] [] := by
  unfold X12_doneShare at h
  refine fw_aload_n C dX12_doneShare_0 rfl 0 rfl ?_
  refine fw_iconst C dX12_doneShare_1 (v := 0) rfl ?_
  obtain ⟨Y1, e2, h⟩ := lt_some h
  refine fw_put C (ci := 10) (Cn := RX12) (Tc := TX12) (N := 19) (j := 9) (ty := .int) (upd (Y 10 0 0) 9 0) ly_X12_doneShare_12 rfl tyX12_ok nmX12 (hG _ (List.mem_of_getElem? (i := 0) rfl)) (of10_0 _) (ce10 T ad _ _) (by decide) (cx_ts C _ fl_X12_doneShare_1) (fun _ h => h) rfl (by decide +kernel) rfl rfl (by decide) (ce10_put9 T ad _ _ _) dX12_doneShare_2 ?_
  refine fw_mem ((up_eq _ _ _ _ _ _).symm.trans e2) ?_
  refine fw_aload_n C dX12_doneShare_5 rfl 0 rfl ?_
  refine fw_iconst C dX12_doneShare_6 (v := 2) rfl ?_
  obtain ⟨r3, q4, h⟩ := bd1_some h
  refine fw_callVi C (ci := 10) (Cn := RX12) (Tc := TX12) (N := 19) (As := [.int 2]) (c_X12_withStatus (gac (hG _ (List.mem_of_getElem? (i := 0) rfl)) ga0) q4) (cwV 1 (cx_ts C) gX12_doneShare_X12_withStatus rfl rfl rfl (by decide +kernel) ⟨Nat.le_of_ble_eq_true rfl, Nat.le_of_ble_eq_true rfl⟩) rfl (hG _ (List.mem_of_getElem? (i := 0) rfl)) (of10_0 _) (ce10 T ad _ _) rfl (st := []) rfl (Nat.le_of_ble_eq_true rfl) ⟨Nat.le_refl 0, Nat.le_refl 0⟩ dX12_doneShare_7 ?_
  rintro _ _ ⟨rfl, rfl⟩
  refine fw_i2f C dX12_doneShare_10 ?_
  refine fw_aload_n C dX12_doneShare_11 rfl 0 rfl ?_
  refine fw_get C (ci := 10) (Cn := RX12) (Tc := TX12) (N := 19) (j := 0) ly_X12_doneShare_12 rfl (hG _ (List.mem_of_getElem? (i := 0) rfl)) (of10_0 _) (ce10 T ad _ _) (by decide) (cx_ts C _ fl_X12_doneShare_13) (fun _ h => h) (v := .ref (ad 10 0 1)) rfl dX12_doneShare_12 ?_
  refine fw_bipush C dX12_doneShare_15 (v := 13) rfl ?_
  obtain ⟨b5, h⟩ := gd_some h
  refine fw_iald2 C (hG _ (List.mem_of_getElem? (i := 0) rfl)) (of10_1 _) (ca10_1 T ad _ _) b5 (Nat.le_of_ble_eq_true rfl) dX12_doneShare_17 ?_
  refine fw_i2f C dX12_doneShare_18 ?_
  obtain ⟨b6, h⟩ := gd_some h
  refine fw_fdiv C (of_decide_eq_true b6) dX12_doneShare_19 ?_
  exact fw_fret C hrt Y1 (Option.some.inj h) (fun t ht => ht) dX12_doneShare_20
end
set_option maxRecDepth 100000 in
set_option maxHeartbeats 4000000 in
theorem c_X12_doneShare {l : Launch} {N0 : Nat} {T : Nat → ClassId} {D : va_G} {gr : List (Nat × Nat)} {ad : Nat → Nat → Nat → Nat} {Y : Mem} {res : UInt32 × Mem} (hG : ∀ q ∈ [(10, 0)], q ∈ gr) (h : X12_doneShare Y = some res) : CF l yX12_doneShare wsX12_doneShare (Rm 2) N0 T D gr ad Y [.ref (ad 10 0 0)] (fun r Y1 => (r, Y1) = res) :=
  fw_body (by decide +kernel) rfl (Nat.le_of_ble_eq_true rfl) (fun p e s m below meth c C hrt => w_X12_doneShare C hrt hG  h)
noncomputable def X12_duration (Y : Mem) (a1 : Int32) : Option (Int32 × Mem) :=
  bd2 (X12_field Y a1 7) <| fun r1 Y3 => some (r1, Y3)
section
variable {p : Program} {l : Launch} {e : Env} {s : State} {m : MethodId} {below : List Frame} {meth : Method} {c : Code} {N0 : Nat} {T : Nat → ClassId} {D : va_G} {gr : List (Nat × Nat)} {ad : Nat → Nat → Nat → Nat}
set_option maxRecDepth 100000 in
set_option maxHeartbeats 4000000 in
theorem w_X12_duration {Y : Mem} {a1 : Int32} (C : Cx p s m [.ref (ad 10 0 0), .int a1].toArray meth c cX12_duration 2 wsX12_duration RX12 N0 T D gr ad) (hrt : meth.sig.returnType = (some .int)) (hG : ∀ q ∈ [(10, 0)], q ∈ gr) {res : Int32 × Mem} (h : X12_duration Y a1 = some res) : FW p l e (Rm 3) s m [.ref (ad 10 0 0), .int a1].toArray below meth c 2 N0 T D gr ad 0 0 (MQ below (va_Qi (fun r Y1 => (r, Y1) = res) (WB T D gr ad) (fun q => N0 ≤ q)) [.ref (ad 10 0 0), .int a1].toArray s 0 0 (fun q => N0 ≤ q)) Y 0 [(0, .ref (ad 10 0 0)), (1, .int a1)] [] := by
  unfold X12_duration at h
  refine fw_aload_n C dX12_duration_0 rfl 0 rfl ?_
  refine fw_iload_n C dX12_duration_1 rfl 1 rfl ?_
  refine fw_bipush C dX12_duration_2 (v := 7) rfl ?_
  obtain ⟨r1, Y3, q2, h⟩ := bd2_some h
  refine fw_callVi C (ci := 10) (Cn := RX12) (Tc := TX12) (N := 19) (As := [.int a1, .int 7]) (c_X12_field (gac (hG _ (List.mem_of_getElem? (i := 0) rfl)) ga0) q2) (cwV 2 (cx_ts C) gX12_duration_X12_field rfl rfl rfl (by decide +kernel) ⟨Nat.le_of_ble_eq_true rfl, Nat.le_of_ble_eq_true rfl⟩) rfl (hG _ (List.mem_of_getElem? (i := 0) rfl)) (of10_0 _) (ce10 T ad _ _) rfl (st := []) rfl (Nat.le_of_ble_eq_true rfl) ⟨Nat.le_refl 0, Nat.le_refl 0⟩ dX12_duration_4 ?_
  intro r_ Y_ e_
  obtain ⟨rfl, rfl⟩ := Prod.mk.inj e_
  exact fw_iret C hrt Y3 (Option.some.inj h) (fun t ht => ht) dX12_duration_7
end
set_option maxRecDepth 100000 in
set_option maxHeartbeats 4000000 in
theorem c_X12_duration {l : Launch} {N0 : Nat} {T : Nat → ClassId} {D : va_G} {gr : List (Nat × Nat)} {ad : Nat → Nat → Nat → Nat} {Y : Mem} {a1 : Int32} {res : Int32 × Mem} (hG : ∀ q ∈ [(10, 0)], q ∈ gr) (h : X12_duration Y a1 = some res) : CI l yX12_duration wsX12_duration (Rm 3) N0 T D gr ad Y [.ref (ad 10 0 0), .int a1] (fun r Y1 => (r, Y1) = res) :=
  fw_body (by decide +kernel) rfl (Nat.le_of_ble_eq_true rfl) (fun p e s m below meth c C hrt => w_X12_duration C hrt hG  h)
theorem ly_X12_errorCode_12 : ∀ w ∈ u_ws RX12 TX12 19, w ∈ wsX12_errorCode := by decide +kernel
theorem fl_X12_errorCode_1 : Cond.fieldLink RX12 1 "RecipeSchedulerModel" "thrown" "I" ∈ wsX12_errorCode := by decide +kernel
theorem fl_X12_errorCode_30 : Cond.fieldLink RX12 30 "RecipeSchedulerModel" "errorCode" "I" ∈ wsX12_errorCode := by decide +kernel
noncomputable def X12_errorCode (Y : Mem) : Option (Int32 × Mem) :=
  lt_ (up Y 10 0 0 9 0) <| fun Y1 => some (Y1 10 0 0 5, Y1)
section
variable {p : Program} {l : Launch} {e : Env} {s : State} {m : MethodId} {below : List Frame} {meth : Method} {c : Code} {N0 : Nat} {T : Nat → ClassId} {D : va_G} {gr : List (Nat × Nat)} {ad : Nat → Nat → Nat → Nat}
set_option maxRecDepth 100000 in
set_option maxHeartbeats 4000000 in
theorem w_X12_errorCode {Y : Mem} (C : Cx p s m [.ref (ad 10 0 0)].toArray meth c cX12_errorCode 1 wsX12_errorCode RX12 N0 T D gr ad) (hrt : meth.sig.returnType = (some .int)) (hG : ∀ q ∈ [(10, 0)], q ∈ gr) {res : Int32 × Mem} (h : X12_errorCode Y = some res) : FW p l e (Rm 0) s m [.ref (ad 10 0 0)].toArray below meth c 1 N0 T D gr ad 0 0 (MQ below (va_Qi (fun r Y1 => (r, Y1) = res) (WB T D gr ad) (fun q => N0 ≤ q)) [.ref (ad 10 0 0)].toArray s 0 0 (fun q => N0 ≤ q)) Y 0 [(0, .ref (ad 10 0 0))] [] := by
  unfold X12_errorCode at h
  refine fw_aload_n C dX12_errorCode_0 rfl 0 rfl ?_
  refine fw_iconst C dX12_errorCode_1 (v := 0) rfl ?_
  obtain ⟨Y1, e2, h⟩ := lt_some h
  refine fw_put C (ci := 10) (Cn := RX12) (Tc := TX12) (N := 19) (j := 9) (ty := .int) (upd (Y 10 0 0) 9 0) ly_X12_errorCode_12 rfl tyX12_ok nmX12 (hG _ (List.mem_of_getElem? (i := 0) rfl)) (of10_0 _) (ce10 T ad _ _) (by decide) (cx_ts C _ fl_X12_errorCode_1) (fun _ h => h) rfl (by decide +kernel) rfl rfl (by decide) (ce10_put9 T ad _ _ _) dX12_errorCode_2 ?_
  refine fw_mem ((up_eq _ _ _ _ _ _).symm.trans e2) ?_
  refine fw_aload_n C dX12_errorCode_5 rfl 0 rfl ?_
  refine fw_get C (ci := 10) (Cn := RX12) (Tc := TX12) (N := 19) (j := 5) ly_X12_errorCode_12 rfl (hG _ (List.mem_of_getElem? (i := 0) rfl)) (of10_0 _) (ce10 T ad _ _) (by decide) (cx_ts C _ fl_X12_errorCode_30) (fun _ h => h) (v := .int (Y1 10 0 0 5)) rfl dX12_errorCode_6 ?_
  exact fw_iret C hrt Y1 (Option.some.inj h) (fun t ht => ht) dX12_errorCode_9
end
set_option maxRecDepth 100000 in
set_option maxHeartbeats 4000000 in
theorem c_X12_errorCode {l : Launch} {N0 : Nat} {T : Nat → ClassId} {D : va_G} {gr : List (Nat × Nat)} {ad : Nat → Nat → Nat → Nat} {Y : Mem} {res : Int32 × Mem} (hG : ∀ q ∈ [(10, 0)], q ∈ gr) (h : X12_errorCode Y = some res) : CI l yX12_errorCode wsX12_errorCode (Rm 0) N0 T D gr ad Y [.ref (ad 10 0 0)] (fun r Y1 => (r, Y1) = res) :=
  fw_body (by decide +kernel) rfl (Nat.le_of_ble_eq_true rfl) (fun p e s m below meth c C hrt => w_X12_errorCode C hrt hG  h)
theorem ly_X12_errorPosition_12 : ∀ w ∈ u_ws RX12 TX12 19, w ∈ wsX12_errorPosition := by decide +kernel
theorem fl_X12_errorPosition_1 : Cond.fieldLink RX12 1 "RecipeSchedulerModel" "thrown" "I" ∈ wsX12_errorPosition := by decide +kernel
theorem fl_X12_errorPosition_33 : Cond.fieldLink RX12 33 "RecipeSchedulerModel" "errorPosition" "I" ∈ wsX12_errorPosition := by decide +kernel
noncomputable def X12_errorPosition (Y : Mem) : Option (Int32 × Mem) :=
  lt_ (up Y 10 0 0 9 0) <| fun Y1 => some (Y1 10 0 0 6, Y1)
section
variable {p : Program} {l : Launch} {e : Env} {s : State} {m : MethodId} {below : List Frame} {meth : Method} {c : Code} {N0 : Nat} {T : Nat → ClassId} {D : va_G} {gr : List (Nat × Nat)} {ad : Nat → Nat → Nat → Nat}
set_option maxRecDepth 100000 in
set_option maxHeartbeats 4000000 in
theorem w_X12_errorPosition {Y : Mem} (C : Cx p s m [.ref (ad 10 0 0)].toArray meth c cX12_errorPosition 1 wsX12_errorPosition RX12 N0 T D gr ad) (hrt : meth.sig.returnType = (some .int)) (hG : ∀ q ∈ [(10, 0)], q ∈ gr) {res : Int32 × Mem} (h : X12_errorPosition Y = some res) : FW p l e (Rm 0) s m [.ref (ad 10 0 0)].toArray below meth c 1 N0 T D gr ad 0 0 (MQ below (va_Qi (fun r Y1 => (r, Y1) = res) (WB T D gr ad) (fun q => N0 ≤ q)) [.ref (ad 10 0 0)].toArray s 0 0 (fun q => N0 ≤ q)) Y 0 [(0, .ref (ad 10 0 0))] [] := by
  unfold X12_errorPosition at h
  refine fw_aload_n C dX12_errorPosition_0 rfl 0 rfl ?_
  refine fw_iconst C dX12_errorPosition_1 (v := 0) rfl ?_
  obtain ⟨Y1, e2, h⟩ := lt_some h
  refine fw_put C (ci := 10) (Cn := RX12) (Tc := TX12) (N := 19) (j := 9) (ty := .int) (upd (Y 10 0 0) 9 0) ly_X12_errorPosition_12 rfl tyX12_ok nmX12 (hG _ (List.mem_of_getElem? (i := 0) rfl)) (of10_0 _) (ce10 T ad _ _) (by decide) (cx_ts C _ fl_X12_errorPosition_1) (fun _ h => h) rfl (by decide +kernel) rfl rfl (by decide) (ce10_put9 T ad _ _ _) dX12_errorPosition_2 ?_
  refine fw_mem ((up_eq _ _ _ _ _ _).symm.trans e2) ?_
  refine fw_aload_n C dX12_errorPosition_5 rfl 0 rfl ?_
  refine fw_get C (ci := 10) (Cn := RX12) (Tc := TX12) (N := 19) (j := 6) ly_X12_errorPosition_12 rfl (hG _ (List.mem_of_getElem? (i := 0) rfl)) (of10_0 _) (ce10 T ad _ _) (by decide) (cx_ts C _ fl_X12_errorPosition_33) (fun _ h => h) (v := .int (Y1 10 0 0 6)) rfl dX12_errorPosition_6 ?_
  exact fw_iret C hrt Y1 (Option.some.inj h) (fun t ht => ht) dX12_errorPosition_9
end
set_option maxRecDepth 100000 in
set_option maxHeartbeats 4000000 in
theorem c_X12_errorPosition {l : Launch} {N0 : Nat} {T : Nat → ClassId} {D : va_G} {gr : List (Nat × Nat)} {ad : Nat → Nat → Nat → Nat} {Y : Mem} {res : Int32 × Mem} (hG : ∀ q ∈ [(10, 0)], q ∈ gr) (h : X12_errorPosition Y = some res) : CI l yX12_errorPosition wsX12_errorPosition (Rm 0) N0 T D gr ad Y [.ref (ad 10 0 0)] (fun r Y1 => (r, Y1) = res) :=
  fw_body (by decide +kernel) rfl (Nat.le_of_ble_eq_true rfl) (fun p e s m below meth c C hrt => w_X12_errorPosition C hrt hG  h)
theorem ly_X12_finishWith_12 : ∀ w ∈ u_ws RX12 TX12 19, w ∈ wsX12_finishWith := by decide +kernel
theorem fl_X12_finishWith_13 : Cond.fieldLink RX12 13 "RecipeSchedulerModel" "m" "[I" ∈ wsX12_finishWith := by decide +kernel
noncomputable def X12_finishWith (Y : Mem) (a1 : Int32) : Option (Int32 × Mem) :=
  bd1 (X12_copyBlock Y 0 9) <| fun Y3 => gd (inb 0 4202) <| lt_ (up Y3 10 0 1 (ix 0) a1) <| fun Y5 => bd2 (X12_simulate Y5) <| fun r7 Y9 => bd1 (X12_copyBlock Y9 9 0) <| fun Y12 => some (r7, Y12)
section
variable {p : Program} {l : Launch} {e : Env} {s : State} {m : MethodId} {below : List Frame} {meth : Method} {c : Code} {N0 : Nat} {T : Nat → ClassId} {D : va_G} {gr : List (Nat × Nat)} {ad : Nat → Nat → Nat → Nat}
set_option maxRecDepth 100000 in
set_option maxHeartbeats 4000000 in
theorem w_X12_finishWith {Y : Mem} {a1 : Int32} (C : Cx p s m [.ref (ad 10 0 0), .int a1].toArray meth c cX12_finishWith 3 wsX12_finishWith RX12 N0 T D gr ad) (hrt : meth.sig.returnType = (some .int)) (hG : ∀ q ∈ [(10, 0)], q ∈ gr) {res : Int32 × Mem} (h : X12_finishWith Y a1 = some res) : FW p l e (Rm 9) s m [.ref (ad 10 0 0), .int a1].toArray below meth c 3 N0 T D gr ad 0 0 (MQ below (va_Qi (fun r Y1 => (r, Y1) = res) (WB T D gr ad) (fun q => N0 ≤ q)) [.ref (ad 10 0 0), .int a1].toArray s 0 0 (fun q => N0 ≤ q)) Y 0 [(0, .ref (ad 10 0 0)), (1, .int a1)] [] := by
  unfold X12_finishWith at h
  refine fw_aload_n C dX12_finishWith_0 rfl 0 rfl ?_
  refine fw_iconst C dX12_finishWith_1 (v := 0) rfl ?_
  refine fw_bipush C dX12_finishWith_2 (v := 9) rfl ?_
  obtain ⟨Y3, q2, h⟩ := bd1_some h
  refine fw_callVv C (ci := 10) (Cn := RX12) (Tc := TX12) (N := 19) (As := [.int 0, .int 9]) (c_X12_copyBlock (gac (hG _ (List.mem_of_getElem? (i := 0) rfl)) ga0) q2) (cwV 2 (cx_ts C) gX12_finishWith_X12_copyBlock rfl rfl rfl (by decide +kernel) ⟨Nat.le_of_ble_eq_true rfl, Nat.le_of_ble_eq_true rfl⟩) rfl (hG _ (List.mem_of_getElem? (i := 0) rfl)) (of10_0 _) (ce10 T ad _ _) rfl (st := []) rfl (Nat.le_of_ble_eq_true rfl) ⟨Nat.le_refl 0, Nat.le_refl 0⟩ dX12_finishWith_4 ?_
  rintro _ rfl
  refine fw_aload_n C dX12_finishWith_7 rfl 0 rfl ?_
  refine fw_get C (ci := 10) (Cn := RX12) (Tc := TX12) (N := 19) (j := 0) ly_X12_finishWith_12 rfl (hG _ (List.mem_of_getElem? (i := 0) rfl)) (of10_0 _) (ce10 T ad _ _) (by decide) (cx_ts C _ fl_X12_finishWith_13) (fun _ h => h) (v := .ref (ad 10 0 1)) rfl dX12_finishWith_8 ?_
  refine fw_iconst C dX12_finishWith_11 (v := 0) rfl ?_
  refine fw_iload_n C dX12_finishWith_12 rfl 1 rfl ?_
  obtain ⟨b4, h⟩ := gd_some h
  obtain ⟨Y5, e6, h⟩ := lt_some h
  refine fw_iast2 C (hG _ (List.mem_of_getElem? (i := 0) rfl)) (of10_1 _) (ca10_1 T ad _) b4 (Nat.le_of_ble_eq_true rfl) dX12_finishWith_13 ?_
  refine fw_mem e6 ?_
  refine fw_aload_n C dX12_finishWith_14 rfl 0 rfl ?_
  obtain ⟨r7, Y9, q8, h⟩ := bd2_some h
  refine fw_callVi C (ci := 10) (Cn := RX12) (Tc := TX12) (N := 19) (As := []) (c_X12_simulate (gac (hG _ (List.mem_of_getElem? (i := 0) rfl)) ga0) q8) (cwV 0 (cx_ts C) gX12_finishWith_X12_simulate rfl rfl rfl (by decide +kernel) ⟨Nat.le_of_ble_eq_true rfl, Nat.le_of_ble_eq_true rfl⟩) rfl (hG _ (List.mem_of_getElem? (i := 0) rfl)) (of10_0 _) (ce10 T ad _ _) rfl (st := []) rfl (Nat.le_of_ble_eq_true rfl) ⟨Nat.le_refl 0, Nat.le_refl 0⟩ dX12_finishWith_15 ?_
  intro r_ Y_ e_
  obtain ⟨rfl, rfl⟩ := Prod.mk.inj e_
  refine fw_istore_n C dX12_finishWith_18 rfl (by decide) (L' := [(2, .int r7), (0, .ref (ad 10 0 0)), (1, .int a1)]) rfl ?_
  refine fw_aload_n C dX12_finishWith_19 rfl 1 rfl ?_
  refine fw_bipush C dX12_finishWith_20 (v := 9) rfl ?_
  refine fw_iconst C dX12_finishWith_22 (v := 0) rfl ?_
  obtain ⟨Y12, q11, h⟩ := bd1_some h
  refine fw_callVv C (ci := 10) (Cn := RX12) (Tc := TX12) (N := 19) (As := [.int 9, .int 0]) (c_X12_copyBlock (gac (hG _ (List.mem_of_getElem? (i := 0) rfl)) ga0) q11) (cwV 2 (cx_ts C) gX12_finishWith_X12_copyBlock rfl rfl rfl (by decide +kernel) ⟨Nat.le_of_ble_eq_true rfl, Nat.le_of_ble_eq_true rfl⟩) rfl (hG _ (List.mem_of_getElem? (i := 0) rfl)) (of10_0 _) (ce10 T ad _ _) rfl (st := []) rfl (Nat.le_of_ble_eq_true rfl) ⟨Nat.le_refl 0, Nat.le_refl 0⟩ dX12_finishWith_23 ?_
  rintro _ rfl
  refine fw_iload_n C dX12_finishWith_26 rfl 0 rfl ?_
  exact fw_iret C hrt Y12 (Option.some.inj h) (fun t ht => ht) dX12_finishWith_27
end
set_option maxRecDepth 100000 in
set_option maxHeartbeats 4000000 in
theorem c_X12_finishWith {l : Launch} {N0 : Nat} {T : Nat → ClassId} {D : va_G} {gr : List (Nat × Nat)} {ad : Nat → Nat → Nat → Nat} {Y : Mem} {a1 : Int32} {res : Int32 × Mem} (hG : ∀ q ∈ [(10, 0)], q ∈ gr) (h : X12_finishWith Y a1 = some res) : CI l yX12_finishWith wsX12_finishWith (Rm 9) N0 T D gr ad Y [.ref (ad 10 0 0), .int a1] (fun r Y1 => (r, Y1) = res) :=
  fw_body (by decide +kernel) rfl (Nat.le_of_ble_eq_true rfl) (fun p e s m below meth c C hrt => w_X12_finishWith C hrt hG  h)
theorem ly_X12_fewestCooks_12 : ∀ w ∈ u_ws RX12 TX12 19, w ∈ wsX12_fewestCooks := by decide +kernel
theorem fl_X12_fewestCooks_1 : Cond.fieldLink RX12 1 "RecipeSchedulerModel" "thrown" "I" ∈ wsX12_fewestCooks := by decide +kernel
noncomputable def X12_fewestCooks_b13  : Nat → Mem → Int32 → Int32 → Option (Int32 × Mem)
  | 0, _, _, _ => none
  | n+1, Y, l2, l1 =>
  bd2 (X12_finishWith Y l2) <| fun r6 Y8 => if r6 = l1 then (some (l2, Y8)) else (X12_fewestCooks_b13 n Y8 (l2 + 1) l1)
noncomputable def X12_fewestCooks (Y : Mem) : Option (Int32 × Mem) :=
  lt_ (up Y 10 0 0 9 0) <| fun Y1 => bd2 (X12_finishWith Y1 4) <| fun r3 Y5 => X12_fewestCooks_b13 FU Y5 1 r3
section
variable {p : Program} {l : Launch} {e : Env} {s : State} {m : MethodId} {below : List Frame} {meth : Method} {c : Code} {N0 : Nat} {T : Nat → ClassId} {D : va_G} {gr : List (Nat × Nat)} {ad : Nat → Nat → Nat → Nat}
set_option maxRecDepth 100000 in
set_option maxHeartbeats 4000000 in
theorem w_X12_fewestCooks_b13  (C : Cx p s m [.ref (ad 10 0 0)].toArray meth c cX12_fewestCooks 3 wsX12_fewestCooks RX12 N0 T D gr ad) (hrt : meth.sig.returnType = (some .int)) (hG : ∀ q ∈ [(10, 0)], q ∈ gr) {res : Int32 × Mem} : ∀ (n : Nat) (Y : Mem) (l2 : Int32) (l1 : Int32), X12_fewestCooks_b13   n Y l2 l1 = some res → FW p l e (Rm 10) s m [.ref (ad 10 0 0)].toArray below meth c 3 N0 T D gr ad 0 0 (MQ below (va_Qi (fun r Y1 => (r, Y1) = res) (WB T D gr ad) (fun q => N0 ≤ q)) [.ref (ad 10 0 0)].toArray s 0 0 (fun q => N0 ≤ q)) Y 13 [(2, .int l2), (1, .int l1), (0, .ref (ad 10 0 0))] [] := by
  intro n
  induction n with
  | zero =>
    intro Y l2 l1 h
    unfold X12_fewestCooks_b13 at h
    cases h
  | succ n ih =>
    intro Y l2 l1 h
    unfold X12_fewestCooks_b13 at h
    refine fw_aload_n C dX12_fewestCooks_13 rfl 2 rfl ?_
    refine fw_iload_n C dX12_fewestCooks_14 rfl 0 rfl ?_
    obtain ⟨r6, Y8, q7, h⟩ := bd2_some h
    refine fw_callVi C (ci := 10) (Cn := RX12) (Tc := TX12) (N := 19) (As := [.int l2]) (c_X12_finishWith (gac (hG _ (List.mem_of_getElem? (i := 0) rfl)) ga0) q7) (cwV 1 (cx_ts C) gX12_fewestCooks_X12_finishWith rfl rfl rfl (by decide +kernel) ⟨Nat.le_of_ble_eq_true rfl, Nat.le_of_ble_eq_true rfl⟩) rfl (hG _ (List.mem_of_getElem? (i := 0) rfl)) (of10_0 _) (ce10 T ad _ _) rfl (st := []) rfl (Nat.le_of_ble_eq_true rfl) ⟨Nat.le_refl 0, Nat.le_refl 0⟩ dX12_fewestCooks_15 ?_
    intro r_ Y_ e_
    obtain ⟨rfl, rfl⟩ := Prod.mk.inj e_
    refine fw_iload_n C dX12_fewestCooks_18 rfl 1 rfl ?_
    refine fw_icmp_eq C dX12_fewestCooks_19 (tgt := 28) rfl (fun c9 => ?_) (fun c9 => ?_)
    · have h := ite_t c9 h
      refine fw_iload_n C dX12_fewestCooks_28 rfl 0 rfl ?_
      exact fw_iret C hrt Y8 (Option.some.inj h) (fun t ht => ht) dX12_fewestCooks_29
    · have h := ite_f c9 h
      refine fw_iinc C dX12_fewestCooks_22 (kk := 0) (v := l2 + 1) rfl rfl (by decide) (L' := [(2, .int (l2 + 1)), (1, .int l1), (0, .ref (ad 10 0 0))]) rfl ?_
      refine fw_goto C dX12_fewestCooks_25 (tgt := 13) rfl ?_
      exact ih _ _ _ h
set_option maxRecDepth 100000 in
set_option maxHeartbeats 4000000 in
theorem w_X12_fewestCooks {Y : Mem} (C : Cx p s m [.ref (ad 10 0 0)].toArray meth c cX12_fewestCooks 3 wsX12_fewestCooks RX12 N0 T D gr ad) (hrt : meth.sig.returnType = (some .int)) (hG : ∀ q ∈ [(10, 0)], q ∈ gr) {res : Int32 × Mem} (h : X12_fewestCooks Y = some res) : FW p l e (Rm 10) s m [.ref (ad 10 0 0)].toArray below meth c 3 N0 T D gr ad 0 0 (MQ below (va_Qi (fun r Y1 => (r, Y1) = res) (WB T D gr ad) (fun q => N0 ≤ q)) [.ref (ad 10 0 0)].toArray s 0 0 (fun q => N0 ≤ q)) Y 0 [(0, .ref (ad 10 0 0))] [] := by
  unfold X12_fewestCooks at h
  refine fw_aload_n C dX12_fewestCooks_0 rfl 0 rfl ?_
  refine fw_iconst C dX12_fewestCooks_1 (v := 0) rfl ?_
  obtain ⟨Y1, e2, h⟩ := lt_some h
  refine fw_put C (ci := 10) (Cn := RX12) (Tc := TX12) (N := 19) (j := 9) (ty := .int) (upd (Y 10 0 0) 9 0) ly_X12_fewestCooks_12 rfl tyX12_ok nmX12 (hG _ (List.mem_of_getElem? (i := 0) rfl)) (of10_0 _) (ce10 T ad _ _) (by decide) (cx_ts C _ fl_X12_fewestCooks_1) (fun _ h => h) rfl (by decide +kernel) rfl rfl (by decide) (ce10_put9 T ad _ _ _) dX12_fewestCooks_2 ?_
  refine fw_mem ((up_eq _ _ _ _ _ _).symm.trans e2) ?_
  refine fw_aload_n C dX12_fewestCooks_5 rfl 0 rfl ?_
  refine fw_iconst C dX12_fewestCooks_6 (v := 4) rfl ?_
  obtain ⟨r3, Y5, q4, h⟩ := bd2_some h
  refine fw_callVi C (ci := 10) (Cn := RX12) (Tc := TX12) (N := 19) (As := [.int 4]) (c_X12_finishWith (gac (hG _ (List.mem_of_getElem? (i := 0) rfl)) ga0) q4) (cwV 1 (cx_ts C) gX12_fewestCooks_X12_finishWith rfl rfl rfl (by decide +kernel) ⟨Nat.le_of_ble_eq_true rfl, Nat.le_of_ble_eq_true rfl⟩) rfl (hG _ (List.mem_of_getElem? (i := 0) rfl)) (of10_0 _) (ce10 T ad _ _) rfl (st := []) rfl (Nat.le_of_ble_eq_true rfl) ⟨Nat.le_refl 0, Nat.le_refl 0⟩ dX12_fewestCooks_7 ?_
  intro r_ Y_ e_
  obtain ⟨rfl, rfl⟩ := Prod.mk.inj e_
  refine fw_istore_n C dX12_fewestCooks_10 rfl (by decide) (L' := [(1, .int r3), (0, .ref (ad 10 0 0))]) rfl ?_
  refine fw_iconst C dX12_fewestCooks_11 (v := 1) rfl ?_
  refine fw_istore_n C dX12_fewestCooks_12 rfl (by decide) (L' := [(2, .int 1), (1, .int r3), (0, .ref (ad 10 0 0))]) rfl ?_
  exact w_X12_fewestCooks_b13 C hrt hG   _ _ _ _ h
end
set_option maxRecDepth 100000 in
set_option maxHeartbeats 4000000 in
theorem c_X12_fewestCooks {l : Launch} {N0 : Nat} {T : Nat → ClassId} {D : va_G} {gr : List (Nat × Nat)} {ad : Nat → Nat → Nat → Nat} {Y : Mem} {res : Int32 × Mem} (hG : ∀ q ∈ [(10, 0)], q ∈ gr) (h : X12_fewestCooks Y = some res) : CI l yX12_fewestCooks wsX12_fewestCooks (Rm 10) N0 T D gr ad Y [.ref (ad 10 0 0)] (fun r Y1 => (r, Y1) = res) :=
  fw_body (by decide +kernel) rfl (Nat.le_of_ble_eq_true rfl) (fun p e s m below meth c C hrt => w_X12_fewestCooks C hrt hG  h)
theorem ly_X12_isNamed_12 : ∀ w ∈ u_ws RX12 TX12 19, w ∈ wsX12_isNamed := by decide +kernel
theorem fl_X12_isNamed_13 : Cond.fieldLink RX12 13 "RecipeSchedulerModel" "m" "[I" ∈ wsX12_isNamed := by decide +kernel
theorem fl_X12_isNamed_24 : Cond.fieldLink RX12 24 "RecipeSchedulerModel" "buffer" "[I" ∈ wsX12_isNamed := by decide +kernel
noncomputable def X12_isNamed_b15 (Y : Mem) (a1 : Int32) (a2 : Int32) (a3 : Int32) : Nat → Int32 → Option (Int32)
  | 0, _ => none
  | n+1, l4 =>
  if a3 ≤ l4 then (some 1) else (gd (inb ((a1 + 1) + l4) 4202) <| gd (inb (a2 + l4) 700) <| if (Y 10 0 1 (ix ((a1 + 1) + l4))) = (Y 10 0 3 (ix (a2 + l4))) then (X12_isNamed_b15 Y a1 a2 a3 n (l4 + 1)) else (some 0))
noncomputable def X12_isNamed (Y : Mem) (a1 : Int32) (a2 : Int32) (a3 : Int32) : Option (Int32) :=
  gd (inb a1 4202) <| if (Y 10 0 1 (ix a1)) = a3 then (X12_isNamed_b15 Y a1 a2 a3 FU 0) else (some 0)
section
variable {p : Program} {l : Launch} {e : Env} {s : State} {m : MethodId} {below : List Frame} {meth : Method} {c : Code} {N0 : Nat} {T : Nat → ClassId} {D : va_G} {gr : List (Nat × Nat)} {ad : Nat → Nat → Nat → Nat}
set_option maxRecDepth 100000 in
set_option maxHeartbeats 4000000 in
theorem w_X12_isNamed_b15 {Y : Mem} {a1 : Int32} {a2 : Int32} {a3 : Int32} (C : Cx p s m [.ref (ad 10 0 0), .int a1, .int a2, .int a3].toArray meth c cX12_isNamed 5 wsX12_isNamed RX12 N0 T D gr ad) (hrt : meth.sig.returnType = (some .boolean)) (hG : ∀ q ∈ [(10, 0)], q ∈ gr) {res : Int32} : ∀ (n : Nat) (l4 : Int32), X12_isNamed_b15 Y a1 a2 a3  n l4 = some res → FW p l e (Rm 0) s m [.ref (ad 10 0 0), .int a1, .int a2, .int a3].toArray below meth c 5 N0 T D gr ad 0 0 (MQ below (va_Qi (fun r Y1 => r = res ∧ Y1 = Y) (WB T D gr ad) (fun q => N0 ≤ q)) [.ref (ad 10 0 0), .int a1, .int a2, .int a3].toArray s 0 0 (fun q => N0 ≤ q)) Y 15 [(4, .int l4), (0, .ref (ad 10 0 0)), (1, .int a1), (2, .int a2), (3, .int a3)] [] := by
  intro n
  induction n with
  | zero =>
    intro l4 h
    unfold X12_isNamed_b15 at h
    cases h
  | succ n ih =>
    intro l4 h
    unfold X12_isNamed_b15 at h
    refine fw_iload C dX12_isNamed_15 0 rfl ?_
    refine fw_iload_n C dX12_isNamed_17 rfl 4 rfl ?_
    refine fw_icmp_ge C dX12_isNamed_18 (tgt := 52) rfl (fun c3 => ?_) (fun c3 => ?_)
    · have h := ite_t c3 h
      refine fw_iconst C dX12_isNamed_52 (v := 1) rfl ?_
      exact fw_zret C hrt (by decide) Y ⟨Option.some.inj h, rfl⟩ (fun t ht => ht) dX12_isNamed_53
    · have h := ite_f c3 h
      refine fw_aload_n C dX12_isNamed_21 rfl 1 rfl ?_
      refine fw_get C (ci := 10) (Cn := RX12) (Tc := TX12) (N := 19) (j := 0) ly_X12_isNamed_12 rfl (hG _ (List.mem_of_getElem? (i := 0) rfl)) (of10_0 _) (ce10 T ad _ _) (by decide) (cx_ts C _ fl_X12_isNamed_13) (fun _ h => h) (v := .ref (ad 10 0 1)) rfl dX12_isNamed_22 ?_
      refine fw_iload_n C dX12_isNamed_25 rfl 2 rfl ?_
      refine fw_iconst C dX12_isNamed_26 (v := 1) rfl ?_
      refine fw_iadd C dX12_isNamed_27 ?_
      refine fw_iload C dX12_isNamed_28 0 rfl ?_
      refine fw_iadd C dX12_isNamed_30 ?_
      obtain ⟨b4, h⟩ := gd_some h
      refine fw_iald2 C (hG _ (List.mem_of_getElem? (i := 0) rfl)) (of10_1 _) (ca10_1 T ad _ _) b4 (Nat.le_of_ble_eq_true rfl) dX12_isNamed_31 ?_
      refine fw_aload_n C dX12_isNamed_32 rfl 1 rfl ?_
      refine fw_get C (ci := 10) (Cn := RX12) (Tc := TX12) (N := 19) (j := 3) ly_X12_isNamed_12 rfl (hG _ (List.mem_of_getElem? (i := 0) rfl)) (of10_0 _) (ce10 T ad _ _) (by decide) (cx_ts C _ fl_X12_isNamed_24) (fun _ h => h) (v := .ref (ad 10 0 3)) rfl dX12_isNamed_33 ?_
      refine fw_iload_n C dX12_isNamed_36 rfl 3 rfl ?_
      refine fw_iload C dX12_isNamed_37 0 rfl ?_
      refine fw_iadd C dX12_isNamed_39 ?_
      obtain ⟨b5, h⟩ := gd_some h
      refine fw_iald2 C (hG _ (List.mem_of_getElem? (i := 0) rfl)) (of10_3 _) (ca10_3 T ad _ _) b5 (Nat.le_of_ble_eq_true rfl) dX12_isNamed_40 ?_
      refine fw_icmp_eq C dX12_isNamed_41 (tgt := 46) rfl (fun c6 => ?_) (fun c6 => ?_)
      · have h := ite_t c6 h
        refine fw_iinc C dX12_isNamed_46 (kk := 0) (v := l4 + 1) rfl rfl (by decide) (L' := [(4, .int (l4 + 1)), (0, .ref (ad 10 0 0)), (1, .int a1), (2, .int a2), (3, .int a3)]) rfl ?_
        refine fw_goto C dX12_isNamed_49 (tgt := 15) rfl ?_
        exact ih _ h
      · have h := ite_f c6 h
        refine fw_iconst C dX12_isNamed_44 (v := 0) rfl ?_
        exact fw_zret C hrt (by decide) Y ⟨Option.some.inj h, rfl⟩ (fun t ht => ht) dX12_isNamed_45
set_option maxRecDepth 100000 in
set_option maxHeartbeats 4000000 in
theorem w_X12_isNamed {Y : Mem} {a1 : Int32} {a2 : Int32} {a3 : Int32} (C : Cx p s m [.ref (ad 10 0 0), .int a1, .int a2, .int a3].toArray meth c cX12_isNamed 5 wsX12_isNamed RX12 N0 T D gr ad) (hrt : meth.sig.returnType = (some .boolean)) (hG : ∀ q ∈ [(10, 0)], q ∈ gr) {res : Int32} (h : X12_isNamed Y a1 a2 a3 = some res) : FW p l e (Rm 0) s m [.ref (ad 10 0 0), .int a1, .int a2, .int a3].toArray below meth c 5 N0 T D gr ad 0 0 (MQ below (va_Qi (fun r Y1 => r = res ∧ Y1 = Y) (WB T D gr ad) (fun q => N0 ≤ q)) [.ref (ad 10 0 0), .int a1, .int a2, .int a3].toArray s 0 0 (fun q => N0 ≤ q)) Y 0 [(0, .ref (ad 10 0 0)), (1, .int a1), (2, .int a2), (3, .int a3)] [] := by
  unfold X12_isNamed at h
  refine fw_aload_n C dX12_isNamed_0 rfl 0 rfl ?_
  refine fw_get C (ci := 10) (Cn := RX12) (Tc := TX12) (N := 19) (j := 0) ly_X12_isNamed_12 rfl (hG _ (List.mem_of_getElem? (i := 0) rfl)) (of10_0 _) (ce10 T ad _ _) (by decide) (cx_ts C _ fl_X12_isNamed_13) (fun _ h => h) (v := .ref (ad 10 0 1)) rfl dX12_isNamed_1 ?_
  refine fw_iload_n C dX12_isNamed_4 rfl 1 rfl ?_
  obtain ⟨b1, h⟩ := gd_some h
  refine fw_iald2 C (hG _ (List.mem_of_getElem? (i := 0) rfl)) (of10_1 _) (ca10_1 T ad _ _) b1 (Nat.le_of_ble_eq_true rfl) dX12_isNamed_5 ?_
  refine fw_iload_n C dX12_isNamed_6 rfl 3 rfl ?_
  refine fw_icmp_eq C dX12_isNamed_7 (tgt := 12) rfl (fun c2 => ?_) (fun c2 => ?_)
  · have h := ite_t c2 h
    refine fw_iconst C dX12_isNamed_12 (v := 0) rfl ?_
    refine fw_istore C dX12_isNamed_13 (by decide) (L' := [(4, .int 0), (0, .ref (ad 10 0 0)), (1, .int a1), (2, .int a2), (3, .int a3)]) rfl ?_
    exact w_X12_isNamed_b15 C hrt hG   _ _ h
  · have h := ite_f c2 h
    refine fw_iconst C dX12_isNamed_10 (v := 0) rfl ?_
    exact fw_zret C hrt (by decide) Y ⟨Option.some.inj h, rfl⟩ (fun t ht => ht) dX12_isNamed_11
end
set_option maxRecDepth 100000 in
set_option maxHeartbeats 4000000 in
theorem c_X12_isNamed {l : Launch} {N0 : Nat} {T : Nat → ClassId} {D : va_G} {gr : List (Nat × Nat)} {ad : Nat → Nat → Nat → Nat} {Y : Mem} {a1 : Int32} {a2 : Int32} {a3 : Int32} {res : Int32} (hG : ∀ q ∈ [(10, 0)], q ∈ gr) (h : X12_isNamed Y a1 a2 a3 = some res) : CI l yX12_isNamed wsX12_isNamed (Rm 0) N0 T D gr ad Y [.ref (ad 10 0 0), .int a1, .int a2, .int a3] (fun r Y1 => r = res ∧ Y1 = Y) :=
  fw_body (by decide +kernel) rfl (Nat.le_of_ble_eq_true rfl) (fun p e s m below meth c C hrt => w_X12_isNamed C hrt hG  h)
theorem ly_X12_stepNamed_12 : ∀ w ∈ u_ws RX12 TX12 19, w ∈ wsX12_stepNamed := by decide +kernel
theorem fl_X12_stepNamed_13 : Cond.fieldLink RX12 13 "RecipeSchedulerModel" "m" "[I" ∈ wsX12_stepNamed := by decide +kernel
noncomputable def X12_stepNamed_b2 (Y : Mem) (a1 : Int32) (a2 : Int32) : Nat → Int32 → Option (Int32)
  | 0, _ => none
  | n+1, l3 =>
  gd (inb 13 4202) <| if (Y 10 0 1 (ix 13)) ≤ l3 then (some ((-1))) else (bd1 (X12_isNamed Y (46 + (l3 * 24)) a1 a2) <| fun r3 => if r3 = 0 then (X12_stepNamed_b2 Y a1 a2 n (l3 + 1)) else (some l3))
noncomputable def X12_stepNamed (Y : Mem) (a1 : Int32) (a2 : Int32) : Option (Int32) :=
  X12_stepNamed_b2 Y a1 a2 FU 0
section
variable {p : Program} {l : Launch} {e : Env} {s : State} {m : MethodId} {below : List Frame} {meth : Method} {c : Code} {N0 : Nat} {T : Nat → ClassId} {D : va_G} {gr : List (Nat × Nat)} {ad : Nat → Nat → Nat → Nat}
set_option maxRecDepth 100000 in
set_option maxHeartbeats 4000000 in
theorem w_X12_stepNamed_b2 {Y : Mem} {a1 : Int32} {a2 : Int32} (C : Cx p s m [.ref (ad 10 0 0), .int a1, .int a2].toArray meth c cX12_stepNamed 4 wsX12_stepNamed RX12 N0 T D gr ad) (hrt : meth.sig.returnType = (some .int)) (hG : ∀ q ∈ [(10, 0)], q ∈ gr) {res : Int32} : ∀ (n : Nat) (l3 : Int32), X12_stepNamed_b2 Y a1 a2  n l3 = some res → FW p l e (Rm 1) s m [.ref (ad 10 0 0), .int a1, .int a2].toArray below meth c 4 N0 T D gr ad 0 0 (MQ below (va_Qi (fun r Y1 => r = res ∧ Y1 = Y) (WB T D gr ad) (fun q => N0 ≤ q)) [.ref (ad 10 0 0), .int a1, .int a2].toArray s 0 0 (fun q => N0 ≤ q)) Y 2 [(3, .int l3), (0, .ref (ad 10 0 0)), (1, .int a1), (2, .int a2)] [] := by
  intro n
  induction n with
  | zero =>
    intro l3 h
    unfold X12_stepNamed_b2 at h
    cases h
  | succ n ih =>
    intro l3 h
    unfold X12_stepNamed_b2 at h
    refine fw_iload_n C dX12_stepNamed_2 rfl 0 rfl ?_
    refine fw_aload_n C dX12_stepNamed_3 rfl 1 rfl ?_
    refine fw_get C (ci := 10) (Cn := RX12) (Tc := TX12) (N := 19) (j := 0) ly_X12_stepNamed_12 rfl (hG _ (List.mem_of_getElem? (i := 0) rfl)) (of10_0 _) (ce10 T ad _ _) (by decide) (cx_ts C _ fl_X12_stepNamed_13) (fun _ h => h) (v := .ref (ad 10 0 1)) rfl dX12_stepNamed_4 ?_
    refine fw_bipush C dX12_stepNamed_7 (v := 13) rfl ?_
    obtain ⟨b1, h⟩ := gd_some h
    refine fw_iald2 C (hG _ (List.mem_of_getElem? (i := 0) rfl)) (of10_1 _) (ca10_1 T ad _ _) b1 (Nat.le_of_ble_eq_true rfl) dX12_stepNamed_9 ?_
    refine fw_icmp_ge C dX12_stepNamed_10 (tgt := 37) rfl (fun c2 => ?_) (fun c2 => ?_)
    · have h := ite_t c2 h
      refine fw_iconst C dX12_stepNamed_37 (v := (-1)) rfl ?_
      exact fw_iret C hrt Y ⟨Option.some.inj h, rfl⟩ (fun t ht => ht) dX12_stepNamed_38
    · have h := ite_f c2 h
      refine fw_aload_n C dX12_stepNamed_13 rfl 1 rfl ?_
      refine fw_bipush C dX12_stepNamed_14 (v := 46) rfl ?_
      refine fw_iload_n C dX12_stepNamed_16 rfl 0 rfl ?_
      refine fw_bipush C dX12_stepNamed_17 (v := 24) rfl ?_
      refine fw_imul C dX12_stepNamed_19 ?_
      refine fw_iadd C dX12_stepNamed_20 ?_
      refine fw_iload_n C dX12_stepNamed_21 rfl 2 rfl ?_
      refine fw_iload_n C dX12_stepNamed_22 rfl 3 rfl ?_
      obtain ⟨r3, q4, h⟩ := bd1_some h
      refine fw_callVi C (ci := 10) (Cn := RX12) (Tc := TX12) (N := 19) (As := [.int (46 + (l3 * 24)), .int a1, .int a2]) (c_X12_isNamed (gac (hG _ (List.mem_of_getElem? (i := 0) rfl)) ga0) q4) (cwV 3 (cx_ts C) gX12_stepNamed_X12_isNamed rfl rfl rfl (by decide +kernel) ⟨Nat.le_of_ble_eq_true rfl, Nat.le_of_ble_eq_true rfl⟩) rfl (hG _ (List.mem_of_getElem? (i := 0) rfl)) (of10_0 _) (ce10 T ad _ _) rfl (st := []) rfl (Nat.le_of_ble_eq_true rfl) ⟨Nat.le_refl 0, Nat.le_refl 0⟩ dX12_stepNamed_23 ?_
      rintro _ _ ⟨rfl, rfl⟩
      refine fw_if_eq C dX12_stepNamed_26 (tgt := 31) rfl (fun c5 => ?_) (fun c5 => ?_)
      · have h := ite_t c5 h
        refine fw_iinc C dX12_stepNamed_31 (kk := 0) (v := l3 + 1) rfl rfl (by decide) (L' := [(3, .int (l3 + 1)), (0, .ref (ad 10 0 0)), (1, .int a1), (2, .int a2)]) rfl ?_
        refine fw_goto C dX12_stepNamed_34 (tgt := 2) rfl ?_
        exact ih _ h
      · have h := ite_f c5 h
        refine fw_iload_n C dX12_stepNamed_29 rfl 0 rfl ?_
        exact fw_iret C hrt Y ⟨Option.some.inj h, rfl⟩ (fun t ht => ht) dX12_stepNamed_30
set_option maxRecDepth 100000 in
set_option maxHeartbeats 4000000 in
theorem w_X12_stepNamed {Y : Mem} {a1 : Int32} {a2 : Int32} (C : Cx p s m [.ref (ad 10 0 0), .int a1, .int a2].toArray meth c cX12_stepNamed 4 wsX12_stepNamed RX12 N0 T D gr ad) (hrt : meth.sig.returnType = (some .int)) (hG : ∀ q ∈ [(10, 0)], q ∈ gr) {res : Int32} (h : X12_stepNamed Y a1 a2 = some res) : FW p l e (Rm 1) s m [.ref (ad 10 0 0), .int a1, .int a2].toArray below meth c 4 N0 T D gr ad 0 0 (MQ below (va_Qi (fun r Y1 => r = res ∧ Y1 = Y) (WB T D gr ad) (fun q => N0 ≤ q)) [.ref (ad 10 0 0), .int a1, .int a2].toArray s 0 0 (fun q => N0 ≤ q)) Y 0 [(0, .ref (ad 10 0 0)), (1, .int a1), (2, .int a2)] [] := by
  unfold X12_stepNamed at h
  refine fw_iconst C dX12_stepNamed_0 (v := 0) rfl ?_
  refine fw_istore_n C dX12_stepNamed_1 rfl (by decide) (L' := [(3, .int 0), (0, .ref (ad 10 0 0)), (1, .int a1), (2, .int a2)]) rfl ?_
  exact w_X12_stepNamed_b2 C hrt hG   _ _ h
end
set_option maxRecDepth 100000 in
set_option maxHeartbeats 4000000 in
theorem c_X12_stepNamed {l : Launch} {N0 : Nat} {T : Nat → ClassId} {D : va_G} {gr : List (Nat × Nat)} {ad : Nat → Nat → Nat → Nat} {Y : Mem} {a1 : Int32} {a2 : Int32} {res : Int32} (hG : ∀ q ∈ [(10, 0)], q ∈ gr) (h : X12_stepNamed Y a1 a2 = some res) : CI l yX12_stepNamed wsX12_stepNamed (Rm 1) N0 T D gr ad Y [.ref (ad 10 0 0), .int a1, .int a2] (fun r Y1 => r = res ∧ Y1 = Y) :=
  fw_body (by decide +kernel) rfl (Nat.le_of_ble_eq_true rfl) (fun p e s m below meth c C hrt => w_X12_stepNamed C hrt hG  h)
theorem ly_X12_findStep_12 : ∀ w ∈ u_ws RX12 TX12 19, w ∈ wsX12_findStep := by decide +kernel
theorem fl_X12_findStep_27 : Cond.fieldLink RX12 27 "RecipeSchedulerModel" "length" "I" ∈ wsX12_findStep := by decide +kernel
noncomputable def X12_findStep_b21  (Y : Mem) (l1 : Int32) (s0 : Int32) : Option (Int32 × Mem) :=
  bd2 (X12_fails Y s0 0 0) <| fun r4 Y6 => if r4 = 0 then (some (l1, Y6)) else (some (0, Y6))
noncomputable def X12_findStep (Y : Mem) : Option (Int32 × Mem) :=
  bd1 (X12_stepNamed Y 0 (Y 10 0 0 4)) <| fun r1 => if r1 = ((-1)) then (X12_findStep_b21 Y r1 1) else (X12_findStep_b21 Y r1 0)
section
variable {p : Program} {l : Launch} {e : Env} {s : State} {m : MethodId} {below : List Frame} {meth : Method} {c : Code} {N0 : Nat} {T : Nat → ClassId} {D : va_G} {gr : List (Nat × Nat)} {ad : Nat → Nat → Nat → Nat}
set_option maxRecDepth 100000 in
set_option maxHeartbeats 4000000 in
theorem w_X12_findStep_b21  (C : Cx p s m [.ref (ad 10 0 0)].toArray meth c cX12_findStep 2 wsX12_findStep RX12 N0 T D gr ad) (hrt : meth.sig.returnType = (some .int)) (hG : ∀ q ∈ [(10, 0)], q ∈ gr) {res : Int32 × Mem} (Y : Mem) (l1 : Int32) (s0 : Int32) (h : X12_findStep_b21   Y l1 s0 = some res) : FW p l e (Rm 2) s m [.ref (ad 10 0 0)].toArray below meth c 2 N0 T D gr ad 0 0 (MQ below (va_Qi (fun r Y1 => (r, Y1) = res) (WB T D gr ad) (fun q => N0 ≤ q)) [.ref (ad 10 0 0)].toArray s 0 0 (fun q => N0 ≤ q)) Y 21 [(1, .int l1)] [.int s0, .ref (ad 10 0 0)] := by
  unfold X12_findStep_b21 at h
  refine fw_iconst C dX12_findStep_21 (v := 0) rfl ?_
  refine fw_iconst C dX12_findStep_22 (v := 0) rfl ?_
  obtain ⟨r4, Y6, q5, h⟩ := bd2_some h
  refine fw_callVi C (ci := 10) (Cn := RX12) (Tc := TX12) (N := 19) (As := [.int s0, .int 0, .int 0]) (c_X12_fails (gac (hG _ (List.mem_of_getElem? (i := 0) rfl)) ga0) q5) (cwV 3 (cx_ts C) gX12_findStep_X12_fails rfl rfl rfl (by decide +kernel) ⟨Nat.le_of_ble_eq_true rfl, Nat.le_of_ble_eq_true rfl⟩) rfl (hG _ (List.mem_of_getElem? (i := 0) rfl)) (of10_0 _) (ce10 T ad _ _) rfl (st := []) rfl (Nat.le_of_ble_eq_true rfl) ⟨Nat.le_refl 0, Nat.le_refl 0⟩ dX12_findStep_23 ?_
  intro r_ Y_ e_
  obtain ⟨rfl, rfl⟩ := Prod.mk.inj e_
  refine fw_if_eq C dX12_findStep_26 (tgt := 31) rfl (fun c7 => ?_) (fun c7 => ?_)
  · have h := ite_t c7 h
    refine fw_iload_n C dX12_findStep_31 rfl 0 rfl ?_
    exact fw_iret C hrt Y6 (Option.some.inj h) (fun t ht => ht) dX12_findStep_32
  · have h := ite_f c7 h
    refine fw_iconst C dX12_findStep_29 (v := 0) rfl ?_
    exact fw_iret C hrt Y6 (Option.some.inj h) (fun t ht => ht) dX12_findStep_30
set_option maxRecDepth 100000 in
set_option maxHeartbeats 4000000 in
theorem w_X12_findStep {Y : Mem} (C : Cx p s m [.ref (ad 10 0 0)].toArray meth c cX12_findStep 2 wsX12_findStep RX12 N0 T D gr ad) (hrt : meth.sig.returnType = (some .int)) (hG : ∀ q ∈ [(10, 0)], q ∈ gr) {res : Int32 × Mem} (h : X12_findStep Y = some res) : FW p l e (Rm 2) s m [.ref (ad 10 0 0)].toArray below meth c 2 N0 T D gr ad 0 0 (MQ below (va_Qi (fun r Y1 => (r, Y1) = res) (WB T D gr ad) (fun q => N0 ≤ q)) [.ref (ad 10 0 0)].toArray s 0 0 (fun q => N0 ≤ q)) Y 0 [(0, .ref (ad 10 0 0))] [] := by
  unfold X12_findStep at h
  refine fw_aload_n C dX12_findStep_0 rfl 0 rfl ?_
  refine fw_iconst C dX12_findStep_1 (v := 0) rfl ?_
  refine fw_aload_n C dX12_findStep_2 rfl 0 rfl ?_
  refine fw_get C (ci := 10) (Cn := RX12) (Tc := TX12) (N := 19) (j := 4) ly_X12_findStep_12 rfl (hG _ (List.mem_of_getElem? (i := 0) rfl)) (of10_0 _) (ce10 T ad _ _) (by decide) (cx_ts C _ fl_X12_findStep_27) (fun _ h => h) (v := .int (Y 10 0 0 4)) rfl dX12_findStep_3 ?_
  obtain ⟨r1, q2, h⟩ := bd1_some h
  refine fw_callVi C (ci := 10) (Cn := RX12) (Tc := TX12) (N := 19) (As := [.int 0, .int (Y 10 0 0 4)]) (c_X12_stepNamed (gac (hG _ (List.mem_of_getElem? (i := 0) rfl)) ga0) q2) (cwV 2 (cx_ts C) gX12_findStep_X12_stepNamed rfl rfl rfl (by decide +kernel) ⟨Nat.le_of_ble_eq_true rfl, Nat.le_of_ble_eq_true rfl⟩) rfl (hG _ (List.mem_of_getElem? (i := 0) rfl)) (of10_0 _) (ce10 T ad _ _) rfl (st := []) rfl (Nat.le_of_ble_eq_true rfl) ⟨Nat.le_refl 0, Nat.le_refl 0⟩ dX12_findStep_6 ?_
  rintro _ _ ⟨rfl, rfl⟩
  refine fw_istore_n C dX12_findStep_9 rfl (by decide) (L' := [(1, .int r1), (0, .ref (ad 10 0 0))]) rfl ?_
  refine fw_aload_n C dX12_findStep_10 rfl 1 rfl ?_
  refine fw_iload_n C dX12_findStep_11 rfl 0 rfl ?_
  refine fw_iconst C dX12_findStep_12 (v := (-1)) rfl ?_
  refine fw_icmp_ne C dX12_findStep_13 (tgt := 20) rfl (fun c3 => ?_) (fun c3 => ?_)
  · have h := ite_f c3 h
    refine fw_iconst C dX12_findStep_20 (v := 0) rfl ?_
    refine fw_sub [0] (L' := [(1, .int r1)]) rfl ?_
    exact w_X12_findStep_b21 C hrt hG   _ _ _ h
  · have h := ite_t c3 h
    refine fw_iconst C dX12_findStep_16 (v := 1) rfl ?_
    refine fw_goto C dX12_findStep_17 (tgt := 21) rfl ?_
    refine fw_sub [0] (L' := [(1, .int r1)]) rfl ?_
    exact w_X12_findStep_b21 C hrt hG   _ _ _ h
end
set_option maxRecDepth 100000 in
set_option maxHeartbeats 4000000 in
theorem c_X12_findStep {l : Launch} {N0 : Nat} {T : Nat → ClassId} {D : va_G} {gr : List (Nat × Nat)} {ad : Nat → Nat → Nat → Nat} {Y : Mem} {res : Int32 × Mem} (hG : ∀ q ∈ [(10, 0)], q ∈ gr) (h : X12_findStep Y = some res) : CI l yX12_findStep wsX12_findStep (Rm 2) N0 T D gr ad Y [.ref (ad 10 0 0)] (fun r Y1 => (r, Y1) = res) :=
  fw_body (by decide +kernel) rfl (Nat.le_of_ble_eq_true rfl) (fun p e s m below meth c C hrt => w_X12_findStep C hrt hG  h)
theorem ly_X12_inconsistencies_12 : ∀ w ∈ u_ws RX12 TX12 19, w ∈ wsX12_inconsistencies := by decide +kernel
theorem fl_X12_inconsistencies_1 : Cond.fieldLink RX12 1 "RecipeSchedulerModel" "thrown" "I" ∈ wsX12_inconsistencies := by decide +kernel
theorem fl_X12_inconsistencies_13 : Cond.fieldLink RX12 13 "RecipeSchedulerModel" "m" "[I" ∈ wsX12_inconsistencies := by decide +kernel
noncomputable def X12_inconsistencies_b121  (k37 : Mem → Int32 → Int32 → Option (Int32 × Mem)) (Y : Mem) (l2 : Int32) (s0 : Int32) (s1 : Int32) : Option (Int32 × Mem) :=
  lt_ (s1 + s0) <| fun v18 => k37 Y (l2 + 1) v18
noncomputable def X12_inconsistencies_b120  (k37 : Mem → Int32 → Int32 → Option (Int32 × Mem)) (Y : Mem) (l2 : Int32) (s0 : Int32) : Option (Int32 × Mem) :=
  X12_inconsistencies_b121 k37 Y l2 0 s0
noncomputable def X12_inconsistencies_b93  (k53 : Mem → Int32 → Int32 → Int32 → Int32 → Option (Int32 × Mem)) (Y : Mem) (l4 : Int32) (l2 : Int32) (l1 : Int32) (s0 : Int32) : Option (Int32 × Mem) :=
  k53 Y (l4 + 1) s0 l2 l1
noncomputable def X12_inconsistencies_b88  (k53 : Mem → Int32 → Int32 → Int32 → Int32 → Option (Int32 × Mem)) (Y : Mem) (l4 : Int32) (l2 : Int32) (l1 : Int32) : Option (Int32 × Mem) :=
  X12_inconsistencies_b93 k53 Y l4 l2 l1 1
noncomputable def X12_inconsistencies_b53  (k37 : Mem → Int32 → Int32 → Option (Int32 × Mem)) : Nat → Mem → Int32 → Int32 → Int32 → Int32 → Option (Int32 × Mem)
  | 0, _, _, _, _, _ => none
  | n+1, Y, l4, l3, l2, l1 =>
  bd1 (X12_of Y l2 12) <| fun r12 => if r12 ≤ l4 then (bd1 (X12_of Y l2 17) <| fun r15 => if r15 = 1 then (if l3 = 0 then (X12_inconsistencies_b120 k37 Y l2 l1) else (X12_inconsistencies_b121 k37 Y l2 1 l1)) else (X12_inconsistencies_b120 k37 Y l2 l1)) else (if l3 = 0 then (bd1 (X12_of Y l2 (13 + l4)) <| fun r22 => bd1 (X12_of Y r22 21) <| fun r24 => if r24 = 0 then (X12_inconsistencies_b88 (X12_inconsistencies_b53 k37 n) Y l4 l2 l1) else (X12_inconsistencies_b93 (X12_inconsistencies_b53 k37 n) Y l4 l2 l1 0)) else (X12_inconsistencies_b88 (X12_inconsistencies_b53 k37 n) Y l4 l2 l1))
noncomputable def X12_inconsistencies_b37  : Nat → Mem → Int32 → Int32 → Option (Int32 × Mem)
  | 0, _, _, _ => none
  | n+1, Y, l2, l1 =>
  gd (inb 13 4202) <| if (Y 10 0 1 (ix 13)) ≤ l2 then (some (l1, Y)) else (X12_inconsistencies_b53 (X12_inconsistencies_b37 n) FU Y 0 0 l2 l1)
noncomputable def X12_inconsistencies (Y : Mem) : Option (Int32 × Mem) :=
  lt_ (up Y 10 0 0 9 0) <| fun Y1 => gd (inb 7 4202) <| gd (inb 8 4202) <| bd1 (X12_withStatus Y1 1) <| fun r5 => gd (inb 11 4202) <| lt_ ((((Y1 10 0 1 (ix 7)) - (Y1 10 0 1 (ix 8))) - r5) - (Y1 10 0 1 (ix 11))) <| fun v8 => X12_inconsistencies_b37 FU Y1 0 v8
section
variable {p : Program} {l : Launch} {e : Env} {s : State} {m : MethodId} {below : List Frame} {meth : Method} {c : Code} {N0 : Nat} {T : Nat → ClassId} {D : va_G} {gr : List (Nat × Nat)} {ad : Nat → Nat → Nat → Nat}
set_option maxRecDepth 100000 in
set_option maxHeartbeats 4000000 in
theorem w_X12_inconsistencies_b121  (C : Cx p s m [.ref (ad 10 0 0)].toArray meth c cX12_inconsistencies 5 wsX12_inconsistencies RX12 N0 T D gr ad) (hrt : meth.sig.returnType = (some .int)) (hG : ∀ q ∈ [(10, 0)], q ∈ gr) {res : Int32 × Mem} {k37 : Mem → Int32 → Int32 → Option (Int32 × Mem)} (hk37 : ∀ (Y : Mem) (l2 : Int32) (l1 : Int32), k37 Y l2 l1 = some res → FW p l e (Rm 2) s m [.ref (ad 10 0 0)].toArray below meth c 5 N0 T D gr ad 0 0 (MQ below (va_Qi (fun r Y1 => (r, Y1) = res) (WB T D gr ad) (fun q => N0 ≤ q)) [.ref (ad 10 0 0)].toArray s 0 0 (fun q => N0 ≤ q)) Y 37 [(2, .int l2), (1, .int l1), (0, .ref (ad 10 0 0))] []) (Y : Mem) (l2 : Int32) (s0 : Int32) (s1 : Int32) (h : X12_inconsistencies_b121  k37 Y l2 s0 s1 = some res) : FW p l e (Rm 2) s m [.ref (ad 10 0 0)].toArray below meth c 5 N0 T D gr ad 0 0 (MQ below (va_Qi (fun r Y1 => (r, Y1) = res) (WB T D gr ad) (fun q => N0 ≤ q)) [.ref (ad 10 0 0)].toArray s 0 0 (fun q => N0 ≤ q)) Y 121 [(2, .int l2), (0, .ref (ad 10 0 0))] [.int s0, .int s1] := by
  unfold X12_inconsistencies_b121 at h
  refine fw_iadd C dX12_inconsistencies_121 ?_
  obtain ⟨v18, e19, h⟩ := lt_some h
  refine fw_top (v' := .int v18) (by rw [e19]) ?_
  refine fw_istore_n C dX12_inconsistencies_122 rfl (by decide) (L' := [(1, .int v18), (2, .int l2), (0, .ref (ad 10 0 0))]) rfl ?_
  refine fw_iinc C dX12_inconsistencies_123 (kk := 1) (v := l2 + 1) rfl rfl (by decide) (L' := [(2, .int (l2 + 1)), (1, .int v18), (0, .ref (ad 10 0 0))]) rfl ?_
  refine fw_goto C dX12_inconsistencies_126 (tgt := 37) rfl ?_
  exact hk37 _ _ _ h
set_option maxRecDepth 100000 in
set_option maxHeartbeats 4000000 in
theorem w_X12_inconsistencies_b120  (C : Cx p s m [.ref (ad 10 0 0)].toArray meth c cX12_inconsistencies 5 wsX12_inconsistencies RX12 N0 T D gr ad) (hrt : meth.sig.returnType = (some .int)) (hG : ∀ q ∈ [(10, 0)], q ∈ gr) {res : Int32 × Mem} {k37 : Mem → Int32 → Int32 → Option (Int32 × Mem)} (hk37 : ∀ (Y : Mem) (l2 : Int32) (l1 : Int32), k37 Y l2 l1 = some res → FW p l e (Rm 2) s m [.ref (ad 10 0 0)].toArray below meth c 5 N0 T D gr ad 0 0 (MQ below (va_Qi (fun r Y1 => (r, Y1) = res) (WB T D gr ad) (fun q => N0 ≤ q)) [.ref (ad 10 0 0)].toArray s 0 0 (fun q => N0 ≤ q)) Y 37 [(2, .int l2), (1, .int l1), (0, .ref (ad 10 0 0))] []) (Y : Mem) (l2 : Int32) (s0 : Int32) (h : X12_inconsistencies_b120  k37 Y l2 s0 = some res) : FW p l e (Rm 2) s m [.ref (ad 10 0 0)].toArray below meth c 5 N0 T D gr ad 0 0 (MQ below (va_Qi (fun r Y1 => (r, Y1) = res) (WB T D gr ad) (fun q => N0 ≤ q)) [.ref (ad 10 0 0)].toArray s 0 0 (fun q => N0 ≤ q)) Y 120 [(2, .int l2), (0, .ref (ad 10 0 0))] [.int s0] := by
  unfold X12_inconsistencies_b120 at h
  refine fw_iconst C dX12_inconsistencies_120 (v := 0) rfl ?_
  exact w_X12_inconsistencies_b121 C hrt hG  hk37 _ _ _ _ h
set_option maxRecDepth 100000 in
set_option maxHeartbeats 4000000 in
theorem w_X12_inconsistencies_b93  (C : Cx p s m [.ref (ad 10 0 0)].toArray meth c cX12_inconsistencies 5 wsX12_inconsistencies RX12 N0 T D gr ad) (hrt : meth.sig.returnType = (some .int)) (hG : ∀ q ∈ [(10, 0)], q ∈ gr) {res : Int32 × Mem} {k53 : Mem → Int32 → Int32 → Int32 → Int32 → Option (Int32 × Mem)} (hk53 : ∀ (Y : Mem) (l4 : Int32) (l3 : Int32) (l2 : Int32) (l1 : Int32), k53 Y l4 l3 l2 l1 = some res → FW p l e (Rm 2) s m [.ref (ad 10 0 0)].toArray below meth c 5 N0 T D gr ad 0 0 (MQ below (va_Qi (fun r Y1 => (r, Y1) = res) (WB T D gr ad) (fun q => N0 ≤ q)) [.ref (ad 10 0 0)].toArray s 0 0 (fun q => N0 ≤ q)) Y 53 [(4, .int l4), (3, .int l3), (2, .int l2), (1, .int l1), (0, .ref (ad 10 0 0))] []) (Y : Mem) (l4 : Int32) (l2 : Int32) (l1 : Int32) (s0 : Int32) (h : X12_inconsistencies_b93  k53 Y l4 l2 l1 s0 = some res) : FW p l e (Rm 2) s m [.ref (ad 10 0 0)].toArray below meth c 5 N0 T D gr ad 0 0 (MQ below (va_Qi (fun r Y1 => (r, Y1) = res) (WB T D gr ad) (fun q => N0 ≤ q)) [.ref (ad 10 0 0)].toArray s 0 0 (fun q => N0 ≤ q)) Y 93 [(4, .int l4), (2, .int l2), (1, .int l1), (0, .ref (ad 10 0 0))] [.int s0] := by
  unfold X12_inconsistencies_b93 at h
  refine fw_istore_n C dX12_inconsistencies_93 rfl (by decide) (L' := [(3, .int s0), (4, .int l4), (2, .int l2), (1, .int l1), (0, .ref (ad 10 0 0))]) rfl ?_
  refine fw_iinc C dX12_inconsistencies_94 (kk := 1) (v := l4 + 1) rfl rfl (by decide) (L' := [(4, .int (l4 + 1)), (3, .int s0), (2, .int l2), (1, .int l1), (0, .ref (ad 10 0 0))]) rfl ?_
  refine fw_goto C dX12_inconsistencies_97 (tgt := 53) rfl ?_
  exact hk53 _ _ _ _ _ h
set_option maxRecDepth 100000 in
set_option maxHeartbeats 4000000 in
theorem w_X12_inconsistencies_b88  (C : Cx p s m [.ref (ad 10 0 0)].toArray meth c cX12_inconsistencies 5 wsX12_inconsistencies RX12 N0 T D gr ad) (hrt : meth.sig.returnType = (some .int)) (hG : ∀ q ∈ [(10, 0)], q ∈ gr) {res : Int32 × Mem} {k53 : Mem → Int32 → Int32 → Int32 → Int32 → Option (Int32 × Mem)} (hk53 : ∀ (Y : Mem) (l4 : Int32) (l3 : Int32) (l2 : Int32) (l1 : Int32), k53 Y l4 l3 l2 l1 = some res → FW p l e (Rm 2) s m [.ref (ad 10 0 0)].toArray below meth c 5 N0 T D gr ad 0 0 (MQ below (va_Qi (fun r Y1 => (r, Y1) = res) (WB T D gr ad) (fun q => N0 ≤ q)) [.ref (ad 10 0 0)].toArray s 0 0 (fun q => N0 ≤ q)) Y 53 [(4, .int l4), (3, .int l3), (2, .int l2), (1, .int l1), (0, .ref (ad 10 0 0))] []) (Y : Mem) (l4 : Int32) (l2 : Int32) (l1 : Int32) (h : X12_inconsistencies_b88  k53 Y l4 l2 l1 = some res) : FW p l e (Rm 2) s m [.ref (ad 10 0 0)].toArray below meth c 5 N0 T D gr ad 0 0 (MQ below (va_Qi (fun r Y1 => (r, Y1) = res) (WB T D gr ad) (fun q => N0 ≤ q)) [.ref (ad 10 0 0)].toArray s 0 0 (fun q => N0 ≤ q)) Y 88 [(4, .int l4), (2, .int l2), (1, .int l1), (0, .ref (ad 10 0 0))] [] := by
  unfold X12_inconsistencies_b88 at h
  refine fw_iconst C dX12_inconsistencies_88 (v := 1) rfl ?_
  refine fw_goto C dX12_inconsistencies_89 (tgt := 93) rfl ?_
  exact w_X12_inconsistencies_b93 C hrt hG  hk53 _ _ _ _ _ h
set_option maxRecDepth 100000 in
set_option maxHeartbeats 4000000 in
theorem w_X12_inconsistencies_b53  (C : Cx p s m [.ref (ad 10 0 0)].toArray meth c cX12_inconsistencies 5 wsX12_inconsistencies RX12 N0 T D gr ad) (hrt : meth.sig.returnType = (some .int)) (hG : ∀ q ∈ [(10, 0)], q ∈ gr) {res : Int32 × Mem} {k37 : Mem → Int32 → Int32 → Option (Int32 × Mem)} (hk37 : ∀ (Y : Mem) (l2 : Int32) (l1 : Int32), k37 Y l2 l1 = some res → FW p l e (Rm 2) s m [.ref (ad 10 0 0)].toArray below meth c 5 N0 T D gr ad 0 0 (MQ below (va_Qi (fun r Y1 => (r, Y1) = res) (WB T D gr ad) (fun q => N0 ≤ q)) [.ref (ad 10 0 0)].toArray s 0 0 (fun q => N0 ≤ q)) Y 37 [(2, .int l2), (1, .int l1), (0, .ref (ad 10 0 0))] []) : ∀ (n : Nat) (Y : Mem) (l4 : Int32) (l3 : Int32) (l2 : Int32) (l1 : Int32), X12_inconsistencies_b53  k37 n Y l4 l3 l2 l1 = some res → FW p l e (Rm 2) s m [.ref (ad 10 0 0)].toArray below meth c 5 N0 T D gr ad 0 0 (MQ below (va_Qi (fun r Y1 => (r, Y1) = res) (WB T D gr ad) (fun q => N0 ≤ q)) [.ref (ad 10 0 0)].toArray s 0 0 (fun q => N0 ≤ q)) Y 53 [(4, .int l4), (3, .int l3), (2, .int l2), (1, .int l1), (0, .ref (ad 10 0 0))] [] := by
  intro n
  induction n with
  | zero =>
    intro Y l4 l3 l2 l1 h
    unfold X12_inconsistencies_b53 at h
    cases h
  | succ n ih =>
    intro Y l4 l3 l2 l1 h
    unfold X12_inconsistencies_b53 at h
    refine fw_iload C dX12_inconsistencies_53 0 rfl ?_
    refine fw_aload_n C dX12_inconsistencies_55 rfl 4 rfl ?_
    refine fw_iload_n C dX12_inconsistencies_56 rfl 2 rfl ?_
    refine fw_bipush C dX12_inconsistencies_57 (v := 12) rfl ?_
    obtain ⟨r12, q13, h⟩ := bd1_some h
    refine fw_callVi C (ci := 10) (Cn := RX12) (Tc := TX12) (N := 19) (As := [.int l2, .int 12]) (c_X12_of (gac (hG _ (List.mem_of_getElem? (i := 0) rfl)) ga0) q13) (cwV 2 (cx_ts C) gX12_inconsistencies_X12_of rfl rfl rfl (by decide +kernel) ⟨Nat.le_of_ble_eq_true rfl, Nat.le_of_ble_eq_true rfl⟩) rfl (hG _ (List.mem_of_getElem? (i := 0) rfl)) (of10_0 _) (ce10 T ad _ _) rfl (st := [.int l4]) rfl (Nat.le_of_ble_eq_true rfl) ⟨Nat.le_refl 0, Nat.le_refl 0⟩ dX12_inconsistencies_59 ?_
    rintro _ _ ⟨rfl, rfl⟩
    refine fw_icmp_ge C dX12_inconsistencies_62 (tgt := 100) rfl (fun c14 => ?_) (fun c14 => ?_)
    · have h := ite_t c14 h
      refine fw_iload_n C dX12_inconsistencies_100 rfl 3 rfl ?_
      refine fw_aload_n C dX12_inconsistencies_101 rfl 4 rfl ?_
      refine fw_iload_n C dX12_inconsistencies_102 rfl 2 rfl ?_
      refine fw_bipush C dX12_inconsistencies_103 (v := 17) rfl ?_
      obtain ⟨r15, q16, h⟩ := bd1_some h
      refine fw_callVi C (ci := 10) (Cn := RX12) (Tc := TX12) (N := 19) (As := [.int l2, .int 17]) (c_X12_of (gac (hG _ (List.mem_of_getElem? (i := 0) rfl)) ga0) q16) (cwV 2 (cx_ts C) gX12_inconsistencies_X12_of rfl rfl rfl (by decide +kernel) ⟨Nat.le_of_ble_eq_true rfl, Nat.le_of_ble_eq_true rfl⟩) rfl (hG _ (List.mem_of_getElem? (i := 0) rfl)) (of10_0 _) (ce10 T ad _ _) rfl (st := [.int l1]) rfl (Nat.le_of_ble_eq_true rfl) ⟨Nat.le_refl 0, Nat.le_refl 0⟩ dX12_inconsistencies_105 ?_
      rintro _ _ ⟨rfl, rfl⟩
      refine fw_iconst C dX12_inconsistencies_108 (v := 1) rfl ?_
      refine fw_icmp_ne C dX12_inconsistencies_109 (tgt := 120) rfl (fun c17 => ?_) (fun c17 => ?_)
      · have h := ite_f c17 h
        refine fw_sub [2, 4] (L' := [(2, .int l2), (0, .ref (ad 10 0 0))]) rfl ?_
        exact w_X12_inconsistencies_b120 C hrt hG  hk37 _ _ _ h
      · have h := ite_t c17 h
        refine fw_iload_n C dX12_inconsistencies_112 rfl 1 rfl ?_
        refine fw_if_eq C dX12_inconsistencies_113 (tgt := 120) rfl (fun c20 => ?_) (fun c20 => ?_)
        · have h := ite_t c20 h
          refine fw_sub [2, 4] (L' := [(2, .int l2), (0, .ref (ad 10 0 0))]) rfl ?_
          exact w_X12_inconsistencies_b120 C hrt hG  hk37 _ _ _ h
        · have h := ite_f c20 h
          refine fw_iconst C dX12_inconsistencies_116 (v := 1) rfl ?_
          refine fw_goto C dX12_inconsistencies_117 (tgt := 121) rfl ?_
          refine fw_sub [2, 4] (L' := [(2, .int l2), (0, .ref (ad 10 0 0))]) rfl ?_
          exact w_X12_inconsistencies_b121 C hrt hG  hk37 _ _ _ _ h
    · have h := ite_f c14 h
      refine fw_iload_n C dX12_inconsistencies_65 rfl 1 rfl ?_
      refine fw_if_ne C dX12_inconsistencies_66 (tgt := 88) rfl (fun c21 => ?_) (fun c21 => ?_)
      · have h := ite_f c21 h
        refine fw_sub [0, 2, 3, 4] (L' := [(4, .int l4), (2, .int l2), (1, .int l1), (0, .ref (ad 10 0 0))]) rfl ?_
        exact w_X12_inconsistencies_b88 C hrt hG  ih _ _ _ _ h
      · have h := ite_t c21 h
        refine fw_aload_n C dX12_inconsistencies_69 rfl 4 rfl ?_
        refine fw_aload_n C dX12_inconsistencies_70 rfl 4 rfl ?_
        refine fw_iload_n C dX12_inconsistencies_71 rfl 2 rfl ?_
        refine fw_bipush C dX12_inconsistencies_72 (v := 13) rfl ?_
        refine fw_iload C dX12_inconsistencies_74 0 rfl ?_
        refine fw_iadd C dX12_inconsistencies_76 ?_
        obtain ⟨r22, q23, h⟩ := bd1_some h
        refine fw_callVi C (ci := 10) (Cn := RX12) (Tc := TX12) (N := 19) (As := [.int l2, .int (13 + l4)]) (c_X12_of (gac (hG _ (List.mem_of_getElem? (i := 0) rfl)) ga0) q23) (cwV 2 (cx_ts C) gX12_inconsistencies_X12_of rfl rfl rfl (by decide +kernel) ⟨Nat.le_of_ble_eq_true rfl, Nat.le_of_ble_eq_true rfl⟩) rfl (hG _ (List.mem_of_getElem? (i := 0) rfl)) (of10_0 _) (ce10 T ad _ _) rfl (st := [.ref (ad 10 0 0)]) rfl (Nat.le_of_ble_eq_true rfl) ⟨Nat.le_refl 0, Nat.le_refl 0⟩ dX12_inconsistencies_77 ?_
        rintro _ _ ⟨rfl, rfl⟩
        refine fw_bipush C dX12_inconsistencies_80 (v := 21) rfl ?_
        obtain ⟨r24, q25, h⟩ := bd1_some h
        refine fw_callVi C (ci := 10) (Cn := RX12) (Tc := TX12) (N := 19) (As := [.int r22, .int 21]) (c_X12_of (gac (hG _ (List.mem_of_getElem? (i := 0) rfl)) ga0) q25) (cwV 2 (cx_ts C) gX12_inconsistencies_X12_of rfl rfl rfl (by decide +kernel) ⟨Nat.le_of_ble_eq_true rfl, Nat.le_of_ble_eq_true rfl⟩) rfl (hG _ (List.mem_of_getElem? (i := 0) rfl)) (of10_0 _) (ce10 T ad _ _) rfl (st := []) rfl (Nat.le_of_ble_eq_true rfl) ⟨Nat.le_refl 0, Nat.le_refl 0⟩ dX12_inconsistencies_82 ?_
        rintro _ _ ⟨rfl, rfl⟩
        refine fw_if_ne C dX12_inconsistencies_85 (tgt := 92) rfl (fun c26 => ?_) (fun c26 => ?_)
        · have h := ite_f c26 h
          refine fw_iconst C dX12_inconsistencies_92 (v := 0) rfl ?_
          refine fw_sub [0, 2, 3, 4] (L' := [(4, .int l4), (2, .int l2), (1, .int l1), (0, .ref (ad 10 0 0))]) rfl ?_
          exact w_X12_inconsistencies_b93 C hrt hG  ih _ _ _ _ _ h
        · have h := ite_t c26 h
          refine fw_sub [0, 2, 3, 4] (L' := [(4, .int l4), (2, .int l2), (1, .int l1), (0, .ref (ad 10 0 0))]) rfl ?_
          exact w_X12_inconsistencies_b88 C hrt hG  ih _ _ _ _ h
set_option maxRecDepth 100000 in
set_option maxHeartbeats 4000000 in
theorem w_X12_inconsistencies_b37  (C : Cx p s m [.ref (ad 10 0 0)].toArray meth c cX12_inconsistencies 5 wsX12_inconsistencies RX12 N0 T D gr ad) (hrt : meth.sig.returnType = (some .int)) (hG : ∀ q ∈ [(10, 0)], q ∈ gr) {res : Int32 × Mem} : ∀ (n : Nat) (Y : Mem) (l2 : Int32) (l1 : Int32), X12_inconsistencies_b37   n Y l2 l1 = some res → FW p l e (Rm 2) s m [.ref (ad 10 0 0)].toArray below meth c 5 N0 T D gr ad 0 0 (MQ below (va_Qi (fun r Y1 => (r, Y1) = res) (WB T D gr ad) (fun q => N0 ≤ q)) [.ref (ad 10 0 0)].toArray s 0 0 (fun q => N0 ≤ q)) Y 37 [(2, .int l2), (1, .int l1), (0, .ref (ad 10 0 0))] [] := by
  intro n
  induction n with
  | zero =>
    intro Y l2 l1 h
    unfold X12_inconsistencies_b37 at h
    cases h
  | succ n ih =>
    intro Y l2 l1 h
    unfold X12_inconsistencies_b37 at h
    refine fw_iload_n C dX12_inconsistencies_37 rfl 0 rfl ?_
    refine fw_aload_n C dX12_inconsistencies_38 rfl 2 rfl ?_
    refine fw_get C (ci := 10) (Cn := RX12) (Tc := TX12) (N := 19) (j := 0) ly_X12_inconsistencies_12 rfl (hG _ (List.mem_of_getElem? (i := 0) rfl)) (of10_0 _) (ce10 T ad _ _) (by decide) (cx_ts C _ fl_X12_inconsistencies_13) (fun _ h => h) (v := .ref (ad 10 0 1)) rfl dX12_inconsistencies_39 ?_
    refine fw_bipush C dX12_inconsistencies_42 (v := 13) rfl ?_
    obtain ⟨b10, h⟩ := gd_some h
    refine fw_iald2 C (hG _ (List.mem_of_getElem? (i := 0) rfl)) (of10_1 _) (ca10_1 T ad _ _) b10 (Nat.le_of_ble_eq_true rfl) dX12_inconsistencies_44 ?_
    refine fw_icmp_ge C dX12_inconsistencies_45 (tgt := 129) rfl (fun c11 => ?_) (fun c11 => ?_)
    · have h := ite_t c11 h
      refine fw_iload_n C dX12_inconsistencies_129 rfl 1 rfl ?_
      exact fw_iret C hrt Y (Option.some.inj h) (fun t ht => ht) dX12_inconsistencies_130
    · have h := ite_f c11 h
      refine fw_iconst C dX12_inconsistencies_48 (v := 0) rfl ?_
      refine fw_istore_n C dX12_inconsistencies_49 rfl (by decide) (L' := [(3, .int 0), (2, .int l2), (1, .int l1), (0, .ref (ad 10 0 0))]) rfl ?_
      refine fw_iconst C dX12_inconsistencies_50 (v := 0) rfl ?_
      refine fw_istore C dX12_inconsistencies_51 (by decide) (L' := [(4, .int 0), (3, .int 0), (2, .int l2), (1, .int l1), (0, .ref (ad 10 0 0))]) rfl ?_
      exact w_X12_inconsistencies_b53 C hrt hG  ih _ _ _ _ _ _ h
set_option maxRecDepth 100000 in
set_option maxHeartbeats 4000000 in
theorem w_X12_inconsistencies {Y : Mem} (C : Cx p s m [.ref (ad 10 0 0)].toArray meth c cX12_inconsistencies 5 wsX12_inconsistencies RX12 N0 T D gr ad) (hrt : meth.sig.returnType = (some .int)) (hG : ∀ q ∈ [(10, 0)], q ∈ gr) {res : Int32 × Mem} (h : X12_inconsistencies Y = some res) : FW p l e (Rm 2) s m [.ref (ad 10 0 0)].toArray below meth c 5 N0 T D gr ad 0 0 (MQ below (va_Qi (fun r Y1 => (r, Y1) = res) (WB T D gr ad) (fun q => N0 ≤ q)) [.ref (ad 10 0 0)].toArray s 0 0 (fun q => N0 ≤ q)) Y 0 [(0, .ref (ad 10 0 0))] [] := by
  unfold X12_inconsistencies at h
  refine fw_aload_n C dX12_inconsistencies_0 rfl 0 rfl ?_
  refine fw_iconst C dX12_inconsistencies_1 (v := 0) rfl ?_
  obtain ⟨Y1, e2, h⟩ := lt_some h
  refine fw_put C (ci := 10) (Cn := RX12) (Tc := TX12) (N := 19) (j := 9) (ty := .int) (upd (Y 10 0 0) 9 0) ly_X12_inconsistencies_12 rfl tyX12_ok nmX12 (hG _ (List.mem_of_getElem? (i := 0) rfl)) (of10_0 _) (ce10 T ad _ _) (by decide) (cx_ts C _ fl_X12_inconsistencies_1) (fun _ h => h) rfl (by decide +kernel) rfl rfl (by decide) (ce10_put9 T ad _ _ _) dX12_inconsistencies_2 ?_
  refine fw_mem ((up_eq _ _ _ _ _ _).symm.trans e2) ?_
  refine fw_aload_n C dX12_inconsistencies_5 rfl 0 rfl ?_
  refine fw_get C (ci := 10) (Cn := RX12) (Tc := TX12) (N := 19) (j := 0) ly_X12_inconsistencies_12 rfl (hG _ (List.mem_of_getElem? (i := 0) rfl)) (of10_0 _) (ce10 T ad _ _) (by decide) (cx_ts C _ fl_X12_inconsistencies_13) (fun _ h => h) (v := .ref (ad 10 0 1)) rfl dX12_inconsistencies_6 ?_
  refine fw_bipush C dX12_inconsistencies_9 (v := 7) rfl ?_
  obtain ⟨b3, h⟩ := gd_some h
  refine fw_iald2 C (hG _ (List.mem_of_getElem? (i := 0) rfl)) (of10_1 _) (ca10_1 T ad _ _) b3 (Nat.le_of_ble_eq_true rfl) dX12_inconsistencies_11 ?_
  refine fw_aload_n C dX12_inconsistencies_12 rfl 0 rfl ?_
  refine fw_get C (ci := 10) (Cn := RX12) (Tc := TX12) (N := 19) (j := 0) ly_X12_inconsistencies_12 rfl (hG _ (List.mem_of_getElem? (i := 0) rfl)) (of10_0 _) (ce10 T ad _ _) (by decide) (cx_ts C _ fl_X12_inconsistencies_13) (fun _ h => h) (v := .ref (ad 10 0 1)) rfl dX12_inconsistencies_13 ?_
  refine fw_bipush C dX12_inconsistencies_16 (v := 8) rfl ?_
  obtain ⟨b4, h⟩ := gd_some h
  refine fw_iald2 C (hG _ (List.mem_of_getElem? (i := 0) rfl)) (of10_1 _) (ca10_1 T ad _ _) b4 (Nat.le_of_ble_eq_true rfl) dX12_inconsistencies_18 ?_
  refine fw_isub C dX12_inconsistencies_19 ?_
  refine fw_aload_n C dX12_inconsistencies_20 rfl 0 rfl ?_
  refine fw_iconst C dX12_inconsistencies_21 (v := 1) rfl ?_
  obtain ⟨r5, q6, h⟩ := bd1_some h
  refine fw_callVi C (ci := 10) (Cn := RX12) (Tc := TX12) (N := 19) (As := [.int 1]) (c_X12_withStatus (gac (hG _ (List.mem_of_getElem? (i := 0) rfl)) ga0) q6) (cwV 1 (cx_ts C) gX12_inconsistencies_X12_withStatus rfl rfl rfl (by decide +kernel) ⟨Nat.le_of_ble_eq_true rfl, Nat.le_of_ble_eq_true rfl⟩) rfl (hG _ (List.mem_of_getElem? (i := 0) rfl)) (of10_0 _) (ce10 T ad _ _) rfl (st := [.int ((Y1 10 0 1 (ix 7)) - (Y1 10 0 1 (ix 8)))]) rfl (Nat.le_of_ble_eq_true rfl) ⟨Nat.le_refl 0, Nat.le_refl 0⟩ dX12_inconsistencies_22 ?_
  rintro _ _ ⟨rfl, rfl⟩
  refine fw_isub C dX12_inconsistencies_25 ?_
  refine fw_aload_n C dX12_inconsistencies_26 rfl 0 rfl ?_
  refine fw_get C (ci := 10) (Cn := RX12) (Tc := TX12) (N := 19) (j := 0) ly_X12_inconsistencies_12 rfl (hG _ (List.mem_of_getElem? (i := 0) rfl)) (of10_0 _) (ce10 T ad _ _) (by decide) (cx_ts C _ fl_X12_inconsistencies_13) (fun _ h => h) (v := .ref (ad 10 0 1)) rfl dX12_inconsistencies_27 ?_
  refine fw_bipush C dX12_inconsistencies_30 (v := 11) rfl ?_
  obtain ⟨b7, h⟩ := gd_some h
  refine fw_iald2 C (hG _ (List.mem_of_getElem? (i := 0) rfl)) (of10_1 _) (ca10_1 T ad _ _) b7 (Nat.le_of_ble_eq_true rfl) dX12_inconsistencies_32 ?_
  refine fw_isub C dX12_inconsistencies_33 ?_
  obtain ⟨v8, e9, h⟩ := lt_some h
  refine fw_top (v' := .int v8) (by rw [e9]) ?_
  refine fw_istore_n C dX12_inconsistencies_34 rfl (by decide) (L' := [(1, .int v8), (0, .ref (ad 10 0 0))]) rfl ?_
  refine fw_iconst C dX12_inconsistencies_35 (v := 0) rfl ?_
  refine fw_istore_n C dX12_inconsistencies_36 rfl (by decide) (L' := [(2, .int 0), (1, .int v8), (0, .ref (ad 10 0 0))]) rfl ?_
  exact w_X12_inconsistencies_b37 C hrt hG   _ _ _ _ h
end
set_option maxRecDepth 100000 in
set_option maxHeartbeats 4000000 in
theorem c_X12_inconsistencies {l : Launch} {N0 : Nat} {T : Nat → ClassId} {D : va_G} {gr : List (Nat × Nat)} {ad : Nat → Nat → Nat → Nat} {Y : Mem} {res : Int32 × Mem} (hG : ∀ q ∈ [(10, 0)], q ∈ gr) (h : X12_inconsistencies Y = some res) : CI l yX12_inconsistencies wsX12_inconsistencies (Rm 2) N0 T D gr ad Y [.ref (ad 10 0 0)] (fun r Y1 => (r, Y1) = res) :=
  fw_body (by decide +kernel) rfl (Nat.le_of_ble_eq_true rfl) (fun p e s m below meth c C hrt => w_X12_inconsistencies C hrt hG  h)
noncomputable def X12_isHot (Y : Mem) (a1 : Int32) : Option (Int32 × Mem) :=
  bd2 (X12_field Y a1 10) <| fun r1 Y3 => if r1 = 1 then (some (1, Y3)) else (some (0, Y3))
section
variable {p : Program} {l : Launch} {e : Env} {s : State} {m : MethodId} {below : List Frame} {meth : Method} {c : Code} {N0 : Nat} {T : Nat → ClassId} {D : va_G} {gr : List (Nat × Nat)} {ad : Nat → Nat → Nat → Nat}
set_option maxRecDepth 100000 in
set_option maxHeartbeats 4000000 in
theorem w_X12_isHot {Y : Mem} {a1 : Int32} (C : Cx p s m [.ref (ad 10 0 0), .int a1].toArray meth c cX12_isHot 2 wsX12_isHot RX12 N0 T D gr ad) (hrt : meth.sig.returnType = (some .boolean)) (hG : ∀ q ∈ [(10, 0)], q ∈ gr) {res : Int32 × Mem} (h : X12_isHot Y a1 = some res) : FW p l e (Rm 3) s m [.ref (ad 10 0 0), .int a1].toArray below meth c 2 N0 T D gr ad 0 0 (MQ below (va_Qi (fun r Y1 => (r, Y1) = res) (WB T D gr ad) (fun q => N0 ≤ q)) [.ref (ad 10 0 0), .int a1].toArray s 0 0 (fun q => N0 ≤ q)) Y 0 [(0, .ref (ad 10 0 0)), (1, .int a1)] [] := by
  unfold X12_isHot at h
  refine fw_aload_n C dX12_isHot_0 rfl 0 rfl ?_
  refine fw_iload_n C dX12_isHot_1 rfl 1 rfl ?_
  refine fw_bipush C dX12_isHot_2 (v := 10) rfl ?_
  obtain ⟨r1, Y3, q2, h⟩ := bd2_some h
  refine fw_callVi C (ci := 10) (Cn := RX12) (Tc := TX12) (N := 19) (As := [.int a1, .int 10]) (c_X12_field (gac (hG _ (List.mem_of_getElem? (i := 0) rfl)) ga0) q2) (cwV 2 (cx_ts C) gX12_isHot_X12_field rfl rfl rfl (by decide +kernel) ⟨Nat.le_of_ble_eq_true rfl, Nat.le_of_ble_eq_true rfl⟩) rfl (hG _ (List.mem_of_getElem? (i := 0) rfl)) (of10_0 _) (ce10 T ad _ _) rfl (st := []) rfl (Nat.le_of_ble_eq_true rfl) ⟨Nat.le_refl 0, Nat.le_refl 0⟩ dX12_isHot_4 ?_
  intro r_ Y_ e_
  obtain ⟨rfl, rfl⟩ := Prod.mk.inj e_
  refine fw_iconst C dX12_isHot_7 (v := 1) rfl ?_
  refine fw_icmp_ne C dX12_isHot_8 (tgt := 15) rfl (fun c4 => ?_) (fun c4 => ?_)
  · have h := ite_f c4 h
    refine fw_iconst C dX12_isHot_15 (v := 0) rfl ?_
    exact fw_zret C hrt (by decide) Y3 (Option.some.inj h) (fun t ht => ht) dX12_isHot_16
  · have h := ite_t c4 h
    refine fw_iconst C dX12_isHot_11 (v := 1) rfl ?_
    refine fw_goto C dX12_isHot_12 (tgt := 16) rfl ?_
    exact fw_zret C hrt (by decide) Y3 (Option.some.inj h) (fun t ht => ht) dX12_isHot_16
end
set_option maxRecDepth 100000 in
set_option maxHeartbeats 4000000 in
theorem c_X12_isHot {l : Launch} {N0 : Nat} {T : Nat → ClassId} {D : va_G} {gr : List (Nat × Nat)} {ad : Nat → Nat → Nat → Nat} {Y : Mem} {a1 : Int32} {res : Int32 × Mem} (hG : ∀ q ∈ [(10, 0)], q ∈ gr) (h : X12_isHot Y a1 = some res) : CI l yX12_isHot wsX12_isHot (Rm 3) N0 T D gr ad Y [.ref (ad 10 0 0), .int a1] (fun r Y1 => (r, Y1) = res) :=
  fw_body (by decide +kernel) rfl (Nat.le_of_ble_eq_true rfl) (fun p e s m below meth c C hrt => w_X12_isHot C hrt hG  h)
theorem ly_X12_isPan_12 : ∀ w ∈ u_ws RX12 TX12 19, w ∈ wsX12_isPan := by decide +kernel
theorem fl_X12_isPan_13 : Cond.fieldLink RX12 13 "RecipeSchedulerModel" "m" "[I" ∈ wsX12_isPan := by decide +kernel
noncomputable def X12_isPan (Y : Mem) (a1 : Int32) : Option (Int32) :=
  gd (inb 12 4202) <| bd1 (X12_in Y a1 0 ((Y 10 0 1 (ix 12)) - 1)) <| fun r2 => gd (decide (r2 = 0 ∨ r2 = 1)) <| some r2
section
variable {p : Program} {l : Launch} {e : Env} {s : State} {m : MethodId} {below : List Frame} {meth : Method} {c : Code} {N0 : Nat} {T : Nat → ClassId} {D : va_G} {gr : List (Nat × Nat)} {ad : Nat → Nat → Nat → Nat}
set_option maxRecDepth 100000 in
set_option maxHeartbeats 4000000 in
theorem w_X12_isPan {Y : Mem} {a1 : Int32} (C : Cx p s m [.ref (ad 10 0 0), .int a1].toArray meth c cX12_isPan 2 wsX12_isPan RX12 N0 T D gr ad) (hrt : meth.sig.returnType = (some .boolean)) (hG : ∀ q ∈ [(10, 0)], q ∈ gr) {res : Int32} (h : X12_isPan Y a1 = some res) : FW p l e (Rm 1) s m [.ref (ad 10 0 0), .int a1].toArray below meth c 2 N0 T D gr ad 0 0 (MQ below (va_Qi (fun r Y1 => r = res ∧ Y1 = Y) (WB T D gr ad) (fun q => N0 ≤ q)) [.ref (ad 10 0 0), .int a1].toArray s 0 0 (fun q => N0 ≤ q)) Y 0 [(0, .ref (ad 10 0 0)), (1, .int a1)] [] := by
  unfold X12_isPan at h
  refine fw_iload_n C dX12_isPan_0 rfl 1 rfl ?_
  refine fw_iconst C dX12_isPan_1 (v := 0) rfl ?_
  refine fw_aload_n C dX12_isPan_2 rfl 0 rfl ?_
  refine fw_get C (ci := 10) (Cn := RX12) (Tc := TX12) (N := 19) (j := 0) ly_X12_isPan_12 rfl (hG _ (List.mem_of_getElem? (i := 0) rfl)) (of10_0 _) (ce10 T ad _ _) (by decide) (cx_ts C _ fl_X12_isPan_13) (fun _ h => h) (v := .ref (ad 10 0 1)) rfl dX12_isPan_3 ?_
  refine fw_bipush C dX12_isPan_6 (v := 12) rfl ?_
  obtain ⟨b1, h⟩ := gd_some h
  refine fw_iald2 C (hG _ (List.mem_of_getElem? (i := 0) rfl)) (of10_1 _) (ca10_1 T ad _ _) b1 (Nat.le_of_ble_eq_true rfl) dX12_isPan_8 ?_
  refine fw_iconst C dX12_isPan_9 (v := 1) rfl ?_
  refine fw_isub C dX12_isPan_10 ?_
  obtain ⟨r2, q3, h⟩ := bd1_some h
  refine fw_callSi C (As := [.int a1, .int 0, .int ((Y 10 0 1 (ix 12)) - 1)]) (c_X12_in ga0 q3) (va_cwS 3 (cx_ts C) gX12_isPan_X12_in rfl rfl rfl (by decide +kernel) ⟨Nat.le_of_ble_eq_true rfl, Nat.le_of_ble_eq_true rfl⟩) rfl (st := []) rfl (Nat.le_of_ble_eq_true rfl) ⟨Nat.le_refl 0, Nat.le_refl 0⟩ dX12_isPan_11 ?_
  rintro _ _ ⟨rfl, rfl⟩
  obtain ⟨b4, h⟩ := gd_some h
  exact fw_zret C hrt (of_decide_eq_true b4) Y ⟨Option.some.inj h, rfl⟩ (fun t ht => ht) dX12_isPan_14
end
set_option maxRecDepth 100000 in
set_option maxHeartbeats 4000000 in
theorem c_X12_isPan {l : Launch} {N0 : Nat} {T : Nat → ClassId} {D : va_G} {gr : List (Nat × Nat)} {ad : Nat → Nat → Nat → Nat} {Y : Mem} {a1 : Int32} {res : Int32} (hG : ∀ q ∈ [(10, 0)], q ∈ gr) (h : X12_isPan Y a1 = some res) : CI l yX12_isPan wsX12_isPan (Rm 1) N0 T D gr ad Y [.ref (ad 10 0 0), .int a1] (fun r Y1 => r = res ∧ Y1 = Y) :=
  fw_body (by decide +kernel) rfl (Nat.le_of_ble_eq_true rfl) (fun p e s m below meth c C hrt => w_X12_isPan C hrt hG  h)
