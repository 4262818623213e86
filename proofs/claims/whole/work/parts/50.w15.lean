theorem ly_X12_parseStep_12 : ∀ w ∈ u_ws RX12 TX12 19, w ∈ wsX12_parseStep := by decide +kernel
theorem fl_X12_parseStep_13 : Cond.fieldLink RX12 13 "RecipeSchedulerModel" "m" "[I" ∈ wsX12_parseStep := by decide +kernel
theorem fl_X12_parseStep_60 : Cond.fieldLink RX12 60 "RecipeSchedulerModel" "from" "I" ∈ wsX12_parseStep := by decide +kernel
theorem fl_X12_parseStep_54 : Cond.fieldLink RX12 54 "RecipeSchedulerModel" "ahead" "I" ∈ wsX12_parseStep := by decide +kernel
theorem fl_X12_parseStep_57 : Cond.fieldLink RX12 57 "RecipeSchedulerModel" "type" "I" ∈ wsX12_parseStep := by decide +kernel
section
variable {p : Program} {l : Launch} {e : Env} {s : State} {m : MethodId} {below : List Frame} {meth : Method} {c : Code} {N0 : Nat} {T : Nat → ClassId} {D : va_G} {gr : List (Nat × Nat)} {ad : Nat → Nat → Nat → Nat}
set_option maxRecDepth 100000 in
set_option maxHeartbeats 4000000 in
theorem w_X12_parseStep_b221  (C : Cx p s m [.ref (ad 10 0 0)].toArray meth c cX12_parseStep 3 wsX12_parseStep RX12 N0 T D gr ad) (hrt : meth.sig.returnType = (some .boolean)) (hG : ∀ q ∈ [(10, 0)], q ∈ gr) {res : Int32 × Mem} (Y : Mem) (h : X12_parseStep_b221   Y = some res) : FW p l e (Rm 7) s m [.ref (ad 10 0 0)].toArray below meth c 3 N0 T D gr ad 0 0 (MQ below (va_Qi (fun r Y1 => (r, Y1) = res) (WB T D gr ad) (fun q => N0 ≤ q)) [.ref (ad 10 0 0)].toArray s 0 0 (fun q => N0 ≤ q)) Y 221 [(0, .ref (ad 10 0 0))] [] := by
  unfold X12_parseStep_b221 at h
  refine fw_aload_n C dX12_parseStep_221 rfl 0 rfl ?_
  obtain ⟨r49, Y51, q50, h⟩ := bd2_some h
  refine fw_callVi C (ci := 10) (Cn := RX12) (Tc := TX12) (N := 19) (As := []) (c_X12_semicolon (gac (hG _ (List.mem_of_getElem? (i := 0) rfl)) ga0) q50) (cwV 0 (cx_ts C) gX12_parseStep_X12_semicolon rfl rfl rfl (by decide +kernel) ⟨Nat.le_of_ble_eq_true rfl, Nat.le_of_ble_eq_true rfl⟩) rfl (hG _ (List.mem_of_getElem? (i := 0) rfl)) (of10_0 _) (ce10 T ad _ _) rfl (st := []) rfl (Nat.le_of_ble_eq_true rfl) ⟨Nat.le_refl 0, Nat.le_refl 0⟩ dX12_parseStep_222 (ppw ?_)
  refine fw_if_ne C dX12_parseStep_225 (tgt := 230) rfl (fun c52 => ?_) (fun c52 => ?_)
  · have h := ite_f c52 h
    refine fw_aload_n C dX12_parseStep_230 rfl 0 rfl ?_
    refine fw_get C (ci := 10) (Cn := RX12) (Tc := TX12) (N := 19) (j := 0) ly_X12_parseStep_12 rfl (hG _ (List.mem_of_getElem? (i := 0) rfl)) (of10_0 _) (ce10 T ad _ _) (by decide) (cx_ts C _ fl_X12_parseStep_13) (fun _ h => h) (v := .ref (ad 10 0 1)) rfl dX12_parseStep_231 ?_
    refine fw_bipush C dX12_parseStep_234 (v := 13) rfl ?_
    refine fw_dup2 C dX12_parseStep_236 rfl rfl ?_
    obtain ⟨b53, h⟩ := gd_some h
    refine fw_iald2 C (hG _ (List.mem_of_getElem? (i := 0) rfl)) (of10_1 _) (ca10_1 T ad _ _) b53 (Nat.le_of_ble_eq_true rfl) dX12_parseStep_237 ?_
    refine fw_iconst C dX12_parseStep_238 (v := 1) rfl ?_
    refine fw_iadd C dX12_parseStep_239 ?_
    obtain ⟨Y54, e55, h⟩ := lt_some h
    refine fw_iast2 C (hG _ (List.mem_of_getElem? (i := 0) rfl)) (of10_1 _) (ca10_1 T ad _) b53 (Nat.le_of_ble_eq_true rfl) dX12_parseStep_240 ?_
    refine fw_mem e55 ?_
    refine fw_iconst C dX12_parseStep_241 (v := 1) rfl ?_
    exact fw_zret C hrt (by decide) Y54 (Option.some.inj h) (fun t ht => ht) dX12_parseStep_242
  · have h := ite_t c52 h
    refine fw_iconst C dX12_parseStep_228 (v := 0) rfl ?_
    exact fw_zret C hrt (by decide) Y51 (Option.some.inj h) (fun t ht => ht) dX12_parseStep_229
set_option maxRecDepth 100000 in
set_option maxHeartbeats 4000000 in
theorem w_X12_parseStep_b203  (C : Cx p s m [.ref (ad 10 0 0)].toArray meth c cX12_parseStep 3 wsX12_parseStep RX12 N0 T D gr ad) (hrt : meth.sig.returnType = (some .boolean)) (hG : ∀ q ∈ [(10, 0)], q ∈ gr) {res : Int32 × Mem} : ∀ (n : Nat) (Y : Mem) (l1 : Int32), X12_parseStep_b203   n Y l1 = some res → FW p l e (Rm 7) s m [.ref (ad 10 0 0)].toArray below meth c 3 N0 T D gr ad 0 0 (MQ below (va_Qi (fun r Y1 => (r, Y1) = res) (WB T D gr ad) (fun q => N0 ≤ q)) [.ref (ad 10 0 0)].toArray s 0 0 (fun q => N0 ≤ q)) Y 203 [(1, .int l1), (0, .ref (ad 10 0 0))] [] := by
  intro n
  induction n with
  | zero =>
    intro Y l1 h
    unfold X12_parseStep_b203 at h
    cases h
  | succ n ih =>
    intro Y l1 h
    unfold X12_parseStep_b203 at h
    refine fw_aload_n C dX12_parseStep_203 rfl 1 rfl ?_
    refine fw_get C (ci := 10) (Cn := RX12) (Tc := TX12) (N := 19) (j := 15) ly_X12_parseStep_12 rfl (hG _ (List.mem_of_getElem? (i := 0) rfl)) (of10_0 _) (ce10 T ad _ _) (by decide) (cx_ts C _ fl_X12_parseStep_57) (fun _ h => h) (v := .int (Y 10 0 0 15)) rfl dX12_parseStep_204 ?_
    refine fw_iconst C dX12_parseStep_207 (v := 1) rfl ?_
    refine fw_icmp_ne C dX12_parseStep_208 (tgt := 221) rfl (fun c60 => ?_) (fun c60 => ?_)
    · have h := ite_f c60 h
      refine fw_sub [1] (L' := [(0, .ref (ad 10 0 0))]) rfl ?_
      exact w_X12_parseStep_b221 C hrt hG   _ h
    · have h := ite_t c60 h
      refine fw_aload_n C dX12_parseStep_211 rfl 1 rfl ?_
      refine fw_iload_n C dX12_parseStep_212 rfl 0 rfl ?_
      obtain ⟨r61, Y63, q62, h⟩ := bd2_some h
      refine fw_callVi C (ci := 10) (Cn := RX12) (Tc := TX12) (N := 19) (As := [.int l1]) (c_X12_parsePredecessor (gac (hG _ (List.mem_of_getElem? (i := 0) rfl)) ga0) q62) (cwV 1 (cx_ts C) gX12_parseStep_X12_parsePredecessor rfl rfl rfl (by decide +kernel) ⟨Nat.le_of_ble_eq_true rfl, Nat.le_of_ble_eq_true rfl⟩) rfl (hG _ (List.mem_of_getElem? (i := 0) rfl)) (of10_0 _) (ce10 T ad _ _) rfl (st := []) rfl (Nat.le_of_ble_eq_true rfl) ⟨Nat.le_refl 0, Nat.le_refl 0⟩ dX12_parseStep_213 (ppw ?_)
      refine fw_if_ne C dX12_parseStep_216 (tgt := 203) rfl (fun c64 => ?_) (fun c64 => ?_)
      · have h := ite_f c64 h
        exact ih _ _ h
      · have h := ite_t c64 h
        refine fw_iconst C dX12_parseStep_219 (v := 0) rfl ?_
        exact fw_zret C hrt (by decide) Y63 (Option.some.inj h) (fun t ht => ht) dX12_parseStep_220
set_option maxRecDepth 100000 in
set_option maxHeartbeats 4000000 in
theorem w_X12_parseStep_b183  (C : Cx p s m [.ref (ad 10 0 0)].toArray meth c cX12_parseStep 3 wsX12_parseStep RX12 N0 T D gr ad) (hrt : meth.sig.returnType = (some .boolean)) (hG : ∀ q ∈ [(10, 0)], q ∈ gr) {res : Int32 × Mem} (Y : Mem) (l1 : Int32) (s0 : Int32) (s1 : Int32) (h : X12_parseStep_b183   Y l1 s0 s1 = some res) : FW p l e (Rm 7) s m [.ref (ad 10 0 0)].toArray below meth c 3 N0 T D gr ad 0 0 (MQ below (va_Qi (fun r Y1 => (r, Y1) = res) (WB T D gr ad) (fun q => N0 ≤ q)) [.ref (ad 10 0 0)].toArray s 0 0 (fun q => N0 ≤ q)) Y 183 [(1, .int l1), (0, .ref (ad 10 0 0))] [.int s0, .int s1, .ref (ad 10 0 1)] := by
  unfold X12_parseStep_b183 at h
  obtain ⟨b42, h⟩ := gd_some h
  obtain ⟨Y43, e44, h⟩ := lt_some h
  refine fw_iast2 C (hG _ (List.mem_of_getElem? (i := 0) rfl)) (of10_1 _) (ca10_1 T ad _) b42 (Nat.le_of_ble_eq_true rfl) dX12_parseStep_183 ?_
  refine fw_mem e44 ?_
  refine fw_aload_n C dX12_parseStep_184 rfl 1 rfl ?_
  refine fw_ldcS C (sr_37 (cx_st C)) dX12_parseStep_185 ?_
  obtain ⟨r45, Y47, q46, h⟩ := bd2_some h
  refine fw_callVi C (ci := 10) (Cn := RX12) (Tc := TX12) (N := 19) (As := [.ref (ad 21 7 0)]) (c_X12_takes (gac (hG _ (List.mem_of_getElem? (i := 0) rfl)) ga0) q46) (cwV 1 (cx_ts C) gX12_parseStep_X12_takes rfl rfl rfl (by decide +kernel) ⟨Nat.le_of_ble_eq_true rfl, Nat.le_of_ble_eq_true rfl⟩) rfl (hG _ (List.mem_of_getElem? (i := 0) rfl)) (of10_0 _) (ce10 T ad _ _) rfl (st := []) rfl (Nat.le_of_ble_eq_true rfl) ⟨Nat.le_refl 0, Nat.le_refl 0⟩ dX12_parseStep_187 (ppw ?_)
  refine fw_if_eq C dX12_parseStep_190 (tgt := 221) rfl (fun c48 => ?_) (fun c48 => ?_)
  · have h := ite_t c48 h
    refine fw_sub [1] (L' := [(0, .ref (ad 10 0 0))]) rfl ?_
    exact w_X12_parseStep_b221 C hrt hG   _ h
  · have h := ite_f c48 h
    refine fw_aload_n C dX12_parseStep_193 rfl 1 rfl ?_
    refine fw_iload_n C dX12_parseStep_194 rfl 0 rfl ?_
    obtain ⟨r56, Y58, q57, h⟩ := bd2_some h
    refine fw_callVi C (ci := 10) (Cn := RX12) (Tc := TX12) (N := 19) (As := [.int l1]) (c_X12_parsePredecessor (gac (hG _ (List.mem_of_getElem? (i := 0) rfl)) ga0) q57) (cwV 1 (cx_ts C) gX12_parseStep_X12_parsePredecessor rfl rfl rfl (by decide +kernel) ⟨Nat.le_of_ble_eq_true rfl, Nat.le_of_ble_eq_true rfl⟩) rfl (hG _ (List.mem_of_getElem? (i := 0) rfl)) (of10_0 _) (ce10 T ad _ _) rfl (st := []) rfl (Nat.le_of_ble_eq_true rfl) ⟨Nat.le_refl 0, Nat.le_refl 0⟩ dX12_parseStep_195 (ppw ?_)
    refine fw_if_ne C dX12_parseStep_198 (tgt := 203) rfl (fun c59 => ?_) (fun c59 => ?_)
    · have h := ite_f c59 h
      exact w_X12_parseStep_b203 C hrt hG   _ _ _ h
    · have h := ite_t c59 h
      refine fw_iconst C dX12_parseStep_201 (v := 0) rfl ?_
      exact fw_zret C hrt (by decide) Y58 (Option.some.inj h) (fun t ht => ht) dX12_parseStep_202
set_option maxRecDepth 100000 in
set_option maxHeartbeats 4000000 in
theorem w_X12_parseStep_b160  (C : Cx p s m [.ref (ad 10 0 0)].toArray meth c cX12_parseStep 3 wsX12_parseStep RX12 N0 T D gr ad) (hrt : meth.sig.returnType = (some .boolean)) (hG : ∀ q ∈ [(10, 0)], q ∈ gr) {res : Int32 × Mem} (Y : Mem) (l1 : Int32) (s0 : Int32) (s1 : Int32) (h : X12_parseStep_b160   Y l1 s0 s1 = some res) : FW p l e (Rm 7) s m [.ref (ad 10 0 0)].toArray below meth c 3 N0 T D gr ad 0 0 (MQ below (va_Qi (fun r Y1 => (r, Y1) = res) (WB T D gr ad) (fun q => N0 ≤ q)) [.ref (ad 10 0 0)].toArray s 0 0 (fun q => N0 ≤ q)) Y 160 [(1, .int l1), (0, .ref (ad 10 0 0))] [.int s0, .int s1, .ref (ad 10 0 1)] := by
  unfold X12_parseStep_b160 at h
  obtain ⟨b35, h⟩ := gd_some h
  obtain ⟨Y36, e37, h⟩ := lt_some h
  refine fw_iast2 C (hG _ (List.mem_of_getElem? (i := 0) rfl)) (of10_1 _) (ca10_1 T ad _) b35 (Nat.le_of_ble_eq_true rfl) dX12_parseStep_160 ?_
  refine fw_mem e37 ?_
  refine fw_aload_n C dX12_parseStep_161 rfl 1 rfl ?_
  refine fw_get C (ci := 10) (Cn := RX12) (Tc := TX12) (N := 19) (j := 0) ly_X12_parseStep_12 rfl (hG _ (List.mem_of_getElem? (i := 0) rfl)) (of10_0 _) (ce10 T ad _ _) (by decide) (cx_ts C _ fl_X12_parseStep_13) (fun _ h => h) (v := .ref (ad 10 0 1)) rfl dX12_parseStep_162 ?_
  refine fw_iload_n C dX12_parseStep_165 rfl 0 rfl ?_
  refine fw_bipush C dX12_parseStep_166 (v := 11) rfl ?_
  refine fw_iadd C dX12_parseStep_168 ?_
  refine fw_aload_n C dX12_parseStep_169 rfl 1 rfl ?_
  refine fw_ldcS C (sr_36 (cx_st C)) dX12_parseStep_170 ?_
  obtain ⟨r38, Y40, q39, h⟩ := bd2_some h
  refine fw_callVi C (ci := 10) (Cn := RX12) (Tc := TX12) (N := 19) (As := [.ref (ad 21 6 0)]) (c_X12_takes (gac (hG _ (List.mem_of_getElem? (i := 0) rfl)) ga0) q39) (cwV 1 (cx_ts C) gX12_parseStep_X12_takes rfl rfl rfl (by decide +kernel) ⟨Nat.le_of_ble_eq_true rfl, Nat.le_of_ble_eq_true rfl⟩) rfl (hG _ (List.mem_of_getElem? (i := 0) rfl)) (of10_0 _) (ce10 T ad _ _) rfl (st := [.int (l1 + 11), .ref (ad 10 0 1)]) rfl (Nat.le_of_ble_eq_true rfl) ⟨Nat.le_refl 0, Nat.le_refl 0⟩ dX12_parseStep_172 (ppw ?_)
  refine fw_if_eq C dX12_parseStep_175 (tgt := 182) rfl (fun c41 => ?_) (fun c41 => ?_)
  · have h := ite_t c41 h
    refine fw_iconst C dX12_parseStep_182 (v := 0) rfl ?_
    exact w_X12_parseStep_b183 C hrt hG   _ _ _ _ h
  · have h := ite_f c41 h
    refine fw_iconst C dX12_parseStep_178 (v := 1) rfl ?_
    refine fw_goto C dX12_parseStep_179 (tgt := 183) rfl ?_
    exact w_X12_parseStep_b183 C hrt hG   _ _ _ _ h
set_option maxRecDepth 100000 in
set_option maxHeartbeats 4000000 in
theorem w_X12_parseStep_b74  (C : Cx p s m [.ref (ad 10 0 0)].toArray meth c cX12_parseStep 3 wsX12_parseStep RX12 N0 T D gr ad) (hrt : meth.sig.returnType = (some .boolean)) (hG : ∀ q ∈ [(10, 0)], q ∈ gr) {res : Int32 × Mem} : ∀ (n : Nat) (Y : Mem) (l2 : Int32) (l1 : Int32), X12_parseStep_b74   n Y l2 l1 = some res → FW p l e (Rm 7) s m [.ref (ad 10 0 0)].toArray below meth c 3 N0 T D gr ad 0 0 (MQ below (va_Qi (fun r Y1 => (r, Y1) = res) (WB T D gr ad) (fun q => N0 ≤ q)) [.ref (ad 10 0 0)].toArray s 0 0 (fun q => N0 ≤ q)) Y 74 [(2, .int l2), (1, .int l1), (0, .ref (ad 10 0 0))] [] := by
  intro n
  induction n with
  | zero =>
    intro Y l2 l1 h
    unfold X12_parseStep_b74 at h
    cases h
  | succ n ih =>
    intro Y l2 l1 h
    unfold X12_parseStep_b74 at h
    refine fw_iload_n C dX12_parseStep_74 rfl 0 rfl ?_
    refine fw_bipush C dX12_parseStep_75 (v := 24) rfl ?_
    refine fw_icmp_ge C dX12_parseStep_77 (tgt := 95) rfl (fun c15 => ?_) (fun c15 => ?_)
    · have h := ite_t c15 h
      refine fw_aload_n C dX12_parseStep_95 rfl 2 rfl ?_
      refine fw_iload_n C dX12_parseStep_96 rfl 1 rfl ?_
      obtain ⟨Y18, q17, h⟩ := bd1_some h
      refine fw_callVv C (ci := 10) (Cn := RX12) (Tc := TX12) (N := 19) (As := [.int l1]) (c_X12_putName (gac (hG _ (List.mem_of_getElem? (i := 0) rfl)) ga0) q17) (cwV 1 (cx_ts C) gX12_parseStep_X12_putName rfl rfl rfl (by decide +kernel) ⟨Nat.le_of_ble_eq_true rfl, Nat.le_of_ble_eq_true rfl⟩) rfl (hG _ (List.mem_of_getElem? (i := 0) rfl)) (of10_0 _) (ce10 T ad _ _) rfl (st := []) rfl (Nat.le_of_ble_eq_true rfl) ⟨Nat.le_refl 0, Nat.le_refl 0⟩ dX12_parseStep_97 (ppv ?_)
      refine fw_aload_n C dX12_parseStep_100 rfl 2 rfl ?_
      refine fw_iload_n C dX12_parseStep_101 rfl 1 rfl ?_
      refine fw_bipush C dX12_parseStep_102 (v := 7) rfl ?_
      refine fw_iadd C dX12_parseStep_104 ?_
      refine fw_iconst C dX12_parseStep_105 (v := 1) rfl ?_
      refine fw_bipush C dX12_parseStep_106 (v := 60) rfl ?_
      obtain ⟨r19, Y21, q20, h⟩ := bd2_some h
      refine fw_callVi C (ci := 10) (Cn := RX12) (Tc := TX12) (N := 19) (As := [.int (l1 + 7), .int 1, .int 60]) (c_X12_parseRanged (gac (hG _ (List.mem_of_getElem? (i := 0) rfl)) ga0) q20) (cwV 3 (cx_ts C) gX12_parseStep_X12_parseRanged rfl rfl rfl (by decide +kernel) ⟨Nat.le_of_ble_eq_true rfl, Nat.le_of_ble_eq_true rfl⟩) rfl (hG _ (List.mem_of_getElem? (i := 0) rfl)) (of10_0 _) (ce10 T ad _ _) rfl (st := []) rfl (Nat.le_of_ble_eq_true rfl) ⟨Nat.le_refl 0, Nat.le_refl 0⟩ dX12_parseStep_108 (ppw ?_)
      refine fw_if_eq C dX12_parseStep_111 (tgt := 136) rfl (fun c22 => ?_) (fun c22 => ?_)
      · have h := ite_t c22 h
        refine fw_iconst C dX12_parseStep_136 (v := 0) rfl ?_
        exact fw_zret C hrt (by decide) Y21 (Option.some.inj h) (fun t ht => ht) dX12_parseStep_137
      · have h := ite_f c22 h
        refine fw_aload_n C dX12_parseStep_114 rfl 2 rfl ?_
        refine fw_iload_n C dX12_parseStep_115 rfl 1 rfl ?_
        refine fw_bipush C dX12_parseStep_116 (v := 8) rfl ?_
        refine fw_iadd C dX12_parseStep_118 ?_
        refine fw_iconst C dX12_parseStep_119 (v := 0) rfl ?_
        refine fw_bipush C dX12_parseStep_120 (v := 9) rfl ?_
        obtain ⟨r23, Y25, q24, h⟩ := bd2_some h
        refine fw_callVi C (ci := 10) (Cn := RX12) (Tc := TX12) (N := 19) (As := [.int (l1 + 8), .int 0, .int 9]) (c_X12_parseRanged (gac (hG _ (List.mem_of_getElem? (i := 0) rfl)) ga0) q24) (cwV 3 (cx_ts C) gX12_parseStep_X12_parseRanged rfl rfl rfl (by decide +kernel) ⟨Nat.le_of_ble_eq_true rfl, Nat.le_of_ble_eq_true rfl⟩) rfl (hG _ (List.mem_of_getElem? (i := 0) rfl)) (of10_0 _) (ce10 T ad _ _) rfl (st := []) rfl (Nat.le_of_ble_eq_true rfl) ⟨Nat.le_refl 0, Nat.le_refl 0⟩ dX12_parseStep_122 (ppw ?_)
        refine fw_if_eq C dX12_parseStep_125 (tgt := 136) rfl (fun c26 => ?_) (fun c26 => ?_)
        · have h := ite_t c26 h
          refine fw_iconst C dX12_parseStep_136 (v := 0) rfl ?_
          exact fw_zret C hrt (by decide) Y25 (Option.some.inj h) (fun t ht => ht) dX12_parseStep_137
        · have h := ite_f c26 h
          refine fw_aload_n C dX12_parseStep_128 rfl 2 rfl ?_
          refine fw_iload_n C dX12_parseStep_129 rfl 1 rfl ?_
          obtain ⟨r27, Y29, q28, h⟩ := bd2_some h
          refine fw_callVi C (ci := 10) (Cn := RX12) (Tc := TX12) (N := 19) (As := [.int l1]) (c_X12_parsePanType (gac (hG _ (List.mem_of_getElem? (i := 0) rfl)) ga0) q28) (cwV 1 (cx_ts C) gX12_parseStep_X12_parsePanType rfl rfl rfl (by decide +kernel) ⟨Nat.le_of_ble_eq_true rfl, Nat.le_of_ble_eq_true rfl⟩) rfl (hG _ (List.mem_of_getElem? (i := 0) rfl)) (of10_0 _) (ce10 T ad _ _) rfl (st := []) rfl (Nat.le_of_ble_eq_true rfl) ⟨Nat.le_refl 0, Nat.le_refl 0⟩ dX12_parseStep_130 (ppw ?_)
          refine fw_if_ne C dX12_parseStep_133 (tgt := 138) rfl (fun c30 => ?_) (fun c30 => ?_)
          · have h := ite_f c30 h
            refine fw_aload_n C dX12_parseStep_138 rfl 2 rfl ?_
            refine fw_get C (ci := 10) (Cn := RX12) (Tc := TX12) (N := 19) (j := 0) ly_X12_parseStep_12 rfl (hG _ (List.mem_of_getElem? (i := 0) rfl)) (of10_0 _) (ce10 T ad _ _) (by decide) (cx_ts C _ fl_X12_parseStep_13) (fun _ h => h) (v := .ref (ad 10 0 1)) rfl dX12_parseStep_139 ?_
            refine fw_iload_n C dX12_parseStep_142 rfl 1 rfl ?_
            refine fw_bipush C dX12_parseStep_143 (v := 10) rfl ?_
            refine fw_iadd C dX12_parseStep_145 ?_
            refine fw_aload_n C dX12_parseStep_146 rfl 2 rfl ?_
            refine fw_ldcS C (sr_35 (cx_st C)) dX12_parseStep_147 ?_
            obtain ⟨r31, Y33, q32, h⟩ := bd2_some h
            refine fw_callVi C (ci := 10) (Cn := RX12) (Tc := TX12) (N := 19) (As := [.ref (ad 21 5 0)]) (c_X12_takes (gac (hG _ (List.mem_of_getElem? (i := 0) rfl)) ga0) q32) (cwV 1 (cx_ts C) gX12_parseStep_X12_takes rfl rfl rfl (by decide +kernel) ⟨Nat.le_of_ble_eq_true rfl, Nat.le_of_ble_eq_true rfl⟩) rfl (hG _ (List.mem_of_getElem? (i := 0) rfl)) (of10_0 _) (ce10 T ad _ _) rfl (st := [.int (l1 + 10), .ref (ad 10 0 1)]) rfl (Nat.le_of_ble_eq_true rfl) ⟨Nat.le_refl 0, Nat.le_refl 0⟩ dX12_parseStep_149 (ppw ?_)
            refine fw_if_eq C dX12_parseStep_152 (tgt := 159) rfl (fun c34 => ?_) (fun c34 => ?_)
            · have h := ite_t c34 h
              refine fw_iconst C dX12_parseStep_159 (v := 0) rfl ?_
              refine fw_sub [1, 2] (L' := [(1, .int l1), (0, .ref (ad 10 0 0))]) rfl ?_
              exact w_X12_parseStep_b160 C hrt hG   _ _ _ _ h
            · have h := ite_f c34 h
              refine fw_iconst C dX12_parseStep_155 (v := 1) rfl ?_
              refine fw_goto C dX12_parseStep_156 (tgt := 160) rfl ?_
              refine fw_sub [1, 2] (L' := [(1, .int l1), (0, .ref (ad 10 0 0))]) rfl ?_
              exact w_X12_parseStep_b160 C hrt hG   _ _ _ _ h
          · have h := ite_t c30 h
            refine fw_iconst C dX12_parseStep_136 (v := 0) rfl ?_
            exact fw_zret C hrt (by decide) Y29 (Option.some.inj h) (fun t ht => ht) dX12_parseStep_137
    · have h := ite_f c15 h
      refine fw_aload_n C dX12_parseStep_80 rfl 2 rfl ?_
      refine fw_get C (ci := 10) (Cn := RX12) (Tc := TX12) (N := 19) (j := 0) ly_X12_parseStep_12 rfl (hG _ (List.mem_of_getElem? (i := 0) rfl)) (of10_0 _) (ce10 T ad _ _) (by decide) (cx_ts C _ fl_X12_parseStep_13) (fun _ h => h) (v := .ref (ad 10 0 1)) rfl dX12_parseStep_81 ?_
      refine fw_iload_n C dX12_parseStep_84 rfl 1 rfl ?_
      refine fw_iload_n C dX12_parseStep_85 rfl 0 rfl ?_
      refine fw_iadd C dX12_parseStep_86 ?_
      refine fw_iconst C dX12_parseStep_87 (v := 0) rfl ?_
      obtain ⟨b65, h⟩ := gd_some h
      obtain ⟨Y66, e67, h⟩ := lt_some h
      refine fw_iast2 C (hG _ (List.mem_of_getElem? (i := 0) rfl)) (of10_1 _) (ca10_1 T ad _) b65 (Nat.le_of_ble_eq_true rfl) dX12_parseStep_88 ?_
      refine fw_mem e67 ?_
      refine fw_iinc C dX12_parseStep_89 (kk := 0) (v := l2 + 1) rfl rfl (by decide) (L' := [(2, .int (l2 + 1)), (1, .int l1), (0, .ref (ad 10 0 0))]) rfl ?_
      refine fw_goto C dX12_parseStep_92 (tgt := 74) rfl ?_
      exact ih _ _ _ h
set_option maxRecDepth 100000 in
set_option maxHeartbeats 4000000 in
theorem w_X12_parseStep {Y : Mem} (C : Cx p s m [.ref (ad 10 0 0)].toArray meth c cX12_parseStep 3 wsX12_parseStep RX12 N0 T D gr ad) (hrt : meth.sig.returnType = (some .boolean)) (hG : ∀ q ∈ [(10, 0)], q ∈ gr) {res : Int32 × Mem} (h : X12_parseStep Y = some res) : FW p l e (Rm 7) s m [.ref (ad 10 0 0)].toArray below meth c 3 N0 T D gr ad 0 0 (MQ below (va_Qi (fun r Y1 => (r, Y1) = res) (WB T D gr ad) (fun q => N0 ≤ q)) [.ref (ad 10 0 0)].toArray s 0 0 (fun q => N0 ≤ q)) Y 0 [(0, .ref (ad 10 0 0))] [] := by
  unfold X12_parseStep at h
  refine fw_aload_n C dX12_parseStep_0 rfl 0 rfl ?_
  refine fw_get C (ci := 10) (Cn := RX12) (Tc := TX12) (N := 19) (j := 0) ly_X12_parseStep_12 rfl (hG _ (List.mem_of_getElem? (i := 0) rfl)) (of10_0 _) (ce10 T ad _ _) (by decide) (cx_ts C _ fl_X12_parseStep_13) (fun _ h => h) (v := .ref (ad 10 0 1)) rfl dX12_parseStep_1 ?_
  refine fw_bipush C dX12_parseStep_4 (v := 13) rfl ?_
  obtain ⟨b1, h⟩ := gd_some h
  refine fw_iald2 C (hG _ (List.mem_of_getElem? (i := 0) rfl)) (of10_1 _) (ca10_1 T ad _ _) b1 (Nat.le_of_ble_eq_true rfl) dX12_parseStep_6 ?_
  refine fw_bipush C dX12_parseStep_7 (v := 14) rfl ?_
  refine fw_icmp_ne C dX12_parseStep_9 (tgt := 18) rfl (fun c2 => ?_) (fun c2 => ?_)
  · have h := ite_f c2 h
    refine fw_aload_n C dX12_parseStep_18 rfl 0 rfl ?_
    obtain ⟨Y5, q4, h⟩ := bd1_some h
    refine fw_callVv C (ci := 10) (Cn := RX12) (Tc := TX12) (N := 19) (As := []) (c_X12_token (gac (hG _ (List.mem_of_getElem? (i := 0) rfl)) ga0) q4) (cwV 0 (cx_ts C) gX12_parseStep_X12_token rfl rfl rfl (by decide +kernel) ⟨Nat.le_of_ble_eq_true rfl, Nat.le_of_ble_eq_true rfl⟩) rfl (hG _ (List.mem_of_getElem? (i := 0) rfl)) (of10_0 _) (ce10 T ad _ _) rfl (st := []) rfl (Nat.le_of_ble_eq_true rfl) ⟨Nat.le_refl 0, Nat.le_refl 0⟩ dX12_parseStep_19 (ppv ?_)
    refine fw_aload_n C dX12_parseStep_22 rfl 0 rfl ?_
    obtain ⟨r6, Y8, q7, h⟩ := bd2_some h
    refine fw_callVi C (ci := 10) (Cn := RX12) (Tc := TX12) (N := 19) (As := []) (c_X12_isShortWord (gac (hG _ (List.mem_of_getElem? (i := 0) rfl)) ga0) q7) (cwV 0 (cx_ts C) gX12_parseStep_X12_isShortWord rfl rfl rfl (by decide +kernel) ⟨Nat.le_of_ble_eq_true rfl, Nat.le_of_ble_eq_true rfl⟩) rfl (hG _ (List.mem_of_getElem? (i := 0) rfl)) (of10_0 _) (ce10 T ad _ _) rfl (st := []) rfl (Nat.le_of_ble_eq_true rfl) ⟨Nat.le_refl 0, Nat.le_refl 0⟩ dX12_parseStep_23 (ppw ?_)
    refine fw_if_ne C dX12_parseStep_26 (tgt := 31) rfl (fun c9 => ?_) (fun c9 => ?_)
    · have h := ite_f c9 h
      refine fw_aload_n C dX12_parseStep_31 rfl 0 rfl ?_
      refine fw_aload_n C dX12_parseStep_32 rfl 0 rfl ?_
      refine fw_get C (ci := 10) (Cn := RX12) (Tc := TX12) (N := 19) (j := 16) ly_X12_parseStep_12 rfl (hG _ (List.mem_of_getElem? (i := 0) rfl)) (of10_0 _) (ce10 T ad _ _) (by decide) (cx_ts C _ fl_X12_parseStep_60) (fun _ h => h) (v := .int (Y8 10 0 0 16)) rfl dX12_parseStep_33 ?_
      refine fw_aload_n C dX12_parseStep_36 rfl 0 rfl ?_
      refine fw_get C (ci := 10) (Cn := RX12) (Tc := TX12) (N := 19) (j := 14) ly_X12_parseStep_12 rfl (hG _ (List.mem_of_getElem? (i := 0) rfl)) (of10_0 _) (ce10 T ad _ _) (by decide) (cx_ts C _ fl_X12_parseStep_54) (fun _ h => h) (v := .int (Y8 10 0 0 14)) rfl dX12_parseStep_37 ?_
      refine fw_aload_n C dX12_parseStep_40 rfl 0 rfl ?_
      refine fw_get C (ci := 10) (Cn := RX12) (Tc := TX12) (N := 19) (j := 16) ly_X12_parseStep_12 rfl (hG _ (List.mem_of_getElem? (i := 0) rfl)) (of10_0 _) (ce10 T ad _ _) (by decide) (cx_ts C _ fl_X12_parseStep_60) (fun _ h => h) (v := .int (Y8 10 0 0 16)) rfl dX12_parseStep_41 ?_
      refine fw_isub C dX12_parseStep_44 ?_
      obtain ⟨r10, q11, h⟩ := bd1_some h
      refine fw_callVi C (ci := 10) (Cn := RX12) (Tc := TX12) (N := 19) (As := [.int (Y8 10 0 0 16), .int ((Y8 10 0 0 14) - (Y8 10 0 0 16))]) (c_X12_stepNamed (gac (hG _ (List.mem_of_getElem? (i := 0) rfl)) ga0) q11) (cwV 2 (cx_ts C) gX12_parseStep_X12_stepNamed rfl rfl rfl (by decide +kernel) ⟨Nat.le_of_ble_eq_true rfl, Nat.le_of_ble_eq_true rfl⟩) rfl (hG _ (List.mem_of_getElem? (i := 0) rfl)) (of10_0 _) (ce10 T ad _ _) rfl (st := []) rfl (Nat.le_of_ble_eq_true rfl) ⟨Nat.le_refl 0, Nat.le_refl 0⟩ dX12_parseStep_45 (pp2 ?_)
      refine fw_iconst C dX12_parseStep_48 (v := (-1)) rfl ?_
      refine fw_icmp_eq C dX12_parseStep_49 (tgt := 58) rfl (fun c12 => ?_) (fun c12 => ?_)
      · have h := ite_t c12 h
        refine fw_bipush C dX12_parseStep_58 (v := 46) rfl ?_
        refine fw_aload_n C dX12_parseStep_60 rfl 0 rfl ?_
        refine fw_get C (ci := 10) (Cn := RX12) (Tc := TX12) (N := 19) (j := 0) ly_X12_parseStep_12 rfl (hG _ (List.mem_of_getElem? (i := 0) rfl)) (of10_0 _) (ce10 T ad _ _) (by decide) (cx_ts C _ fl_X12_parseStep_13) (fun _ h => h) (v := .ref (ad 10 0 1)) rfl dX12_parseStep_61 ?_
        refine fw_bipush C dX12_parseStep_64 (v := 13) rfl ?_
        refine fw_iald2 C (hG _ (List.mem_of_getElem? (i := 0) rfl)) (of10_1 _) (ca10_1 T ad _ _) b1 (Nat.le_of_ble_eq_true rfl) dX12_parseStep_66 ?_
        refine fw_bipush C dX12_parseStep_67 (v := 24) rfl ?_
        refine fw_imul C dX12_parseStep_69 ?_
        refine fw_iadd C dX12_parseStep_70 ?_
        obtain ⟨v13, e14, h⟩ := lt_some h
        refine fw_top (v' := .int v13) (by rw [e14]) ?_
        refine fw_istore_n C dX12_parseStep_71 rfl (by decide) (L' := [(1, .int v13), (0, .ref (ad 10 0 0))]) rfl ?_
        refine fw_iconst C dX12_parseStep_72 (v := 0) rfl ?_
        refine fw_istore_n C dX12_parseStep_73 rfl (by decide) (L' := [(2, .int 0), (1, .int v13), (0, .ref (ad 10 0 0))]) rfl ?_
        exact w_X12_parseStep_b74 C hrt hG   _ _ _ _ h
      · have h := ite_f c12 h
        refine fw_aload_n C dX12_parseStep_52 rfl 0 rfl ?_
        refine fw_iconst C dX12_parseStep_53 (v := 3) rfl ?_
        obtain ⟨r68, Y70, q69, h⟩ := bd2_some h
        refine fw_callVi C (ci := 10) (Cn := RX12) (Tc := TX12) (N := 19) (As := [.int 3]) (c_X12_wrong (gac (hG _ (List.mem_of_getElem? (i := 0) rfl)) ga0) q69) (cwV 1 (cx_ts C) gX12_parseStep_X12_wrong rfl rfl rfl (by decide +kernel) ⟨Nat.le_of_ble_eq_true rfl, Nat.le_of_ble_eq_true rfl⟩) rfl (hG _ (List.mem_of_getElem? (i := 0) rfl)) (of10_0 _) (ce10 T ad _ _) rfl (st := []) rfl (Nat.le_of_ble_eq_true rfl) ⟨Nat.le_refl 0, Nat.le_refl 0⟩ dX12_parseStep_54 (ppw ?_)
        obtain ⟨b71, h⟩ := gd_some h
        exact fw_zret C hrt (of_decide_eq_true b71) Y70 (Option.some.inj h) (fun t ht => ht) dX12_parseStep_57
    · have h := ite_t c9 h
      refine fw_iconst C dX12_parseStep_29 (v := 0) rfl ?_
      exact fw_zret C hrt (by decide) Y8 (Option.some.inj h) (fun t ht => ht) dX12_parseStep_30
  · have h := ite_t c2 h
    refine fw_aload_n C dX12_parseStep_12 rfl 0 rfl ?_
    refine fw_iconst C dX12_parseStep_13 (v := 5) rfl ?_
    obtain ⟨r72, Y74, q73, h⟩ := bd2_some h
    refine fw_callVi C (ci := 10) (Cn := RX12) (Tc := TX12) (N := 19) (As := [.int 5]) (c_X12_wrong (gac (hG _ (List.mem_of_getElem? (i := 0) rfl)) ga0) q73) (cwV 1 (cx_ts C) gX12_parseStep_X12_wrong rfl rfl rfl (by decide +kernel) ⟨Nat.le_of_ble_eq_true rfl, Nat.le_of_ble_eq_true rfl⟩) rfl (hG _ (List.mem_of_getElem? (i := 0) rfl)) (of10_0 _) (ce10 T ad _ _) rfl (st := []) rfl (Nat.le_of_ble_eq_true rfl) ⟨Nat.le_refl 0, Nat.le_refl 0⟩ dX12_parseStep_14 (ppw ?_)
    obtain ⟨b75, h⟩ := gd_some h
    exact fw_zret C hrt (of_decide_eq_true b75) Y74 (Option.some.inj h) (fun t ht => ht) dX12_parseStep_17
end
set_option maxRecDepth 100000 in
set_option maxHeartbeats 4000000 in
theorem c_X12_parseStep {l : Launch} {N0 : Nat} {T : Nat → ClassId} {D : va_G} {gr : List (Nat × Nat)} {ad : Nat → Nat → Nat → Nat} {Y : Mem} {res : Int32 × Mem} (hG : ∀ q ∈ [(10, 0)], q ∈ gr) (h : X12_parseStep Y = some res) : CI l yX12_parseStep wsX12_parseStep (Rm 7) N0 T D gr ad Y [.ref (ad 10 0 0)] (fun r Y1 => (r, Y1) = res) :=
  fw_body (by decide +kernel) rfl (Nat.le_of_ble_eq_true rfl) (fun p e s m below meth c C hrt => w_X12_parseStep C hrt hG  h)
