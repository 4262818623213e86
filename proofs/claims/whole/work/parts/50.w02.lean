theorem ly_X12_token_12 : ∀ w ∈ u_ws RX12 TX12 19, w ∈ wsX12_token := by decide +kernel
theorem fl_X12_token_54 : Cond.fieldLink RX12 54 "RecipeSchedulerModel" "ahead" "I" ∈ wsX12_token := by decide +kernel
theorem fl_X12_token_27 : Cond.fieldLink RX12 27 "RecipeSchedulerModel" "length" "I" ∈ wsX12_token := by decide +kernel
theorem fl_X12_token_60 : Cond.fieldLink RX12 60 "RecipeSchedulerModel" "from" "I" ∈ wsX12_token := by decide +kernel
theorem fl_X12_token_24 : Cond.fieldLink RX12 24 "RecipeSchedulerModel" "buffer" "[I" ∈ wsX12_token := by decide +kernel
theorem fl_X12_token_57 : Cond.fieldLink RX12 57 "RecipeSchedulerModel" "type" "I" ∈ wsX12_token := by decide +kernel
theorem fl_X12_token_63 : Cond.fieldLink RX12 63 "RecipeSchedulerModel" "value" "I" ∈ wsX12_token := by decide +kernel
section
variable {p : Program} {l : Launch} {e : Env} {s : State} {m : MethodId} {below : List Frame} {meth : Method} {c : Code} {N0 : Nat} {T : Nat → ClassId} {D : va_G} {gr : List (Nat × Nat)} {ad : Nat → Nat → Nat → Nat}
set_option maxRecDepth 100000 in
set_option maxHeartbeats 4000000 in
theorem w_X12_token_b294  (C : Cx p s m [.ref (ad 10 0 0)].toArray meth c cX12_token 1 wsX12_token RX12 N0 T D gr ad) (hrt : meth.sig.returnType = none) (hG : ∀ q ∈ [(10, 0)], q ∈ gr) {res : Mem} (Y : Mem) (s0 : Int32) (h : X12_token_b294   Y s0 = some res) : FW p l e (Rm 1) s m [.ref (ad 10 0 0)].toArray below meth c 1 N0 T D gr ad 0 0 (MQ below (va_Qv (fun Y1 => Y1 = res) (WB T D gr ad) (fun q => N0 ≤ q)) [.ref (ad 10 0 0)].toArray s 0 0 (fun q => N0 ≤ q)) Y 294 [(0, .ref (ad 10 0 0))] [.int s0, .ref (ad 10 0 0)] := by
  unfold X12_token_b294 at h
  obtain ⟨Y13, e14, h⟩ := lt_some h
  refine fw_put C (ci := 10) (Cn := RX12) (Tc := TX12) (N := 19) (j := 15) (ty := .int) (upd (Y 10 0 0) 15 s0) ly_X12_token_12 rfl tyX12_ok nmX12 (hG _ (List.mem_of_getElem? (i := 0) rfl)) (of10_0 _) (ce10 T ad _ _) (by decide) (cx_ts C _ fl_X12_token_57) (fun _ h => h) rfl (by decide +kernel) rfl rfl (Nat.le_of_ble_eq_true rfl) (ce10_put15 T ad _ _ _) dX12_token_294 ?_
  refine fw_mem ((up_eq _ _ _ _ _ _).symm.trans e14) ?_
  refine fw_aload_n C dX12_token_297 rfl 0 rfl ?_
  refine fw_dup C dX12_token_298 rfl ?_
  refine fw_get C (ci := 10) (Cn := RX12) (Tc := TX12) (N := 19) (j := 14) ly_X12_token_12 rfl (hG _ (List.mem_of_getElem? (i := 0) rfl)) (of10_0 _) (ce10 T ad _ _) (by decide) (cx_ts C _ fl_X12_token_54) (fun _ h => h) (v := .int (Y13 10 0 0 14)) rfl dX12_token_299 ?_
  refine fw_iconst C dX12_token_302 (v := 1) rfl ?_
  refine fw_iadd C dX12_token_303 ?_
  obtain ⟨Y15, e16, h⟩ := lt_some h
  refine fw_put C (ci := 10) (Cn := RX12) (Tc := TX12) (N := 19) (j := 14) (ty := .int) (upd (Y13 10 0 0) 14 ((Y13 10 0 0 14) + 1)) ly_X12_token_12 rfl tyX12_ok nmX12 (hG _ (List.mem_of_getElem? (i := 0) rfl)) (of10_0 _) (ce10 T ad _ _) (by decide) (cx_ts C _ fl_X12_token_54) (fun _ h => h) rfl (by decide +kernel) rfl rfl (Nat.le_of_ble_eq_true rfl) (ce10_put14 T ad _ _ _) dX12_token_304 ?_
  refine fw_mem ((up_eq _ _ _ _ _ _).symm.trans e16) ?_
  exact fw_vret C hrt Y15 (Option.some.inj h) (fun t ht => ht) dX12_token_307
set_option maxRecDepth 100000 in
set_option maxHeartbeats 4000000 in
theorem w_X12_token_b270  (C : Cx p s m [.ref (ad 10 0 0)].toArray meth c cX12_token 1 wsX12_token RX12 N0 T D gr ad) (hrt : meth.sig.returnType = none) (hG : ∀ q ∈ [(10, 0)], q ∈ gr) {res : Mem} (Y : Mem) (s0 : Int32) (h : X12_token_b270   Y s0 = some res) : FW p l e (Rm 1) s m [.ref (ad 10 0 0)].toArray below meth c 1 N0 T D gr ad 0 0 (MQ below (va_Qv (fun Y1 => Y1 = res) (WB T D gr ad) (fun q => N0 ≤ q)) [.ref (ad 10 0 0)].toArray s 0 0 (fun q => N0 ≤ q)) Y 270 [] [.int s0, .ref (ad 10 0 0)] := by
  unfold X12_token_b270 at h
  obtain ⟨Y21, e22, h⟩ := lt_some h
  refine fw_put C (ci := 10) (Cn := RX12) (Tc := TX12) (N := 19) (j := 15) (ty := .int) (upd (Y 10 0 0) 15 s0) ly_X12_token_12 rfl tyX12_ok nmX12 (hG _ (List.mem_of_getElem? (i := 0) rfl)) (of10_0 _) (ce10 T ad _ _) (by decide) (cx_ts C _ fl_X12_token_57) (fun _ h => h) rfl (by decide +kernel) rfl rfl (Nat.le_of_ble_eq_true rfl) (ce10_put15 T ad _ _ _) dX12_token_270 ?_
  refine fw_mem ((up_eq _ _ _ _ _ _).symm.trans e22) ?_
  exact fw_vret C hrt Y21 (Option.some.inj h) (fun t ht => ht) dX12_token_273
set_option maxRecDepth 100000 in
set_option maxHeartbeats 4000000 in
theorem w_X12_token_b251  (C : Cx p s m [.ref (ad 10 0 0)].toArray meth c cX12_token 1 wsX12_token RX12 N0 T D gr ad) (hrt : meth.sig.returnType = none) (hG : ∀ q ∈ [(10, 0)], q ∈ gr) {res : Mem} (Y : Mem) (h : X12_token_b251   Y = some res) : FW p l e (Rm 1) s m [.ref (ad 10 0 0)].toArray below meth c 1 N0 T D gr ad 0 0 (MQ below (va_Qv (fun Y1 => Y1 = res) (WB T D gr ad) (fun q => N0 ≤ q)) [.ref (ad 10 0 0)].toArray s 0 0 (fun q => N0 ≤ q)) Y 251 [(0, .ref (ad 10 0 0))] [] := by
  unfold X12_token_b251 at h
  refine fw_aload_n C dX12_token_251 rfl 0 rfl ?_
  refine fw_aload_n C dX12_token_252 rfl 0 rfl ?_
  refine fw_get C (ci := 10) (Cn := RX12) (Tc := TX12) (N := 19) (j := 14) ly_X12_token_12 rfl (hG _ (List.mem_of_getElem? (i := 0) rfl)) (of10_0 _) (ce10 T ad _ _) (by decide) (cx_ts C _ fl_X12_token_54) (fun _ h => h) (v := .int (Y 10 0 0 14)) rfl dX12_token_253 ?_
  refine fw_aload_n C dX12_token_256 rfl 0 rfl ?_
  refine fw_get C (ci := 10) (Cn := RX12) (Tc := TX12) (N := 19) (j := 16) ly_X12_token_12 rfl (hG _ (List.mem_of_getElem? (i := 0) rfl)) (of10_0 _) (ce10 T ad _ _) (by decide) (cx_ts C _ fl_X12_token_60) (fun _ h => h) (v := .int (Y 10 0 0 16)) rfl dX12_token_257 ?_
  refine fw_isub C dX12_token_260 ?_
  refine fw_iconst C dX12_token_261 (v := 3) rfl ?_
  refine fw_icmp_le C dX12_token_262 (tgt := 269) rfl (fun c20 => ?_) (fun c20 => ?_)
  · have h := ite_t c20 h
    refine fw_iconst C dX12_token_269 (v := 2) rfl ?_
    refine fw_sub [] (L' := []) rfl ?_
    exact w_X12_token_b270 C hrt hG   _ _ h
  · have h := ite_f c20 h
    refine fw_iconst C dX12_token_265 (v := 4) rfl ?_
    refine fw_goto C dX12_token_266 (tgt := 270) rfl ?_
    refine fw_sub [] (L' := []) rfl ?_
    exact w_X12_token_b270 C hrt hG   _ _ h
set_option maxRecDepth 100000 in
set_option maxHeartbeats 4000000 in
theorem w_X12_token_b238  (C : Cx p s m [.ref (ad 10 0 0)].toArray meth c cX12_token 1 wsX12_token RX12 N0 T D gr ad) (hrt : meth.sig.returnType = none) (hG : ∀ q ∈ [(10, 0)], q ∈ gr) {res : Mem} {k175 : Mem → Option (Mem)} (hk175 : ∀ (Y : Mem), k175 Y = some res → FW p l e (Rm 1) s m [.ref (ad 10 0 0)].toArray below meth c 1 N0 T D gr ad 0 0 (MQ below (va_Qv (fun Y1 => Y1 = res) (WB T D gr ad) (fun q => N0 ≤ q)) [.ref (ad 10 0 0)].toArray s 0 0 (fun q => N0 ≤ q)) Y 175 [(0, .ref (ad 10 0 0))] []) (Y : Mem) (h : X12_token_b238  k175 Y = some res) : FW p l e (Rm 1) s m [.ref (ad 10 0 0)].toArray below meth c 1 N0 T D gr ad 0 0 (MQ below (va_Qv (fun Y1 => Y1 = res) (WB T D gr ad) (fun q => N0 ≤ q)) [.ref (ad 10 0 0)].toArray s 0 0 (fun q => N0 ≤ q)) Y 238 [(0, .ref (ad 10 0 0))] [] := by
  unfold X12_token_b238 at h
  refine fw_aload_n C dX12_token_238 rfl 0 rfl ?_
  refine fw_dup C dX12_token_239 rfl ?_
  refine fw_get C (ci := 10) (Cn := RX12) (Tc := TX12) (N := 19) (j := 14) ly_X12_token_12 rfl (hG _ (List.mem_of_getElem? (i := 0) rfl)) (of10_0 _) (ce10 T ad _ _) (by decide) (cx_ts C _ fl_X12_token_54) (fun _ h => h) (v := .int (Y 10 0 0 14)) rfl dX12_token_240 ?_
  refine fw_iconst C dX12_token_243 (v := 1) rfl ?_
  refine fw_iadd C dX12_token_244 ?_
  obtain ⟨Y28, e29, h⟩ := lt_some h
  refine fw_put C (ci := 10) (Cn := RX12) (Tc := TX12) (N := 19) (j := 14) (ty := .int) (upd (Y 10 0 0) 14 ((Y 10 0 0 14) + 1)) ly_X12_token_12 rfl tyX12_ok nmX12 (hG _ (List.mem_of_getElem? (i := 0) rfl)) (of10_0 _) (ce10 T ad _ _) (by decide) (cx_ts C _ fl_X12_token_54) (fun _ h => h) rfl (by decide +kernel) rfl rfl (Nat.le_of_ble_eq_true rfl) (ce10_put14 T ad _ _ _) dX12_token_245 ?_
  refine fw_mem ((up_eq _ _ _ _ _ _).symm.trans e29) ?_
  refine fw_goto C dX12_token_248 (tgt := 175) rfl ?_
  exact hk175 _ h
set_option maxRecDepth 100000 in
set_option maxHeartbeats 4000000 in
theorem w_X12_token_b175  (C : Cx p s m [.ref (ad 10 0 0)].toArray meth c cX12_token 1 wsX12_token RX12 N0 T D gr ad) (hrt : meth.sig.returnType = none) (hG : ∀ q ∈ [(10, 0)], q ∈ gr) {res : Mem} : ∀ (n : Nat) (Y : Mem), X12_token_b175   n Y = some res → FW p l e (Rm 1) s m [.ref (ad 10 0 0)].toArray below meth c 1 N0 T D gr ad 0 0 (MQ below (va_Qv (fun Y1 => Y1 = res) (WB T D gr ad) (fun q => N0 ≤ q)) [.ref (ad 10 0 0)].toArray s 0 0 (fun q => N0 ≤ q)) Y 175 [(0, .ref (ad 10 0 0))] [] := by
  intro n
  induction n with
  | zero =>
    intro Y h
    unfold X12_token_b175 at h
    cases h
  | succ n ih =>
    intro Y h
    unfold X12_token_b175 at h
    refine fw_aload_n C dX12_token_175 rfl 0 rfl ?_
    refine fw_get C (ci := 10) (Cn := RX12) (Tc := TX12) (N := 19) (j := 14) ly_X12_token_12 rfl (hG _ (List.mem_of_getElem? (i := 0) rfl)) (of10_0 _) (ce10 T ad _ _) (by decide) (cx_ts C _ fl_X12_token_54) (fun _ h => h) (v := .int (Y 10 0 0 14)) rfl dX12_token_176 ?_
    refine fw_aload_n C dX12_token_179 rfl 0 rfl ?_
    refine fw_get C (ci := 10) (Cn := RX12) (Tc := TX12) (N := 19) (j := 4) ly_X12_token_12 rfl (hG _ (List.mem_of_getElem? (i := 0) rfl)) (of10_0 _) (ce10 T ad _ _) (by decide) (cx_ts C _ fl_X12_token_27) (fun _ h => h) (v := .int (Y 10 0 0 4)) rfl dX12_token_180 ?_
    refine fw_icmp_ge C dX12_token_183 (tgt := 251) rfl (fun c19 => ?_) (fun c19 => ?_)
    · have h := ite_t c19 h
      exact w_X12_token_b251 C hrt hG   _ h
    · have h := ite_f c19 h
      refine fw_aload_n C dX12_token_186 rfl 0 rfl ?_
      refine fw_get C (ci := 10) (Cn := RX12) (Tc := TX12) (N := 19) (j := 3) ly_X12_token_12 rfl (hG _ (List.mem_of_getElem? (i := 0) rfl)) (of10_0 _) (ce10 T ad _ _) (by decide) (cx_ts C _ fl_X12_token_24) (fun _ h => h) (v := .ref (ad 10 0 3)) rfl dX12_token_187 ?_
      refine fw_aload_n C dX12_token_190 rfl 0 rfl ?_
      refine fw_get C (ci := 10) (Cn := RX12) (Tc := TX12) (N := 19) (j := 14) ly_X12_token_12 rfl (hG _ (List.mem_of_getElem? (i := 0) rfl)) (of10_0 _) (ce10 T ad _ _) (by decide) (cx_ts C _ fl_X12_token_54) (fun _ h => h) (v := .int (Y 10 0 0 14)) rfl dX12_token_191 ?_
      obtain ⟨b23, h⟩ := gd_some h
      refine fw_iald2 C (hG _ (List.mem_of_getElem? (i := 0) rfl)) (of10_3 _) (ca10_3 T ad _ _) b23 (Nat.le_of_ble_eq_true rfl) dX12_token_194 ?_
      obtain ⟨r24, q25, h⟩ := bd1_some h
      refine fw_callSi C (As := [.int (Y 10 0 3 (ix (Y 10 0 0 14)))]) (c_X12_isDigit ga0 q25) (va_cwS 1 (cx_ts C) gX12_token_X12_isDigit rfl rfl rfl (by decide +kernel) ⟨Nat.le_of_ble_eq_true rfl, Nat.le_of_ble_eq_true rfl⟩) rfl (st := []) rfl (Nat.le_of_ble_eq_true rfl) ⟨Nat.le_refl 0, Nat.le_refl 0⟩ dX12_token_195 (pp2 ?_)
      refine fw_if_eq C dX12_token_198 (tgt := 251) rfl (fun c26 => ?_) (fun c26 => ?_)
      · have h := ite_t c26 h
        exact w_X12_token_b251 C hrt hG   _ h
      · have h := ite_f c26 h
        refine fw_aload_n C dX12_token_201 rfl 0 rfl ?_
        refine fw_get C (ci := 10) (Cn := RX12) (Tc := TX12) (N := 19) (j := 14) ly_X12_token_12 rfl (hG _ (List.mem_of_getElem? (i := 0) rfl)) (of10_0 _) (ce10 T ad _ _) (by decide) (cx_ts C _ fl_X12_token_54) (fun _ h => h) (v := .int (Y 10 0 0 14)) rfl dX12_token_202 ?_
        refine fw_aload_n C dX12_token_205 rfl 0 rfl ?_
        refine fw_get C (ci := 10) (Cn := RX12) (Tc := TX12) (N := 19) (j := 16) ly_X12_token_12 rfl (hG _ (List.mem_of_getElem? (i := 0) rfl)) (of10_0 _) (ce10 T ad _ _) (by decide) (cx_ts C _ fl_X12_token_60) (fun _ h => h) (v := .int (Y 10 0 0 16)) rfl dX12_token_206 ?_
        refine fw_isub C dX12_token_209 ?_
        refine fw_iconst C dX12_token_210 (v := 3) rfl ?_
        refine fw_icmp_ge C dX12_token_211 (tgt := 238) rfl (fun c27 => ?_) (fun c27 => ?_)
        · have h := ite_t c27 h
          exact w_X12_token_b238 C hrt hG  ih _ h
        · have h := ite_f c27 h
          refine fw_aload_n C dX12_token_214 rfl 0 rfl ?_
          refine fw_aload_n C dX12_token_215 rfl 0 rfl ?_
          refine fw_get C (ci := 10) (Cn := RX12) (Tc := TX12) (N := 19) (j := 17) ly_X12_token_12 rfl (hG _ (List.mem_of_getElem? (i := 0) rfl)) (of10_0 _) (ce10 T ad _ _) (by decide) (cx_ts C _ fl_X12_token_63) (fun _ h => h) (v := .int (Y 10 0 0 17)) rfl dX12_token_216 ?_
          refine fw_bipush C dX12_token_219 (v := 10) rfl ?_
          refine fw_imul C dX12_token_221 ?_
          refine fw_aload_n C dX12_token_222 rfl 0 rfl ?_
          refine fw_get C (ci := 10) (Cn := RX12) (Tc := TX12) (N := 19) (j := 3) ly_X12_token_12 rfl (hG _ (List.mem_of_getElem? (i := 0) rfl)) (of10_0 _) (ce10 T ad _ _) (by decide) (cx_ts C _ fl_X12_token_24) (fun _ h => h) (v := .ref (ad 10 0 3)) rfl dX12_token_223 ?_
          refine fw_aload_n C dX12_token_226 rfl 0 rfl ?_
          refine fw_get C (ci := 10) (Cn := RX12) (Tc := TX12) (N := 19) (j := 14) ly_X12_token_12 rfl (hG _ (List.mem_of_getElem? (i := 0) rfl)) (of10_0 _) (ce10 T ad _ _) (by decide) (cx_ts C _ fl_X12_token_54) (fun _ h => h) (v := .int (Y 10 0 0 14)) rfl dX12_token_227 ?_
          refine fw_iald2 C (hG _ (List.mem_of_getElem? (i := 0) rfl)) (of10_3 _) (ca10_3 T ad _ _) b23 (Nat.le_of_ble_eq_true rfl) dX12_token_230 ?_
          refine fw_iadd C dX12_token_231 ?_
          refine fw_bipush C dX12_token_232 (v := 48) rfl ?_
          refine fw_isub C dX12_token_234 ?_
          obtain ⟨Y30, e31, h⟩ := lt_some h
          refine fw_put C (ci := 10) (Cn := RX12) (Tc := TX12) (N := 19) (j := 17) (ty := .int) (upd (Y 10 0 0) 17 ((((Y 10 0 0 17) * 10) + (Y 10 0 3 (ix (Y 10 0 0 14)))) - 48)) ly_X12_token_12 rfl tyX12_ok nmX12 (hG _ (List.mem_of_getElem? (i := 0) rfl)) (of10_0 _) (ce10 T ad _ _) (by decide) (cx_ts C _ fl_X12_token_63) (fun _ h => h) rfl (by decide +kernel) rfl rfl (Nat.le_of_ble_eq_true rfl) (ce10_put17 T ad _ _ _) dX12_token_235 ?_
          refine fw_mem ((up_eq _ _ _ _ _ _).symm.trans e31) ?_
          exact w_X12_token_b238 C hrt hG  ih _ h
set_option maxRecDepth 100000 in
set_option maxHeartbeats 4000000 in
theorem w_X12_token_b151  (C : Cx p s m [.ref (ad 10 0 0)].toArray meth c cX12_token 1 wsX12_token RX12 N0 T D gr ad) (hrt : meth.sig.returnType = none) (hG : ∀ q ∈ [(10, 0)], q ∈ gr) {res : Mem} (Y : Mem) (s0 : Int32) (h : X12_token_b151   Y s0 = some res) : FW p l e (Rm 1) s m [.ref (ad 10 0 0)].toArray below meth c 1 N0 T D gr ad 0 0 (MQ below (va_Qv (fun Y1 => Y1 = res) (WB T D gr ad) (fun q => N0 ≤ q)) [.ref (ad 10 0 0)].toArray s 0 0 (fun q => N0 ≤ q)) Y 151 [] [.int s0, .ref (ad 10 0 0)] := by
  unfold X12_token_b151 at h
  obtain ⟨Y34, e35, h⟩ := lt_some h
  refine fw_put C (ci := 10) (Cn := RX12) (Tc := TX12) (N := 19) (j := 15) (ty := .int) (upd (Y 10 0 0) 15 s0) ly_X12_token_12 rfl tyX12_ok nmX12 (hG _ (List.mem_of_getElem? (i := 0) rfl)) (of10_0 _) (ce10 T ad _ _) (by decide) (cx_ts C _ fl_X12_token_57) (fun _ h => h) rfl (by decide +kernel) rfl rfl (Nat.le_of_ble_eq_true rfl) (ce10_put15 T ad _ _ _) dX12_token_151 ?_
  refine fw_mem ((up_eq _ _ _ _ _ _).symm.trans e35) ?_
  exact fw_vret C hrt Y34 (Option.some.inj h) (fun t ht => ht) dX12_token_154
set_option maxRecDepth 100000 in
set_option maxHeartbeats 4000000 in
theorem w_X12_token_b131  (C : Cx p s m [.ref (ad 10 0 0)].toArray meth c cX12_token 1 wsX12_token RX12 N0 T D gr ad) (hrt : meth.sig.returnType = none) (hG : ∀ q ∈ [(10, 0)], q ∈ gr) {res : Mem} (Y : Mem) (h : X12_token_b131   Y = some res) : FW p l e (Rm 1) s m [.ref (ad 10 0 0)].toArray below meth c 1 N0 T D gr ad 0 0 (MQ below (va_Qv (fun Y1 => Y1 = res) (WB T D gr ad) (fun q => N0 ≤ q)) [.ref (ad 10 0 0)].toArray s 0 0 (fun q => N0 ≤ q)) Y 131 [(0, .ref (ad 10 0 0))] [] := by
  unfold X12_token_b131 at h
  refine fw_aload_n C dX12_token_131 rfl 0 rfl ?_
  refine fw_aload_n C dX12_token_132 rfl 0 rfl ?_
  refine fw_get C (ci := 10) (Cn := RX12) (Tc := TX12) (N := 19) (j := 14) ly_X12_token_12 rfl (hG _ (List.mem_of_getElem? (i := 0) rfl)) (of10_0 _) (ce10 T ad _ _) (by decide) (cx_ts C _ fl_X12_token_54) (fun _ h => h) (v := .int (Y 10 0 0 14)) rfl dX12_token_133 ?_
  refine fw_aload_n C dX12_token_136 rfl 0 rfl ?_
  refine fw_get C (ci := 10) (Cn := RX12) (Tc := TX12) (N := 19) (j := 16) ly_X12_token_12 rfl (hG _ (List.mem_of_getElem? (i := 0) rfl)) (of10_0 _) (ce10 T ad _ _) (by decide) (cx_ts C _ fl_X12_token_60) (fun _ h => h) (v := .int (Y 10 0 0 16)) rfl dX12_token_137 ?_
  refine fw_isub C dX12_token_140 ?_
  refine fw_bipush C dX12_token_141 (v := 8) rfl ?_
  refine fw_icmp_le C dX12_token_143 (tgt := 150) rfl (fun c33 => ?_) (fun c33 => ?_)
  · have h := ite_t c33 h
    refine fw_iconst C dX12_token_150 (v := 1) rfl ?_
    refine fw_sub [] (L' := []) rfl ?_
    exact w_X12_token_b151 C hrt hG   _ _ h
  · have h := ite_f c33 h
    refine fw_iconst C dX12_token_146 (v := 4) rfl ?_
    refine fw_goto C dX12_token_147 (tgt := 151) rfl ?_
    refine fw_sub [] (L' := []) rfl ?_
    exact w_X12_token_b151 C hrt hG   _ _ h
set_option maxRecDepth 100000 in
set_option maxHeartbeats 4000000 in
theorem w_X12_token_b92  (C : Cx p s m [.ref (ad 10 0 0)].toArray meth c cX12_token 1 wsX12_token RX12 N0 T D gr ad) (hrt : meth.sig.returnType = none) (hG : ∀ q ∈ [(10, 0)], q ∈ gr) {res : Mem} : ∀ (n : Nat) (Y : Mem), X12_token_b92   n Y = some res → FW p l e (Rm 1) s m [.ref (ad 10 0 0)].toArray below meth c 1 N0 T D gr ad 0 0 (MQ below (va_Qv (fun Y1 => Y1 = res) (WB T D gr ad) (fun q => N0 ≤ q)) [.ref (ad 10 0 0)].toArray s 0 0 (fun q => N0 ≤ q)) Y 92 [(0, .ref (ad 10 0 0))] [] := by
  intro n
  induction n with
  | zero =>
    intro Y h
    unfold X12_token_b92 at h
    cases h
  | succ n ih =>
    intro Y h
    unfold X12_token_b92 at h
    refine fw_aload_n C dX12_token_92 rfl 0 rfl ?_
    refine fw_get C (ci := 10) (Cn := RX12) (Tc := TX12) (N := 19) (j := 14) ly_X12_token_12 rfl (hG _ (List.mem_of_getElem? (i := 0) rfl)) (of10_0 _) (ce10 T ad _ _) (by decide) (cx_ts C _ fl_X12_token_54) (fun _ h => h) (v := .int (Y 10 0 0 14)) rfl dX12_token_93 ?_
    refine fw_aload_n C dX12_token_96 rfl 0 rfl ?_
    refine fw_get C (ci := 10) (Cn := RX12) (Tc := TX12) (N := 19) (j := 4) ly_X12_token_12 rfl (hG _ (List.mem_of_getElem? (i := 0) rfl)) (of10_0 _) (ce10 T ad _ _) (by decide) (cx_ts C _ fl_X12_token_27) (fun _ h => h) (v := .int (Y 10 0 0 4)) rfl dX12_token_97 ?_
    refine fw_icmp_ge C dX12_token_100 (tgt := 131) rfl (fun c32 => ?_) (fun c32 => ?_)
    · have h := ite_t c32 h
      exact w_X12_token_b131 C hrt hG   _ h
    · have h := ite_f c32 h
      refine fw_aload_n C dX12_token_103 rfl 0 rfl ?_
      refine fw_get C (ci := 10) (Cn := RX12) (Tc := TX12) (N := 19) (j := 3) ly_X12_token_12 rfl (hG _ (List.mem_of_getElem? (i := 0) rfl)) (of10_0 _) (ce10 T ad _ _) (by decide) (cx_ts C _ fl_X12_token_24) (fun _ h => h) (v := .ref (ad 10 0 3)) rfl dX12_token_104 ?_
      refine fw_aload_n C dX12_token_107 rfl 0 rfl ?_
      refine fw_get C (ci := 10) (Cn := RX12) (Tc := TX12) (N := 19) (j := 14) ly_X12_token_12 rfl (hG _ (List.mem_of_getElem? (i := 0) rfl)) (of10_0 _) (ce10 T ad _ _) (by decide) (cx_ts C _ fl_X12_token_54) (fun _ h => h) (v := .int (Y 10 0 0 14)) rfl dX12_token_108 ?_
      obtain ⟨b36, h⟩ := gd_some h
      refine fw_iald2 C (hG _ (List.mem_of_getElem? (i := 0) rfl)) (of10_3 _) (ca10_3 T ad _ _) b36 (Nat.le_of_ble_eq_true rfl) dX12_token_111 ?_
      obtain ⟨r37, q38, h⟩ := bd1_some h
      refine fw_callSi C (As := [.int (Y 10 0 3 (ix (Y 10 0 0 14)))]) (c_X12_isSmall ga0 q38) (va_cwS 1 (cx_ts C) gX12_token_X12_isSmall rfl rfl rfl (by decide +kernel) ⟨Nat.le_of_ble_eq_true rfl, Nat.le_of_ble_eq_true rfl⟩) rfl (st := []) rfl (Nat.le_of_ble_eq_true rfl) ⟨Nat.le_refl 0, Nat.le_refl 0⟩ dX12_token_112 (pp2 ?_)
      refine fw_if_eq C dX12_token_115 (tgt := 131) rfl (fun c39 => ?_) (fun c39 => ?_)
      · have h := ite_t c39 h
        exact w_X12_token_b131 C hrt hG   _ h
      · have h := ite_f c39 h
        refine fw_aload_n C dX12_token_118 rfl 0 rfl ?_
        refine fw_dup C dX12_token_119 rfl ?_
        refine fw_get C (ci := 10) (Cn := RX12) (Tc := TX12) (N := 19) (j := 14) ly_X12_token_12 rfl (hG _ (List.mem_of_getElem? (i := 0) rfl)) (of10_0 _) (ce10 T ad _ _) (by decide) (cx_ts C _ fl_X12_token_54) (fun _ h => h) (v := .int (Y 10 0 0 14)) rfl dX12_token_120 ?_
        refine fw_iconst C dX12_token_123 (v := 1) rfl ?_
        refine fw_iadd C dX12_token_124 ?_
        obtain ⟨Y40, e41, h⟩ := lt_some h
        refine fw_put C (ci := 10) (Cn := RX12) (Tc := TX12) (N := 19) (j := 14) (ty := .int) (upd (Y 10 0 0) 14 ((Y 10 0 0 14) + 1)) ly_X12_token_12 rfl tyX12_ok nmX12 (hG _ (List.mem_of_getElem? (i := 0) rfl)) (of10_0 _) (ce10 T ad _ _) (by decide) (cx_ts C _ fl_X12_token_54) (fun _ h => h) rfl (by decide +kernel) rfl rfl (Nat.le_of_ble_eq_true rfl) (ce10_put14 T ad _ _ _) dX12_token_125 ?_
        refine fw_mem ((up_eq _ _ _ _ _ _).symm.trans e41) ?_
        refine fw_goto C dX12_token_128 (tgt := 92) rfl ?_
        exact ih _ h
set_option maxRecDepth 100000 in
set_option maxHeartbeats 4000000 in
theorem w_X12_token_b52  (C : Cx p s m [.ref (ad 10 0 0)].toArray meth c cX12_token 1 wsX12_token RX12 N0 T D gr ad) (hrt : meth.sig.returnType = none) (hG : ∀ q ∈ [(10, 0)], q ∈ gr) {res : Mem} (Y : Mem) (h : X12_token_b52   Y = some res) : FW p l e (Rm 1) s m [.ref (ad 10 0 0)].toArray below meth c 1 N0 T D gr ad 0 0 (MQ below (va_Qv (fun Y1 => Y1 = res) (WB T D gr ad) (fun q => N0 ≤ q)) [.ref (ad 10 0 0)].toArray s 0 0 (fun q => N0 ≤ q)) Y 52 [(0, .ref (ad 10 0 0))] [] := by
  unfold X12_token_b52 at h
  refine fw_aload_n C dX12_token_52 rfl 0 rfl ?_
  refine fw_aload_n C dX12_token_53 rfl 0 rfl ?_
  refine fw_get C (ci := 10) (Cn := RX12) (Tc := TX12) (N := 19) (j := 14) ly_X12_token_12 rfl (hG _ (List.mem_of_getElem? (i := 0) rfl)) (of10_0 _) (ce10 T ad _ _) (by decide) (cx_ts C _ fl_X12_token_54) (fun _ h => h) (v := .int (Y 10 0 0 14)) rfl dX12_token_54 ?_
  obtain ⟨Y2, e3, h⟩ := lt_some h
  refine fw_put C (ci := 10) (Cn := RX12) (Tc := TX12) (N := 19) (j := 16) (ty := .int) (upd (Y 10 0 0) 16 (Y 10 0 0 14)) ly_X12_token_12 rfl tyX12_ok nmX12 (hG _ (List.mem_of_getElem? (i := 0) rfl)) (of10_0 _) (ce10 T ad _ _) (by decide) (cx_ts C _ fl_X12_token_60) (fun _ h => h) rfl (by decide +kernel) rfl rfl (Nat.le_of_ble_eq_true rfl) (ce10_put16 T ad _ _ _) dX12_token_57 ?_
  refine fw_mem ((up_eq _ _ _ _ _ _).symm.trans e3) ?_
  refine fw_aload_n C dX12_token_60 rfl 0 rfl ?_
  refine fw_get C (ci := 10) (Cn := RX12) (Tc := TX12) (N := 19) (j := 14) ly_X12_token_12 rfl (hG _ (List.mem_of_getElem? (i := 0) rfl)) (of10_0 _) (ce10 T ad _ _) (by decide) (cx_ts C _ fl_X12_token_54) (fun _ h => h) (v := .int (Y2 10 0 0 14)) rfl dX12_token_61 ?_
  refine fw_aload_n C dX12_token_64 rfl 0 rfl ?_
  refine fw_get C (ci := 10) (Cn := RX12) (Tc := TX12) (N := 19) (j := 4) ly_X12_token_12 rfl (hG _ (List.mem_of_getElem? (i := 0) rfl)) (of10_0 _) (ce10 T ad _ _) (by decide) (cx_ts C _ fl_X12_token_27) (fun _ h => h) (v := .int (Y2 10 0 0 4)) rfl dX12_token_65 ?_
  refine fw_icmp_ne C dX12_token_68 (tgt := 77) rfl (fun c4 => ?_) (fun c4 => ?_)
  · have h := ite_f c4 h
    refine fw_aload_n C dX12_token_77 rfl 0 rfl ?_
    refine fw_get C (ci := 10) (Cn := RX12) (Tc := TX12) (N := 19) (j := 3) ly_X12_token_12 rfl (hG _ (List.mem_of_getElem? (i := 0) rfl)) (of10_0 _) (ce10 T ad _ _) (by decide) (cx_ts C _ fl_X12_token_24) (fun _ h => h) (v := .ref (ad 10 0 3)) rfl dX12_token_78 ?_
    refine fw_aload_n C dX12_token_81 rfl 0 rfl ?_
    refine fw_get C (ci := 10) (Cn := RX12) (Tc := TX12) (N := 19) (j := 14) ly_X12_token_12 rfl (hG _ (List.mem_of_getElem? (i := 0) rfl)) (of10_0 _) (ce10 T ad _ _) (by decide) (cx_ts C _ fl_X12_token_54) (fun _ h => h) (v := .int (Y2 10 0 0 14)) rfl dX12_token_82 ?_
    obtain ⟨b5, h⟩ := gd_some h
    refine fw_iald2 C (hG _ (List.mem_of_getElem? (i := 0) rfl)) (of10_3 _) (ca10_3 T ad _ _) b5 (Nat.le_of_ble_eq_true rfl) dX12_token_85 ?_
    obtain ⟨r6, q7, h⟩ := bd1_some h
    refine fw_callSi C (As := [.int (Y2 10 0 3 (ix (Y2 10 0 0 14)))]) (c_X12_isSmall ga0 q7) (va_cwS 1 (cx_ts C) gX12_token_X12_isSmall rfl rfl rfl (by decide +kernel) ⟨Nat.le_of_ble_eq_true rfl, Nat.le_of_ble_eq_true rfl⟩) rfl (st := []) rfl (Nat.le_of_ble_eq_true rfl) ⟨Nat.le_refl 0, Nat.le_refl 0⟩ dX12_token_86 (pp2 ?_)
    refine fw_if_eq C dX12_token_89 (tgt := 155) rfl (fun c8 => ?_) (fun c8 => ?_)
    · have h := ite_t c8 h
      refine fw_aload_n C dX12_token_155 rfl 0 rfl ?_
      refine fw_get C (ci := 10) (Cn := RX12) (Tc := TX12) (N := 19) (j := 3) ly_X12_token_12 rfl (hG _ (List.mem_of_getElem? (i := 0) rfl)) (of10_0 _) (ce10 T ad _ _) (by decide) (cx_ts C _ fl_X12_token_24) (fun _ h => h) (v := .ref (ad 10 0 3)) rfl dX12_token_156 ?_
      refine fw_aload_n C dX12_token_159 rfl 0 rfl ?_
      refine fw_get C (ci := 10) (Cn := RX12) (Tc := TX12) (N := 19) (j := 14) ly_X12_token_12 rfl (hG _ (List.mem_of_getElem? (i := 0) rfl)) (of10_0 _) (ce10 T ad _ _) (by decide) (cx_ts C _ fl_X12_token_54) (fun _ h => h) (v := .int (Y2 10 0 0 14)) rfl dX12_token_160 ?_
      refine fw_iald2 C (hG _ (List.mem_of_getElem? (i := 0) rfl)) (of10_3 _) (ca10_3 T ad _ _) b5 (Nat.le_of_ble_eq_true rfl) dX12_token_163 ?_
      obtain ⟨r9, q10, h⟩ := bd1_some h
      refine fw_callSi C (As := [.int (Y2 10 0 3 (ix (Y2 10 0 0 14)))]) (c_X12_isDigit ga0 q10) (va_cwS 1 (cx_ts C) gX12_token_X12_isDigit rfl rfl rfl (by decide +kernel) ⟨Nat.le_of_ble_eq_true rfl, Nat.le_of_ble_eq_true rfl⟩) rfl (st := []) rfl (Nat.le_of_ble_eq_true rfl) ⟨Nat.le_refl 0, Nat.le_refl 0⟩ dX12_token_164 (pp2 ?_)
      refine fw_if_eq C dX12_token_167 (tgt := 274) rfl (fun c11 => ?_) (fun c11 => ?_)
      · have h := ite_t c11 h
        refine fw_aload_n C dX12_token_274 rfl 0 rfl ?_
        refine fw_aload_n C dX12_token_275 rfl 0 rfl ?_
        refine fw_get C (ci := 10) (Cn := RX12) (Tc := TX12) (N := 19) (j := 3) ly_X12_token_12 rfl (hG _ (List.mem_of_getElem? (i := 0) rfl)) (of10_0 _) (ce10 T ad _ _) (by decide) (cx_ts C _ fl_X12_token_24) (fun _ h => h) (v := .ref (ad 10 0 3)) rfl dX12_token_276 ?_
        refine fw_aload_n C dX12_token_279 rfl 0 rfl ?_
        refine fw_get C (ci := 10) (Cn := RX12) (Tc := TX12) (N := 19) (j := 14) ly_X12_token_12 rfl (hG _ (List.mem_of_getElem? (i := 0) rfl)) (of10_0 _) (ce10 T ad _ _) (by decide) (cx_ts C _ fl_X12_token_54) (fun _ h => h) (v := .int (Y2 10 0 0 14)) rfl dX12_token_280 ?_
        refine fw_iald2 C (hG _ (List.mem_of_getElem? (i := 0) rfl)) (of10_3 _) (ca10_3 T ad _ _) b5 (Nat.le_of_ble_eq_true rfl) dX12_token_283 ?_
        refine fw_bipush C dX12_token_284 (v := 59) rfl ?_
        refine fw_icmp_ne C dX12_token_286 (tgt := 293) rfl (fun c12 => ?_) (fun c12 => ?_)
        · have h := ite_f c12 h
          refine fw_iconst C dX12_token_293 (v := 4) rfl ?_
          exact w_X12_token_b294 C hrt hG   _ _ h
        · have h := ite_t c12 h
          refine fw_iconst C dX12_token_289 (v := 3) rfl ?_
          refine fw_goto C dX12_token_290 (tgt := 294) rfl ?_
          exact w_X12_token_b294 C hrt hG   _ _ h
      · have h := ite_f c11 h
        refine fw_aload_n C dX12_token_170 rfl 0 rfl ?_
        refine fw_iconst C dX12_token_171 (v := 0) rfl ?_
        obtain ⟨Y17, e18, h⟩ := lt_some h
        refine fw_put C (ci := 10) (Cn := RX12) (Tc := TX12) (N := 19) (j := 17) (ty := .int) (upd (Y2 10 0 0) 17 0) ly_X12_token_12 rfl tyX12_ok nmX12 (hG _ (List.mem_of_getElem? (i := 0) rfl)) (of10_0 _) (ce10 T ad _ _) (by decide) (cx_ts C _ fl_X12_token_63) (fun _ h => h) rfl (by decide +kernel) rfl rfl (Nat.le_of_ble_eq_true rfl) (ce10_put17 T ad _ _ _) dX12_token_172 ?_
        refine fw_mem ((up_eq _ _ _ _ _ _).symm.trans e18) ?_
        exact w_X12_token_b175 C hrt hG   _ _ h
    · have h := ite_f c8 h
      exact w_X12_token_b92 C hrt hG   _ _ h
  · have h := ite_t c4 h
    refine fw_aload_n C dX12_token_71 rfl 0 rfl ?_
    refine fw_iconst C dX12_token_72 (v := 0) rfl ?_
    obtain ⟨Y42, e43, h⟩ := lt_some h
    refine fw_put C (ci := 10) (Cn := RX12) (Tc := TX12) (N := 19) (j := 15) (ty := .int) (upd (Y2 10 0 0) 15 0) ly_X12_token_12 rfl tyX12_ok nmX12 (hG _ (List.mem_of_getElem? (i := 0) rfl)) (of10_0 _) (ce10 T ad _ _) (by decide) (cx_ts C _ fl_X12_token_57) (fun _ h => h) rfl (by decide +kernel) rfl rfl (Nat.le_of_ble_eq_true rfl) (ce10_put15 T ad _ _ _) dX12_token_73 ?_
    refine fw_mem ((up_eq _ _ _ _ _ _).symm.trans e43) ?_
    exact fw_vret C hrt Y42 (Option.some.inj h) (fun t ht => ht) dX12_token_76
set_option maxRecDepth 100000 in
set_option maxHeartbeats 4000000 in
theorem w_X12_token_b39  (C : Cx p s m [.ref (ad 10 0 0)].toArray meth c cX12_token 1 wsX12_token RX12 N0 T D gr ad) (hrt : meth.sig.returnType = none) (hG : ∀ q ∈ [(10, 0)], q ∈ gr) {res : Mem} {k0 : Mem → Option (Mem)} (hk0 : ∀ (Y : Mem), k0 Y = some res → FW p l e (Rm 1) s m [.ref (ad 10 0 0)].toArray below meth c 1 N0 T D gr ad 0 0 (MQ below (va_Qv (fun Y1 => Y1 = res) (WB T D gr ad) (fun q => N0 ≤ q)) [.ref (ad 10 0 0)].toArray s 0 0 (fun q => N0 ≤ q)) Y 0 [(0, .ref (ad 10 0 0))] []) (Y : Mem) (h : X12_token_b39  k0 Y = some res) : FW p l e (Rm 1) s m [.ref (ad 10 0 0)].toArray below meth c 1 N0 T D gr ad 0 0 (MQ below (va_Qv (fun Y1 => Y1 = res) (WB T D gr ad) (fun q => N0 ≤ q)) [.ref (ad 10 0 0)].toArray s 0 0 (fun q => N0 ≤ q)) Y 39 [(0, .ref (ad 10 0 0))] [] := by
  unfold X12_token_b39 at h
  refine fw_aload_n C dX12_token_39 rfl 0 rfl ?_
  refine fw_dup C dX12_token_40 rfl ?_
  refine fw_get C (ci := 10) (Cn := RX12) (Tc := TX12) (N := 19) (j := 14) ly_X12_token_12 rfl (hG _ (List.mem_of_getElem? (i := 0) rfl)) (of10_0 _) (ce10 T ad _ _) (by decide) (cx_ts C _ fl_X12_token_54) (fun _ h => h) (v := .int (Y 10 0 0 14)) rfl dX12_token_41 ?_
  refine fw_iconst C dX12_token_44 (v := 1) rfl ?_
  refine fw_iadd C dX12_token_45 ?_
  obtain ⟨Y46, e47, h⟩ := lt_some h
  refine fw_put C (ci := 10) (Cn := RX12) (Tc := TX12) (N := 19) (j := 14) (ty := .int) (upd (Y 10 0 0) 14 ((Y 10 0 0 14) + 1)) ly_X12_token_12 rfl tyX12_ok nmX12 (hG _ (List.mem_of_getElem? (i := 0) rfl)) (of10_0 _) (ce10 T ad _ _) (by decide) (cx_ts C _ fl_X12_token_54) (fun _ h => h) rfl (by decide +kernel) rfl rfl (Nat.le_of_ble_eq_true rfl) (ce10_put14 T ad _ _ _) dX12_token_46 ?_
  refine fw_mem ((up_eq _ _ _ _ _ _).symm.trans e47) ?_
  refine fw_goto C dX12_token_49 (tgt := 0) rfl ?_
  exact hk0 _ h
set_option maxRecDepth 100000 in
set_option maxHeartbeats 4000000 in
theorem w_X12_token_b0  (C : Cx p s m [.ref (ad 10 0 0)].toArray meth c cX12_token 1 wsX12_token RX12 N0 T D gr ad) (hrt : meth.sig.returnType = none) (hG : ∀ q ∈ [(10, 0)], q ∈ gr) {res : Mem} : ∀ (n : Nat) (Y : Mem), X12_token_b0   n Y = some res → FW p l e (Rm 1) s m [.ref (ad 10 0 0)].toArray below meth c 1 N0 T D gr ad 0 0 (MQ below (va_Qv (fun Y1 => Y1 = res) (WB T D gr ad) (fun q => N0 ≤ q)) [.ref (ad 10 0 0)].toArray s 0 0 (fun q => N0 ≤ q)) Y 0 [(0, .ref (ad 10 0 0))] [] := by
  intro n
  induction n with
  | zero =>
    intro Y h
    unfold X12_token_b0 at h
    cases h
  | succ n ih =>
    intro Y h
    unfold X12_token_b0 at h
    refine fw_aload_n C dX12_token_0 rfl 0 rfl ?_
    refine fw_get C (ci := 10) (Cn := RX12) (Tc := TX12) (N := 19) (j := 14) ly_X12_token_12 rfl (hG _ (List.mem_of_getElem? (i := 0) rfl)) (of10_0 _) (ce10 T ad _ _) (by decide) (cx_ts C _ fl_X12_token_54) (fun _ h => h) (v := .int (Y 10 0 0 14)) rfl dX12_token_1 ?_
    refine fw_aload_n C dX12_token_4 rfl 0 rfl ?_
    refine fw_get C (ci := 10) (Cn := RX12) (Tc := TX12) (N := 19) (j := 4) ly_X12_token_12 rfl (hG _ (List.mem_of_getElem? (i := 0) rfl)) (of10_0 _) (ce10 T ad _ _) (by decide) (cx_ts C _ fl_X12_token_27) (fun _ h => h) (v := .int (Y 10 0 0 4)) rfl dX12_token_5 ?_
    refine fw_icmp_ge C dX12_token_8 (tgt := 52) rfl (fun c1 => ?_) (fun c1 => ?_)
    · have h := ite_t c1 h
      exact w_X12_token_b52 C hrt hG   _ h
    · have h := ite_f c1 h
      refine fw_aload_n C dX12_token_11 rfl 0 rfl ?_
      refine fw_get C (ci := 10) (Cn := RX12) (Tc := TX12) (N := 19) (j := 3) ly_X12_token_12 rfl (hG _ (List.mem_of_getElem? (i := 0) rfl)) (of10_0 _) (ce10 T ad _ _) (by decide) (cx_ts C _ fl_X12_token_24) (fun _ h => h) (v := .ref (ad 10 0 3)) rfl dX12_token_12 ?_
      refine fw_aload_n C dX12_token_15 rfl 0 rfl ?_
      refine fw_get C (ci := 10) (Cn := RX12) (Tc := TX12) (N := 19) (j := 14) ly_X12_token_12 rfl (hG _ (List.mem_of_getElem? (i := 0) rfl)) (of10_0 _) (ce10 T ad _ _) (by decide) (cx_ts C _ fl_X12_token_54) (fun _ h => h) (v := .int (Y 10 0 0 14)) rfl dX12_token_16 ?_
      obtain ⟨b44, h⟩ := gd_some h
      refine fw_iald2 C (hG _ (List.mem_of_getElem? (i := 0) rfl)) (of10_3 _) (ca10_3 T ad _ _) b44 (Nat.le_of_ble_eq_true rfl) dX12_token_19 ?_
      refine fw_bipush C dX12_token_20 (v := 32) rfl ?_
      refine fw_icmp_eq C dX12_token_22 (tgt := 39) rfl (fun c45 => ?_) (fun c45 => ?_)
      · have h := ite_t c45 h
        exact w_X12_token_b39 C hrt hG  ih _ h
      · have h := ite_f c45 h
        refine fw_aload_n C dX12_token_25 rfl 0 rfl ?_
        refine fw_get C (ci := 10) (Cn := RX12) (Tc := TX12) (N := 19) (j := 3) ly_X12_token_12 rfl (hG _ (List.mem_of_getElem? (i := 0) rfl)) (of10_0 _) (ce10 T ad _ _) (by decide) (cx_ts C _ fl_X12_token_24) (fun _ h => h) (v := .ref (ad 10 0 3)) rfl dX12_token_26 ?_
        refine fw_aload_n C dX12_token_29 rfl 0 rfl ?_
        refine fw_get C (ci := 10) (Cn := RX12) (Tc := TX12) (N := 19) (j := 14) ly_X12_token_12 rfl (hG _ (List.mem_of_getElem? (i := 0) rfl)) (of10_0 _) (ce10 T ad _ _) (by decide) (cx_ts C _ fl_X12_token_54) (fun _ h => h) (v := .int (Y 10 0 0 14)) rfl dX12_token_30 ?_
        refine fw_iald2 C (hG _ (List.mem_of_getElem? (i := 0) rfl)) (of10_3 _) (ca10_3 T ad _ _) b44 (Nat.le_of_ble_eq_true rfl) dX12_token_33 ?_
        refine fw_bipush C dX12_token_34 (v := 10) rfl ?_
        refine fw_icmp_ne C dX12_token_36 (tgt := 52) rfl (fun c48 => ?_) (fun c48 => ?_)
        · have h := ite_f c48 h
          exact w_X12_token_b52 C hrt hG   _ h
        · have h := ite_t c48 h
          exact w_X12_token_b39 C hrt hG  ih _ h
set_option maxRecDepth 100000 in
set_option maxHeartbeats 4000000 in
theorem w_X12_token {Y : Mem} (C : Cx p s m [.ref (ad 10 0 0)].toArray meth c cX12_token 1 wsX12_token RX12 N0 T D gr ad) (hrt : meth.sig.returnType = none) (hG : ∀ q ∈ [(10, 0)], q ∈ gr) {res : Mem} (h : X12_token Y = some res) : FW p l e (Rm 1) s m [.ref (ad 10 0 0)].toArray below meth c 1 N0 T D gr ad 0 0 (MQ below (va_Qv (fun Y1 => Y1 = res) (WB T D gr ad) (fun q => N0 ≤ q)) [.ref (ad 10 0 0)].toArray s 0 0 (fun q => N0 ≤ q)) Y 0 [(0, .ref (ad 10 0 0))] [] := by
  unfold X12_token at h
  exact w_X12_token_b0 C hrt hG   _ _ h
end
set_option maxRecDepth 100000 in
set_option maxHeartbeats 4000000 in
theorem c_X12_token {l : Launch} {N0 : Nat} {T : Nat → ClassId} {D : va_G} {gr : List (Nat × Nat)} {ad : Nat → Nat → Nat → Nat} {Y : Mem} {res : Mem} (hG : ∀ q ∈ [(10, 0)], q ∈ gr) (h : X12_token Y = some res) : CV l yX12_token wsX12_token (Rm 1) N0 T D gr ad Y [.ref (ad 10 0 0)] (fun Y1 => Y1 = res) :=
  fw_body (by decide +kernel) rfl (Nat.le_of_ble_eq_true rfl) (fun p e s m below meth c C hrt => w_X12_token C hrt hG  h)
theorem ly_X12_begin_12 : ∀ w ∈ u_ws RX12 TX12 19, w ∈ wsX12_begin := by decide +kernel
theorem fl_X12_begin_30 : Cond.fieldLink RX12 30 "RecipeSchedulerModel" "errorCode" "I" ∈ wsX12_begin := by decide +kernel
theorem fl_X12_begin_33 : Cond.fieldLink RX12 33 "RecipeSchedulerModel" "errorPosition" "I" ∈ wsX12_begin := by decide +kernel
theorem fl_X12_begin_54 : Cond.fieldLink RX12 54 "RecipeSchedulerModel" "ahead" "I" ∈ wsX12_begin := by decide +kernel
section
variable {p : Program} {l : Launch} {e : Env} {s : State} {m : MethodId} {below : List Frame} {meth : Method} {c : Code} {N0 : Nat} {T : Nat → ClassId} {D : va_G} {gr : List (Nat × Nat)} {ad : Nat → Nat → Nat → Nat}
set_option maxRecDepth 100000 in
set_option maxHeartbeats 4000000 in
theorem w_X12_begin {Y : Mem} (C : Cx p s m [.ref (ad 10 0 0)].toArray meth c cX12_begin 1 wsX12_begin RX12 N0 T D gr ad) (hrt : meth.sig.returnType = none) (hG : ∀ q ∈ [(10, 0)], q ∈ gr) {res : Mem} (h : X12_begin Y = some res) : FW p l e (Rm 2) s m [.ref (ad 10 0 0)].toArray below meth c 1 N0 T D gr ad 0 0 (MQ below (va_Qv (fun Y1 => Y1 = res) (WB T D gr ad) (fun q => N0 ≤ q)) [.ref (ad 10 0 0)].toArray s 0 0 (fun q => N0 ≤ q)) Y 0 [(0, .ref (ad 10 0 0))] [] := by
  unfold X12_begin at h
  refine fw_aload_n C dX12_begin_0 rfl 0 rfl ?_
  refine fw_iconst C dX12_begin_1 (v := 0) rfl ?_
  obtain ⟨Y1, e2, h⟩ := lt_some h
  refine fw_put C (ci := 10) (Cn := RX12) (Tc := TX12) (N := 19) (j := 5) (ty := .int) (upd (Y 10 0 0) 5 0) ly_X12_begin_12 rfl tyX12_ok nmX12 (hG _ (List.mem_of_getElem? (i := 0) rfl)) (of10_0 _) (ce10 T ad _ _) (by decide) (cx_ts C _ fl_X12_begin_30) (fun _ h => h) rfl (by decide +kernel) rfl rfl (Nat.le_of_ble_eq_true rfl) (ce10_put5 T ad _ _ _) dX12_begin_2 ?_
  refine fw_mem ((up_eq _ _ _ _ _ _).symm.trans e2) ?_
  refine fw_aload_n C dX12_begin_5 rfl 0 rfl ?_
  refine fw_iconst C dX12_begin_6 (v := (-1)) rfl ?_
  obtain ⟨Y3, e4, h⟩ := lt_some h
  refine fw_put C (ci := 10) (Cn := RX12) (Tc := TX12) (N := 19) (j := 6) (ty := .int) (upd (Y1 10 0 0) 6 ((-1))) ly_X12_begin_12 rfl tyX12_ok nmX12 (hG _ (List.mem_of_getElem? (i := 0) rfl)) (of10_0 _) (ce10 T ad _ _) (by decide) (cx_ts C _ fl_X12_begin_33) (fun _ h => h) rfl (by decide +kernel) rfl rfl (Nat.le_of_ble_eq_true rfl) (ce10_put6 T ad _ _ _) dX12_begin_7 ?_
  refine fw_mem ((up_eq _ _ _ _ _ _).symm.trans e4) ?_
  refine fw_aload_n C dX12_begin_10 rfl 0 rfl ?_
  refine fw_iconst C dX12_begin_11 (v := 0) rfl ?_
  obtain ⟨Y5, e6, h⟩ := lt_some h
  refine fw_put C (ci := 10) (Cn := RX12) (Tc := TX12) (N := 19) (j := 14) (ty := .int) (upd (Y3 10 0 0) 14 0) ly_X12_begin_12 rfl tyX12_ok nmX12 (hG _ (List.mem_of_getElem? (i := 0) rfl)) (of10_0 _) (ce10 T ad _ _) (by decide) (cx_ts C _ fl_X12_begin_54) (fun _ h => h) rfl (by decide +kernel) rfl rfl (Nat.le_of_ble_eq_true rfl) (ce10_put14 T ad _ _ _) dX12_begin_12 ?_
  refine fw_mem ((up_eq _ _ _ _ _ _).symm.trans e6) ?_
  refine fw_aload_n C dX12_begin_15 rfl 0 rfl ?_
  obtain ⟨Y9, q8, h⟩ := bd1_some h
  refine fw_callVv C (ci := 10) (Cn := RX12) (Tc := TX12) (N := 19) (As := []) (c_X12_token (gac (hG _ (List.mem_of_getElem? (i := 0) rfl)) ga0) q8) (cwV 0 (cx_ts C) gX12_begin_X12_token rfl rfl rfl (by decide +kernel) ⟨Nat.le_of_ble_eq_true rfl, Nat.le_of_ble_eq_true rfl⟩) rfl (hG _ (List.mem_of_getElem? (i := 0) rfl)) (of10_0 _) (ce10 T ad _ _) rfl (st := []) rfl (Nat.le_of_ble_eq_true rfl) ⟨Nat.le_refl 0, Nat.le_refl 0⟩ dX12_begin_16 (ppv ?_)
  exact fw_vret C hrt Y9 (Option.some.inj h) (fun t ht => ht) dX12_begin_19
end
set_option maxRecDepth 100000 in
set_option maxHeartbeats 4000000 in
theorem c_X12_begin {l : Launch} {N0 : Nat} {T : Nat → ClassId} {D : va_G} {gr : List (Nat × Nat)} {ad : Nat → Nat → Nat → Nat} {Y : Mem} {res : Mem} (hG : ∀ q ∈ [(10, 0)], q ∈ gr) (h : X12_begin Y = some res) : CV l yX12_begin wsX12_begin (Rm 2) N0 T D gr ad Y [.ref (ad 10 0 0)] (fun Y1 => Y1 = res) :=
  fw_body (by decide +kernel) rfl (Nat.le_of_ble_eq_true rfl) (fun p e s m below meth c C hrt => w_X12_begin C hrt hG  h)
