theorem ly_X10_advance_10 : ∀ w ∈ u_ws RX10 TX10 6, w ∈ wsX10_advance := by decide +kernel
theorem fl_X10_advance_22 : Cond.fieldLink RX10 22 "RecipeScheduler$Tokens" "end" "I" ∈ wsX10_advance := by decide +kernel
theorem fl_X10_advance_28 : Cond.fieldLink RX10 28 "RecipeScheduler$Tokens" "start" "I" ∈ wsX10_advance := by decide +kernel
theorem fl_X10_advance_9 : Cond.fieldLink RX10 9 "RecipeScheduler$Tokens" "text" "LRecipeScheduler$Text;" ∈ wsX10_advance := by decide +kernel
theorem ly_X10_advance_9 : ∀ w ∈ u_ws RX9 TX9 2, w ∈ wsX10_advance := by decide +kernel
theorem in_X10_advance_11 : Cond.initialized RX11 ∈ wsX10_advance := by decide +kernel
theorem sw_X10_advance_X11_isWithin : Cond.static yX11_isWithin ∈ wsX10_advance := by decide +kernel
theorem fl_X10_advance_44 : Cond.fieldLink RX10 44 "RecipeScheduler$Tokens" "kind" "I" ∈ wsX10_advance := by decide +kernel
section
variable {p : Program} {l : Launch} {e : Env} {s : State} {m : MethodId} {below : List Frame} {meth : Method} {c : Code} {N0 : Nat} {T : Nat → ClassId} {D : va_G} {gr : List (Nat × Nat)} {ad : Nat → Nat → Nat → Nat}
set_option maxRecDepth 100000 in
set_option maxHeartbeats 4000000 in
theorem w_X10_advance_b217  (C : Cx p s m [.ref (ad 6 0 0)].toArray meth c cX10_advance 1 wsX10_advance RX10 N0 T D gr ad) (hrt : meth.sig.returnType = none) (hG : ∀ q ∈ [(6, 0), (5, 0)], q ∈ gr) {res : Mem} (Y : Mem) (s0 : Int32) (h : X10_advance_b217   Y s0 = some res) : FW p l e (Rm 1) s m [.ref (ad 6 0 0)].toArray below meth c 1 N0 T D gr ad 0 0 (MQ below (va_Qv (fun Y1 => Y1 = res) (WB T D gr ad) (fun q => N0 ≤ q)) [.ref (ad 6 0 0)].toArray s 0 0 (fun q => N0 ≤ q)) Y 217 [(0, .ref (ad 6 0 0))] [.int s0, .ref (ad 6 0 0)] := by
  unfold X10_advance_b217 at h
  obtain ⟨Y15, e16, h⟩ := lt_some h
  refine fw_put C (ci := 10) (Cn := RX10) (Tc := TX10) (N := 6) (j := 1) (ty := .int) (upd (Y 6 0 0) 1 s0) ly_X10_advance_10 rfl tyX10_ok nmX10 (hG _ (List.mem_of_getElem? (i := 0) rfl)) (of6_0 _) (ce6 T ad _ _) (by decide) (cx_ts C _ fl_X10_advance_44) (fun _ h => h) rfl (by decide +kernel) rfl rfl (Nat.le_of_ble_eq_true rfl) (ce6_put1 T ad _ _ _) dX10_advance_217 ?_
  refine fw_mem ((up_eq _ _ _ _ _ _).symm.trans e16) ?_
  refine fw_aload_n C dX10_advance_220 rfl 0 rfl ?_
  refine fw_aload_n C dX10_advance_221 rfl 0 rfl ?_
  refine fw_get C (ci := 10) (Cn := RX10) (Tc := TX10) (N := 6) (j := 2) ly_X10_advance_10 rfl (hG _ (List.mem_of_getElem? (i := 0) rfl)) (of6_0 _) (ce6 T ad _ _) (by decide) (cx_ts C _ fl_X10_advance_28) (fun _ h => h) (v := .int (Y15 6 0 0 2)) rfl dX10_advance_222 ?_
  refine fw_iconst C dX10_advance_225 (v := 1) rfl ?_
  refine fw_iadd C dX10_advance_226 ?_
  obtain ⟨Y17, e18, h⟩ := lt_some h
  refine fw_put C (ci := 10) (Cn := RX10) (Tc := TX10) (N := 6) (j := 3) (ty := .int) (upd (Y15 6 0 0) 3 ((Y15 6 0 0 2) + 1)) ly_X10_advance_10 rfl tyX10_ok nmX10 (hG _ (List.mem_of_getElem? (i := 0) rfl)) (of6_0 _) (ce6 T ad _ _) (by decide) (cx_ts C _ fl_X10_advance_22) (fun _ h => h) rfl (by decide +kernel) rfl rfl (Nat.le_of_ble_eq_true rfl) (ce6_put3 T ad _ _ _) dX10_advance_227 ?_
  refine fw_mem ((up_eq _ _ _ _ _ _).symm.trans e18) ?_
  exact fw_vret C hrt Y17 (Option.some.inj h) (fun t ht => ht) dX10_advance_230
set_option maxRecDepth 100000 in
set_option maxHeartbeats 4000000 in
theorem w_X10_advance_b188  (C : Cx p s m [.ref (ad 6 0 0)].toArray meth c cX10_advance 1 wsX10_advance RX10 N0 T D gr ad) (hrt : meth.sig.returnType = none) (hG : ∀ q ∈ [(6, 0), (5, 0)], q ∈ gr) {res : Mem} (Y : Mem) (s0 : Int32) (h : X10_advance_b188   Y s0 = some res) : FW p l e (Rm 1) s m [.ref (ad 6 0 0)].toArray below meth c 1 N0 T D gr ad 0 0 (MQ below (va_Qv (fun Y1 => Y1 = res) (WB T D gr ad) (fun q => N0 ≤ q)) [.ref (ad 6 0 0)].toArray s 0 0 (fun q => N0 ≤ q)) Y 188 [] [.int s0, .ref (ad 6 0 0)] := by
  unfold X10_advance_b188 at h
  obtain ⟨Y23, e24, h⟩ := lt_some h
  refine fw_put C (ci := 10) (Cn := RX10) (Tc := TX10) (N := 6) (j := 1) (ty := .int) (upd (Y 6 0 0) 1 s0) ly_X10_advance_10 rfl tyX10_ok nmX10 (hG _ (List.mem_of_getElem? (i := 0) rfl)) (of6_0 _) (ce6 T ad _ _) (by decide) (cx_ts C _ fl_X10_advance_44) (fun _ h => h) rfl (by decide +kernel) rfl rfl (Nat.le_of_ble_eq_true rfl) (ce6_put1 T ad _ _ _) dX10_advance_188 ?_
  refine fw_mem ((up_eq _ _ _ _ _ _).symm.trans e24) ?_
  refine fw_goto C dX10_advance_191 (tgt := 230) rfl ?_
  exact fw_vret C hrt Y23 (Option.some.inj h) (fun t ht => ht) dX10_advance_230
set_option maxRecDepth 100000 in
set_option maxHeartbeats 4000000 in
theorem w_X10_advance_b133  (C : Cx p s m [.ref (ad 6 0 0)].toArray meth c cX10_advance 1 wsX10_advance RX10 N0 T D gr ad) (hrt : meth.sig.returnType = none) (hG : ∀ q ∈ [(6, 0), (5, 0)], q ∈ gr) {res : Mem} (Y : Mem) (s0 : Int32) (h : X10_advance_b133   Y s0 = some res) : FW p l e (Rm 1) s m [.ref (ad 6 0 0)].toArray below meth c 1 N0 T D gr ad 0 0 (MQ below (va_Qv (fun Y1 => Y1 = res) (WB T D gr ad) (fun q => N0 ≤ q)) [.ref (ad 6 0 0)].toArray s 0 0 (fun q => N0 ≤ q)) Y 133 [] [.int s0, .ref (ad 6 0 0)] := by
  unfold X10_advance_b133 at h
  obtain ⟨Y29, e30, h⟩ := lt_some h
  refine fw_put C (ci := 10) (Cn := RX10) (Tc := TX10) (N := 6) (j := 1) (ty := .int) (upd (Y 6 0 0) 1 s0) ly_X10_advance_10 rfl tyX10_ok nmX10 (hG _ (List.mem_of_getElem? (i := 0) rfl)) (of6_0 _) (ce6 T ad _ _) (by decide) (cx_ts C _ fl_X10_advance_44) (fun _ h => h) rfl (by decide +kernel) rfl rfl (Nat.le_of_ble_eq_true rfl) (ce6_put1 T ad _ _ _) dX10_advance_133 ?_
  refine fw_mem ((up_eq _ _ _ _ _ _).symm.trans e30) ?_
  refine fw_goto C dX10_advance_136 (tgt := 230) rfl ?_
  exact fw_vret C hrt Y29 (Option.some.inj h) (fun t ht => ht) dX10_advance_230
set_option maxRecDepth 100000 in
set_option maxHeartbeats 4000000 in
theorem w_X10_advance_b53  (C : Cx p s m [.ref (ad 6 0 0)].toArray meth c cX10_advance 1 wsX10_advance RX10 N0 T D gr ad) (hrt : meth.sig.returnType = none) (hG : ∀ q ∈ [(6, 0), (5, 0)], q ∈ gr) {res : Mem} (Y : Mem) (h : X10_advance_b53   Y = some res) : FW p l e (Rm 1) s m [.ref (ad 6 0 0)].toArray below meth c 1 N0 T D gr ad 0 0 (MQ below (va_Qv (fun Y1 => Y1 = res) (WB T D gr ad) (fun q => N0 ≤ q)) [.ref (ad 6 0 0)].toArray s 0 0 (fun q => N0 ≤ q)) Y 53 [(0, .ref (ad 6 0 0))] [] := by
  unfold X10_advance_b53 at h
  refine fw_aload_n C dX10_advance_53 rfl 0 rfl ?_
  refine fw_aload_n C dX10_advance_54 rfl 0 rfl ?_
  refine fw_get C (ci := 10) (Cn := RX10) (Tc := TX10) (N := 6) (j := 2) ly_X10_advance_10 rfl (hG _ (List.mem_of_getElem? (i := 0) rfl)) (of6_0 _) (ce6 T ad _ _) (by decide) (cx_ts C _ fl_X10_advance_28) (fun _ h => h) (v := .int (Y 6 0 0 2)) rfl dX10_advance_55 ?_
  obtain ⟨Y4, e5, h⟩ := lt_some h
  refine fw_put C (ci := 10) (Cn := RX10) (Tc := TX10) (N := 6) (j := 3) (ty := .int) (upd (Y 6 0 0) 3 (Y 6 0 0 2)) ly_X10_advance_10 rfl tyX10_ok nmX10 (hG _ (List.mem_of_getElem? (i := 0) rfl)) (of6_0 _) (ce6 T ad _ _) (by decide) (cx_ts C _ fl_X10_advance_22) (fun _ h => h) rfl (by decide +kernel) rfl rfl (Nat.le_of_ble_eq_true rfl) (ce6_put3 T ad _ _ _) dX10_advance_58 ?_
  refine fw_mem ((up_eq _ _ _ _ _ _).symm.trans e5) ?_
  refine fw_aload_n C dX10_advance_61 rfl 0 rfl ?_
  refine fw_get C (ci := 10) (Cn := RX10) (Tc := TX10) (N := 6) (j := 2) ly_X10_advance_10 rfl (hG _ (List.mem_of_getElem? (i := 0) rfl)) (of6_0 _) (ce6 T ad _ _) (by decide) (cx_ts C _ fl_X10_advance_28) (fun _ h => h) (v := .int (Y4 6 0 0 2)) rfl dX10_advance_62 ?_
  refine fw_aload_n C dX10_advance_65 rfl 0 rfl ?_
  refine fw_get C (ci := 10) (Cn := RX10) (Tc := TX10) (N := 6) (j := 0) ly_X10_advance_10 rfl (hG _ (List.mem_of_getElem? (i := 0) rfl)) (of6_0 _) (ce6 T ad _ _) (by decide) (cx_ts C _ fl_X10_advance_9) (fun _ h => h) (v := .ref (ad 5 0 0)) rfl dX10_advance_66 ?_
  refine fw_getN C (ci := 9) (Cn := RX9) (Tc := TX9) (N := 2) (j := 1) ly_X10_advance_9 rfl (hG _ (List.mem_of_getElem? (i := 1) rfl)) (of5_0 _) (ce5 T ad _ _) (by decide) (Nst_use (cx_nst C) (w := .fieldLinkNest RX10 31 "RecipeScheduler$Text" "length" "I" "RecipeScheduler") 51 (by decide +kernel) rfl) (fun _ h => h) (v := .int (Y4 5 0 0 1)) rfl dX10_advance_69 ?_
  refine fw_icmp_lt C dX10_advance_72 (tgt := 83) rfl (fun c6 => ?_) (fun c6 => ?_)
  · have h := ite_t c6 h
    refine fw_aload_n C dX10_advance_83 rfl 0 rfl ?_
    refine fw_get C (ci := 10) (Cn := RX10) (Tc := TX10) (N := 6) (j := 0) ly_X10_advance_10 rfl (hG _ (List.mem_of_getElem? (i := 0) rfl)) (of6_0 _) (ce6 T ad _ _) (by decide) (cx_ts C _ fl_X10_advance_9) (fun _ h => h) (v := .ref (ad 5 0 0)) rfl dX10_advance_84 ?_
    refine fw_getN C (ci := 9) (Cn := RX9) (Tc := TX9) (N := 2) (j := 0) ly_X10_advance_9 rfl (hG _ (List.mem_of_getElem? (i := 1) rfl)) (of5_0 _) (ce5 T ad _ _) (by decide) (Nst_use (cx_nst C) (w := .fieldLinkNest RX10 36 "RecipeScheduler$Text" "bytes" "[B" "RecipeScheduler") 47 (by decide +kernel) rfl) (fun _ h => h) (v := .ref (ad 5 0 1)) rfl dX10_advance_87 ?_
    refine fw_aload_n C dX10_advance_90 rfl 0 rfl ?_
    refine fw_get C (ci := 10) (Cn := RX10) (Tc := TX10) (N := 6) (j := 2) ly_X10_advance_10 rfl (hG _ (List.mem_of_getElem? (i := 0) rfl)) (of6_0 _) (ce6 T ad _ _) (by decide) (cx_ts C _ fl_X10_advance_28) (fun _ h => h) (v := .int (Y4 6 0 0 2)) rfl dX10_advance_91 ?_
    obtain ⟨b7, h⟩ := gd_some h
    refine fw_bald2 C (hG _ (List.mem_of_getElem? (i := 1) rfl)) (of5_1 _) (ca5_1 T ad _ _) b7 (tcap_lt _) dX10_advance_94 ?_
    refine fw_bipush C dX10_advance_95 (v := 97) rfl ?_
    refine fw_bipush C dX10_advance_97 (v := 122) rfl ?_
    obtain ⟨r8, q9, h⟩ := bd1_some h
    refine fw_callSNi C (As := [.int (Y4 5 0 1 (ix (Y4 6 0 0 2))), .int 97, .int 122]) (c_X11_isWithin ga0 q9) ⟨(va_cnB 3 (cx_ts C) gX10_advance_X11_isWithin_n47 rfl rfl rfl (cx_nw C (w := .methodLinkNest RX10 47 yX11_isWithin "RecipeScheduler") 290 (by decide +kernel) rfl) (cx_ts C _ in_X10_advance_11) (by decide +kernel) ⟨Nat.le_of_ble_eq_true rfl, Nat.le_of_ble_eq_true rfl⟩), cx_ts C _ sw_X10_advance_X11_isWithin, trivial⟩ rfl (st := []) rfl (Nat.le_of_ble_eq_true rfl) ⟨Nat.le_refl 0, Nat.le_refl 0⟩ dX10_advance_99 (pp2 ?_)
    refine fw_if_eq C dX10_advance_102 (tgt := 139) rfl (fun c10 => ?_) (fun c10 => ?_)
    · have h := ite_t c10 h
      refine fw_aload_n C dX10_advance_139 rfl 0 rfl ?_
      refine fw_get C (ci := 10) (Cn := RX10) (Tc := TX10) (N := 6) (j := 0) ly_X10_advance_10 rfl (hG _ (List.mem_of_getElem? (i := 0) rfl)) (of6_0 _) (ce6 T ad _ _) (by decide) (cx_ts C _ fl_X10_advance_9) (fun _ h => h) (v := .ref (ad 5 0 0)) rfl dX10_advance_140 ?_
      refine fw_getN C (ci := 9) (Cn := RX9) (Tc := TX9) (N := 2) (j := 0) ly_X10_advance_9 rfl (hG _ (List.mem_of_getElem? (i := 1) rfl)) (of5_0 _) (ce5 T ad _ _) (by decide) (Nst_use (cx_nst C) (w := .fieldLinkNest RX10 36 "RecipeScheduler$Text" "bytes" "[B" "RecipeScheduler") 47 (by decide +kernel) rfl) (fun _ h => h) (v := .ref (ad 5 0 1)) rfl dX10_advance_143 ?_
      refine fw_aload_n C dX10_advance_146 rfl 0 rfl ?_
      refine fw_get C (ci := 10) (Cn := RX10) (Tc := TX10) (N := 6) (j := 2) ly_X10_advance_10 rfl (hG _ (List.mem_of_getElem? (i := 0) rfl)) (of6_0 _) (ce6 T ad _ _) (by decide) (cx_ts C _ fl_X10_advance_28) (fun _ h => h) (v := .int (Y4 6 0 0 2)) rfl dX10_advance_147 ?_
      refine fw_bald2 C (hG _ (List.mem_of_getElem? (i := 1) rfl)) (of5_1 _) (ca5_1 T ad _ _) b7 (tcap_lt _) dX10_advance_150 ?_
      refine fw_bipush C dX10_advance_151 (v := 48) rfl ?_
      refine fw_bipush C dX10_advance_153 (v := 57) rfl ?_
      obtain ⟨r11, q12, h⟩ := bd1_some h
      refine fw_callSNi C (As := [.int (Y4 5 0 1 (ix (Y4 6 0 0 2))), .int 48, .int 57]) (c_X11_isWithin ga0 q12) ⟨(va_cnB 3 (cx_ts C) gX10_advance_X11_isWithin_n47 rfl rfl rfl (cx_nw C (w := .methodLinkNest RX10 47 yX11_isWithin "RecipeScheduler") 290 (by decide +kernel) rfl) (cx_ts C _ in_X10_advance_11) (by decide +kernel) ⟨Nat.le_of_ble_eq_true rfl, Nat.le_of_ble_eq_true rfl⟩), cx_ts C _ sw_X10_advance_X11_isWithin, trivial⟩ rfl (st := []) rfl (Nat.le_of_ble_eq_true rfl) ⟨Nat.le_refl 0, Nat.le_refl 0⟩ dX10_advance_155 (pp2 ?_)
      refine fw_if_eq C dX10_advance_158 (tgt := 194) rfl (fun c13 => ?_) (fun c13 => ?_)
      · have h := ite_t c13 h
        refine fw_aload_n C dX10_advance_194 rfl 0 rfl ?_
        refine fw_aload_n C dX10_advance_195 rfl 0 rfl ?_
        refine fw_get C (ci := 10) (Cn := RX10) (Tc := TX10) (N := 6) (j := 0) ly_X10_advance_10 rfl (hG _ (List.mem_of_getElem? (i := 0) rfl)) (of6_0 _) (ce6 T ad _ _) (by decide) (cx_ts C _ fl_X10_advance_9) (fun _ h => h) (v := .ref (ad 5 0 0)) rfl dX10_advance_196 ?_
        refine fw_getN C (ci := 9) (Cn := RX9) (Tc := TX9) (N := 2) (j := 0) ly_X10_advance_9 rfl (hG _ (List.mem_of_getElem? (i := 1) rfl)) (of5_0 _) (ce5 T ad _ _) (by decide) (Nst_use (cx_nst C) (w := .fieldLinkNest RX10 36 "RecipeScheduler$Text" "bytes" "[B" "RecipeScheduler") 47 (by decide +kernel) rfl) (fun _ h => h) (v := .ref (ad 5 0 1)) rfl dX10_advance_199 ?_
        refine fw_aload_n C dX10_advance_202 rfl 0 rfl ?_
        refine fw_get C (ci := 10) (Cn := RX10) (Tc := TX10) (N := 6) (j := 2) ly_X10_advance_10 rfl (hG _ (List.mem_of_getElem? (i := 0) rfl)) (of6_0 _) (ce6 T ad _ _) (by decide) (cx_ts C _ fl_X10_advance_28) (fun _ h => h) (v := .int (Y4 6 0 0 2)) rfl dX10_advance_203 ?_
        refine fw_bald2 C (hG _ (List.mem_of_getElem? (i := 1) rfl)) (of5_1 _) (ca5_1 T ad _ _) b7 (tcap_lt _) dX10_advance_206 ?_
        refine fw_bipush C dX10_advance_207 (v := 59) rfl ?_
        refine fw_icmp_ne C dX10_advance_209 (tgt := 216) rfl (fun c14 => ?_) (fun c14 => ?_)
        · have h := ite_f c14 h
          refine fw_iconst C dX10_advance_216 (v := 4) rfl ?_
          exact w_X10_advance_b217 C hrt hG   _ _ h
        · have h := ite_t c14 h
          refine fw_iconst C dX10_advance_212 (v := 3) rfl ?_
          refine fw_goto C dX10_advance_213 (tgt := 217) rfl ?_
          exact w_X10_advance_b217 C hrt hG   _ _ h
      · have h := ite_f c13 h
        refine fw_aload_n C dX10_advance_161 rfl 0 rfl ?_
        refine fw_bipush C dX10_advance_162 (v := 48) rfl ?_
        refine fw_bipush C dX10_advance_164 (v := 57) rfl ?_
        obtain ⟨Y21, q20, h⟩ := bd1_some h
        refine fw_callVv C (ci := 10) (Cn := RX10) (Tc := TX10) (N := 6) (As := [.int 48, .int 57]) (c_X10_passRun (gac (hG _ (List.mem_of_getElem? (i := 0) rfl)) (gac (hG _ (List.mem_of_getElem? (i := 1) rfl)) ga0)) q20) (cwV 2 (cx_ts C) gX10_advance_X10_passRun rfl rfl rfl (by decide +kernel) ⟨Nat.le_of_ble_eq_true rfl, Nat.le_of_ble_eq_true rfl⟩) rfl (hG _ (List.mem_of_getElem? (i := 0) rfl)) (of6_0 _) (ce6 T ad _ _) rfl (st := []) rfl (Nat.le_of_ble_eq_true rfl) ⟨Nat.le_refl 0, Nat.le_refl 0⟩ dX10_advance_166 (ppv ?_)
        refine fw_aload_n C dX10_advance_169 rfl 0 rfl ?_
        refine fw_aload_n C dX10_advance_170 rfl 0 rfl ?_
        refine fw_get C (ci := 10) (Cn := RX10) (Tc := TX10) (N := 6) (j := 3) ly_X10_advance_10 rfl (hG _ (List.mem_of_getElem? (i := 0) rfl)) (of6_0 _) (ce6 T ad _ _) (by decide) (cx_ts C _ fl_X10_advance_22) (fun _ h => h) (v := .int (Y21 6 0 0 3)) rfl dX10_advance_171 ?_
        refine fw_aload_n C dX10_advance_174 rfl 0 rfl ?_
        refine fw_get C (ci := 10) (Cn := RX10) (Tc := TX10) (N := 6) (j := 2) ly_X10_advance_10 rfl (hG _ (List.mem_of_getElem? (i := 0) rfl)) (of6_0 _) (ce6 T ad _ _) (by decide) (cx_ts C _ fl_X10_advance_28) (fun _ h => h) (v := .int (Y21 6 0 0 2)) rfl dX10_advance_175 ?_
        refine fw_isub C dX10_advance_178 ?_
        refine fw_iconst C dX10_advance_179 (v := 3) rfl ?_
        refine fw_icmp_gt C dX10_advance_180 (tgt := 187) rfl (fun c22 => ?_) (fun c22 => ?_)
        · have h := ite_t c22 h
          refine fw_iconst C dX10_advance_187 (v := 4) rfl ?_
          refine fw_sub [] (L' := []) rfl ?_
          exact w_X10_advance_b188 C hrt hG   _ _ h
        · have h := ite_f c22 h
          refine fw_iconst C dX10_advance_183 (v := 2) rfl ?_
          refine fw_goto C dX10_advance_184 (tgt := 188) rfl ?_
          refine fw_sub [] (L' := []) rfl ?_
          exact w_X10_advance_b188 C hrt hG   _ _ h
    · have h := ite_f c10 h
      refine fw_aload_n C dX10_advance_105 rfl 0 rfl ?_
      refine fw_bipush C dX10_advance_106 (v := 97) rfl ?_
      refine fw_bipush C dX10_advance_108 (v := 122) rfl ?_
      obtain ⟨Y27, q26, h⟩ := bd1_some h
      refine fw_callVv C (ci := 10) (Cn := RX10) (Tc := TX10) (N := 6) (As := [.int 97, .int 122]) (c_X10_passRun (gac (hG _ (List.mem_of_getElem? (i := 0) rfl)) (gac (hG _ (List.mem_of_getElem? (i := 1) rfl)) ga0)) q26) (cwV 2 (cx_ts C) gX10_advance_X10_passRun rfl rfl rfl (by decide +kernel) ⟨Nat.le_of_ble_eq_true rfl, Nat.le_of_ble_eq_true rfl⟩) rfl (hG _ (List.mem_of_getElem? (i := 0) rfl)) (of6_0 _) (ce6 T ad _ _) rfl (st := []) rfl (Nat.le_of_ble_eq_true rfl) ⟨Nat.le_refl 0, Nat.le_refl 0⟩ dX10_advance_110 (ppv ?_)
      refine fw_aload_n C dX10_advance_113 rfl 0 rfl ?_
      refine fw_aload_n C dX10_advance_114 rfl 0 rfl ?_
      refine fw_get C (ci := 10) (Cn := RX10) (Tc := TX10) (N := 6) (j := 3) ly_X10_advance_10 rfl (hG _ (List.mem_of_getElem? (i := 0) rfl)) (of6_0 _) (ce6 T ad _ _) (by decide) (cx_ts C _ fl_X10_advance_22) (fun _ h => h) (v := .int (Y27 6 0 0 3)) rfl dX10_advance_115 ?_
      refine fw_aload_n C dX10_advance_118 rfl 0 rfl ?_
      refine fw_get C (ci := 10) (Cn := RX10) (Tc := TX10) (N := 6) (j := 2) ly_X10_advance_10 rfl (hG _ (List.mem_of_getElem? (i := 0) rfl)) (of6_0 _) (ce6 T ad _ _) (by decide) (cx_ts C _ fl_X10_advance_28) (fun _ h => h) (v := .int (Y27 6 0 0 2)) rfl dX10_advance_119 ?_
      refine fw_isub C dX10_advance_122 ?_
      refine fw_bipush C dX10_advance_123 (v := 8) rfl ?_
      refine fw_icmp_gt C dX10_advance_125 (tgt := 132) rfl (fun c28 => ?_) (fun c28 => ?_)
      · have h := ite_t c28 h
        refine fw_iconst C dX10_advance_132 (v := 4) rfl ?_
        refine fw_sub [] (L' := []) rfl ?_
        exact w_X10_advance_b133 C hrt hG   _ _ h
      · have h := ite_f c28 h
        refine fw_iconst C dX10_advance_128 (v := 1) rfl ?_
        refine fw_goto C dX10_advance_129 (tgt := 133) rfl ?_
        refine fw_sub [] (L' := []) rfl ?_
        exact w_X10_advance_b133 C hrt hG   _ _ h
  · have h := ite_f c6 h
    refine fw_aload_n C dX10_advance_75 rfl 0 rfl ?_
    refine fw_iconst C dX10_advance_76 (v := 0) rfl ?_
    obtain ⟨Y31, e32, h⟩ := lt_some h
    refine fw_put C (ci := 10) (Cn := RX10) (Tc := TX10) (N := 6) (j := 1) (ty := .int) (upd (Y4 6 0 0) 1 0) ly_X10_advance_10 rfl tyX10_ok nmX10 (hG _ (List.mem_of_getElem? (i := 0) rfl)) (of6_0 _) (ce6 T ad _ _) (by decide) (cx_ts C _ fl_X10_advance_44) (fun _ h => h) rfl (by decide +kernel) rfl rfl (Nat.le_of_ble_eq_true rfl) (ce6_put1 T ad _ _ _) dX10_advance_77 ?_
    refine fw_mem ((up_eq _ _ _ _ _ _).symm.trans e32) ?_
    refine fw_goto C dX10_advance_80 (tgt := 230) rfl ?_
    exact fw_vret C hrt Y31 (Option.some.inj h) (fun t ht => ht) dX10_advance_230
set_option maxRecDepth 100000 in
set_option maxHeartbeats 4000000 in
theorem w_X10_advance_b8  (C : Cx p s m [.ref (ad 6 0 0)].toArray meth c cX10_advance 1 wsX10_advance RX10 N0 T D gr ad) (hrt : meth.sig.returnType = none) (hG : ∀ q ∈ [(6, 0), (5, 0)], q ∈ gr) {res : Mem} : ∀ (n : Nat) (Y : Mem), X10_advance_b8   n Y = some res → FW p l e (Rm 1) s m [.ref (ad 6 0 0)].toArray below meth c 1 N0 T D gr ad 0 0 (MQ below (va_Qv (fun Y1 => Y1 = res) (WB T D gr ad) (fun q => N0 ≤ q)) [.ref (ad 6 0 0)].toArray s 0 0 (fun q => N0 ≤ q)) Y 8 [(0, .ref (ad 6 0 0))] [] := by
  intro n
  induction n with
  | zero =>
    intro Y h
    unfold X10_advance_b8 at h
    cases h
  | succ n ih =>
    intro Y h
    unfold X10_advance_b8 at h
    refine fw_aload_n C dX10_advance_8 rfl 0 rfl ?_
    refine fw_get C (ci := 10) (Cn := RX10) (Tc := TX10) (N := 6) (j := 2) ly_X10_advance_10 rfl (hG _ (List.mem_of_getElem? (i := 0) rfl)) (of6_0 _) (ce6 T ad _ _) (by decide) (cx_ts C _ fl_X10_advance_28) (fun _ h => h) (v := .int (Y 6 0 0 2)) rfl dX10_advance_9 ?_
    refine fw_aload_n C dX10_advance_12 rfl 0 rfl ?_
    refine fw_get C (ci := 10) (Cn := RX10) (Tc := TX10) (N := 6) (j := 0) ly_X10_advance_10 rfl (hG _ (List.mem_of_getElem? (i := 0) rfl)) (of6_0 _) (ce6 T ad _ _) (by decide) (cx_ts C _ fl_X10_advance_9) (fun _ h => h) (v := .ref (ad 5 0 0)) rfl dX10_advance_13 ?_
    refine fw_getN C (ci := 9) (Cn := RX9) (Tc := TX9) (N := 2) (j := 1) ly_X10_advance_9 rfl (hG _ (List.mem_of_getElem? (i := 1) rfl)) (of5_0 _) (ce5 T ad _ _) (by decide) (Nst_use (cx_nst C) (w := .fieldLinkNest RX10 31 "RecipeScheduler$Text" "length" "I" "RecipeScheduler") 51 (by decide +kernel) rfl) (fun _ h => h) (v := .int (Y 5 0 0 1)) rfl dX10_advance_16 ?_
    refine fw_icmp_ge C dX10_advance_19 (tgt := 53) rfl (fun c3 => ?_) (fun c3 => ?_)
    · have h := ite_t c3 h
      exact w_X10_advance_b53 C hrt hG   _ h
    · have h := ite_f c3 h
      refine fw_aload_n C dX10_advance_22 rfl 0 rfl ?_
      refine fw_get C (ci := 10) (Cn := RX10) (Tc := TX10) (N := 6) (j := 0) ly_X10_advance_10 rfl (hG _ (List.mem_of_getElem? (i := 0) rfl)) (of6_0 _) (ce6 T ad _ _) (by decide) (cx_ts C _ fl_X10_advance_9) (fun _ h => h) (v := .ref (ad 5 0 0)) rfl dX10_advance_23 ?_
      refine fw_getN C (ci := 9) (Cn := RX9) (Tc := TX9) (N := 2) (j := 0) ly_X10_advance_9 rfl (hG _ (List.mem_of_getElem? (i := 1) rfl)) (of5_0 _) (ce5 T ad _ _) (by decide) (Nst_use (cx_nst C) (w := .fieldLinkNest RX10 36 "RecipeScheduler$Text" "bytes" "[B" "RecipeScheduler") 47 (by decide +kernel) rfl) (fun _ h => h) (v := .ref (ad 5 0 1)) rfl dX10_advance_26 ?_
      refine fw_aload_n C dX10_advance_29 rfl 0 rfl ?_
      refine fw_get C (ci := 10) (Cn := RX10) (Tc := TX10) (N := 6) (j := 2) ly_X10_advance_10 rfl (hG _ (List.mem_of_getElem? (i := 0) rfl)) (of6_0 _) (ce6 T ad _ _) (by decide) (cx_ts C _ fl_X10_advance_28) (fun _ h => h) (v := .int (Y 6 0 0 2)) rfl dX10_advance_30 ?_
      obtain ⟨b33, h⟩ := gd_some h
      refine fw_bald2 C (hG _ (List.mem_of_getElem? (i := 1) rfl)) (of5_1 _) (ca5_1 T ad _ _) b33 (tcap_lt _) dX10_advance_33 ?_
      obtain ⟨r34, q35, h⟩ := bd1_some h
      refine fw_callSi C (As := [.int (Y 5 0 1 (ix (Y 6 0 0 2)))]) (c_X10_isGap ga0 q35) (va_cwS 1 (cx_ts C) gX10_advance_X10_isGap rfl rfl rfl (by decide +kernel) ⟨Nat.le_of_ble_eq_true rfl, Nat.le_of_ble_eq_true rfl⟩) rfl (st := []) rfl (Nat.le_of_ble_eq_true rfl) ⟨Nat.le_refl 0, Nat.le_refl 0⟩ dX10_advance_34 (pp2 ?_)
      refine fw_if_eq C dX10_advance_37 (tgt := 53) rfl (fun c36 => ?_) (fun c36 => ?_)
      · have h := ite_t c36 h
        exact w_X10_advance_b53 C hrt hG   _ h
      · have h := ite_f c36 h
        refine fw_aload_n C dX10_advance_40 rfl 0 rfl ?_
        refine fw_dup C dX10_advance_41 rfl ?_
        refine fw_get C (ci := 10) (Cn := RX10) (Tc := TX10) (N := 6) (j := 2) ly_X10_advance_10 rfl (hG _ (List.mem_of_getElem? (i := 0) rfl)) (of6_0 _) (ce6 T ad _ _) (by decide) (cx_ts C _ fl_X10_advance_28) (fun _ h => h) (v := .int (Y 6 0 0 2)) rfl dX10_advance_42 ?_
        refine fw_iconst C dX10_advance_45 (v := 1) rfl ?_
        refine fw_iadd C dX10_advance_46 ?_
        obtain ⟨Y37, e38, h⟩ := lt_some h
        refine fw_put C (ci := 10) (Cn := RX10) (Tc := TX10) (N := 6) (j := 2) (ty := .int) (upd (Y 6 0 0) 2 ((Y 6 0 0 2) + 1)) ly_X10_advance_10 rfl tyX10_ok nmX10 (hG _ (List.mem_of_getElem? (i := 0) rfl)) (of6_0 _) (ce6 T ad _ _) (by decide) (cx_ts C _ fl_X10_advance_28) (fun _ h => h) rfl (by decide +kernel) rfl rfl (Nat.le_of_ble_eq_true rfl) (ce6_put2 T ad _ _ _) dX10_advance_47 ?_
        refine fw_mem ((up_eq _ _ _ _ _ _).symm.trans e38) ?_
        refine fw_goto C dX10_advance_50 (tgt := 8) rfl ?_
        exact ih _ h
set_option maxRecDepth 100000 in
set_option maxHeartbeats 4000000 in
theorem w_X10_advance {Y : Mem} (C : Cx p s m [.ref (ad 6 0 0)].toArray meth c cX10_advance 1 wsX10_advance RX10 N0 T D gr ad) (hrt : meth.sig.returnType = none) (hG : ∀ q ∈ [(6, 0), (5, 0)], q ∈ gr) {res : Mem} (h : X10_advance Y = some res) : FW p l e (Rm 1) s m [.ref (ad 6 0 0)].toArray below meth c 1 N0 T D gr ad 0 0 (MQ below (va_Qv (fun Y1 => Y1 = res) (WB T D gr ad) (fun q => N0 ≤ q)) [.ref (ad 6 0 0)].toArray s 0 0 (fun q => N0 ≤ q)) Y 0 [(0, .ref (ad 6 0 0))] [] := by
  unfold X10_advance at h
  refine fw_aload_n C dX10_advance_0 rfl 0 rfl ?_
  refine fw_aload_n C dX10_advance_1 rfl 0 rfl ?_
  refine fw_get C (ci := 10) (Cn := RX10) (Tc := TX10) (N := 6) (j := 3) ly_X10_advance_10 rfl (hG _ (List.mem_of_getElem? (i := 0) rfl)) (of6_0 _) (ce6 T ad _ _) (by decide) (cx_ts C _ fl_X10_advance_22) (fun _ h => h) (v := .int (Y 6 0 0 3)) rfl dX10_advance_2 ?_
  obtain ⟨Y1, e2, h⟩ := lt_some h
  refine fw_put C (ci := 10) (Cn := RX10) (Tc := TX10) (N := 6) (j := 2) (ty := .int) (upd (Y 6 0 0) 2 (Y 6 0 0 3)) ly_X10_advance_10 rfl tyX10_ok nmX10 (hG _ (List.mem_of_getElem? (i := 0) rfl)) (of6_0 _) (ce6 T ad _ _) (by decide) (cx_ts C _ fl_X10_advance_28) (fun _ h => h) rfl (by decide +kernel) rfl rfl (Nat.le_of_ble_eq_true rfl) (ce6_put2 T ad _ _ _) dX10_advance_5 ?_
  refine fw_mem ((up_eq _ _ _ _ _ _).symm.trans e2) ?_
  exact w_X10_advance_b8 C hrt hG   _ _ h
end
set_option maxRecDepth 100000 in
set_option maxHeartbeats 4000000 in
theorem c_X10_advance {l : Launch} {N0 : Nat} {T : Nat → ClassId} {D : va_G} {gr : List (Nat × Nat)} {ad : Nat → Nat → Nat → Nat} {Y : Mem} {res : Mem} (hG : ∀ q ∈ [(6, 0), (5, 0)], q ∈ gr) (h : X10_advance Y = some res) : CV l yX10_advance wsX10_advance (Rm 1) N0 T D gr ad Y [.ref (ad 6 0 0)] (fun Y1 => Y1 = res) :=
  fw_body (by decide +kernel) rfl (Nat.le_of_ble_eq_true rfl) (fun p e s m below meth c C hrt => w_X10_advance C hrt hG  h)
section
variable {p : Program} {l : Launch} {e : Env} {s : State} {m : MethodId} {below : List Frame} {meth : Method} {c : Code} {N0 : Nat} {T : Nat → ClassId} {D : va_G} {gr : List (Nat × Nat)} {ad : Nat → Nat → Nat → Nat}
set_option maxRecDepth 100000 in
set_option maxHeartbeats 4000000 in
theorem w_X10_accept {Y : Mem} {w1 : Nat} (C : Cx p s m [.ref (ad 6 0 0), .ref (ad 21 w1 0)].toArray meth c cX10_accept 3 wsX10_accept RX10 N0 T D gr ad) (hrt : meth.sig.returnType = (some .boolean)) (hG : ∀ q ∈ [(5, 0), (6, 0)], q ∈ gr) {res : Int32 × Mem} (h : X10_accept Y w1 = some res) : FW p l e (Rm 5) s m [.ref (ad 6 0 0), .ref (ad 21 w1 0)].toArray below meth c 3 N0 T D gr ad 0 0 (MQ below (va_Qi (fun r Y1 => (r, Y1) = res) (WB T D gr ad) (fun q => N0 ≤ q)) [.ref (ad 6 0 0), .ref (ad 21 w1 0)].toArray s 0 0 (fun q => N0 ≤ q)) Y 0 [(0, .ref (ad 6 0 0)), (1, .ref (ad 21 w1 0))] [] := by
  unfold X10_accept at h
  refine fw_aload_n C dX10_accept_0 rfl 0 rfl ?_
  refine fw_aload_n C dX10_accept_1 rfl 1 rfl ?_
  obtain ⟨r1, q2, h⟩ := bd1_some h
  refine fw_callVi C (ci := 10) (Cn := RX10) (Tc := TX10) (N := 6) (As := [.ref (ad 21 w1 0)]) (c_X10_isWord (gac (hG _ (List.mem_of_getElem? (i := 1) rfl)) (gac (hG _ (List.mem_of_getElem? (i := 0) rfl)) ga0)) q2) (cwV 1 (cx_ts C) gX10_accept_X10_isWord rfl rfl rfl (by decide +kernel) ⟨Nat.le_of_ble_eq_true rfl, Nat.le_of_ble_eq_true rfl⟩) rfl (hG _ (List.mem_of_getElem? (i := 1) rfl)) (of6_0 _) (ce6 T ad _ _) rfl (st := []) rfl (Nat.le_of_ble_eq_true rfl) ⟨Nat.le_refl 0, Nat.le_refl 0⟩ dX10_accept_2 (pp2 ?_)
  refine fw_istore_n C dX10_accept_5 rfl (by decide) (L' := [(2, .int r1), (0, .ref (ad 6 0 0)), (1, .ref (ad 21 w1 0))]) rfl ?_
  refine fw_iload_n C dX10_accept_6 rfl 0 rfl ?_
  refine fw_if_eq C dX10_accept_7 (tgt := 14) rfl (fun c3 => ?_) (fun c3 => ?_)
  · have h := ite_t c3 h
    refine fw_iload_n C dX10_accept_14 rfl 0 rfl ?_
    obtain ⟨b4, h⟩ := gd_some h
    exact fw_zret C hrt (of_decide_eq_true b4) Y (Option.some.inj h) (fun t ht => ht) dX10_accept_15
  · have h := ite_f c3 h
    refine fw_aload_n C dX10_accept_10 rfl 1 rfl ?_
    obtain ⟨Y7, q6, h⟩ := bd1_some h
    refine fw_callVv C (ci := 10) (Cn := RX10) (Tc := TX10) (N := 6) (As := []) (c_X10_advance (gac (hG _ (List.mem_of_getElem? (i := 1) rfl)) (gac (hG _ (List.mem_of_getElem? (i := 0) rfl)) ga0)) q6) (cwV 0 (cx_ts C) gX10_accept_X10_advance rfl rfl rfl (by decide +kernel) ⟨Nat.le_of_ble_eq_true rfl, Nat.le_of_ble_eq_true rfl⟩) rfl (hG _ (List.mem_of_getElem? (i := 1) rfl)) (of6_0 _) (ce6 T ad _ _) rfl (st := []) rfl (Nat.le_of_ble_eq_true rfl) ⟨Nat.le_refl 0, Nat.le_refl 0⟩ dX10_accept_11 (ppv ?_)
    refine fw_iload_n C dX10_accept_14 rfl 0 rfl ?_
    obtain ⟨b8, h⟩ := gd_some h
    exact fw_zret C hrt (of_decide_eq_true b8) Y7 (Option.some.inj h) (fun t ht => ht) dX10_accept_15
end
set_option maxRecDepth 100000 in
set_option maxHeartbeats 4000000 in
theorem c_X10_accept {l : Launch} {N0 : Nat} {T : Nat → ClassId} {D : va_G} {gr : List (Nat × Nat)} {ad : Nat → Nat → Nat → Nat} {Y : Mem} {w1 : Nat} {res : Int32 × Mem} (hG : ∀ q ∈ [(5, 0), (6, 0)], q ∈ gr) (h : X10_accept Y w1 = some res) : CI l yX10_accept wsX10_accept (Rm 5) N0 T D gr ad Y [.ref (ad 6 0 0), .ref (ad 21 w1 0)] (fun r Y1 => (r, Y1) = res) :=
  fw_body (by decide +kernel) rfl (Nat.le_of_ble_eq_true rfl) (fun p e s m below meth c C hrt => w_X10_accept C hrt hG  h)
theorem ly_X10_begin_10 : ∀ w ∈ u_ws RX10 TX10 6, w ∈ wsX10_begin := by decide +kernel
theorem fl_X10_begin_19 : Cond.fieldLink RX10 19 "RecipeScheduler$Tokens" "errorCode" "I" ∈ wsX10_begin := by decide +kernel
theorem fl_X10_begin_15 : Cond.fieldLink RX10 15 "RecipeScheduler$Tokens" "errorPosition" "I" ∈ wsX10_begin := by decide +kernel
theorem fl_X10_begin_22 : Cond.fieldLink RX10 22 "RecipeScheduler$Tokens" "end" "I" ∈ wsX10_begin := by decide +kernel
section
variable {p : Program} {l : Launch} {e : Env} {s : State} {m : MethodId} {below : List Frame} {meth : Method} {c : Code} {N0 : Nat} {T : Nat → ClassId} {D : va_G} {gr : List (Nat × Nat)} {ad : Nat → Nat → Nat → Nat}
set_option maxRecDepth 100000 in
set_option maxHeartbeats 4000000 in
theorem w_X10_begin {Y : Mem} (C : Cx p s m [.ref (ad 6 0 0)].toArray meth c cX10_begin 1 wsX10_begin RX10 N0 T D gr ad) (hrt : meth.sig.returnType = none) (hG : ∀ q ∈ [(6, 0), (5, 0)], q ∈ gr) {res : Mem} (h : X10_begin Y = some res) : FW p l e (Rm 2) s m [.ref (ad 6 0 0)].toArray below meth c 1 N0 T D gr ad 0 0 (MQ below (va_Qv (fun Y1 => Y1 = res) (WB T D gr ad) (fun q => N0 ≤ q)) [.ref (ad 6 0 0)].toArray s 0 0 (fun q => N0 ≤ q)) Y 0 [(0, .ref (ad 6 0 0))] [] := by
  unfold X10_begin at h
  refine fw_aload_n C dX10_begin_0 rfl 0 rfl ?_
  refine fw_iconst C dX10_begin_1 (v := 0) rfl ?_
  obtain ⟨Y1, e2, h⟩ := lt_some h
  refine fw_put C (ci := 10) (Cn := RX10) (Tc := TX10) (N := 6) (j := 4) (ty := .int) (upd (Y 6 0 0) 4 0) ly_X10_begin_10 rfl tyX10_ok nmX10 (hG _ (List.mem_of_getElem? (i := 0) rfl)) (of6_0 _) (ce6 T ad _ _) (by decide) (cx_ts C _ fl_X10_begin_19) (fun _ h => h) rfl (by decide +kernel) rfl rfl (Nat.le_of_ble_eq_true rfl) (ce6_put4 T ad _ _ _) dX10_begin_2 ?_
  refine fw_mem ((up_eq _ _ _ _ _ _).symm.trans e2) ?_
  refine fw_aload_n C dX10_begin_5 rfl 0 rfl ?_
  refine fw_iconst C dX10_begin_6 (v := (-1)) rfl ?_
  obtain ⟨Y3, e4, h⟩ := lt_some h
  refine fw_put C (ci := 10) (Cn := RX10) (Tc := TX10) (N := 6) (j := 5) (ty := .int) (upd (Y1 6 0 0) 5 ((-1))) ly_X10_begin_10 rfl tyX10_ok nmX10 (hG _ (List.mem_of_getElem? (i := 0) rfl)) (of6_0 _) (ce6 T ad _ _) (by decide) (cx_ts C _ fl_X10_begin_15) (fun _ h => h) rfl (by decide +kernel) rfl rfl (Nat.le_of_ble_eq_true rfl) (ce6_put5 T ad _ _ _) dX10_begin_7 ?_
  refine fw_mem ((up_eq _ _ _ _ _ _).symm.trans e4) ?_
  refine fw_aload_n C dX10_begin_10 rfl 0 rfl ?_
  refine fw_iconst C dX10_begin_11 (v := 0) rfl ?_
  obtain ⟨Y5, e6, h⟩ := lt_some h
  refine fw_put C (ci := 10) (Cn := RX10) (Tc := TX10) (N := 6) (j := 3) (ty := .int) (upd (Y3 6 0 0) 3 0) ly_X10_begin_10 rfl tyX10_ok nmX10 (hG _ (List.mem_of_getElem? (i := 0) rfl)) (of6_0 _) (ce6 T ad _ _) (by decide) (cx_ts C _ fl_X10_begin_22) (fun _ h => h) rfl (by decide +kernel) rfl rfl (Nat.le_of_ble_eq_true rfl) (ce6_put3 T ad _ _ _) dX10_begin_12 ?_
  refine fw_mem ((up_eq _ _ _ _ _ _).symm.trans e6) ?_
  refine fw_aload_n C dX10_begin_15 rfl 0 rfl ?_
  obtain ⟨Y9, q8, h⟩ := bd1_some h
  refine fw_callVv C (ci := 10) (Cn := RX10) (Tc := TX10) (N := 6) (As := []) (c_X10_advance (gac (hG _ (List.mem_of_getElem? (i := 0) rfl)) (gac (hG _ (List.mem_of_getElem? (i := 1) rfl)) ga0)) q8) (cwV 0 (cx_ts C) gX10_begin_X10_advance rfl rfl rfl (by decide +kernel) ⟨Nat.le_of_ble_eq_true rfl, Nat.le_of_ble_eq_true rfl⟩) rfl (hG _ (List.mem_of_getElem? (i := 0) rfl)) (of6_0 _) (ce6 T ad _ _) rfl (st := []) rfl (Nat.le_of_ble_eq_true rfl) ⟨Nat.le_refl 0, Nat.le_refl 0⟩ dX10_begin_16 (ppv ?_)
  exact fw_vret C hrt Y9 (Option.some.inj h) (fun t ht => ht) dX10_begin_19
end
set_option maxRecDepth 100000 in
set_option maxHeartbeats 4000000 in
theorem c_X10_begin {l : Launch} {N0 : Nat} {T : Nat → ClassId} {D : va_G} {gr : List (Nat × Nat)} {ad : Nat → Nat → Nat → Nat} {Y : Mem} {res : Mem} (hG : ∀ q ∈ [(6, 0), (5, 0)], q ∈ gr) (h : X10_begin Y = some res) : CV l yX10_begin wsX10_begin (Rm 2) N0 T D gr ad Y [.ref (ad 6 0 0)] (fun Y1 => Y1 = res) :=
  fw_body (by decide +kernel) rfl (Nat.le_of_ble_eq_true rfl) (fun p e s m below meth c C hrt => w_X10_begin C hrt hG  h)
theorem ly_X10_fail_10 : ∀ w ∈ u_ws RX10 TX10 6, w ∈ wsX10_fail := by decide +kernel
theorem fl_X10_fail_44 : Cond.fieldLink RX10 44 "RecipeScheduler$Tokens" "kind" "I" ∈ wsX10_fail := by decide +kernel
theorem fl_X10_fail_19 : Cond.fieldLink RX10 19 "RecipeScheduler$Tokens" "errorCode" "I" ∈ wsX10_fail := by decide +kernel
theorem fl_X10_fail_28 : Cond.fieldLink RX10 28 "RecipeScheduler$Tokens" "start" "I" ∈ wsX10_fail := by decide +kernel
theorem fl_X10_fail_15 : Cond.fieldLink RX10 15 "RecipeScheduler$Tokens" "errorPosition" "I" ∈ wsX10_fail := by decide +kernel
section
variable {p : Program} {l : Launch} {e : Env} {s : State} {m : MethodId} {below : List Frame} {meth : Method} {c : Code} {N0 : Nat} {T : Nat → ClassId} {D : va_G} {gr : List (Nat × Nat)} {ad : Nat → Nat → Nat → Nat}
set_option maxRecDepth 100000 in
set_option maxHeartbeats 4000000 in
theorem w_X10_fail {Y : Mem} {a1 : Int32} (C : Cx p s m [.ref (ad 6 0 0), .int a1].toArray meth c cX10_fail 2 wsX10_fail RX10 N0 T D gr ad) (hrt : meth.sig.returnType = none) (hG : ∀ q ∈ [(6, 0)], q ∈ gr) {res : Mem} (h : X10_fail Y a1 = some res) : FW p l e (Rm 0) s m [.ref (ad 6 0 0), .int a1].toArray below meth c 2 N0 T D gr ad 0 0 (MQ below (va_Qv (fun Y1 => Y1 = res) (WB T D gr ad) (fun q => N0 ≤ q)) [.ref (ad 6 0 0), .int a1].toArray s 0 0 (fun q => N0 ≤ q)) Y 0 [(0, .ref (ad 6 0 0)), (1, .int a1)] [] := by
  unfold X10_fail at h
  refine fw_aload_n C dX10_fail_0 rfl 0 rfl ?_
  refine fw_get C (ci := 10) (Cn := RX10) (Tc := TX10) (N := 6) (j := 1) ly_X10_fail_10 rfl (hG _ (List.mem_of_getElem? (i := 0) rfl)) (of6_0 _) (ce6 T ad _ _) (by decide) (cx_ts C _ fl_X10_fail_44) (fun _ h => h) (v := .int (Y 6 0 0 1)) rfl dX10_fail_1 ?_
  refine fw_iconst C dX10_fail_4 (v := 5) rfl ?_
  refine fw_icmp_eq C dX10_fail_5 (tgt := 26) rfl (fun c1 => ?_) (fun c1 => ?_)
  · have h := ite_t c1 h
    exact fw_vret C hrt Y (Option.some.inj h) (fun t ht => ht) dX10_fail_26
  · have h := ite_f c1 h
    refine fw_aload_n C dX10_fail_8 rfl 0 rfl ?_
    refine fw_iload_n C dX10_fail_9 rfl 1 rfl ?_
    obtain ⟨Y2, e3, h⟩ := lt_some h
    refine fw_put C (ci := 10) (Cn := RX10) (Tc := TX10) (N := 6) (j := 4) (ty := .int) (upd (Y 6 0 0) 4 a1) ly_X10_fail_10 rfl tyX10_ok nmX10 (hG _ (List.mem_of_getElem? (i := 0) rfl)) (of6_0 _) (ce6 T ad _ _) (by decide) (cx_ts C _ fl_X10_fail_19) (fun _ h => h) rfl (by decide +kernel) rfl rfl (Nat.le_of_ble_eq_true rfl) (ce6_put4 T ad _ _ _) dX10_fail_10 ?_
    refine fw_mem ((up_eq _ _ _ _ _ _).symm.trans e3) ?_
    refine fw_aload_n C dX10_fail_13 rfl 0 rfl ?_
    refine fw_aload_n C dX10_fail_14 rfl 0 rfl ?_
    refine fw_get C (ci := 10) (Cn := RX10) (Tc := TX10) (N := 6) (j := 2) ly_X10_fail_10 rfl (hG _ (List.mem_of_getElem? (i := 0) rfl)) (of6_0 _) (ce6 T ad _ _) (by decide) (cx_ts C _ fl_X10_fail_28) (fun _ h => h) (v := .int (Y2 6 0 0 2)) rfl dX10_fail_15 ?_
    obtain ⟨Y4, e5, h⟩ := lt_some h
    refine fw_put C (ci := 10) (Cn := RX10) (Tc := TX10) (N := 6) (j := 5) (ty := .int) (upd (Y2 6 0 0) 5 (Y2 6 0 0 2)) ly_X10_fail_10 rfl tyX10_ok nmX10 (hG _ (List.mem_of_getElem? (i := 0) rfl)) (of6_0 _) (ce6 T ad _ _) (by decide) (cx_ts C _ fl_X10_fail_15) (fun _ h => h) rfl (by decide +kernel) rfl rfl (Nat.le_of_ble_eq_true rfl) (ce6_put5 T ad _ _ _) dX10_fail_18 ?_
    refine fw_mem ((up_eq _ _ _ _ _ _).symm.trans e5) ?_
    refine fw_aload_n C dX10_fail_21 rfl 0 rfl ?_
    refine fw_iconst C dX10_fail_22 (v := 5) rfl ?_
    obtain ⟨Y6, e7, h⟩ := lt_some h
    refine fw_put C (ci := 10) (Cn := RX10) (Tc := TX10) (N := 6) (j := 1) (ty := .int) (upd (Y4 6 0 0) 1 5) ly_X10_fail_10 rfl tyX10_ok nmX10 (hG _ (List.mem_of_getElem? (i := 0) rfl)) (of6_0 _) (ce6 T ad _ _) (by decide) (cx_ts C _ fl_X10_fail_44) (fun _ h => h) rfl (by decide +kernel) rfl rfl (Nat.le_of_ble_eq_true rfl) (ce6_put1 T ad _ _ _) dX10_fail_23 ?_
    refine fw_mem ((up_eq _ _ _ _ _ _).symm.trans e7) ?_
    exact fw_vret C hrt Y6 (Option.some.inj h) (fun t ht => ht) dX10_fail_26
end
set_option maxRecDepth 100000 in
set_option maxHeartbeats 4000000 in
theorem c_X10_fail {l : Launch} {N0 : Nat} {T : Nat → ClassId} {D : va_G} {gr : List (Nat × Nat)} {ad : Nat → Nat → Nat → Nat} {Y : Mem} {a1 : Int32} {res : Mem} (hG : ∀ q ∈ [(6, 0)], q ∈ gr) (h : X10_fail Y a1 = some res) : CV l yX10_fail wsX10_fail (Rm 0) N0 T D gr ad Y [.ref (ad 6 0 0), .int a1] (fun Y1 => Y1 = res) :=
  fw_body (by decide +kernel) rfl (Nat.le_of_ble_eq_true rfl) (fun p e s m below meth c C hrt => w_X10_fail C hrt hG  h)
theorem ly_X4_matches_4 : ∀ w ∈ u_ws RX4 TX4 3, w ∈ wsX4_matches := by decide +kernel
theorem fl_X4_matches_16 : Cond.fieldLink RX4 16 "RecipeScheduler$Names" "lengths" "[I" ∈ wsX4_matches := by decide +kernel
theorem fl_X4_matches_11 : Cond.fieldLink RX4 11 "RecipeScheduler$Names" "letters" "[[B" ∈ wsX4_matches := by decide +kernel
theorem ly_X4_matches_9 : ∀ w ∈ u_ws RX9 TX9 2, w ∈ wsX4_matches := by decide +kernel
section
variable {p : Program} {l : Launch} {e : Env} {s : State} {m : MethodId} {below : List Frame} {meth : Method} {c : Code} {N0 : Nat} {T : Nat → ClassId} {D : va_G} {gr : List (Nat × Nat)} {ad : Nat → Nat → Nat → Nat}
set_option maxRecDepth 100000 in
set_option maxHeartbeats 4000000 in
theorem w_X4_matches_b3 {Y : Mem} {g0 : Nat} {a1 : Int32} {g2 : Nat} {a3 : Int32} (C : Cx p s m [.ref (ad 4 g0 0), .int a1, .ref (ad 5 g2 0), .int a3].toArray meth c cX4_matches 5 wsX4_matches RX4 N0 T D gr ad) (hrt : meth.sig.returnType = (some .boolean)) (hG : ∀ q ∈ [(4, g0), (5, g2)], q ∈ gr) {res : Int32} : ∀ (n : Nat) (l4 : Int32), X4_matches_b3 Y g0 a1 g2 a3  n l4 = some res → FW p l e (Rm 0) s m [.ref (ad 4 g0 0), .int a1, .ref (ad 5 g2 0), .int a3].toArray below meth c 5 N0 T D gr ad 0 0 (MQ below (va_Qi (fun r Y1 => r = res ∧ Y1 = Y) (WB T D gr ad) (fun q => N0 ≤ q)) [.ref (ad 4 g0 0), .int a1, .ref (ad 5 g2 0), .int a3].toArray s 0 0 (fun q => N0 ≤ q)) Y 3 [(4, .int l4), (0, .ref (ad 4 g0 0)), (1, .int a1), (2, .ref (ad 5 g2 0)), (3, .int a3)] [] := by
  intro n
  induction n with
  | zero =>
    intro l4 h
    unfold X4_matches_b3 at h
    cases h
  | succ n ih =>
    intro l4 h
    unfold X4_matches_b3 at h
    refine fw_iload C dX4_matches_3 0 rfl ?_
    refine fw_aload_n C dX4_matches_5 rfl 1 rfl ?_
    refine fw_get C (ci := 4) (Cn := RX4) (Tc := TX4) (N := 3) (j := 1) ly_X4_matches_4 rfl (hG _ (List.mem_of_getElem? (i := 0) rfl)) (of4_0 _) (ce4 T ad _ _) (by decide) (cx_ts C _ fl_X4_matches_16) (fun _ h => h) (v := .ref (ad 4 g0 2)) rfl dX4_matches_6 ?_
    refine fw_iload_n C dX4_matches_9 rfl 2 rfl ?_
    obtain ⟨b1, h⟩ := gd_some h
    refine fw_iald2 C (hG _ (List.mem_of_getElem? (i := 0) rfl)) (of4_2 _) (ca4_2 T ad _ _) b1 (ncap_lt _) dX4_matches_10 ?_
    refine fw_icmp_ge C dX4_matches_11 (tgt := 43) rfl (fun c2 => ?_) (fun c2 => ?_)
    · have h := ite_t c2 h
      refine fw_iconst C dX4_matches_43 (v := 1) rfl ?_
      exact fw_zret C hrt (by decide) Y ⟨Option.some.inj h, rfl⟩ (fun t ht => ht) dX4_matches_44
    · have h := ite_f c2 h
      refine fw_aload_n C dX4_matches_14 rfl 1 rfl ?_
      refine fw_get C (ci := 4) (Cn := RX4) (Tc := TX4) (N := 3) (j := 0) ly_X4_matches_4 rfl (hG _ (List.mem_of_getElem? (i := 0) rfl)) (of4_0 _) (ce4 T ad _ _) (by decide) (cx_ts C _ fl_X4_matches_11) (fun _ h => h) (v := .ref (ad 4 g0 1)) rfl dX4_matches_15 ?_
      refine fw_iload_n C dX4_matches_18 rfl 2 rfl ?_
      refine fw_aald2 C 4 (hG _ (List.mem_of_getElem? (i := 0) rfl)) (of4_1 _) (ca4_1 T ad _ _) rfl rfl b1 (ncap_lt _) (v := .ref (ad 4 g0 (10+ix a1))) rfl dX4_matches_19 ?_
      refine fw_iload C dX4_matches_20 0 rfl ?_
      obtain ⟨b3, h⟩ := gd_some h
      refine fw_bald2 C (hG _ (List.mem_of_getElem? (i := 0) rfl)) (of4_r _ (inb_lt b1)) (ca4_r T ad _ _ _) b3 (Nat.le_of_ble_eq_true rfl) dX4_matches_22 ?_
      refine fw_aload_n C dX4_matches_23 rfl 3 rfl ?_
      refine fw_getN C (ci := 9) (Cn := RX9) (Tc := TX9) (N := 2) (j := 0) ly_X4_matches_9 rfl (hG _ (List.mem_of_getElem? (i := 1) rfl)) (of5_0 _) (ce5 T ad _ _) (by decide) (Nst_use (cx_nst C) (w := .fieldLinkNest RX4 28 "RecipeScheduler$Text" "bytes" "[B" "RecipeScheduler") 48 (by decide +kernel) rfl) (fun _ h => h) (v := .ref (ad 5 g2 1)) rfl dX4_matches_24 ?_
      refine fw_iload_n C dX4_matches_27 rfl 4 rfl ?_
      refine fw_iload C dX4_matches_28 0 rfl ?_
      refine fw_iadd C dX4_matches_30 ?_
      obtain ⟨b4, h⟩ := gd_some h
      refine fw_bald2 C (hG _ (List.mem_of_getElem? (i := 1) rfl)) (of5_1 _) (ca5_1 T ad _ _) b4 (tcap_lt _) dX4_matches_31 ?_
      refine fw_icmp_eq C dX4_matches_32 (tgt := 37) rfl (fun c5 => ?_) (fun c5 => ?_)
      · have h := ite_t c5 h
        refine fw_iinc C dX4_matches_37 (kk := 0) (v := l4 + 1) rfl rfl (by decide) (L' := [(4, .int (l4 + 1)), (0, .ref (ad 4 g0 0)), (1, .int a1), (2, .ref (ad 5 g2 0)), (3, .int a3)]) rfl ?_
        refine fw_goto C dX4_matches_40 (tgt := 3) rfl ?_
        exact ih _ h
      · have h := ite_f c5 h
        refine fw_iconst C dX4_matches_35 (v := 0) rfl ?_
        exact fw_zret C hrt (by decide) Y ⟨Option.some.inj h, rfl⟩ (fun t ht => ht) dX4_matches_36
set_option maxRecDepth 100000 in
set_option maxHeartbeats 4000000 in
theorem w_X4_matches {Y : Mem} {g0 : Nat} {a1 : Int32} {g2 : Nat} {a3 : Int32} (C : Cx p s m [.ref (ad 4 g0 0), .int a1, .ref (ad 5 g2 0), .int a3].toArray meth c cX4_matches 5 wsX4_matches RX4 N0 T D gr ad) (hrt : meth.sig.returnType = (some .boolean)) (hG : ∀ q ∈ [(4, g0), (5, g2)], q ∈ gr) {res : Int32} (h : X4_matches Y g0 a1 g2 a3 = some res) : FW p l e (Rm 0) s m [.ref (ad 4 g0 0), .int a1, .ref (ad 5 g2 0), .int a3].toArray below meth c 5 N0 T D gr ad 0 0 (MQ below (va_Qi (fun r Y1 => r = res ∧ Y1 = Y) (WB T D gr ad) (fun q => N0 ≤ q)) [.ref (ad 4 g0 0), .int a1, .ref (ad 5 g2 0), .int a3].toArray s 0 0 (fun q => N0 ≤ q)) Y 0 [(0, .ref (ad 4 g0 0)), (1, .int a1), (2, .ref (ad 5 g2 0)), (3, .int a3)] [] := by
  unfold X4_matches at h
  refine fw_iconst C dX4_matches_0 (v := 0) rfl ?_
  refine fw_istore C dX4_matches_1 (by decide) (L' := [(4, .int 0), (0, .ref (ad 4 g0 0)), (1, .int a1), (2, .ref (ad 5 g2 0)), (3, .int a3)]) rfl ?_
  exact w_X4_matches_b3 C hrt hG   _ _ h
end
set_option maxRecDepth 100000 in
set_option maxHeartbeats 4000000 in
theorem c_X4_matches {l : Launch} {N0 : Nat} {T : Nat → ClassId} {D : va_G} {gr : List (Nat × Nat)} {ad : Nat → Nat → Nat → Nat} {Y : Mem} {g0 : Nat} {a1 : Int32} {g2 : Nat} {a3 : Int32} {res : Int32} (hG : ∀ q ∈ [(4, g0), (5, g2)], q ∈ gr) (h : X4_matches Y g0 a1 g2 a3 = some res) : CI l yX4_matches wsX4_matches (Rm 0) N0 T D gr ad Y [.ref (ad 4 g0 0), .int a1, .ref (ad 5 g2 0), .int a3] (fun r Y1 => r = res ∧ Y1 = Y) :=
  fw_body (by decide +kernel) rfl (Nat.le_of_ble_eq_true rfl) (fun p e s m below meth c C hrt => w_X4_matches C hrt hG  h)
