/-! THE LAW'S KITCHEN: pass, which makes two arrays -/
theorem ac_X12_pass : Cond.arrayClass .boolean ∈ wsX12_pass := by decide +kernel
theorem ly_X12_pass_12 : ∀ w ∈ u_ws RX12 TX12 12, w ∈ wsX12_pass := by decide +kernel
theorem fl_X12_pass_36 : Cond.fieldLink RX12 36 "RecipeSchedulerLaw$Kitchen" "many" "I" ∈ wsX12_pass := by decide +kernel
theorem fl_X12_pass_42 : Cond.fieldLink RX12 42 "RecipeSchedulerLaw$Kitchen" "minute" "I" ∈ wsX12_pass := by decide +kernel
theorem fl_X12_pass_7 : Cond.fieldLink RX12 7 "RecipeSchedulerLaw$Kitchen" "status" "[I" ∈ wsX12_pass := by decide +kernel
theorem fl_X12_pass_13 : Cond.fieldLink RX12 13 "RecipeSchedulerLaw$Kitchen" "left" "[I" ∈ wsX12_pass := by decide +kernel
theorem fl_X12_pass_22 : Cond.fieldLink RX12 22 "RecipeSchedulerLaw$Kitchen" "x" "LRecipeScheduler;" ∈ wsX12_pass := by decide +kernel
theorem fl_X12_pass_47 : Cond.fieldLink RX12 47 "RecipeSchedulerLaw$Kitchen" "starts" "I" ∈ wsX12_pass := by decide +kernel
theorem fl_X12_pass_16 : Cond.fieldLink RX12 16 "RecipeSchedulerLaw$Kitchen" "age" "[I" ∈ wsX12_pass := by decide +kernel
theorem fl_X12_pass_26 : Cond.fieldLink RX12 26 "RecipeSchedulerLaw$Kitchen" "hold" "I" ∈ wsX12_pass := by decide +kernel
theorem fl_X12_pass_57 : Cond.fieldLink RX12 57 "RecipeSchedulerLaw$Kitchen" "burns" "I" ∈ wsX12_pass := by decide +kernel
theorem fl_X12_pass_62 : Cond.fieldLink RX12 62 "RecipeSchedulerLaw$Kitchen" "cookMinutes" "I" ∈ wsX12_pass := by decide +kernel
theorem fl_X12_pass_52 : Cond.fieldLink RX12 52 "RecipeSchedulerLaw$Kitchen" "completions" "I" ∈ wsX12_pass := by decide +kernel
section
variable {p : Program} {l : Launch} {e : Env} {s : State} {m : MethodId} {below : List Frame} {meth : Method} {c : Code} {N0 : Nat} {T : Nat → ClassId} {D : va_G} {gr : List (Nat × Nat)} {ad : Nat → Nat → Nat → Nat} {gr0 : List (Nat × Nat)} {ad0 : Nat → Nat → Nat → Nat} {args : Array Value}
set_option maxRecDepth 100000 in
set_option maxHeartbeats 4000000 in
theorem w_X12_pass_b297  (C : Cx p s m args meth c cX12_pass 4 wsX12_pass RX12 N0 T D gr ad) (hrt : meth.sig.returnType = none) (hG : ∀ q ∈ ([(12, 0), (2, 0), (1, 0), (0, 0)] ++ allG), q ∈ gr) (hW : ∀ (Z : Mem) (t : State), va_P D vwCl (wC T gr ad Z) t.heap → va_P D vwCl (wC T gr0 ad0 Z) t.heap) (h13 : (13, 0) ∈ gr) (h14 : (14, 0) ∈ gr) {res : Mem} {k247 : Mem → Int32 → Option (Mem)} (hk247 : ∀ (Y : Mem) (l3 : Int32), k247 Y l3 = some res → FW p l e (Rn 6) s m args below meth c 4 N0 T D gr ad 2 28 (MQ below (va_Qv (fun Y1 => Y1 = res) (WB T D gr0 ad0) (fun q => N0 ≤ q)) args s 2 28 (fun q => N0 ≤ q)) Y 247 [(3, .int l3), (2, .ref (ad 14 0 0)), (0, .ref (ad 12 0 0))] []) (Y : Mem) (h : X12_pass_b297  k247 Y = some res) : FW p l e (Rn 6) s m args below meth c 4 N0 T D gr ad 2 28 (MQ below (va_Qv (fun Y1 => Y1 = res) (WB T D gr0 ad0) (fun q => N0 ≤ q)) args s 2 28 (fun q => N0 ≤ q)) Y 297 [(2, .ref (ad 14 0 0)), (0, .ref (ad 12 0 0))] [] := by
  unfold X12_pass_b297 at h
  refine fw_aload_n C dX12_pass_297 rfl 1 rfl ?_
  refine fw_aload_n C dX12_pass_298 rfl 0 rfl ?_
  obtain ⟨r27, q28, h⟩ := bd1_some h
  refine fw_callVi C (ci := 12) (Cn := RX12) (Tc := TX12) (N := 12) (As := [.ref (ad 14 0 0)]) (c_X12_next (gac (hG _ (List.mem_of_getElem? (i := 0) rfl)) (gac h14 ga0)) q28) (cwV 1 (cx_ts C) gX12_pass_X12_next rfl rfl rfl (by decide +kernel) ⟨Nat.le_of_ble_eq_true rfl, Nat.le_of_ble_eq_true rfl⟩) rfl (hG _ (List.mem_of_getElem? (i := 0) rfl)) (of12_0 _) (ce12 T ad _ _) rfl (st := []) rfl (Nat.le_of_ble_eq_true rfl) ⟨Nat.le_of_ble_eq_true rfl, Nat.le_of_ble_eq_true rfl⟩ dX12_pass_299 (pp2 ?_)
  refine fw_istore_n C dX12_pass_302 rfl (by decide) (L' := [(3, .int r27), (2, .ref (ad 14 0 0)), (0, .ref (ad 12 0 0))]) rfl ?_
  refine fw_goto C dX12_pass_303 (tgt := 247) rfl ?_
  exact hk247 _ _ h
set_option maxRecDepth 100000 in
set_option maxHeartbeats 4000000 in
theorem w_X12_pass_b247  (C : Cx p s m args meth c cX12_pass 4 wsX12_pass RX12 N0 T D gr ad) (hrt : meth.sig.returnType = none) (hG : ∀ q ∈ ([(12, 0), (2, 0), (1, 0), (0, 0)] ++ allG), q ∈ gr) (hW : ∀ (Z : Mem) (t : State), va_P D vwCl (wC T gr ad Z) t.heap → va_P D vwCl (wC T gr0 ad0 Z) t.heap) (h13 : (13, 0) ∈ gr) (h14 : (14, 0) ∈ gr) {res : Mem} : ∀ (n : Nat) (Y : Mem) (l3 : Int32), X12_pass_b247   n Y l3 = some res → FW p l e (Rn 6) s m args below meth c 4 N0 T D gr ad 2 28 (MQ below (va_Qv (fun Y1 => Y1 = res) (WB T D gr0 ad0) (fun q => N0 ≤ q)) args s 2 28 (fun q => N0 ≤ q)) Y 247 [(3, .int l3), (2, .ref (ad 14 0 0)), (0, .ref (ad 12 0 0))] [] := by
  intro n
  induction n with
  | zero =>
    intro Y l3 h
    unfold X12_pass_b247 at h
    cases h
  | succ n ih =>
    intro Y l3 h
    unfold X12_pass_b247 at h
    refine fw_iload_n C dX12_pass_247 rfl 0 rfl ?_
    refine fw_if_lt C dX12_pass_248 (tgt := 306) rfl (fun c10 => ?_) (fun c10 => ?_)
    · have h := ite_t c10 h
      refine fw_aload_n C dX12_pass_306 rfl 2 rfl ?_
      refine fw_dup C dX12_pass_307 rfl ?_
      refine fw_get C (ci := 12) (Cn := RX12) (Tc := TX12) (N := 12) (j := 7) ly_X12_pass_12 rfl (hG _ (List.mem_of_getElem? (i := 0) rfl)) (of12_0 _) (ce12 T ad _ _) (by decide) (cx_ts C _ fl_X12_pass_42) (fun _ h => h) (v := .int (Y 12 0 0 7)) rfl dX12_pass_308 ?_
      refine fw_iconst C dX12_pass_311 (v := 1) rfl ?_
      refine fw_iadd C dX12_pass_312 ?_
      obtain ⟨Y11, e12, h⟩ := lt_some h
      refine fw_put C (ci := 12) (Cn := RX12) (Tc := TX12) (N := 12) (j := 7) (ty := .int) (upd (Y 12 0 0) 7 ((Y 12 0 0 7) + 1)) ly_X12_pass_12 rfl tyX12_ok nmX12 (hG _ (List.mem_of_getElem? (i := 0) rfl)) (of12_0 _) (ce12 T ad _ _) (by decide) (cx_ts C _ fl_X12_pass_42) (fun _ h => h) rfl (by decide +kernel) rfl rfl (Nat.le_of_ble_eq_true rfl) (ce12_put7 T ad _ _ _) dX12_pass_313 ?_
      refine fw_mem ((up_eq _ _ _ _ _ _).symm.trans e12) ?_
      exact fw_vret C hrt Y11 (Option.some.inj h) (fun t ht => hW _ t ht) dX12_pass_316
    · have h := ite_f c10 h
      refine fw_aload_n C dX12_pass_251 rfl 1 rfl ?_
      refine fw_iload_n C dX12_pass_252 rfl 0 rfl ?_
      refine fw_iconst C dX12_pass_253 (v := 0) rfl ?_
      obtain ⟨b13, h⟩ := gd_some h
      obtain ⟨Y14, e15, h⟩ := lt_some h
      refine fw_zast2 C h14 (of14_0 _) (ca14_0 T ad _) b13 (Nat.le_of_ble_eq_true rfl) dX12_pass_254 ?_
      refine fw_mem e15 ?_
      refine fw_aload_n C dX12_pass_255 rfl 2 rfl ?_
      refine fw_iload_n C dX12_pass_256 rfl 0 rfl ?_
      obtain ⟨r16, q17, h⟩ := bd1_some h
      refine fw_callVi C (ci := 12) (Cn := RX12) (Tc := TX12) (N := 12) (As := [.int l3]) (c_X12_canStart (gac (hG _ (List.mem_of_getElem? (i := 0) rfl)) (gac (hG _ (List.mem_of_getElem? (i := 3) rfl)) (gac (hG _ (List.mem_of_getElem? (i := 2) rfl)) (gac (hG _ (List.mem_of_getElem? (i := 1) rfl)) (fun q hq => hG q (List.mem_append_right _ hq)))))) q17) (cwV 1 (cx_ts C) gX12_pass_X12_canStart rfl rfl rfl (by decide +kernel) ⟨Nat.le_of_ble_eq_true rfl, Nat.le_of_ble_eq_true rfl⟩) rfl (hG _ (List.mem_of_getElem? (i := 0) rfl)) (of12_0 _) (ce12 T ad _ _) rfl (st := []) rfl (Nat.le_of_ble_eq_true rfl) ⟨Nat.le_of_ble_eq_true rfl, Nat.le_of_ble_eq_true rfl⟩ dX12_pass_257 (pp2 ?_)
      refine fw_if_ne C dX12_pass_260 (tgt := 266) rfl (fun c18 => ?_) (fun c18 => ?_)
      · have h := ite_f c18 h
        refine fw_aload_n C dX12_pass_266 rfl 2 rfl ?_
        refine fw_get C (ci := 12) (Cn := RX12) (Tc := TX12) (N := 12) (j := 3) ly_X12_pass_12 rfl (hG _ (List.mem_of_getElem? (i := 0) rfl)) (of12_0 _) (ce12 T ad _ _) (by decide) (cx_ts C _ fl_X12_pass_7) (fun _ h => h) (v := .ref (ad 12 0 1)) rfl dX12_pass_267 ?_
        refine fw_iload_n C dX12_pass_270 rfl 0 rfl ?_
        refine fw_iconst C dX12_pass_271 (v := 1) rfl ?_
        obtain ⟨Y19, e20, h⟩ := lt_some h
        refine fw_iast2 C (hG _ (List.mem_of_getElem? (i := 0) rfl)) (of12_1 _) (ca12_1 T ad _) b13 (Nat.le_of_ble_eq_true rfl) dX12_pass_272 ?_
        refine fw_mem e20 ?_
        refine fw_aload_n C dX12_pass_273 rfl 2 rfl ?_
        refine fw_get C (ci := 12) (Cn := RX12) (Tc := TX12) (N := 12) (j := 4) ly_X12_pass_12 rfl (hG _ (List.mem_of_getElem? (i := 0) rfl)) (of12_0 _) (ce12 T ad _ _) (by decide) (cx_ts C _ fl_X12_pass_13) (fun _ h => h) (v := .ref (ad 12 0 2)) rfl dX12_pass_274 ?_
        refine fw_iload_n C dX12_pass_277 rfl 0 rfl ?_
        refine fw_aload_n C dX12_pass_278 rfl 2 rfl ?_
        refine fw_get C (ci := 12) (Cn := RX12) (Tc := TX12) (N := 12) (j := 0) ly_X12_pass_12 rfl (hG _ (List.mem_of_getElem? (i := 0) rfl)) (of12_0 _) (ce12 T ad _ _) (by decide) (cx_ts C _ fl_X12_pass_22) (fun _ h => h) (v := .ref (ad 0 0 0)) rfl dX12_pass_279 ?_
        refine fw_iload_n C dX12_pass_282 rfl 0 rfl ?_
        obtain ⟨r21, q22, h⟩ := bd1_some h
        refine fw_callVi C (ci := 11) (Cn := RX11) (Tc := TX11) (N := 11) (As := [.int l3]) (c_X11_duration (gac (hG _ (List.mem_of_getElem? (i := 2) rfl)) (gac (hG _ (List.mem_of_getElem? (i := 3) rfl)) (gac (hG _ (List.mem_of_getElem? (i := 1) rfl)) (fun q hq => hG q (List.mem_append_right _ hq))))) q22) (cwV 1 (cx_ts C) gX12_pass_X11_duration rfl rfl rfl (by decide +kernel) ⟨Nat.le_of_ble_eq_true rfl, Nat.le_of_ble_eq_true rfl⟩) rfl (hG _ (List.mem_of_getElem? (i := 3) rfl)) (of0_0 _) (ce0 T ad _ _) rfl (st := [.int l3, .ref (ad 12 0 2)]) rfl (Nat.le_of_ble_eq_true rfl) ⟨Nat.le_of_ble_eq_true rfl, Nat.le_of_ble_eq_true rfl⟩ dX12_pass_283 (pp2 ?_)
        obtain ⟨Y23, e24, h⟩ := lt_some h
        refine fw_iast2 C (hG _ (List.mem_of_getElem? (i := 0) rfl)) (of12_2 _) (ca12_2 T ad _) b13 (Nat.le_of_ble_eq_true rfl) dX12_pass_286 ?_
        refine fw_mem e24 ?_
        refine fw_aload_n C dX12_pass_287 rfl 2 rfl ?_
        refine fw_dup C dX12_pass_288 rfl ?_
        refine fw_get C (ci := 12) (Cn := RX12) (Tc := TX12) (N := 12) (j := 8) ly_X12_pass_12 rfl (hG _ (List.mem_of_getElem? (i := 0) rfl)) (of12_0 _) (ce12 T ad _ _) (by decide) (cx_ts C _ fl_X12_pass_47) (fun _ h => h) (v := .int (Y23 12 0 0 8)) rfl dX12_pass_289 ?_
        refine fw_iconst C dX12_pass_292 (v := 1) rfl ?_
        refine fw_iadd C dX12_pass_293 ?_
        obtain ⟨Y25, e26, h⟩ := lt_some h
        refine fw_put C (ci := 12) (Cn := RX12) (Tc := TX12) (N := 12) (j := 8) (ty := .int) (upd (Y23 12 0 0) 8 ((Y23 12 0 0 8) + 1)) ly_X12_pass_12 rfl tyX12_ok nmX12 (hG _ (List.mem_of_getElem? (i := 0) rfl)) (of12_0 _) (ce12 T ad _ _) (by decide) (cx_ts C _ fl_X12_pass_47) (fun _ h => h) rfl (by decide +kernel) rfl rfl (Nat.le_of_ble_eq_true rfl) (ce12_put8 T ad _ _ _) dX12_pass_294 ?_
        refine fw_mem ((up_eq _ _ _ _ _ _).symm.trans e26) ?_
        refine fw_sub [1, 2] (L' := [(2, .ref (ad 14 0 0)), (0, .ref (ad 12 0 0))]) rfl ?_
        exact w_X12_pass_b297 C hrt hG  hW h13 h14 ih _ h
      · have h := ite_t c18 h
        refine fw_goto C dX12_pass_263 (tgt := 297) rfl ?_
        refine fw_sub [1, 2] (L' := [(2, .ref (ad 14 0 0)), (0, .ref (ad 12 0 0))]) rfl ?_
        exact w_X12_pass_b297 C hrt hG  hW h13 h14 ih _ h
set_option maxRecDepth 100000 in
set_option maxHeartbeats 4000000 in
theorem w_X12_pass_b219  (C : Cx p s m args meth c cX12_pass 4 wsX12_pass RX12 N0 T D gr ad) (hrt : meth.sig.returnType = none) (hG : ∀ q ∈ ([(12, 0), (2, 0), (1, 0), (0, 0)] ++ allG), q ∈ gr) (hW : ∀ (Z : Mem) (t : State), va_P D vwCl (wC T gr ad Z) t.heap → va_P D vwCl (wC T gr0 ad0 Z) t.heap) (h13 : (13, 0) ∈ gr) (h14 : (14, 0) ∈ gr) {res : Mem} : ∀ (n : Nat) (Y : Mem) (l3 : Int32), X12_pass_b219   n Y l3 = some res → FW p l e (Rn 6) s m args below meth c 4 N0 T D gr ad 2 28 (MQ below (va_Qv (fun Y1 => Y1 = res) (WB T D gr0 ad0) (fun q => N0 ≤ q)) args s 2 28 (fun q => N0 ≤ q)) Y 219 [(3, .int l3), (2, .ref (ad 14 0 0)), (0, .ref (ad 12 0 0))] [] := by
  intro n
  induction n with
  | zero =>
    intro Y l3 h
    unfold X12_pass_b219 at h
    cases h
  | succ n ih =>
    intro Y l3 h
    unfold X12_pass_b219 at h
    refine fw_iload_n C dX12_pass_219 rfl 0 rfl ?_
    refine fw_aload_n C dX12_pass_220 rfl 2 rfl ?_
    refine fw_get C (ci := 12) (Cn := RX12) (Tc := TX12) (N := 12) (j := 1) ly_X12_pass_12 rfl (hG _ (List.mem_of_getElem? (i := 0) rfl)) (of12_0 _) (ce12 T ad _ _) (by decide) (cx_ts C _ fl_X12_pass_36) (fun _ h => h) (v := .int (Y 12 0 0 1)) rfl dX12_pass_221 ?_
    refine fw_icmp_ge C dX12_pass_224 (tgt := 241) rfl (fun c7 => ?_) (fun c7 => ?_)
    · have h := ite_t c7 h
      refine fw_aload_n C dX12_pass_241 rfl 2 rfl ?_
      refine fw_aload_n C dX12_pass_242 rfl 1 rfl ?_
      obtain ⟨r8, q9, h⟩ := bd1_some h
      refine fw_callVi C (ci := 12) (Cn := RX12) (Tc := TX12) (N := 12) (As := [.ref (ad 14 0 0)]) (c_X12_next (gac (hG _ (List.mem_of_getElem? (i := 0) rfl)) (gac h14 ga0)) q9) (cwV 1 (cx_ts C) gX12_pass_X12_next rfl rfl rfl (by decide +kernel) ⟨Nat.le_of_ble_eq_true rfl, Nat.le_of_ble_eq_true rfl⟩) rfl (hG _ (List.mem_of_getElem? (i := 0) rfl)) (of12_0 _) (ce12 T ad _ _) rfl (st := []) rfl (Nat.le_of_ble_eq_true rfl) ⟨Nat.le_of_ble_eq_true rfl, Nat.le_of_ble_eq_true rfl⟩ dX12_pass_243 (pp2 ?_)
      refine fw_istore_n C dX12_pass_246 rfl (by decide) (L' := [(3, .int r8), (2, .ref (ad 14 0 0)), (0, .ref (ad 12 0 0))]) rfl ?_
      exact w_X12_pass_b247 C hrt hG  hW h13 h14  _ _ _ h
    · have h := ite_f c7 h
      refine fw_aload_n C dX12_pass_227 rfl 1 rfl ?_
      refine fw_iload_n C dX12_pass_228 rfl 0 rfl ?_
      refine fw_aload_n C dX12_pass_229 rfl 2 rfl ?_
      refine fw_iload_n C dX12_pass_230 rfl 0 rfl ?_
      obtain ⟨r29, q30, h⟩ := bd1_some h
      refine fw_callVi C (ci := 12) (Cn := RX12) (Tc := TX12) (N := 12) (As := [.int l3]) (c_X12_isReady (gac (hG _ (List.mem_of_getElem? (i := 0) rfl)) (gac (hG _ (List.mem_of_getElem? (i := 3) rfl)) (gac (hG _ (List.mem_of_getElem? (i := 2) rfl)) (fun q hq => hG q (List.mem_append_right _ hq))))) q30) (cwV 1 (cx_ts C) gX12_pass_X12_isReady rfl rfl rfl (by decide +kernel) ⟨Nat.le_of_ble_eq_true rfl, Nat.le_of_ble_eq_true rfl⟩) rfl (hG _ (List.mem_of_getElem? (i := 0) rfl)) (of12_0 _) (ce12 T ad _ _) rfl (st := [.int l3, .ref (ad 14 0 0)]) rfl (Nat.le_of_ble_eq_true rfl) ⟨Nat.le_of_ble_eq_true rfl, Nat.le_of_ble_eq_true rfl⟩ dX12_pass_231 (pp2 ?_)
      obtain ⟨b31, h⟩ := gd_some h
      obtain ⟨Y32, e33, h⟩ := lt_some h
      refine fw_zast2 C h14 (of14_0 _) (ca14_0 T ad _) b31 (Nat.le_of_ble_eq_true rfl) dX12_pass_234 ?_
      refine fw_mem e33 ?_
      refine fw_iinc C dX12_pass_235 (kk := 0) (v := l3 + 1) rfl rfl (by decide) (L' := [(3, .int (l3 + 1)), (2, .ref (ad 14 0 0)), (0, .ref (ad 12 0 0))]) rfl ?_
      refine fw_goto C dX12_pass_238 (tgt := 219) rfl ?_
      exact ih _ _ h
set_option maxRecDepth 100000 in
set_option maxHeartbeats 4000000 in
theorem w_X12_pass_b206  (C : Cx p s m args meth c cX12_pass 4 wsX12_pass RX12 N0 T D gr ad) (hrt : meth.sig.returnType = none) (hG : ∀ q ∈ ([(12, 0), (2, 0), (1, 0), (0, 0)] ++ allG), q ∈ gr) (hW : ∀ (Z : Mem) (t : State), va_P D vwCl (wC T gr ad Z) t.heap → va_P D vwCl (wC T gr0 ad0 Z) t.heap) (hn14 : ∀ q ∈ gr, q.1 ≠ 14) (h13 : (13, 0) ∈ gr) {res : Mem} {k111 : Mem → Int32 → Option (Mem)} (hk111 : ∀ (Y : Mem) (l2 : Int32), k111 Y l2 = some res → FW p l e (Rn 6) s m args below meth c 4 N0 T D gr ad 1 14 (MQ below (va_Qv (fun Y1 => Y1 = res) (WB T D gr0 ad0) (fun q => N0 ≤ q)) args s 2 28 (fun q => N0 ≤ q)) Y 111 [(2, .int l2), (1, .ref (ad 13 0 0)), (0, .ref (ad 12 0 0))] []) (Y : Mem) (l2 : Int32) (h : X12_pass_b206  k111 Y l2 = some res) : FW p l e (Rn 6) s m args below meth c 4 N0 T D gr ad 1 14 (MQ below (va_Qv (fun Y1 => Y1 = res) (WB T D gr0 ad0) (fun q => N0 ≤ q)) args s 2 28 (fun q => N0 ≤ q)) Y 206 [(2, .int l2), (1, .ref (ad 13 0 0)), (0, .ref (ad 12 0 0))] [] := by
  unfold X12_pass_b206 at h
  refine fw_iinc C dX12_pass_206 (kk := 0) (v := l2 + 1) rfl rfl (by decide) (L' := [(2, .int (l2 + 1)), (1, .ref (ad 13 0 0)), (0, .ref (ad 12 0 0))]) rfl ?_
  refine fw_goto C dX12_pass_209 (tgt := 111) rfl ?_
  exact hk111 _ _ h
set_option maxRecDepth 100000 in
set_option maxHeartbeats 4000000 in
theorem w_X12_pass_b111  (C : Cx p s m args meth c cX12_pass 4 wsX12_pass RX12 N0 T D gr ad) (hrt : meth.sig.returnType = none) (hG : ∀ q ∈ ([(12, 0), (2, 0), (1, 0), (0, 0)] ++ allG), q ∈ gr) (hW : ∀ (Z : Mem) (t : State), va_P D vwCl (wC T gr ad Z) t.heap → va_P D vwCl (wC T gr0 ad0 Z) t.heap) (hn14 : ∀ q ∈ gr, q.1 ≠ 14) (h13 : (13, 0) ∈ gr) {res : Mem} : ∀ (n : Nat) (Y : Mem) (l2 : Int32), X12_pass_b111   n Y l2 = some res → FW p l e (Rn 6) s m args below meth c 4 N0 T D gr ad 1 14 (MQ below (va_Qv (fun Y1 => Y1 = res) (WB T D gr0 ad0) (fun q => N0 ≤ q)) args s 2 28 (fun q => N0 ≤ q)) Y 111 [(2, .int l2), (1, .ref (ad 13 0 0)), (0, .ref (ad 12 0 0))] [] := by
  intro n
  induction n with
  | zero =>
    intro Y l2 h
    unfold X12_pass_b111 at h
    cases h
  | succ n ih =>
    intro Y l2 h
    unfold X12_pass_b111 at h
    refine fw_iload_n C dX12_pass_111 rfl 0 rfl ?_
    refine fw_aload_n C dX12_pass_112 rfl 2 rfl ?_
    refine fw_get C (ci := 12) (Cn := RX12) (Tc := TX12) (N := 12) (j := 1) ly_X12_pass_12 rfl (hG _ (List.mem_of_getElem? (i := 0) rfl)) (of12_0 _) (ce12 T ad _ _) (by decide) (cx_ts C _ fl_X12_pass_36) (fun _ h => h) (v := .int (Y 12 0 0 1)) rfl dX12_pass_113 ?_
    refine fw_icmp_ge C dX12_pass_116 (tgt := 212) rfl (fun c4 => ?_) (fun c4 => ?_)
    · have h := ite_t c4 h
      refine fw_bipush C dX12_pass_212 (v := 14) rfl ?_
      obtain ⟨Y5, e6, h⟩ := lt_some h
      refine fw_newZ C (kA := 14) (L2 := fun ad => [(2, .int l2), (1, .ref (ad 13 0 0)), (0, .ref (ad 12 0 0))]) (by decide) hn14 (fun ad' h9 => by simp only [h9 12 (by decide), h9 13 (by decide)]) ac_X12_pass (Nat.le_of_ble_eq_true rfl) (Nat.le_of_ble_eq_true rfl) dX12_pass_214 ?_
      intro gr ad C hsub h14 hno hcv
      have hG := fun q (hq : q ∈ ([(12, 0), (2, 0), (1, 0), (0, 0)] ++ allG)) => hsub q (hG q hq)
      have h13 := hsub _ h13
      have hW := fun Z t ht => hW Z t (hcv Z t.heap ht)
      refine fw_mem e6 ?_
      refine fw_astore_n C dX12_pass_216 rfl (by decide) (L' := [(2, .ref (ad 14 0 0)), (1, .ref (ad 13 0 0)), (0, .ref (ad 12 0 0))]) rfl ?_
      refine fw_iconst C dX12_pass_217 (v := 0) rfl ?_
      refine fw_istore_n C dX12_pass_218 rfl (by decide) (L' := [(3, .int 0), (2, .ref (ad 14 0 0)), (1, .ref (ad 13 0 0)), (0, .ref (ad 12 0 0))]) rfl ?_
      refine fw_sub [0, 1, 3] (L' := [(3, .int 0), (2, .ref (ad 14 0 0)), (0, .ref (ad 12 0 0))]) rfl ?_
      exact w_X12_pass_b219 C hrt hG  hW h13 h14  _ _ _ h
    · have h := ite_f c4 h
      refine fw_aload_n C dX12_pass_119 rfl 2 rfl ?_
      refine fw_get C (ci := 12) (Cn := RX12) (Tc := TX12) (N := 12) (j := 0) ly_X12_pass_12 rfl (hG _ (List.mem_of_getElem? (i := 0) rfl)) (of12_0 _) (ce12 T ad _ _) (by decide) (cx_ts C _ fl_X12_pass_22) (fun _ h => h) (v := .ref (ad 0 0 0)) rfl dX12_pass_120 ?_
      refine fw_iload_n C dX12_pass_123 rfl 0 rfl ?_
      obtain ⟨r34, q35, h⟩ := bd1_some h
      refine fw_callVi C (ci := 11) (Cn := RX11) (Tc := TX11) (N := 11) (As := [.int l2]) (c_X11_isHot (gac (hG _ (List.mem_of_getElem? (i := 2) rfl)) (gac (hG _ (List.mem_of_getElem? (i := 3) rfl)) (fun q hq => hG q (List.mem_append_right _ hq)))) q35) (cwV 1 (cx_ts C) gX12_pass_X11_isHot rfl rfl rfl (by decide +kernel) ⟨Nat.le_of_ble_eq_true rfl, Nat.le_of_ble_eq_true rfl⟩) rfl (hG _ (List.mem_of_getElem? (i := 3) rfl)) (of0_0 _) (ce0 T ad _ _) rfl (st := []) rfl (Nat.le_of_ble_eq_true rfl) ⟨Nat.le_of_ble_eq_true rfl, Nat.le_of_ble_eq_true rfl⟩ dX12_pass_124 (pp2 ?_)
      refine fw_if_eq C dX12_pass_127 (tgt := 206) rfl (fun c36 => ?_) (fun c36 => ?_)
      · have h := ite_t c36 h
        exact w_X12_pass_b206 C hrt hG  hW hn14 h13 ih _ _ h
      · have h := ite_f c36 h
        refine fw_aload_n C dX12_pass_130 rfl 2 rfl ?_
        refine fw_get C (ci := 12) (Cn := RX12) (Tc := TX12) (N := 12) (j := 3) ly_X12_pass_12 rfl (hG _ (List.mem_of_getElem? (i := 0) rfl)) (of12_0 _) (ce12 T ad _ _) (by decide) (cx_ts C _ fl_X12_pass_7) (fun _ h => h) (v := .ref (ad 12 0 1)) rfl dX12_pass_131 ?_
        refine fw_iload_n C dX12_pass_134 rfl 0 rfl ?_
        obtain ⟨b37, h⟩ := gd_some h
        refine fw_iald2 C (hG _ (List.mem_of_getElem? (i := 0) rfl)) (of12_1 _) (ca12_1 T ad _ _) b37 (Nat.le_of_ble_eq_true rfl) dX12_pass_135 ?_
        refine fw_iconst C dX12_pass_136 (v := 2) rfl ?_
        refine fw_icmp_ne C dX12_pass_137 (tgt := 206) rfl (fun c38 => ?_) (fun c38 => ?_)
        · have h := ite_f c38 h
          exact w_X12_pass_b206 C hrt hG  hW hn14 h13 ih _ _ h
        · have h := ite_t c38 h
          refine fw_aload_n C dX12_pass_140 rfl 1 rfl ?_
          refine fw_iload_n C dX12_pass_141 rfl 0 rfl ?_
          refine fw_zald2 C h13 (of13_0 _) (ca13_0 T ad _ _) b37 (Nat.le_of_ble_eq_true rfl) dX12_pass_142 ?_
          refine fw_if_ne C dX12_pass_143 (tgt := 206) rfl (fun c39 => ?_) (fun c39 => ?_)
          · have h := ite_f c39 h
            exact w_X12_pass_b206 C hrt hG  hW hn14 h13 ih _ _ h
          · have h := ite_t c39 h
            refine fw_aload_n C dX12_pass_146 rfl 2 rfl ?_
            refine fw_iload_n C dX12_pass_147 rfl 0 rfl ?_
            refine fw_iconst C dX12_pass_148 (v := 1) rfl ?_
            refine fw_iconst C dX12_pass_149 (v := 2) rfl ?_
            obtain ⟨r40, q41, h⟩ := bd1_some h
            refine fw_callVi C (ci := 12) (Cn := RX12) (Tc := TX12) (N := 12) (As := [.int l2, .int 1, .int 2]) (c_X12_follows (gac (hG _ (List.mem_of_getElem? (i := 0) rfl)) (gac (hG _ (List.mem_of_getElem? (i := 2) rfl)) (gac (hG _ (List.mem_of_getElem? (i := 3) rfl)) (fun q hq => hG q (List.mem_append_right _ hq))))) q41) (cwV 3 (cx_ts C) gX12_pass_X12_follows rfl rfl rfl (by decide +kernel) ⟨Nat.le_of_ble_eq_true rfl, Nat.le_of_ble_eq_true rfl⟩) rfl (hG _ (List.mem_of_getElem? (i := 0) rfl)) (of12_0 _) (ce12 T ad _ _) rfl (st := []) rfl (Nat.le_of_ble_eq_true rfl) ⟨Nat.le_of_ble_eq_true rfl, Nat.le_of_ble_eq_true rfl⟩ dX12_pass_150 (pp2 ?_)
            refine fw_if_eq C dX12_pass_153 (tgt := 159) rfl (fun c42 => ?_) (fun c42 => ?_)
            · have h := ite_t c42 h
              refine fw_aload_n C dX12_pass_159 rfl 2 rfl ?_
              refine fw_get C (ci := 12) (Cn := RX12) (Tc := TX12) (N := 12) (j := 5) ly_X12_pass_12 rfl (hG _ (List.mem_of_getElem? (i := 0) rfl)) (of12_0 _) (ce12 T ad _ _) (by decide) (cx_ts C _ fl_X12_pass_16) (fun _ h => h) (v := .ref (ad 12 0 3)) rfl dX12_pass_160 ?_
              refine fw_iload_n C dX12_pass_163 rfl 0 rfl ?_
              refine fw_dup2 C dX12_pass_164 rfl rfl ?_
              refine fw_iald2 C (hG _ (List.mem_of_getElem? (i := 0) rfl)) (of12_3 _) (ca12_3 T ad _ _) b37 (Nat.le_of_ble_eq_true rfl) dX12_pass_165 ?_
              refine fw_iconst C dX12_pass_166 (v := 1) rfl ?_
              refine fw_iadd C dX12_pass_167 ?_
              obtain ⟨Y43, e44, h⟩ := lt_some h
              refine fw_iast2 C (hG _ (List.mem_of_getElem? (i := 0) rfl)) (of12_3 _) (ca12_3 T ad _) b37 (Nat.le_of_ble_eq_true rfl) dX12_pass_168 ?_
              refine fw_mem e44 ?_
              refine fw_aload_n C dX12_pass_169 rfl 2 rfl ?_
              refine fw_get C (ci := 12) (Cn := RX12) (Tc := TX12) (N := 12) (j := 5) ly_X12_pass_12 rfl (hG _ (List.mem_of_getElem? (i := 0) rfl)) (of12_0 _) (ce12 T ad _ _) (by decide) (cx_ts C _ fl_X12_pass_16) (fun _ h => h) (v := .ref (ad 12 0 3)) rfl dX12_pass_170 ?_
              refine fw_iload_n C dX12_pass_173 rfl 0 rfl ?_
              refine fw_iald2 C (hG _ (List.mem_of_getElem? (i := 0) rfl)) (of12_3 _) (ca12_3 T ad _ _) b37 (Nat.le_of_ble_eq_true rfl) dX12_pass_174 ?_
              refine fw_aload_n C dX12_pass_175 rfl 2 rfl ?_
              refine fw_get C (ci := 12) (Cn := RX12) (Tc := TX12) (N := 12) (j := 2) ly_X12_pass_12 rfl (hG _ (List.mem_of_getElem? (i := 0) rfl)) (of12_0 _) (ce12 T ad _ _) (by decide) (cx_ts C _ fl_X12_pass_26) (fun _ h => h) (v := .int (Y43 12 0 0 2)) rfl dX12_pass_176 ?_
              refine fw_icmp_le C dX12_pass_179 (tgt := 206) rfl (fun c45 => ?_) (fun c45 => ?_)
              · have h := ite_t c45 h
                exact w_X12_pass_b206 C hrt hG  hW hn14 h13 ih _ _ h
              · have h := ite_f c45 h
                refine fw_aload_n C dX12_pass_182 rfl 2 rfl ?_
                refine fw_get C (ci := 12) (Cn := RX12) (Tc := TX12) (N := 12) (j := 3) ly_X12_pass_12 rfl (hG _ (List.mem_of_getElem? (i := 0) rfl)) (of12_0 _) (ce12 T ad _ _) (by decide) (cx_ts C _ fl_X12_pass_7) (fun _ h => h) (v := .ref (ad 12 0 1)) rfl dX12_pass_183 ?_
                refine fw_iload_n C dX12_pass_186 rfl 0 rfl ?_
                refine fw_iconst C dX12_pass_187 (v := 3) rfl ?_
                obtain ⟨Y46, e47, h⟩ := lt_some h
                refine fw_iast2 C (hG _ (List.mem_of_getElem? (i := 0) rfl)) (of12_1 _) (ca12_1 T ad _) b37 (Nat.le_of_ble_eq_true rfl) dX12_pass_188 ?_
                refine fw_mem e47 ?_
                refine fw_aload_n C dX12_pass_189 rfl 2 rfl ?_
                refine fw_get C (ci := 12) (Cn := RX12) (Tc := TX12) (N := 12) (j := 5) ly_X12_pass_12 rfl (hG _ (List.mem_of_getElem? (i := 0) rfl)) (of12_0 _) (ce12 T ad _ _) (by decide) (cx_ts C _ fl_X12_pass_16) (fun _ h => h) (v := .ref (ad 12 0 3)) rfl dX12_pass_190 ?_
                refine fw_iload_n C dX12_pass_193 rfl 0 rfl ?_
                refine fw_iconst C dX12_pass_194 (v := 0) rfl ?_
                obtain ⟨Y48, e49, h⟩ := lt_some h
                refine fw_iast2 C (hG _ (List.mem_of_getElem? (i := 0) rfl)) (of12_3 _) (ca12_3 T ad _) b37 (Nat.le_of_ble_eq_true rfl) dX12_pass_195 ?_
                refine fw_mem e49 ?_
                refine fw_aload_n C dX12_pass_196 rfl 2 rfl ?_
                refine fw_dup C dX12_pass_197 rfl ?_
                refine fw_get C (ci := 12) (Cn := RX12) (Tc := TX12) (N := 12) (j := 10) ly_X12_pass_12 rfl (hG _ (List.mem_of_getElem? (i := 0) rfl)) (of12_0 _) (ce12 T ad _ _) (by decide) (cx_ts C _ fl_X12_pass_57) (fun _ h => h) (v := .int (Y48 12 0 0 10)) rfl dX12_pass_198 ?_
                refine fw_iconst C dX12_pass_201 (v := 1) rfl ?_
                refine fw_iadd C dX12_pass_202 ?_
                obtain ⟨Y50, e51, h⟩ := lt_some h
                refine fw_put C (ci := 12) (Cn := RX12) (Tc := TX12) (N := 12) (j := 10) (ty := .int) (upd (Y48 12 0 0) 10 ((Y48 12 0 0 10) + 1)) ly_X12_pass_12 rfl tyX12_ok nmX12 (hG _ (List.mem_of_getElem? (i := 0) rfl)) (of12_0 _) (ce12 T ad _ _) (by decide) (cx_ts C _ fl_X12_pass_57) (fun _ h => h) rfl (by decide +kernel) rfl rfl (Nat.le_of_ble_eq_true rfl) (ce12_put10 T ad _ _ _) dX12_pass_203 ?_
                refine fw_mem ((up_eq _ _ _ _ _ _).symm.trans e51) ?_
                exact w_X12_pass_b206 C hrt hG  hW hn14 h13 ih _ _ h
            · have h := ite_f c42 h
              refine fw_goto C dX12_pass_156 (tgt := 206) rfl ?_
              exact w_X12_pass_b206 C hrt hG  hW hn14 h13 ih _ _ h
set_option maxRecDepth 100000 in
set_option maxHeartbeats 4000000 in
theorem w_X12_pass_b103  (C : Cx p s m args meth c cX12_pass 4 wsX12_pass RX12 N0 T D gr ad) (hrt : meth.sig.returnType = none) (hG : ∀ q ∈ ([(12, 0), (2, 0), (1, 0), (0, 0)] ++ allG), q ∈ gr) (hW : ∀ (Z : Mem) (t : State), va_P D vwCl (wC T gr ad Z) t.heap → va_P D vwCl (wC T gr0 ad0 Z) t.heap) (hn14 : ∀ q ∈ gr, q.1 ≠ 14) (h13 : (13, 0) ∈ gr) {res : Mem} {k7 : Mem → Int32 → Option (Mem)} (hk7 : ∀ (Y : Mem) (l2 : Int32), k7 Y l2 = some res → FW p l e (Rn 6) s m args below meth c 4 N0 T D gr ad 1 14 (MQ below (va_Qv (fun Y1 => Y1 = res) (WB T D gr0 ad0) (fun q => N0 ≤ q)) args s 2 28 (fun q => N0 ≤ q)) Y 7 [(2, .int l2), (1, .ref (ad 13 0 0)), (0, .ref (ad 12 0 0))] []) (Y : Mem) (l2 : Int32) (h : X12_pass_b103  k7 Y l2 = some res) : FW p l e (Rn 6) s m args below meth c 4 N0 T D gr ad 1 14 (MQ below (va_Qv (fun Y1 => Y1 = res) (WB T D gr0 ad0) (fun q => N0 ≤ q)) args s 2 28 (fun q => N0 ≤ q)) Y 103 [(2, .int l2), (1, .ref (ad 13 0 0)), (0, .ref (ad 12 0 0))] [] := by
  unfold X12_pass_b103 at h
  refine fw_iinc C dX12_pass_103 (kk := 0) (v := l2 + 1) rfl rfl (by decide) (L' := [(2, .int (l2 + 1)), (1, .ref (ad 13 0 0)), (0, .ref (ad 12 0 0))]) rfl ?_
  refine fw_goto C dX12_pass_106 (tgt := 7) rfl ?_
  exact hk7 _ _ h
set_option maxRecDepth 100000 in
set_option maxHeartbeats 4000000 in
theorem w_X12_pass_b49  (C : Cx p s m args meth c cX12_pass 4 wsX12_pass RX12 N0 T D gr ad) (hrt : meth.sig.returnType = none) (hG : ∀ q ∈ ([(12, 0), (2, 0), (1, 0), (0, 0)] ++ allG), q ∈ gr) (hW : ∀ (Z : Mem) (t : State), va_P D vwCl (wC T gr ad Z) t.heap → va_P D vwCl (wC T gr0 ad0 Z) t.heap) (hn14 : ∀ q ∈ gr, q.1 ≠ 14) (h13 : (13, 0) ∈ gr) {res : Mem} {k7 : Mem → Int32 → Option (Mem)} (hk7 : ∀ (Y : Mem) (l2 : Int32), k7 Y l2 = some res → FW p l e (Rn 6) s m args below meth c 4 N0 T D gr ad 1 14 (MQ below (va_Qv (fun Y1 => Y1 = res) (WB T D gr0 ad0) (fun q => N0 ≤ q)) args s 2 28 (fun q => N0 ≤ q)) Y 7 [(2, .int l2), (1, .ref (ad 13 0 0)), (0, .ref (ad 12 0 0))] []) (Y : Mem) (l2 : Int32) (s0 : Int32) (s1 : Int32) (h : X12_pass_b49  k7 Y l2 s0 s1 = some res) : FW p l e (Rn 6) s m args below meth c 4 N0 T D gr ad 1 14 (MQ below (va_Qv (fun Y1 => Y1 = res) (WB T D gr0 ad0) (fun q => N0 ≤ q)) args s 2 28 (fun q => N0 ≤ q)) Y 49 [(2, .int l2), (1, .ref (ad 13 0 0)), (0, .ref (ad 12 0 0))] [.int s0, .int s1, .ref (ad 12 0 0)] := by
  unfold X12_pass_b49 at h
  refine fw_iadd C dX12_pass_49 ?_
  obtain ⟨Y57, e58, h⟩ := lt_some h
  refine fw_put C (ci := 12) (Cn := RX12) (Tc := TX12) (N := 12) (j := 11) (ty := .int) (upd (Y 12 0 0) 11 (s1 + s0)) ly_X12_pass_12 rfl tyX12_ok nmX12 (hG _ (List.mem_of_getElem? (i := 0) rfl)) (of12_0 _) (ce12 T ad _ _) (by decide) (cx_ts C _ fl_X12_pass_62) (fun _ h => h) rfl (by decide +kernel) rfl rfl (Nat.le_of_ble_eq_true rfl) (ce12_put11 T ad _ _ _) dX12_pass_50 ?_
  refine fw_mem ((up_eq _ _ _ _ _ _).symm.trans e58) ?_
  refine fw_aload_n C dX12_pass_53 rfl 2 rfl ?_
  refine fw_get C (ci := 12) (Cn := RX12) (Tc := TX12) (N := 12) (j := 4) ly_X12_pass_12 rfl (hG _ (List.mem_of_getElem? (i := 0) rfl)) (of12_0 _) (ce12 T ad _ _) (by decide) (cx_ts C _ fl_X12_pass_13) (fun _ h => h) (v := .ref (ad 12 0 2)) rfl dX12_pass_54 ?_
  refine fw_iload_n C dX12_pass_57 rfl 0 rfl ?_
  refine fw_dup2 C dX12_pass_58 rfl rfl ?_
  obtain ⟨b59, h⟩ := gd_some h
  refine fw_iald2 C (hG _ (List.mem_of_getElem? (i := 0) rfl)) (of12_2 _) (ca12_2 T ad _ _) b59 (Nat.le_of_ble_eq_true rfl) dX12_pass_59 ?_
  refine fw_iconst C dX12_pass_60 (v := 1) rfl ?_
  refine fw_isub C dX12_pass_61 ?_
  obtain ⟨Y60, e61, h⟩ := lt_some h
  refine fw_iast2 C (hG _ (List.mem_of_getElem? (i := 0) rfl)) (of12_2 _) (ca12_2 T ad _) b59 (Nat.le_of_ble_eq_true rfl) dX12_pass_62 ?_
  refine fw_mem e61 ?_
  refine fw_aload_n C dX12_pass_63 rfl 2 rfl ?_
  refine fw_get C (ci := 12) (Cn := RX12) (Tc := TX12) (N := 12) (j := 4) ly_X12_pass_12 rfl (hG _ (List.mem_of_getElem? (i := 0) rfl)) (of12_0 _) (ce12 T ad _ _) (by decide) (cx_ts C _ fl_X12_pass_13) (fun _ h => h) (v := .ref (ad 12 0 2)) rfl dX12_pass_64 ?_
  refine fw_iload_n C dX12_pass_67 rfl 0 rfl ?_
  refine fw_iald2 C (hG _ (List.mem_of_getElem? (i := 0) rfl)) (of12_2 _) (ca12_2 T ad _ _) b59 (Nat.le_of_ble_eq_true rfl) dX12_pass_68 ?_
  refine fw_if_le C dX12_pass_69 (tgt := 75) rfl (fun c62 => ?_) (fun c62 => ?_)
  · have h := ite_t c62 h
    refine fw_aload_n C dX12_pass_75 rfl 2 rfl ?_
    refine fw_get C (ci := 12) (Cn := RX12) (Tc := TX12) (N := 12) (j := 3) ly_X12_pass_12 rfl (hG _ (List.mem_of_getElem? (i := 0) rfl)) (of12_0 _) (ce12 T ad _ _) (by decide) (cx_ts C _ fl_X12_pass_7) (fun _ h => h) (v := .ref (ad 12 0 1)) rfl dX12_pass_76 ?_
    refine fw_iload_n C dX12_pass_79 rfl 0 rfl ?_
    refine fw_iconst C dX12_pass_80 (v := 2) rfl ?_
    obtain ⟨Y63, e64, h⟩ := lt_some h
    refine fw_iast2 C (hG _ (List.mem_of_getElem? (i := 0) rfl)) (of12_1 _) (ca12_1 T ad _) b59 (Nat.le_of_ble_eq_true rfl) dX12_pass_81 ?_
    refine fw_mem e64 ?_
    refine fw_aload_n C dX12_pass_82 rfl 2 rfl ?_
    refine fw_get C (ci := 12) (Cn := RX12) (Tc := TX12) (N := 12) (j := 5) ly_X12_pass_12 rfl (hG _ (List.mem_of_getElem? (i := 0) rfl)) (of12_0 _) (ce12 T ad _ _) (by decide) (cx_ts C _ fl_X12_pass_16) (fun _ h => h) (v := .ref (ad 12 0 3)) rfl dX12_pass_83 ?_
    refine fw_iload_n C dX12_pass_86 rfl 0 rfl ?_
    refine fw_iconst C dX12_pass_87 (v := 0) rfl ?_
    obtain ⟨Y65, e66, h⟩ := lt_some h
    refine fw_iast2 C (hG _ (List.mem_of_getElem? (i := 0) rfl)) (of12_3 _) (ca12_3 T ad _) b59 (Nat.le_of_ble_eq_true rfl) dX12_pass_88 ?_
    refine fw_mem e66 ?_
    refine fw_aload_n C dX12_pass_89 rfl 1 rfl ?_
    refine fw_iload_n C dX12_pass_90 rfl 0 rfl ?_
    refine fw_iconst C dX12_pass_91 (v := 1) rfl ?_
    obtain ⟨Y67, e68, h⟩ := lt_some h
    refine fw_zast2 C h13 (of13_0 _) (ca13_0 T ad _) b59 (Nat.le_of_ble_eq_true rfl) dX12_pass_92 ?_
    refine fw_mem e68 ?_
    refine fw_aload_n C dX12_pass_93 rfl 2 rfl ?_
    refine fw_dup C dX12_pass_94 rfl ?_
    refine fw_get C (ci := 12) (Cn := RX12) (Tc := TX12) (N := 12) (j := 9) ly_X12_pass_12 rfl (hG _ (List.mem_of_getElem? (i := 0) rfl)) (of12_0 _) (ce12 T ad _ _) (by decide) (cx_ts C _ fl_X12_pass_52) (fun _ h => h) (v := .int (Y67 12 0 0 9)) rfl dX12_pass_95 ?_
    refine fw_iconst C dX12_pass_98 (v := 1) rfl ?_
    refine fw_iadd C dX12_pass_99 ?_
    obtain ⟨Y69, e70, h⟩ := lt_some h
    refine fw_put C (ci := 12) (Cn := RX12) (Tc := TX12) (N := 12) (j := 9) (ty := .int) (upd (Y67 12 0 0) 9 ((Y67 12 0 0 9) + 1)) ly_X12_pass_12 rfl tyX12_ok nmX12 (hG _ (List.mem_of_getElem? (i := 0) rfl)) (of12_0 _) (ce12 T ad _ _) (by decide) (cx_ts C _ fl_X12_pass_52) (fun _ h => h) rfl (by decide +kernel) rfl rfl (Nat.le_of_ble_eq_true rfl) (ce12_put9 T ad _ _ _) dX12_pass_100 ?_
    refine fw_mem ((up_eq _ _ _ _ _ _).symm.trans e70) ?_
    exact w_X12_pass_b103 C hrt hG  hW hn14 h13 hk7 _ _ h
  · have h := ite_f c62 h
    refine fw_goto C dX12_pass_72 (tgt := 103) rfl ?_
    exact w_X12_pass_b103 C hrt hG  hW hn14 h13 hk7 _ _ h
set_option maxRecDepth 100000 in
set_option maxHeartbeats 4000000 in
theorem w_X12_pass_b7  (C : Cx p s m args meth c cX12_pass 4 wsX12_pass RX12 N0 T D gr ad) (hrt : meth.sig.returnType = none) (hG : ∀ q ∈ ([(12, 0), (2, 0), (1, 0), (0, 0)] ++ allG), q ∈ gr) (hW : ∀ (Z : Mem) (t : State), va_P D vwCl (wC T gr ad Z) t.heap → va_P D vwCl (wC T gr0 ad0 Z) t.heap) (hn14 : ∀ q ∈ gr, q.1 ≠ 14) (h13 : (13, 0) ∈ gr) {res : Mem} : ∀ (n : Nat) (Y : Mem) (l2 : Int32), X12_pass_b7   n Y l2 = some res → FW p l e (Rn 6) s m args below meth c 4 N0 T D gr ad 1 14 (MQ below (va_Qv (fun Y1 => Y1 = res) (WB T D gr0 ad0) (fun q => N0 ≤ q)) args s 2 28 (fun q => N0 ≤ q)) Y 7 [(2, .int l2), (1, .ref (ad 13 0 0)), (0, .ref (ad 12 0 0))] [] := by
  intro n
  induction n with
  | zero =>
    intro Y l2 h
    unfold X12_pass_b7 at h
    cases h
  | succ n ih =>
    intro Y l2 h
    unfold X12_pass_b7 at h
    refine fw_iload_n C dX12_pass_7 rfl 0 rfl ?_
    refine fw_aload_n C dX12_pass_8 rfl 2 rfl ?_
    refine fw_get C (ci := 12) (Cn := RX12) (Tc := TX12) (N := 12) (j := 1) ly_X12_pass_12 rfl (hG _ (List.mem_of_getElem? (i := 0) rfl)) (of12_0 _) (ce12 T ad _ _) (by decide) (cx_ts C _ fl_X12_pass_36) (fun _ h => h) (v := .int (Y 12 0 0 1)) rfl dX12_pass_9 ?_
    refine fw_icmp_ge C dX12_pass_12 (tgt := 109) rfl (fun c3 => ?_) (fun c3 => ?_)
    · have h := ite_t c3 h
      refine fw_iconst C dX12_pass_109 (v := 0) rfl ?_
      refine fw_istore_n C dX12_pass_110 rfl (by decide) (L' := [(2, .int 0), (1, .ref (ad 13 0 0)), (0, .ref (ad 12 0 0))]) rfl ?_
      exact w_X12_pass_b111 C hrt hG  hW hn14 h13  _ _ _ h
    · have h := ite_f c3 h
      refine fw_aload_n C dX12_pass_15 rfl 2 rfl ?_
      refine fw_get C (ci := 12) (Cn := RX12) (Tc := TX12) (N := 12) (j := 3) ly_X12_pass_12 rfl (hG _ (List.mem_of_getElem? (i := 0) rfl)) (of12_0 _) (ce12 T ad _ _) (by decide) (cx_ts C _ fl_X12_pass_7) (fun _ h => h) (v := .ref (ad 12 0 1)) rfl dX12_pass_16 ?_
      refine fw_iload_n C dX12_pass_19 rfl 0 rfl ?_
      obtain ⟨b52, h⟩ := gd_some h
      refine fw_iald2 C (hG _ (List.mem_of_getElem? (i := 0) rfl)) (of12_1 _) (ca12_1 T ad _ _) b52 (Nat.le_of_ble_eq_true rfl) dX12_pass_20 ?_
      refine fw_iconst C dX12_pass_21 (v := 1) rfl ?_
      refine fw_icmp_eq C dX12_pass_22 (tgt := 28) rfl (fun c53 => ?_) (fun c53 => ?_)
      · have h := ite_t c53 h
        refine fw_aload_n C dX12_pass_28 rfl 2 rfl ?_
        refine fw_dup C dX12_pass_29 rfl ?_
        refine fw_get C (ci := 12) (Cn := RX12) (Tc := TX12) (N := 12) (j := 11) ly_X12_pass_12 rfl (hG _ (List.mem_of_getElem? (i := 0) rfl)) (of12_0 _) (ce12 T ad _ _) (by decide) (cx_ts C _ fl_X12_pass_62) (fun _ h => h) (v := .int (Y 12 0 0 11)) rfl dX12_pass_30 ?_
        refine fw_aload_n C dX12_pass_33 rfl 2 rfl ?_
        refine fw_get C (ci := 12) (Cn := RX12) (Tc := TX12) (N := 12) (j := 0) ly_X12_pass_12 rfl (hG _ (List.mem_of_getElem? (i := 0) rfl)) (of12_0 _) (ce12 T ad _ _) (by decide) (cx_ts C _ fl_X12_pass_22) (fun _ h => h) (v := .ref (ad 0 0 0)) rfl dX12_pass_34 ?_
        refine fw_iload_n C dX12_pass_37 rfl 0 rfl ?_
        obtain ⟨r54, q55, h⟩ := bd1_some h
        refine fw_callVi C (ci := 11) (Cn := RX11) (Tc := TX11) (N := 11) (As := [.int l2]) (c_X11_isUnattended (gac (hG _ (List.mem_of_getElem? (i := 2) rfl)) (gac (hG _ (List.mem_of_getElem? (i := 3) rfl)) (fun q hq => hG q (List.mem_append_right _ hq)))) q55) (cwV 1 (cx_ts C) gX12_pass_X11_isUnattended rfl rfl rfl (by decide +kernel) ⟨Nat.le_of_ble_eq_true rfl, Nat.le_of_ble_eq_true rfl⟩) rfl (hG _ (List.mem_of_getElem? (i := 3) rfl)) (of0_0 _) (ce0 T ad _ _) rfl (st := [.int (Y 12 0 0 11), .ref (ad 12 0 0)]) rfl (Nat.le_of_ble_eq_true rfl) ⟨Nat.le_of_ble_eq_true rfl, Nat.le_of_ble_eq_true rfl⟩ dX12_pass_38 (pp2 ?_)
        refine fw_if_eq C dX12_pass_41 (tgt := 48) rfl (fun c56 => ?_) (fun c56 => ?_)
        · have h := ite_t c56 h
          refine fw_iconst C dX12_pass_48 (v := 1) rfl ?_
          exact w_X12_pass_b49 C hrt hG  hW hn14 h13 ih _ _ _ _ h
        · have h := ite_f c56 h
          refine fw_iconst C dX12_pass_44 (v := 0) rfl ?_
          refine fw_goto C dX12_pass_45 (tgt := 49) rfl ?_
          exact w_X12_pass_b49 C hrt hG  hW hn14 h13 ih _ _ _ _ h
      · have h := ite_f c53 h
        refine fw_goto C dX12_pass_25 (tgt := 103) rfl ?_
        exact w_X12_pass_b103 C hrt hG  hW hn14 h13 ih _ _ h
set_option maxRecDepth 100000 in
set_option maxHeartbeats 4000000 in
theorem w_X12_pass {Y : Mem} (C : Cx p s m [.ref (ad 12 0 0)].toArray meth c cX12_pass 4 wsX12_pass RX12 N0 T D gr ad) (hrt : meth.sig.returnType = none) (hG : ∀ q ∈ ([(12, 0), (2, 0), (1, 0), (0, 0)] ++ allG), q ∈ gr) (hn13 : ∀ q ∈ gr, q.1 ≠ 13) (hn14 : ∀ q ∈ gr, q.1 ≠ 14) {res : Mem} (h : X12_pass Y = some res) : FW p l e (Rn 6) s m [.ref (ad 12 0 0)].toArray below meth c 4 N0 T D gr ad 0 0 (MQ below (va_Qv (fun Y1 => Y1 = res) (WB T D gr ad) (fun q => N0 ≤ q)) [.ref (ad 12 0 0)].toArray s 2 28 (fun q => N0 ≤ q)) Y 0 [(0, .ref (ad 12 0 0))] [] := by
  unfold X12_pass at h
  have hW : ∀ (Z : Mem) (t : State), va_P D vwCl (wC T gr ad Z) t.heap → va_P D vwCl (wC T gr ad Z) t.heap := fun _ _ h => h
  refine fw_bipush C dX12_pass_0 (v := 14) rfl ?_
  obtain ⟨Y1, e2, h⟩ := lt_some h
  refine fw_newZ C (kA := 13) (L2 := fun ad => [(0, .ref (ad 12 0 0))]) (by decide) hn13 (fun ad' h9 => by simp only [h9 12 (by decide)]) ac_X12_pass (Nat.le_of_ble_eq_true rfl) (Nat.le_of_ble_eq_true rfl) dX12_pass_2 ?_
  intro gr ad C hsub h13 hno hcv
  have hG := fun q (hq : q ∈ ([(12, 0), (2, 0), (1, 0), (0, 0)] ++ allG)) => hsub q (hG q hq)
  have hn14 := hno 14 (by decide) hn14
  have hW := fun Z t ht => hW Z t (hcv Z t.heap ht)
  refine fw_mem e2 ?_
  refine fw_astore_n C dX12_pass_4 rfl (by decide) (L' := [(1, .ref (ad 13 0 0)), (0, .ref (ad 12 0 0))]) rfl ?_
  refine fw_iconst C dX12_pass_5 (v := 0) rfl ?_
  refine fw_istore_n C dX12_pass_6 rfl (by decide) (L' := [(2, .int 0), (1, .ref (ad 13 0 0)), (0, .ref (ad 12 0 0))]) rfl ?_
  exact w_X12_pass_b7 C hrt hG  hW hn14 h13  _ _ _ h
end
set_option maxRecDepth 100000 in
set_option maxHeartbeats 4000000 in
theorem c_X12_pass {l : Launch} {N0 : Nat} {T : Nat → ClassId} {D : va_G} {gr : List (Nat × Nat)} {ad : Nat → Nat → Nat → Nat} {Y : Mem} {res : Mem} (hG : ∀ q ∈ ([(12, 0), (2, 0), (1, 0), (0, 0)] ++ allG), q ∈ gr) (hn13 : ∀ q ∈ gr, q.1 ≠ 13) (hn14 : ∀ q ∈ gr, q.1 ≠ 14) (h : X12_pass Y = some res) : CVn l yX12_pass wsX12_pass (Rn 6) N0 T D gr ad Y [.ref (ad 12 0 0)] (fun Y1 => Y1 = res) :=
  fw_bodyn (by decide +kernel) rfl (Nat.le_of_ble_eq_true rfl) (fun p e s m below meth c C hrt => w_X12_pass C hrt hG hn13 hn14 h)
