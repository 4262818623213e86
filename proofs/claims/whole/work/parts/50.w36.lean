theorem ly_X11_cookMinutes_11 : ∀ w ∈ u_ws RX11 TX11 11, w ∈ wsX11_cookMinutes := by decide +kernel
theorem fl_X11_cookMinutes_67 : Cond.fieldLink RX11 67 "RecipeScheduler" "now" "LRecipeScheduler$Kitchen;" ∈ wsX11_cookMinutes := by decide +kernel
theorem ly_X11_cookMinutes_3 : ∀ w ∈ u_ws RX3 TX3 5, w ∈ wsX11_cookMinutes := by decide +kernel
theorem ly_X11_cookMinutes_8 : ∀ w ∈ u_ws RX8 TX8 15, w ∈ wsX11_cookMinutes := by decide +kernel
section
variable {p : Program} {l : Launch} {e : Env} {s : State} {m : MethodId} {below : List Frame} {meth : Method} {c : Code} {N0 : Nat} {T : Nat → ClassId} {D : va_G} {gr : List (Nat × Nat)} {ad : Nat → Nat → Nat → Nat}
set_option maxRecDepth 100000 in
set_option maxHeartbeats 4000000 in
theorem w_X11_cookMinutes {Y : Mem} (C : Cx p s m [.ref (ad 0 0 0)].toArray meth c cX11_cookMinutes 1 wsX11_cookMinutes RX11 N0 T D gr ad) (hrt : meth.sig.returnType = (some .int)) (hG : ∀ q ∈ [(0, 0), (1, 0), (2, 0)], q ∈ gr) {res : Int32} (h : X11_cookMinutes Y = some res) : FW p l e (Rm 0) s m [.ref (ad 0 0 0)].toArray below meth c 1 N0 T D gr ad 0 0 (MQ below (va_Qi (fun r Y1 => r = res ∧ Y1 = Y) (WB T D gr ad) (fun q => N0 ≤ q)) [.ref (ad 0 0 0)].toArray s 0 0 (fun q => N0 ≤ q)) Y 0 [(0, .ref (ad 0 0 0))] [] := by
  unfold X11_cookMinutes at h
  refine fw_aload_n C dX11_cookMinutes_0 rfl 0 rfl ?_
  refine fw_get C (ci := 9) (Cn := RX11) (Tc := TX11) (N := 11) (j := 5) ly_X11_cookMinutes_11 rfl (hG _ (List.mem_of_getElem? (i := 0) rfl)) (of0_0 _) (ce0 T ad _ _) (by decide) (cx_ts C _ fl_X11_cookMinutes_67) (fun _ h => h) (v := .ref (ad 1 0 0)) rfl dX11_cookMinutes_1 ?_
  refine fw_getN C (ci := 1) (Cn := RX3) (Tc := TX3) (N := 5) (j := 1) ly_X11_cookMinutes_3 rfl (hG _ (List.mem_of_getElem? (i := 1) rfl)) (of1_0 _) (ce1 T ad _ _) (by decide) (Nst_use (cx_nst C) (w := .fieldLinkNest RX11 139 "RecipeScheduler$Kitchen" "state" "LRecipeScheduler$State;" "RecipeScheduler") 522 (by decide +kernel) rfl) (fun _ h => h) (v := .ref (ad 2 0 0)) rfl dX11_cookMinutes_4 ?_
  refine fw_getN C (ci := 6) (Cn := RX8) (Tc := TX8) (N := 15) (j := 3) ly_X11_cookMinutes_8 rfl (hG _ (List.mem_of_getElem? (i := 2) rfl)) (of2_0 _) (ce2 T ad _ _) (by decide) (Nst_use (cx_nst C) (w := .fieldLinkNest RX11 176 "RecipeScheduler$State" "cookMinutes" "I" "RecipeScheduler") 449 (by decide +kernel) rfl) (fun _ h => h) (v := .int (Y 2 0 0 3)) rfl dX11_cookMinutes_7 ?_
  exact fw_iret C hrt Y ⟨Option.some.inj h, rfl⟩ (fun t ht => ht) dX11_cookMinutes_10
end
set_option maxRecDepth 100000 in
set_option maxHeartbeats 4000000 in
theorem c_X11_cookMinutes {l : Launch} {N0 : Nat} {T : Nat → ClassId} {D : va_G} {gr : List (Nat × Nat)} {ad : Nat → Nat → Nat → Nat} {Y : Mem} {res : Int32} (hG : ∀ q ∈ [(0, 0), (1, 0), (2, 0)], q ∈ gr) (h : X11_cookMinutes Y = some res) : CI l yX11_cookMinutes wsX11_cookMinutes (Rm 0) N0 T D gr ad Y [.ref (ad 0 0 0)] (fun r Y1 => r = res ∧ Y1 = Y) :=
  fw_body (by decide +kernel) rfl (Nat.le_of_ble_eq_true rfl) (fun p e s m below meth c C hrt => w_X11_cookMinutes C hrt hG  h)
theorem ly_X11_cooks_11 : ∀ w ∈ u_ws RX11 TX11 11, w ∈ wsX11_cooks := by decide +kernel
theorem fl_X11_cooks_67 : Cond.fieldLink RX11 67 "RecipeScheduler" "now" "LRecipeScheduler$Kitchen;" ∈ wsX11_cooks := by decide +kernel
theorem ly_X11_cooks_3 : ∀ w ∈ u_ws RX3 TX3 5, w ∈ wsX11_cooks := by decide +kernel
theorem ly_X11_cooks_8 : ∀ w ∈ u_ws RX8 TX8 15, w ∈ wsX11_cooks := by decide +kernel
section
variable {p : Program} {l : Launch} {e : Env} {s : State} {m : MethodId} {below : List Frame} {meth : Method} {c : Code} {N0 : Nat} {T : Nat → ClassId} {D : va_G} {gr : List (Nat × Nat)} {ad : Nat → Nat → Nat → Nat}
set_option maxRecDepth 100000 in
set_option maxHeartbeats 4000000 in
theorem w_X11_cooks {Y : Mem} (C : Cx p s m [.ref (ad 0 0 0)].toArray meth c cX11_cooks 1 wsX11_cooks RX11 N0 T D gr ad) (hrt : meth.sig.returnType = (some .int)) (hG : ∀ q ∈ [(0, 0), (1, 0), (2, 0)], q ∈ gr) {res : Int32} (h : X11_cooks Y = some res) : FW p l e (Rm 0) s m [.ref (ad 0 0 0)].toArray below meth c 1 N0 T D gr ad 0 0 (MQ below (va_Qi (fun r Y1 => r = res ∧ Y1 = Y) (WB T D gr ad) (fun q => N0 ≤ q)) [.ref (ad 0 0 0)].toArray s 0 0 (fun q => N0 ≤ q)) Y 0 [(0, .ref (ad 0 0 0))] [] := by
  unfold X11_cooks at h
  refine fw_aload_n C dX11_cooks_0 rfl 0 rfl ?_
  refine fw_get C (ci := 9) (Cn := RX11) (Tc := TX11) (N := 11) (j := 5) ly_X11_cooks_11 rfl (hG _ (List.mem_of_getElem? (i := 0) rfl)) (of0_0 _) (ce0 T ad _ _) (by decide) (cx_ts C _ fl_X11_cooks_67) (fun _ h => h) (v := .ref (ad 1 0 0)) rfl dX11_cooks_1 ?_
  refine fw_getN C (ci := 1) (Cn := RX3) (Tc := TX3) (N := 5) (j := 1) ly_X11_cooks_3 rfl (hG _ (List.mem_of_getElem? (i := 1) rfl)) (of1_0 _) (ce1 T ad _ _) (by decide) (Nst_use (cx_nst C) (w := .fieldLinkNest RX11 139 "RecipeScheduler$Kitchen" "state" "LRecipeScheduler$State;" "RecipeScheduler") 522 (by decide +kernel) rfl) (fun _ h => h) (v := .ref (ad 2 0 0)) rfl dX11_cooks_4 ?_
  refine fw_getN C (ci := 6) (Cn := RX8) (Tc := TX8) (N := 15) (j := 0) ly_X11_cooks_8 rfl (hG _ (List.mem_of_getElem? (i := 2) rfl)) (of2_0 _) (ce2 T ad _ _) (by decide) (Nst_use (cx_nst C) (w := .fieldLinkNest RX11 143 "RecipeScheduler$State" "cooks" "I" "RecipeScheduler") 439 (by decide +kernel) rfl) (fun _ h => h) (v := .int (Y 2 0 0 0)) rfl dX11_cooks_7 ?_
  exact fw_iret C hrt Y ⟨Option.some.inj h, rfl⟩ (fun t ht => ht) dX11_cooks_10
end
set_option maxRecDepth 100000 in
set_option maxHeartbeats 4000000 in
theorem c_X11_cooks {l : Launch} {N0 : Nat} {T : Nat → ClassId} {D : va_G} {gr : List (Nat × Nat)} {ad : Nat → Nat → Nat → Nat} {Y : Mem} {res : Int32} (hG : ∀ q ∈ [(0, 0), (1, 0), (2, 0)], q ∈ gr) (h : X11_cooks Y = some res) : CI l yX11_cooks wsX11_cooks (Rm 0) N0 T D gr ad Y [.ref (ad 0 0 0)] (fun r Y1 => r = res ∧ Y1 = Y) :=
  fw_body (by decide +kernel) rfl (Nat.le_of_ble_eq_true rfl) (fun p e s m below meth c C hrt => w_X11_cooks C hrt hG  h)
theorem ly_X8_statusOf_8 : ∀ w ∈ u_ws RX8 TX8 15, w ∈ wsX8_statusOf := by decide +kernel
theorem fl_X8_statusOf_53 : Cond.fieldLink RX8 53 "RecipeScheduler$State" "running" "I" ∈ wsX8_statusOf := by decide +kernel
theorem in_X8_statusOf_11 : Cond.initialized RX11 ∈ wsX8_statusOf := by decide +kernel
theorem sw_X8_statusOf_X11_contains : Cond.static yX11_contains ∈ wsX8_statusOf := by decide +kernel
theorem fl_X8_statusOf_56 : Cond.fieldLink RX8 56 "RecipeScheduler$State" "done" "I" ∈ wsX8_statusOf := by decide +kernel
theorem fl_X8_statusOf_59 : Cond.fieldLink RX8 59 "RecipeScheduler$State" "burnt" "I" ∈ wsX8_statusOf := by decide +kernel
section
variable {p : Program} {l : Launch} {e : Env} {s : State} {m : MethodId} {below : List Frame} {meth : Method} {c : Code} {N0 : Nat} {T : Nat → ClassId} {D : va_G} {gr : List (Nat × Nat)} {ad : Nat → Nat → Nat → Nat}
set_option maxRecDepth 100000 in
set_option maxHeartbeats 4000000 in
theorem w_X8_statusOf {Y : Mem} {g0 : Nat} {a1 : Int32} (C : Cx p s m [.ref (ad 2 g0 0), .int a1].toArray meth c cX8_statusOf 2 wsX8_statusOf RX8 N0 T D gr ad) (hrt : meth.sig.returnType = (some .int)) (hG : ∀ q ∈ [(2, g0)], q ∈ gr) {res : Int32} (h : X8_statusOf Y g0 a1 = some res) : FW p l e (Rm 1) s m [.ref (ad 2 g0 0), .int a1].toArray below meth c 2 N0 T D gr ad 0 0 (MQ below (va_Qi (fun r Y1 => r = res ∧ Y1 = Y) (WB T D gr ad) (fun q => N0 ≤ q)) [.ref (ad 2 g0 0), .int a1].toArray s 0 0 (fun q => N0 ≤ q)) Y 0 [(0, .ref (ad 2 g0 0)), (1, .int a1)] [] := by
  unfold X8_statusOf at h
  refine fw_aload_n C dX8_statusOf_0 rfl 0 rfl ?_
  refine fw_get C (ci := 6) (Cn := RX8) (Tc := TX8) (N := 15) (j := 6) ly_X8_statusOf_8 rfl (hG _ (List.mem_of_getElem? (i := 0) rfl)) (of2_0 _) (ce2 T ad _ _) (by decide) (cx_ts C _ fl_X8_statusOf_53) (fun _ h => h) (v := .int (Y 2 g0 0 6)) rfl dX8_statusOf_1 ?_
  refine fw_iload_n C dX8_statusOf_4 rfl 1 rfl ?_
  obtain ⟨r1, q2, h⟩ := bd1_some h
  refine fw_callSNi C (As := [.int (Y 2 g0 0 6), .int a1]) (c_X11_contains ga0 q2) ⟨(va_cnB 2 (cx_ts C) gX8_statusOf_X11_contains_n75 rfl rfl rfl (cx_nw C (w := .methodLinkNest RX8 75 yX11_contains "RecipeScheduler") 809 (by decide +kernel) rfl) (cx_ts C _ in_X8_statusOf_11) (by decide +kernel) ⟨Nat.le_of_ble_eq_true rfl, Nat.le_of_ble_eq_true rfl⟩), cx_ts C _ sw_X8_statusOf_X11_contains, trivial⟩ rfl (st := []) rfl (Nat.le_of_ble_eq_true rfl) ⟨Nat.le_refl 0, Nat.le_refl 0⟩ dX8_statusOf_5 (pp2 ?_)
  refine fw_if_eq C dX8_statusOf_8 (tgt := 13) rfl (fun c3 => ?_) (fun c3 => ?_)
  · have h := ite_t c3 h
    refine fw_aload_n C dX8_statusOf_13 rfl 0 rfl ?_
    refine fw_get C (ci := 6) (Cn := RX8) (Tc := TX8) (N := 15) (j := 7) ly_X8_statusOf_8 rfl (hG _ (List.mem_of_getElem? (i := 0) rfl)) (of2_0 _) (ce2 T ad _ _) (by decide) (cx_ts C _ fl_X8_statusOf_56) (fun _ h => h) (v := .int (Y 2 g0 0 7)) rfl dX8_statusOf_14 ?_
    refine fw_iload_n C dX8_statusOf_17 rfl 1 rfl ?_
    obtain ⟨r4, q5, h⟩ := bd1_some h
    refine fw_callSNi C (As := [.int (Y 2 g0 0 7), .int a1]) (c_X11_contains ga0 q5) ⟨(va_cnB 2 (cx_ts C) gX8_statusOf_X11_contains_n75 rfl rfl rfl (cx_nw C (w := .methodLinkNest RX8 75 yX11_contains "RecipeScheduler") 809 (by decide +kernel) rfl) (cx_ts C _ in_X8_statusOf_11) (by decide +kernel) ⟨Nat.le_of_ble_eq_true rfl, Nat.le_of_ble_eq_true rfl⟩), cx_ts C _ sw_X8_statusOf_X11_contains, trivial⟩ rfl (st := []) rfl (Nat.le_of_ble_eq_true rfl) ⟨Nat.le_refl 0, Nat.le_refl 0⟩ dX8_statusOf_18 (pp2 ?_)
    refine fw_if_eq C dX8_statusOf_21 (tgt := 26) rfl (fun c6 => ?_) (fun c6 => ?_)
    · have h := ite_t c6 h
      refine fw_aload_n C dX8_statusOf_26 rfl 0 rfl ?_
      refine fw_get C (ci := 6) (Cn := RX8) (Tc := TX8) (N := 15) (j := 8) ly_X8_statusOf_8 rfl (hG _ (List.mem_of_getElem? (i := 0) rfl)) (of2_0 _) (ce2 T ad _ _) (by decide) (cx_ts C _ fl_X8_statusOf_59) (fun _ h => h) (v := .int (Y 2 g0 0 8)) rfl dX8_statusOf_27 ?_
      refine fw_iload_n C dX8_statusOf_30 rfl 1 rfl ?_
      obtain ⟨r7, q8, h⟩ := bd1_some h
      refine fw_callSNi C (As := [.int (Y 2 g0 0 8), .int a1]) (c_X11_contains ga0 q8) ⟨(va_cnB 2 (cx_ts C) gX8_statusOf_X11_contains_n75 rfl rfl rfl (cx_nw C (w := .methodLinkNest RX8 75 yX11_contains "RecipeScheduler") 809 (by decide +kernel) rfl) (cx_ts C _ in_X8_statusOf_11) (by decide +kernel) ⟨Nat.le_of_ble_eq_true rfl, Nat.le_of_ble_eq_true rfl⟩), cx_ts C _ sw_X8_statusOf_X11_contains, trivial⟩ rfl (st := []) rfl (Nat.le_of_ble_eq_true rfl) ⟨Nat.le_refl 0, Nat.le_refl 0⟩ dX8_statusOf_31 (pp2 ?_)
      refine fw_if_eq C dX8_statusOf_34 (tgt := 41) rfl (fun c9 => ?_) (fun c9 => ?_)
      · have h := ite_t c9 h
        refine fw_iconst C dX8_statusOf_41 (v := 0) rfl ?_
        exact fw_iret C hrt Y ⟨Option.some.inj h, rfl⟩ (fun t ht => ht) dX8_statusOf_42
      · have h := ite_f c9 h
        refine fw_iconst C dX8_statusOf_37 (v := 3) rfl ?_
        refine fw_goto C dX8_statusOf_38 (tgt := 42) rfl ?_
        exact fw_iret C hrt Y ⟨Option.some.inj h, rfl⟩ (fun t ht => ht) dX8_statusOf_42
    · have h := ite_f c6 h
      refine fw_iconst C dX8_statusOf_24 (v := 2) rfl ?_
      exact fw_iret C hrt Y ⟨Option.some.inj h, rfl⟩ (fun t ht => ht) dX8_statusOf_25
  · have h := ite_f c3 h
    refine fw_iconst C dX8_statusOf_11 (v := 1) rfl ?_
    exact fw_iret C hrt Y ⟨Option.some.inj h, rfl⟩ (fun t ht => ht) dX8_statusOf_12
end
set_option maxRecDepth 100000 in
set_option maxHeartbeats 4000000 in
theorem c_X8_statusOf {l : Launch} {N0 : Nat} {T : Nat → ClassId} {D : va_G} {gr : List (Nat × Nat)} {ad : Nat → Nat → Nat → Nat} {Y : Mem} {g0 : Nat} {a1 : Int32} {res : Int32} (hG : ∀ q ∈ [(2, g0)], q ∈ gr) (h : X8_statusOf Y g0 a1 = some res) : CI l yX8_statusOf wsX8_statusOf (Rm 1) N0 T D gr ad Y [.ref (ad 2 g0 0), .int a1] (fun r Y1 => r = res ∧ Y1 = Y) :=
  fw_body (by decide +kernel) rfl (Nat.le_of_ble_eq_true rfl) (fun p e s m below meth c C hrt => w_X8_statusOf C hrt hG  h)
theorem ly_X11_countWithStatus_11 : ∀ w ∈ u_ws RX11 TX11 11, w ∈ wsX11_countWithStatus := by decide +kernel
theorem fl_X11_countWithStatus_67 : Cond.fieldLink RX11 67 "RecipeScheduler" "now" "LRecipeScheduler$Kitchen;" ∈ wsX11_countWithStatus := by decide +kernel
theorem ly_X11_countWithStatus_3 : ∀ w ∈ u_ws RX3 TX3 5, w ∈ wsX11_countWithStatus := by decide +kernel
theorem ly_X11_countWithStatus_5 : ∀ w ∈ u_ws RX5 TX5 17, w ∈ wsX11_countWithStatus := by decide +kernel
theorem ly_X11_countWithStatus_4 : ∀ w ∈ u_ws RX4 TX4 3, w ∈ wsX11_countWithStatus := by decide +kernel
theorem th_X11_countWithStatus_9 : Cond.classLink RX11 109 "java/lang/IllegalArgumentException" ∈ wsX11_countWithStatus ∧ Cond.initialized "java/lang/IllegalArgumentException" ∈ wsX11_countWithStatus ∧ ∀ w ∈ (vx_atS RX11 113 "java/lang/IllegalArgumentException" ["java/lang/RuntimeException", "java/lang/Exception"]).filter goodWord, w ∈ wsX11_countWithStatus := by decide +kernel
section
variable {p : Program} {l : Launch} {e : Env} {s : State} {m : MethodId} {below : List Frame} {meth : Method} {c : Code} {N0 : Nat} {T : Nat → ClassId} {D : va_G} {gr : List (Nat × Nat)} {ad : Nat → Nat → Nat → Nat}
set_option maxRecDepth 100000 in
set_option maxHeartbeats 4000000 in
theorem w_X11_countWithStatus_b58 {a1 : Int32} (C : Cx p s m [.ref (ad 0 0 0), .int a1].toArray meth c cX11_countWithStatus 4 wsX11_countWithStatus RX11 N0 T D gr ad) (hrt : meth.sig.returnType = (some .int)) (hG : ∀ q ∈ ([(0, 0), (1, 0), (2, 0)] ++ allG), q ∈ gr) (hl : l.stackTraces = false) (hX : ∀ x ∈ c.exceptionTable.toList, False) {res : (Nat × Mem) ⊕ (Int32 × Mem)} {k23 : Mem → Int32 → Int32 → Option ((Nat × Mem) ⊕ (Int32 × Mem))} (hk23 : ∀ (Y : Mem) (l3 : Int32) (l2 : Int32), k23 Y l3 l2 = some res → FW p l e (Rx 6 1) s m [.ref (ad 0 0 0), .int a1].toArray below meth c 4 N0 T D gr ad 0 0 (vx_MQ below (va_Qi (fun r Y1 => Sum.inr (r, Y1) = res) (WB T D gr ad) (fun q => N0 ≤ q)) (vx_X (fun u => Sum.inl u = res) (XB T D gr ad) (fun q => N0 ≤ q)) [.ref (ad 0 0 0), .int a1].toArray s 1 6 (fun q => N0 ≤ q)) Y 23 [(3, .int l3), (2, .int l2), (0, .ref (ad 0 0 0)), (1, .int a1)] []) (Y : Mem) (l3 : Int32) (l2 : Int32) (h : X11_countWithStatus_b58 a1 k23 Y l3 l2 = some res) : FW p l e (Rx 6 1) s m [.ref (ad 0 0 0), .int a1].toArray below meth c 4 N0 T D gr ad 0 0 (vx_MQ below (va_Qi (fun r Y1 => Sum.inr (r, Y1) = res) (WB T D gr ad) (fun q => N0 ≤ q)) (vx_X (fun u => Sum.inl u = res) (XB T D gr ad) (fun q => N0 ≤ q)) [.ref (ad 0 0 0), .int a1].toArray s 1 6 (fun q => N0 ≤ q)) Y 58 [(3, .int l3), (2, .int l2), (0, .ref (ad 0 0 0)), (1, .int a1)] [] := by
  unfold X11_countWithStatus_b58 at h
  refine fw_iinc C dX11_countWithStatus_58 (kk := 0) (v := l3 + 1) rfl rfl (by decide) (L' := [(3, .int (l3 + 1)), (2, .int l2), (0, .ref (ad 0 0 0)), (1, .int a1)]) rfl ?_
  refine fw_goto C dX11_countWithStatus_61 (tgt := 23) rfl ?_
  exact hk23 _ _ _ h
set_option maxRecDepth 100000 in
set_option maxHeartbeats 4000000 in
theorem w_X11_countWithStatus_b23 {a1 : Int32} (C : Cx p s m [.ref (ad 0 0 0), .int a1].toArray meth c cX11_countWithStatus 4 wsX11_countWithStatus RX11 N0 T D gr ad) (hrt : meth.sig.returnType = (some .int)) (hG : ∀ q ∈ ([(0, 0), (1, 0), (2, 0)] ++ allG), q ∈ gr) (hl : l.stackTraces = false) (hX : ∀ x ∈ c.exceptionTable.toList, False) {res : (Nat × Mem) ⊕ (Int32 × Mem)} : ∀ (n : Nat) (Y : Mem) (l3 : Int32) (l2 : Int32), X11_countWithStatus_b23 a1  n Y l3 l2 = some res → FW p l e (Rx 6 1) s m [.ref (ad 0 0 0), .int a1].toArray below meth c 4 N0 T D gr ad 0 0 (vx_MQ below (va_Qi (fun r Y1 => Sum.inr (r, Y1) = res) (WB T D gr ad) (fun q => N0 ≤ q)) (vx_X (fun u => Sum.inl u = res) (XB T D gr ad) (fun q => N0 ≤ q)) [.ref (ad 0 0 0), .int a1].toArray s 1 6 (fun q => N0 ≤ q)) Y 23 [(3, .int l3), (2, .int l2), (0, .ref (ad 0 0 0)), (1, .int a1)] [] := by
  intro n
  induction n with
  | zero =>
    intro Y l3 l2 h
    unfold X11_countWithStatus_b23 at h
    cases h
  | succ n ih =>
    intro Y l3 l2 h
    unfold X11_countWithStatus_b23 at h
    refine fw_iload_n C dX11_countWithStatus_23 rfl 0 rfl ?_
    refine fw_aload_n C dX11_countWithStatus_24 rfl 2 rfl ?_
    refine fw_get C (ci := 9) (Cn := RX11) (Tc := TX11) (N := 11) (j := 5) ly_X11_countWithStatus_11 rfl (hG _ (List.mem_of_getElem? (i := 0) rfl)) (of0_0 _) (ce0 T ad _ _) (by decide) (cx_ts C _ fl_X11_countWithStatus_67) (fun _ h => h) (v := .ref (ad 1 0 0)) rfl dX11_countWithStatus_25 ?_
    refine fw_getN C (ci := 1) (Cn := RX3) (Tc := TX3) (N := 5) (j := 0) ly_X11_countWithStatus_3 rfl (hG _ (List.mem_of_getElem? (i := 1) rfl)) (of1_0 _) (ce1 T ad _ _) (by decide) (Nst_use (cx_nst C) (w := .fieldLinkNest RX11 117 "RecipeScheduler$Kitchen" "recipe" "LRecipeScheduler$Recipe;" "RecipeScheduler") 520 (by decide +kernel) rfl) (fun _ h => h) (v := .ref (ad 3 ((Y 1 0 0 0).toNatClampNeg) 0)) rfl dX11_countWithStatus_28 ?_
    obtain ⟨b4, h⟩ := gd_some h
    have b4 := of_decide_eq_true b4
    refine fw_getN C (ci := 3) (Cn := RX5) (Tc := TX5) (N := 17) (j := 7) ly_X11_countWithStatus_5 rfl ((fun q hq => hG q (List.mem_append_right _ hq)) _ (allG_3 b4)) (of3_0 _) (ce3 T ad _ _) (by decide) (Nst_use (cx_nst C) (w := .fieldLinkNest RX11 126 "RecipeScheduler$Recipe" "steps" "LRecipeScheduler$Names;" "RecipeScheduler") 148 (by decide +kernel) rfl) (fun _ h => h) (v := .ref (ad 4 (2*((Y 1 0 0 0).toNatClampNeg)+1) 0)) rfl dX11_countWithStatus_31 ?_
    obtain ⟨b5, h⟩ := gd_some h
    have b5 := of_decide_eq_true b5
    refine fw_getN C (ci := 2) (Cn := RX4) (Tc := TX4) (N := 3) (j := 2) ly_X11_countWithStatus_4 rfl ((fun q hq => hG q (List.mem_append_right _ hq)) _ (allG_4b b5)) (of4_0 _) (ce4 T ad _ _) (by decide) (Nst_use (cx_nst C) (w := .fieldLinkNest RX11 130 "RecipeScheduler$Names" "count" "I" "RecipeScheduler") 115 (by decide +kernel) rfl) (fun _ h => h) (v := .int (Y 4 (2*((Y 1 0 0 0).toNatClampNeg)+1) 0 2)) rfl dX11_countWithStatus_34 ?_
    refine fw_icmp_ge C dX11_countWithStatus_37 (tgt := 64) rfl (fun c6 => ?_) (fun c6 => ?_)
    · have h := ite_t c6 h
      refine fw_iload_n C dX11_countWithStatus_64 rfl 1 rfl ?_
      refine fw_xr (Nat.le_of_ble_eq_true rfl) (Nat.le_of_ble_eq_true rfl) ?_
      exact fw_iret C hrt Y (Option.some.inj h) (fun t ht => ht) dX11_countWithStatus_65
    · have h := ite_f c6 h
      refine fw_aload_n C dX11_countWithStatus_40 rfl 2 rfl ?_
      refine fw_get C (ci := 9) (Cn := RX11) (Tc := TX11) (N := 11) (j := 5) ly_X11_countWithStatus_11 rfl (hG _ (List.mem_of_getElem? (i := 0) rfl)) (of0_0 _) (ce0 T ad _ _) (by decide) (cx_ts C _ fl_X11_countWithStatus_67) (fun _ h => h) (v := .ref (ad 1 0 0)) rfl dX11_countWithStatus_41 ?_
      refine fw_getN C (ci := 1) (Cn := RX3) (Tc := TX3) (N := 5) (j := 1) ly_X11_countWithStatus_3 rfl (hG _ (List.mem_of_getElem? (i := 1) rfl)) (of1_0 _) (ce1 T ad _ _) (by decide) (Nst_use (cx_nst C) (w := .fieldLinkNest RX11 139 "RecipeScheduler$Kitchen" "state" "LRecipeScheduler$State;" "RecipeScheduler") 522 (by decide +kernel) rfl) (fun _ h => h) (v := .ref (ad 2 0 0)) rfl dX11_countWithStatus_44 ?_
      refine fw_iload_n C dX11_countWithStatus_47 rfl 0 rfl ?_
      obtain ⟨r7, q8, h⟩ := bd1_some h
      refine fw_callVi C (ci := 6) (Cn := RX8) (Tc := TX8) (N := 15) (As := [.int l3]) (c_X8_statusOf (gac (hG _ (List.mem_of_getElem? (i := 2) rfl)) ga0) q8) (cwV 1 (cx_ts C) gX11_countWithStatus_X8_statusOf rfl rfl rfl (by decide +kernel) ⟨Nat.le_of_ble_eq_true rfl, Nat.le_of_ble_eq_true rfl⟩) rfl (hG _ (List.mem_of_getElem? (i := 2) rfl)) (of2_0 _) (ce2 T ad _ _) rfl (st := []) rfl (Nat.le_of_ble_eq_true rfl) ⟨Nat.le_of_ble_eq_true rfl, Nat.le_of_ble_eq_true rfl⟩ dX11_countWithStatus_48 (pp2 ?_)
      refine fw_iload_n C dX11_countWithStatus_51 rfl 3 rfl ?_
      refine fw_icmp_ne C dX11_countWithStatus_52 (tgt := 58) rfl (fun c9 => ?_) (fun c9 => ?_)
      · have h := ite_f c9 h
        exact w_X11_countWithStatus_b58 C hrt hG  hl hX ih _ _ _ h
      · have h := ite_t c9 h
        refine fw_iinc C dX11_countWithStatus_55 (kk := 1) (v := l2 + 1) rfl rfl (by decide) (L' := [(2, .int (l2 + 1)), (3, .int l3), (0, .ref (ad 0 0 0)), (1, .int a1)]) rfl ?_
        refine fw_sub [1, 0, 2, 3] (L' := [(3, .int l3), (2, .int (l2 + 1)), (0, .ref (ad 0 0 0)), (1, .int a1)]) rfl ?_
        exact w_X11_countWithStatus_b58 C hrt hG  hl hX ih _ _ _ h
set_option maxRecDepth 100000 in
set_option maxHeartbeats 4000000 in
theorem w_X11_countWithStatus {Y : Mem} {a1 : Int32} (C : Cx p s m [.ref (ad 0 0 0), .int a1].toArray meth c cX11_countWithStatus 4 wsX11_countWithStatus RX11 N0 T D gr ad) (hrt : meth.sig.returnType = (some .int)) (hG : ∀ q ∈ ([(0, 0), (1, 0), (2, 0)] ++ allG), q ∈ gr) (hl : l.stackTraces = false) (hX : ∀ x ∈ c.exceptionTable.toList, False) {res : (Nat × Mem) ⊕ (Int32 × Mem)} (h : X11_countWithStatus Y a1 = some res) : FW p l e (Rx 6 1) s m [.ref (ad 0 0 0), .int a1].toArray below meth c 4 N0 T D gr ad 0 0 (vx_MQ below (va_Qi (fun r Y1 => Sum.inr (r, Y1) = res) (WB T D gr ad) (fun q => N0 ≤ q)) (vx_X (fun u => Sum.inl u = res) (XB T D gr ad) (fun q => N0 ≤ q)) [.ref (ad 0 0 0), .int a1].toArray s 1 6 (fun q => N0 ≤ q)) Y 0 [(0, .ref (ad 0 0 0)), (1, .int a1)] [] := by
  unfold X11_countWithStatus at h
  refine fw_iload_n C dX11_countWithStatus_0 rfl 1 rfl ?_
  refine fw_iconst C dX11_countWithStatus_1 (v := 0) rfl ?_
  refine fw_iconst C dX11_countWithStatus_2 (v := 3) rfl ?_
  obtain ⟨r1, q2, h⟩ := bd1_some h
  refine fw_callSi C (As := [.int a1, .int 0, .int 3]) (c_X11_isWithin ga0 q2) (va_cwS 3 (cx_ts C) gX11_countWithStatus_X11_isWithin rfl rfl rfl (by decide +kernel) ⟨Nat.le_of_ble_eq_true rfl, Nat.le_of_ble_eq_true rfl⟩) rfl (st := []) rfl (Nat.le_of_ble_eq_true rfl) ⟨Nat.le_of_ble_eq_true rfl, Nat.le_of_ble_eq_true rfl⟩ dX11_countWithStatus_3 (pp2 ?_)
  refine fw_if_ne C dX11_countWithStatus_6 (tgt := 19) rfl (fun c3 => ?_) (fun c3 => ?_)
  · have h := ite_f c3 h
    refine fw_iconst C dX11_countWithStatus_19 (v := 0) rfl ?_
    refine fw_istore_n C dX11_countWithStatus_20 rfl (by decide) (L' := [(2, .int 0), (0, .ref (ad 0 0 0)), (1, .int a1)]) rfl ?_
    refine fw_iconst C dX11_countWithStatus_21 (v := 0) rfl ?_
    refine fw_istore_n C dX11_countWithStatus_22 rfl (by decide) (L' := [(3, .int 0), (2, .int 0), (0, .ref (ad 0 0 0)), (1, .int a1)]) rfl ?_
    exact w_X11_countWithStatus_b23 C hrt hG  hl hX  _ _ _ _ h
  · have h := ite_t c3 h
    exact fw_throwS C hl hX (cls := "java/lang/IllegalArgumentException") (names := ["java/lang/RuntimeException", "java/lang/Exception"]) 2 rfl (by decide +kernel) (by decide +kernel) (cx_ts C _ th_X11_countWithStatus_9.1) (cx_ts C _ th_X11_countWithStatus_9.2.1) (sr_11 (cx_st C)) (vx_hat (fun w hw => cx_ts C _ (th_X11_countWithStatus_9.2.2 w hw)) tg_2_113_109b (vx_c (Nst_use (cx_nst C) (w := .castable "java/lang/IllegalArgumentException" "java/lang/IllegalArgumentException") 905 (by decide +kernel) rfl) (vx_c (Nst_use (cx_nst C) 826 (by decide +kernel) rfl) (vx_c (Nst_use (cx_nst C) 828 (by decide +kernel) rfl) (vx_c (Nst_use (cx_nst C) 830 (by decide +kernel) rfl) vx_n))))) tg_2_113_109 dX11_countWithStatus_9 dX11_countWithStatus_12 dX11_countWithStatus_13 dX11_countWithStatus_15 dX11_countWithStatus_18 (Nat.le_of_ble_eq_true rfl) (Nat.le_of_ble_eq_true rfl) (Nat.le_of_ble_eq_true rfl) (Nat.le_of_ble_eq_true rfl) (Nat.le_of_ble_eq_true rfl) (Nat.le_of_ble_eq_true rfl) (Option.some.inj h)
end
set_option maxRecDepth 100000 in
set_option maxHeartbeats 4000000 in
theorem c_X11_countWithStatus {l : Launch} {N0 : Nat} {T : Nat → ClassId} {D : va_G} {gr : List (Nat × Nat)} {ad : Nat → Nat → Nat → Nat} {Y : Mem} {a1 : Int32} {res : (Nat × Mem) ⊕ (Int32 × Mem)} (hl : l.stackTraces = false) (hG : ∀ q ∈ ([(0, 0), (1, 0), (2, 0)] ++ allG), q ∈ gr) (h : X11_countWithStatus Y a1 = some res) : CXi l yX11_countWithStatus wsX11_countWithStatus (Rx 6 1) N0 T D gr ad Y [.ref (ad 0 0 0), .int a1] 1 res :=
  fw_xbody (by decide +kernel) rfl (Nat.le_of_ble_eq_true rfl) (fun p e s m below meth c C hrt hX => w_X11_countWithStatus C hrt hG hl hX h)
theorem ly_X3_criticalAt_3 : ∀ w ∈ u_ws RX3 TX3 5, w ∈ wsX3_criticalAt := by decide +kernel
theorem fl_X3_criticalAt_28 : Cond.fieldLink RX3 28 "RecipeScheduler$Kitchen" "recipe" "LRecipeScheduler$Recipe;" ∈ wsX3_criticalAt := by decide +kernel
theorem ly_X3_criticalAt_5 : ∀ w ∈ u_ws RX5 TX5 17, w ∈ wsX3_criticalAt := by decide +kernel
theorem ly_X3_criticalAt_4 : ∀ w ∈ u_ws RX4 TX4 3, w ∈ wsX3_criticalAt := by decide +kernel
theorem in_X3_criticalAt_11 : Cond.initialized RX11 ∈ wsX3_criticalAt := by decide +kernel
theorem sw_X3_criticalAt_X11_isWithin : Cond.static yX11_isWithin ∈ wsX3_criticalAt := by decide +kernel
section
variable {p : Program} {l : Launch} {e : Env} {s : State} {m : MethodId} {below : List Frame} {meth : Method} {c : Code} {N0 : Nat} {T : Nat → ClassId} {D : va_G} {gr : List (Nat × Nat)} {ad : Nat → Nat → Nat → Nat}
set_option maxRecDepth 100000 in
set_option maxHeartbeats 4000000 in
theorem w_X3_criticalAt_b40 {g0 : Nat} {a1 : Int32} (C : Cx p s m [.ref (ad 1 g0 0), .int a1].toArray meth c cX3_criticalAt 4 wsX3_criticalAt RX3 N0 T D gr ad) (hrt : meth.sig.returnType = (some .int)) (hG : ∀ q ∈ ([(1, g0), (2, g0)] ++ allG), q ∈ gr) {res : Int32 × Mem} : ∀ (n : Nat) (Y : Mem) (l3 : Int32) (l2 : Int32), X3_criticalAt_b40 g0 a1  n Y l3 l2 = some res → FW p l e (Rm 3) s m [.ref (ad 1 g0 0), .int a1].toArray below meth c 4 N0 T D gr ad 0 0 (MQ below (va_Qi (fun r Y1 => (r, Y1) = res) (WB T D gr ad) (fun q => N0 ≤ q)) [.ref (ad 1 g0 0), .int a1].toArray s 0 0 (fun q => N0 ≤ q)) Y 40 [(3, .int l3), (2, .int l2), (0, .ref (ad 1 g0 0)), (1, .int a1)] [] := by
  intro n
  induction n with
  | zero =>
    intro Y l3 l2 h
    unfold X3_criticalAt_b40 at h
    cases h
  | succ n ih =>
    intro Y l3 l2 h
    unfold X3_criticalAt_b40 at h
    refine fw_iload_n C dX3_criticalAt_40 rfl 0 rfl ?_
    refine fw_iload_n C dX3_criticalAt_41 rfl 3 rfl ?_
    refine fw_icmp_ge C dX3_criticalAt_42 (tgt := 70) rfl (fun c15 => ?_) (fun c15 => ?_)
    · have h := ite_t c15 h
      refine fw_iload_n C dX3_criticalAt_70 rfl 1 rfl ?_
      exact fw_iret C hrt Y (Option.some.inj h) (fun t ht => ht) dX3_criticalAt_71
    · have h := ite_f c15 h
      refine fw_iload_n C dX3_criticalAt_45 rfl 1 rfl ?_
      refine fw_iconst C dX3_criticalAt_46 (v := (-1)) rfl ?_
      refine fw_icmp_eq C dX3_criticalAt_47 (tgt := 70) rfl (fun c16 => ?_) (fun c16 => ?_)
      · have h := ite_t c16 h
        refine fw_iload_n C dX3_criticalAt_70 rfl 1 rfl ?_
        exact fw_iret C hrt Y (Option.some.inj h) (fun t ht => ht) dX3_criticalAt_71
      · have h := ite_f c16 h
        refine fw_aload_n C dX3_criticalAt_50 rfl 2 rfl ?_
        refine fw_aload_n C dX3_criticalAt_51 rfl 2 rfl ?_
        refine fw_get C (ci := 1) (Cn := RX3) (Tc := TX3) (N := 5) (j := 0) ly_X3_criticalAt_3 rfl (hG _ (List.mem_of_getElem? (i := 0) rfl)) (of1_0 _) (ce1 T ad _ _) (by decide) (cx_ts C _ fl_X3_criticalAt_28) (fun _ h => h) (v := .ref (ad 3 ((Y 1 g0 0 0).toNatClampNeg) 0)) rfl dX3_criticalAt_52 ?_
        obtain ⟨b17, h⟩ := gd_some h
        have b17 := of_decide_eq_true b17
        refine fw_getN C (ci := 3) (Cn := RX5) (Tc := TX5) (N := 17) (j := 14) ly_X3_criticalAt_5 rfl ((fun q hq => hG q (List.mem_append_right _ hq)) _ (allG_3 b17)) (of3_0 _) (ce3 T ad _ _) (by decide) (Nst_use (cx_nst C) (w := .fieldLinkNest RX3 141 "RecipeScheduler$Recipe" "successorSet" "[I" "RecipeScheduler") 173 (by decide +kernel) rfl) (fun _ h => h) (v := .ref (ad 3 (((Y 1 g0 0 0).toNatClampNeg)) 9)) rfl dX3_criticalAt_55 ?_
        refine fw_iload_n C dX3_criticalAt_58 rfl 1 rfl ?_
        obtain ⟨b18, h⟩ := gd_some h
        refine fw_iald2 C ((fun q hq => hG q (List.mem_append_right _ hq)) _ (allG_3 b17)) (of3_9 _) (ca3_9 T ad _ _) b18 (Nat.le_of_ble_eq_true rfl) dX3_criticalAt_59 ?_
        obtain ⟨r19, q20, h⟩ := bd1_some h
        refine fw_callVi C (ci := 1) (Cn := RX3) (Tc := TX3) (N := 5) (As := [.int (Y 3 (((Y 1 g0 0 0).toNatClampNeg)) 9 (ix l2))]) (c_X3_longestOf (gac (hG _ (List.mem_of_getElem? (i := 0) rfl)) (fun q hq => hG q (List.mem_append_right _ hq))) q20) (cwV 1 (cx_ts C) gX3_criticalAt_X3_longestOf rfl rfl rfl (by decide +kernel) ⟨Nat.le_of_ble_eq_true rfl, Nat.le_of_ble_eq_true rfl⟩) rfl (hG _ (List.mem_of_getElem? (i := 0) rfl)) (of1_0 _) (ce1 T ad _ _) rfl (st := []) rfl (Nat.le_of_ble_eq_true rfl) ⟨Nat.le_refl 0, Nat.le_refl 0⟩ dX3_criticalAt_60 (pp2 ?_)
        refine fw_istore_n C dX3_criticalAt_63 rfl (by decide) (L' := [(2, .int r19), (3, .int l3), (0, .ref (ad 1 g0 0)), (1, .int a1)]) rfl ?_
        refine fw_iinc C dX3_criticalAt_64 (kk := 1) (v := l3 + 1) rfl rfl (by decide) (L' := [(3, .int (l3 + 1)), (2, .int r19), (0, .ref (ad 1 g0 0)), (1, .int a1)]) rfl ?_
        refine fw_goto C dX3_criticalAt_67 (tgt := 40) rfl ?_
        exact ih _ _ _ h
set_option maxRecDepth 100000 in
set_option maxHeartbeats 4000000 in
theorem w_X3_criticalAt {Y : Mem} {g0 : Nat} {a1 : Int32} (C : Cx p s m [.ref (ad 1 g0 0), .int a1].toArray meth c cX3_criticalAt 4 wsX3_criticalAt RX3 N0 T D gr ad) (hrt : meth.sig.returnType = (some .int)) (hG : ∀ q ∈ ([(1, g0), (2, g0)] ++ allG), q ∈ gr) {res : Int32 × Mem} (h : X3_criticalAt Y g0 a1 = some res) : FW p l e (Rm 3) s m [.ref (ad 1 g0 0), .int a1].toArray below meth c 4 N0 T D gr ad 0 0 (MQ below (va_Qi (fun r Y1 => (r, Y1) = res) (WB T D gr ad) (fun q => N0 ≤ q)) [.ref (ad 1 g0 0), .int a1].toArray s 0 0 (fun q => N0 ≤ q)) Y 0 [(0, .ref (ad 1 g0 0)), (1, .int a1)] [] := by
  unfold X3_criticalAt at h
  refine fw_iload_n C dX3_criticalAt_0 rfl 1 rfl ?_
  refine fw_iconst C dX3_criticalAt_1 (v := 0) rfl ?_
  refine fw_aload_n C dX3_criticalAt_2 rfl 0 rfl ?_
  refine fw_get C (ci := 1) (Cn := RX3) (Tc := TX3) (N := 5) (j := 0) ly_X3_criticalAt_3 rfl (hG _ (List.mem_of_getElem? (i := 0) rfl)) (of1_0 _) (ce1 T ad _ _) (by decide) (cx_ts C _ fl_X3_criticalAt_28) (fun _ h => h) (v := .ref (ad 3 ((Y 1 g0 0 0).toNatClampNeg) 0)) rfl dX3_criticalAt_3 ?_
  obtain ⟨b1, h⟩ := gd_some h
  have b1 := of_decide_eq_true b1
  refine fw_getN C (ci := 3) (Cn := RX5) (Tc := TX5) (N := 17) (j := 7) ly_X3_criticalAt_5 rfl ((fun q hq => hG q (List.mem_append_right _ hq)) _ (allG_3 b1)) (of3_0 _) (ce3 T ad _ _) (by decide) (Nst_use (cx_nst C) (w := .fieldLinkNest RX3 91 "RecipeScheduler$Recipe" "steps" "LRecipeScheduler$Names;" "RecipeScheduler") 150 (by decide +kernel) rfl) (fun _ h => h) (v := .ref (ad 4 (2*((Y 1 g0 0 0).toNatClampNeg)+1) 0)) rfl dX3_criticalAt_6 ?_
  obtain ⟨b2, h⟩ := gd_some h
  have b2 := of_decide_eq_true b2
  refine fw_getN C (ci := 2) (Cn := RX4) (Tc := TX4) (N := 3) (j := 2) ly_X3_criticalAt_4 rfl ((fun q hq => hG q (List.mem_append_right _ hq)) _ (allG_4b b2)) (of4_0 _) (ce4 T ad _ _) (by decide) (Nst_use (cx_nst C) (w := .fieldLinkNest RX3 95 "RecipeScheduler$Names" "count" "I" "RecipeScheduler") 116 (by decide +kernel) rfl) (fun _ h => h) (v := .int (Y 4 (2*((Y 1 g0 0 0).toNatClampNeg)+1) 0 2)) rfl dX3_criticalAt_9 ?_
  refine fw_iconst C dX3_criticalAt_12 (v := 1) rfl ?_
  refine fw_isub C dX3_criticalAt_13 ?_
  obtain ⟨r3, q4, h⟩ := bd1_some h
  refine fw_callSNi C (As := [.int a1, .int 0, .int ((Y 4 (2*((Y 1 g0 0 0).toNatClampNeg)+1) 0 2) - 1)]) (c_X11_isWithin ga0 q4) ⟨(va_cnB 3 (cx_ts C) gX3_criticalAt_X11_isWithin_n165 rfl rfl rfl (cx_nw C (w := .methodLinkNest RX3 165 yX11_isWithin "RecipeScheduler") 688 (by decide +kernel) rfl) (cx_ts C _ in_X3_criticalAt_11) (by decide +kernel) ⟨Nat.le_of_ble_eq_true rfl, Nat.le_of_ble_eq_true rfl⟩), cx_ts C _ sw_X3_criticalAt_X11_isWithin, trivial⟩ rfl (st := []) rfl (Nat.le_of_ble_eq_true rfl) ⟨Nat.le_refl 0, Nat.le_refl 0⟩ dX3_criticalAt_14 (pp2 ?_)
  refine fw_if_ne C dX3_criticalAt_17 (tgt := 22) rfl (fun c5 => ?_) (fun c5 => ?_)
  · have h := ite_f c5 h
    refine fw_aload_n C dX3_criticalAt_22 rfl 0 rfl ?_
    obtain ⟨Y8, q7, h⟩ := bd1_some h
    refine fw_callVv C (ci := 1) (Cn := RX3) (Tc := TX3) (N := 5) (As := []) (c_X3_rank (gac (hG _ (List.mem_of_getElem? (i := 0) rfl)) (gac (hG _ (List.mem_of_getElem? (i := 1) rfl)) (fun q hq => hG q (List.mem_append_right _ hq)))) q7) (cwV 0 (cx_ts C) gX3_criticalAt_X3_rank rfl rfl rfl (by decide +kernel) ⟨Nat.le_of_ble_eq_true rfl, Nat.le_of_ble_eq_true rfl⟩) rfl (hG _ (List.mem_of_getElem? (i := 0) rfl)) (of1_0 _) (ce1 T ad _ _) rfl (st := []) rfl (Nat.le_of_ble_eq_true rfl) ⟨Nat.le_refl 0, Nat.le_refl 0⟩ dX3_criticalAt_23 (ppv ?_)
    refine fw_aload_n C dX3_criticalAt_26 rfl 0 rfl ?_
    refine fw_aload_n C dX3_criticalAt_27 rfl 0 rfl ?_
    refine fw_get C (ci := 1) (Cn := RX3) (Tc := TX3) (N := 5) (j := 0) ly_X3_criticalAt_3 rfl (hG _ (List.mem_of_getElem? (i := 0) rfl)) (of1_0 _) (ce1 T ad _ _) (by decide) (cx_ts C _ fl_X3_criticalAt_28) (fun _ h => h) (v := .ref (ad 3 ((Y8 1 g0 0 0).toNatClampNeg) 0)) rfl dX3_criticalAt_28 ?_
    obtain ⟨b9, h⟩ := gd_some h
    have b9 := of_decide_eq_true b9
    obtain ⟨b10, h⟩ := gd_some h
    have b10 := of_decide_eq_true b10
    obtain ⟨r11, q12, h⟩ := bd1_some h
    refine fw_callVi C (ci := 3) (Cn := RX5) (Tc := TX5) (N := 17) (As := []) (c_X5_allSteps (gac ((fun q hq => hG q (List.mem_append_right _ hq)) _ (allG_3 b10)) (gac ((fun q hq => hG q (List.mem_append_right _ hq)) _ (allG_4b b9)) ga0)) q12) (cwV 0 (cx_ts C) gX3_criticalAt_X5_allSteps rfl rfl rfl (by decide +kernel) ⟨Nat.le_of_ble_eq_true rfl, Nat.le_of_ble_eq_true rfl⟩) rfl ((fun q hq => hG q (List.mem_append_right _ hq)) _ (allG_3 b10)) (of3_0 _) (ce3 T ad _ _) rfl (st := [.ref (ad 1 g0 0)]) rfl (Nat.le_of_ble_eq_true rfl) ⟨Nat.le_refl 0, Nat.le_refl 0⟩ dX3_criticalAt_31 (pp2 ?_)
    obtain ⟨r13, q14, h⟩ := bd1_some h
    refine fw_callVi C (ci := 1) (Cn := RX3) (Tc := TX3) (N := 5) (As := [.int r11]) (c_X3_longestOf (gac (hG _ (List.mem_of_getElem? (i := 0) rfl)) (fun q hq => hG q (List.mem_append_right _ hq))) q14) (cwV 1 (cx_ts C) gX3_criticalAt_X3_longestOf rfl rfl rfl (by decide +kernel) ⟨Nat.le_of_ble_eq_true rfl, Nat.le_of_ble_eq_true rfl⟩) rfl (hG _ (List.mem_of_getElem? (i := 0) rfl)) (of1_0 _) (ce1 T ad _ _) rfl (st := []) rfl (Nat.le_of_ble_eq_true rfl) ⟨Nat.le_refl 0, Nat.le_refl 0⟩ dX3_criticalAt_34 (pp2 ?_)
    refine fw_istore_n C dX3_criticalAt_37 rfl (by decide) (L' := [(2, .int r13), (0, .ref (ad 1 g0 0)), (1, .int a1)]) rfl ?_
    refine fw_iconst C dX3_criticalAt_38 (v := 0) rfl ?_
    refine fw_istore_n C dX3_criticalAt_39 rfl (by decide) (L' := [(3, .int 0), (2, .int r13), (0, .ref (ad 1 g0 0)), (1, .int a1)]) rfl ?_
    exact w_X3_criticalAt_b40 C hrt hG   _ _ _ _ h
  · have h := ite_t c5 h
    refine fw_iconst C dX3_criticalAt_20 (v := (-1)) rfl ?_
    exact fw_iret C hrt Y (Option.some.inj h) (fun t ht => ht) dX3_criticalAt_21
end
set_option maxRecDepth 100000 in
set_option maxHeartbeats 4000000 in
theorem c_X3_criticalAt {l : Launch} {N0 : Nat} {T : Nat → ClassId} {D : va_G} {gr : List (Nat × Nat)} {ad : Nat → Nat → Nat → Nat} {Y : Mem} {g0 : Nat} {a1 : Int32} {res : Int32 × Mem} (hG : ∀ q ∈ ([(1, g0), (2, g0)] ++ allG), q ∈ gr) (h : X3_criticalAt Y g0 a1 = some res) : CI l yX3_criticalAt wsX3_criticalAt (Rm 3) N0 T D gr ad Y [.ref (ad 1 g0 0), .int a1] (fun r Y1 => (r, Y1) = res) :=
  fw_body (by decide +kernel) rfl (Nat.le_of_ble_eq_true rfl) (fun p e s m below meth c C hrt => w_X3_criticalAt C hrt hG  h)
theorem ly_X11_criticalStep_11 : ∀ w ∈ u_ws RX11 TX11 11, w ∈ wsX11_criticalStep := by decide +kernel
theorem fl_X11_criticalStep_67 : Cond.fieldLink RX11 67 "RecipeScheduler" "now" "LRecipeScheduler$Kitchen;" ∈ wsX11_criticalStep := by decide +kernel
section
variable {p : Program} {l : Launch} {e : Env} {s : State} {m : MethodId} {below : List Frame} {meth : Method} {c : Code} {N0 : Nat} {T : Nat → ClassId} {D : va_G} {gr : List (Nat × Nat)} {ad : Nat → Nat → Nat → Nat}
set_option maxRecDepth 100000 in
set_option maxHeartbeats 4000000 in
theorem w_X11_criticalStep {Y : Mem} {a1 : Int32} (C : Cx p s m [.ref (ad 0 0 0), .int a1].toArray meth c cX11_criticalStep 2 wsX11_criticalStep RX11 N0 T D gr ad) (hrt : meth.sig.returnType = (some .int)) (hG : ∀ q ∈ ([(0, 0), (2, 0), (1, 0)] ++ allG), q ∈ gr) {res : Int32 × Mem} (h : X11_criticalStep Y a1 = some res) : FW p l e (Rm 4) s m [.ref (ad 0 0 0), .int a1].toArray below meth c 2 N0 T D gr ad 0 0 (MQ below (va_Qi (fun r Y1 => (r, Y1) = res) (WB T D gr ad) (fun q => N0 ≤ q)) [.ref (ad 0 0 0), .int a1].toArray s 0 0 (fun q => N0 ≤ q)) Y 0 [(0, .ref (ad 0 0 0)), (1, .int a1)] [] := by
  unfold X11_criticalStep at h
  refine fw_aload_n C dX11_criticalStep_0 rfl 0 rfl ?_
  refine fw_get C (ci := 9) (Cn := RX11) (Tc := TX11) (N := 11) (j := 5) ly_X11_criticalStep_11 rfl (hG _ (List.mem_of_getElem? (i := 0) rfl)) (of0_0 _) (ce0 T ad _ _) (by decide) (cx_ts C _ fl_X11_criticalStep_67) (fun _ h => h) (v := .ref (ad 1 0 0)) rfl dX11_criticalStep_1 ?_
  refine fw_iload_n C dX11_criticalStep_4 rfl 1 rfl ?_
  obtain ⟨r1, Y3, q2, h⟩ := bd2_some h
  refine fw_callVi C (ci := 1) (Cn := RX3) (Tc := TX3) (N := 5) (As := [.int a1]) (c_X3_criticalAt (gac (hG _ (List.mem_of_getElem? (i := 2) rfl)) (gac (hG _ (List.mem_of_getElem? (i := 1) rfl)) (fun q hq => hG q (List.mem_append_right _ hq)))) q2) (cwV 1 (cx_ts C) gX11_criticalStep_X3_criticalAt rfl rfl rfl (by decide +kernel) ⟨Nat.le_of_ble_eq_true rfl, Nat.le_of_ble_eq_true rfl⟩) rfl (hG _ (List.mem_of_getElem? (i := 2) rfl)) (of1_0 _) (ce1 T ad _ _) rfl (st := []) rfl (Nat.le_of_ble_eq_true rfl) ⟨Nat.le_refl 0, Nat.le_refl 0⟩ dX11_criticalStep_5 (ppw ?_)
  exact fw_iret C hrt Y3 (Option.some.inj h) (fun t ht => ht) dX11_criticalStep_8
end
set_option maxRecDepth 100000 in
set_option maxHeartbeats 4000000 in
theorem c_X11_criticalStep {l : Launch} {N0 : Nat} {T : Nat → ClassId} {D : va_G} {gr : List (Nat × Nat)} {ad : Nat → Nat → Nat → Nat} {Y : Mem} {a1 : Int32} {res : Int32 × Mem} (hG : ∀ q ∈ ([(0, 0), (2, 0), (1, 0)] ++ allG), q ∈ gr) (h : X11_criticalStep Y a1 = some res) : CI l yX11_criticalStep wsX11_criticalStep (Rm 4) N0 T D gr ad Y [.ref (ad 0 0 0), .int a1] (fun r Y1 => (r, Y1) = res) :=
  fw_body (by decide +kernel) rfl (Nat.le_of_ble_eq_true rfl) (fun p e s m below meth c C hrt => w_X11_criticalStep C hrt hG  h)
