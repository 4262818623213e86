theorem ly_X11_panType_11 : ∀ w ∈ u_ws RX11 TX11 11, w ∈ wsX11_panType := by decide +kernel
theorem fl_X11_panType_67 : Cond.fieldLink RX11 67 "RecipeScheduler" "now" "LRecipeScheduler$Kitchen;" ∈ wsX11_panType := by decide +kernel
theorem ly_X11_panType_3 : ∀ w ∈ u_ws RX3 TX3 5, w ∈ wsX11_panType := by decide +kernel
theorem ly_X11_panType_5 : ∀ w ∈ u_ws RX5 TX5 17, w ∈ wsX11_panType := by decide +kernel
section
variable {p : Program} {l : Launch} {e : Env} {s : State} {m : MethodId} {below : List Frame} {meth : Method} {c : Code} {N0 : Nat} {T : Nat → ClassId} {D : va_G} {gr : List (Nat × Nat)} {ad : Nat → Nat → Nat → Nat}
set_option maxRecDepth 100000 in
set_option maxHeartbeats 4000000 in
theorem w_X11_panType {Y : Mem} {a1 : Int32} (C : Cx p s m [.ref (ad 0 0 0), .int a1].toArray meth c cX11_panType 2 wsX11_panType RX11 N0 T D gr ad) (hrt : meth.sig.returnType = (some .int)) (hG : ∀ q ∈ ([(1, 0), (0, 0)] ++ allG), q ∈ gr) {res : Int32} (h : X11_panType Y a1 = some res) : FW p l e (Rm 2) s m [.ref (ad 0 0 0), .int a1].toArray below meth c 2 N0 T D gr ad 0 0 (MQ below (va_Qi (fun r Y1 => r = res ∧ Y1 = Y) (WB T D gr ad) (fun q => N0 ≤ q)) [.ref (ad 0 0 0), .int a1].toArray s 0 0 (fun q => N0 ≤ q)) Y 0 [(0, .ref (ad 0 0 0)), (1, .int a1)] [] := by
  unfold X11_panType at h
  refine fw_aload_n C dX11_panType_0 rfl 0 rfl ?_
  refine fw_iload_n C dX11_panType_1 rfl 1 rfl ?_
  obtain ⟨_, q2, h⟩ := bd1_some h
  refine fw_callVv C (ci := 11) (Cn := RX11) (Tc := TX11) (N := 11) (As := [.int a1]) (c_X11_requireStep (gac (hG _ (List.mem_of_getElem? (i := 1) rfl)) (gac (hG _ (List.mem_of_getElem? (i := 0) rfl)) (fun q hq => hG q (List.mem_append_right _ hq)))) q2) (cwV 1 (cx_ts C) gX11_panType_X11_requireStep rfl rfl rfl (by decide +kernel) ⟨Nat.le_of_ble_eq_true rfl, Nat.le_of_ble_eq_true rfl⟩) rfl (hG _ (List.mem_of_getElem? (i := 1) rfl)) (of0_0 _) (ce0 T ad _ _) rfl (st := []) rfl (Nat.le_of_ble_eq_true rfl) ⟨Nat.le_refl 0, Nat.le_refl 0⟩ dX11_panType_2 (ppv ?_)
  refine fw_aload_n C dX11_panType_5 rfl 0 rfl ?_
  refine fw_get C (ci := 11) (Cn := RX11) (Tc := TX11) (N := 11) (j := 5) ly_X11_panType_11 rfl (hG _ (List.mem_of_getElem? (i := 1) rfl)) (of0_0 _) (ce0 T ad _ _) (by decide) (cx_ts C _ fl_X11_panType_67) (fun _ h => h) (v := .ref (ad 1 0 0)) rfl dX11_panType_6 ?_
  refine fw_getN C (ci := 3) (Cn := RX3) (Tc := TX3) (N := 5) (j := 0) ly_X11_panType_3 rfl (hG _ (List.mem_of_getElem? (i := 0) rfl)) (of1_0 _) (ce1 T ad _ _) (by decide) (Nst_use (cx_nst C) (w := .fieldLinkNest RX11 117 "RecipeScheduler$Kitchen" "recipe" "LRecipeScheduler$Recipe;" "RecipeScheduler") 507 (by decide +kernel) rfl) (fun _ h => h) (v := .ref (ad 3 ((Y 1 0 0 0).toNatClampNeg) 0)) rfl dX11_panType_9 ?_
  obtain ⟨b3, h⟩ := gd_some h
  have b3 := of_decide_eq_true b3
  refine fw_getN C (ci := 5) (Cn := RX5) (Tc := TX5) (N := 17) (j := 10) ly_X11_panType_5 rfl ((fun q hq => hG q (List.mem_append_right _ hq)) _ (allG_3 b3)) (of3_0 _) (ce3 T ad _ _) (by decide) (Nst_use (cx_nst C) (w := .fieldLinkNest RX11 202 "RecipeScheduler$Recipe" "pan" "[I" "RecipeScheduler") 157 (by decide +kernel) rfl) (fun _ h => h) (v := .ref (ad 3 (((Y 1 0 0 0).toNatClampNeg)) 5)) rfl dX11_panType_12 ?_
  refine fw_iload_n C dX11_panType_15 rfl 1 rfl ?_
  obtain ⟨b4, h⟩ := gd_some h
  refine fw_iald2 C ((fun q hq => hG q (List.mem_append_right _ hq)) _ (allG_3 b3)) (of3_5 _) (ca3_5 T ad _ _) b4 (Nat.le_of_ble_eq_true rfl) dX11_panType_16 ?_
  exact fw_iret C hrt Y ⟨Option.some.inj h, rfl⟩ (fun t ht => ht) dX11_panType_17
end
set_option maxRecDepth 100000 in
set_option maxHeartbeats 4000000 in
theorem c_X11_panType {l : Launch} {N0 : Nat} {T : Nat → ClassId} {D : va_G} {gr : List (Nat × Nat)} {ad : Nat → Nat → Nat → Nat} {Y : Mem} {a1 : Int32} {res : Int32} (hG : ∀ q ∈ ([(1, 0), (0, 0)] ++ allG), q ∈ gr) (h : X11_panType Y a1 = some res) : CI l yX11_panType wsX11_panType (Rm 2) N0 T D gr ad Y [.ref (ad 0 0 0), .int a1] (fun r Y1 => r = res ∧ Y1 = Y) :=
  fw_body (by decide +kernel) rfl (Nat.le_of_ble_eq_true rfl) (fun p e s m below meth c C hrt => w_X11_panType C hrt hG  h)
theorem ly_X3_longestOf_3 : ∀ w ∈ u_ws RX3 TX3 5, w ∈ wsX3_longestOf := by decide +kernel
theorem fl_X3_longestOf_28 : Cond.fieldLink RX3 28 "RecipeScheduler$Kitchen" "recipe" "LRecipeScheduler$Recipe;" ∈ wsX3_longestOf := by decide +kernel
theorem ly_X3_longestOf_5 : ∀ w ∈ u_ws RX5 TX5 17, w ∈ wsX3_longestOf := by decide +kernel
theorem ly_X3_longestOf_4 : ∀ w ∈ u_ws RX4 TX4 3, w ∈ wsX3_longestOf := by decide +kernel
theorem in_X3_longestOf_11 : Cond.initialized RX11 ∈ wsX3_longestOf := by decide +kernel
theorem sw_X3_longestOf_X11_contains : Cond.static yX11_contains ∈ wsX3_longestOf := by decide +kernel
theorem fl_X3_longestOf_18 : Cond.fieldLink RX3 18 "RecipeScheduler$Kitchen" "path" "[I" ∈ wsX3_longestOf := by decide +kernel
section
variable {p : Program} {l : Launch} {e : Env} {s : State} {m : MethodId} {below : List Frame} {meth : Method} {c : Code} {N0 : Nat} {T : Nat → ClassId} {D : va_G} {gr : List (Nat × Nat)} {ad : Nat → Nat → Nat → Nat}
set_option maxRecDepth 100000 in
set_option maxHeartbeats 4000000 in
theorem w_X3_longestOf_b48 {Y : Mem} {g0 : Nat} {a1 : Int32} (C : Cx p s m [.ref (ad 1 g0 0), .int a1].toArray meth c cX3_longestOf 4 wsX3_longestOf RX3 N0 T D gr ad) (hrt : meth.sig.returnType = (some .int)) (hG : ∀ q ∈ ([(1, g0)] ++ allG), q ∈ gr) {res : Int32} {k4 : Int32 → Int32 → Option (Int32)} (hk4 : ∀ (l3 : Int32) (l2 : Int32), k4 l3 l2 = some res → FW p l e (Rm 1) s m [.ref (ad 1 g0 0), .int a1].toArray below meth c 4 N0 T D gr ad 0 0 (MQ below (va_Qi (fun r Y1 => r = res ∧ Y1 = Y) (WB T D gr ad) (fun q => N0 ≤ q)) [.ref (ad 1 g0 0), .int a1].toArray s 0 0 (fun q => N0 ≤ q)) Y 4 [(3, .int l3), (2, .int l2), (0, .ref (ad 1 g0 0)), (1, .int a1)] []) (l3 : Int32) (l2 : Int32) (h : X3_longestOf_b48 Y g0 a1 k4 l3 l2 = some res) : FW p l e (Rm 1) s m [.ref (ad 1 g0 0), .int a1].toArray below meth c 4 N0 T D gr ad 0 0 (MQ below (va_Qi (fun r Y1 => r = res ∧ Y1 = Y) (WB T D gr ad) (fun q => N0 ≤ q)) [.ref (ad 1 g0 0), .int a1].toArray s 0 0 (fun q => N0 ≤ q)) Y 48 [(3, .int l3), (2, .int l2), (0, .ref (ad 1 g0 0)), (1, .int a1)] [] := by
  unfold X3_longestOf_b48 at h
  refine fw_iinc C dX3_longestOf_48 (kk := 0) (v := l3 + 1) rfl rfl (by decide) (L' := [(3, .int (l3 + 1)), (2, .int l2), (0, .ref (ad 1 g0 0)), (1, .int a1)]) rfl ?_
  refine fw_goto C dX3_longestOf_51 (tgt := 4) rfl ?_
  exact hk4 _ _ h
set_option maxRecDepth 100000 in
set_option maxHeartbeats 4000000 in
theorem w_X3_longestOf_b46 {Y : Mem} {g0 : Nat} {a1 : Int32} (C : Cx p s m [.ref (ad 1 g0 0), .int a1].toArray meth c cX3_longestOf 4 wsX3_longestOf RX3 N0 T D gr ad) (hrt : meth.sig.returnType = (some .int)) (hG : ∀ q ∈ ([(1, g0)] ++ allG), q ∈ gr) {res : Int32} {k4 : Int32 → Int32 → Option (Int32)} (hk4 : ∀ (l3 : Int32) (l2 : Int32), k4 l3 l2 = some res → FW p l e (Rm 1) s m [.ref (ad 1 g0 0), .int a1].toArray below meth c 4 N0 T D gr ad 0 0 (MQ below (va_Qi (fun r Y1 => r = res ∧ Y1 = Y) (WB T D gr ad) (fun q => N0 ≤ q)) [.ref (ad 1 g0 0), .int a1].toArray s 0 0 (fun q => N0 ≤ q)) Y 4 [(3, .int l3), (2, .int l2), (0, .ref (ad 1 g0 0)), (1, .int a1)] []) (l3 : Int32) (h : X3_longestOf_b46 Y g0 a1 k4 l3 = some res) : FW p l e (Rm 1) s m [.ref (ad 1 g0 0), .int a1].toArray below meth c 4 N0 T D gr ad 0 0 (MQ below (va_Qi (fun r Y1 => r = res ∧ Y1 = Y) (WB T D gr ad) (fun q => N0 ≤ q)) [.ref (ad 1 g0 0), .int a1].toArray s 0 0 (fun q => N0 ≤ q)) Y 46 [(3, .int l3), (0, .ref (ad 1 g0 0)), (1, .int a1)] [] := by
  unfold X3_longestOf_b46 at h
  refine fw_iload_n C dX3_longestOf_46 rfl 0 rfl ?_
  refine fw_istore_n C dX3_longestOf_47 rfl (by decide) (L' := [(2, .int l3), (3, .int l3), (0, .ref (ad 1 g0 0)), (1, .int a1)]) rfl ?_
  refine fw_sub [1, 0, 2, 3] (L' := [(3, .int l3), (2, .int l3), (0, .ref (ad 1 g0 0)), (1, .int a1)]) rfl ?_
  exact w_X3_longestOf_b48 C hrt hG  hk4 _ _ h
set_option maxRecDepth 100000 in
set_option maxHeartbeats 4000000 in
theorem w_X3_longestOf_b4 {Y : Mem} {g0 : Nat} {a1 : Int32} (C : Cx p s m [.ref (ad 1 g0 0), .int a1].toArray meth c cX3_longestOf 4 wsX3_longestOf RX3 N0 T D gr ad) (hrt : meth.sig.returnType = (some .int)) (hG : ∀ q ∈ ([(1, g0)] ++ allG), q ∈ gr) {res : Int32} : ∀ (n : Nat) (l3 : Int32) (l2 : Int32), X3_longestOf_b4 Y g0 a1  n l3 l2 = some res → FW p l e (Rm 1) s m [.ref (ad 1 g0 0), .int a1].toArray below meth c 4 N0 T D gr ad 0 0 (MQ below (va_Qi (fun r Y1 => r = res ∧ Y1 = Y) (WB T D gr ad) (fun q => N0 ≤ q)) [.ref (ad 1 g0 0), .int a1].toArray s 0 0 (fun q => N0 ≤ q)) Y 4 [(3, .int l3), (2, .int l2), (0, .ref (ad 1 g0 0)), (1, .int a1)] [] := by
  intro n
  induction n with
  | zero =>
    intro l3 l2 h
    unfold X3_longestOf_b4 at h
    cases h
  | succ n ih =>
    intro l3 l2 h
    unfold X3_longestOf_b4 at h
    refine fw_iload_n C dX3_longestOf_4 rfl 0 rfl ?_
    refine fw_aload_n C dX3_longestOf_5 rfl 2 rfl ?_
    refine fw_get C (ci := 3) (Cn := RX3) (Tc := TX3) (N := 5) (j := 0) ly_X3_longestOf_3 rfl (hG _ (List.mem_of_getElem? (i := 0) rfl)) (of1_0 _) (ce1 T ad _ _) (by decide) (cx_ts C _ fl_X3_longestOf_28) (fun _ h => h) (v := .ref (ad 3 ((Y 1 g0 0 0).toNatClampNeg) 0)) rfl dX3_longestOf_6 ?_
    obtain ⟨b1, h⟩ := gd_some h
    have b1 := of_decide_eq_true b1
    refine fw_getN C (ci := 5) (Cn := RX5) (Tc := TX5) (N := 17) (j := 7) ly_X3_longestOf_5 rfl ((fun q hq => hG q (List.mem_append_right _ hq)) _ (allG_3 b1)) (of3_0 _) (ce3 T ad _ _) (by decide) (Nst_use (cx_nst C) (w := .fieldLinkNest RX3 91 "RecipeScheduler$Recipe" "steps" "LRecipeScheduler$Names;" "RecipeScheduler") 146 (by decide +kernel) rfl) (fun _ h => h) (v := .ref (ad 4 (2*((Y 1 g0 0 0).toNatClampNeg)+1) 0)) rfl dX3_longestOf_9 ?_
    obtain ⟨b2, h⟩ := gd_some h
    have b2 := of_decide_eq_true b2
    refine fw_getN C (ci := 4) (Cn := RX4) (Tc := TX4) (N := 3) (j := 2) ly_X3_longestOf_4 rfl ((fun q hq => hG q (List.mem_append_right _ hq)) _ (allG_4b b2)) (of4_0 _) (ce4 T ad _ _) (by decide) (Nst_use (cx_nst C) (w := .fieldLinkNest RX3 95 "RecipeScheduler$Names" "count" "I" "RecipeScheduler") 114 (by decide +kernel) rfl) (fun _ h => h) (v := .int (Y 4 (2*((Y 1 g0 0 0).toNatClampNeg)+1) 0 2)) rfl dX3_longestOf_12 ?_
    refine fw_icmp_ge C dX3_longestOf_15 (tgt := 54) rfl (fun c3 => ?_) (fun c3 => ?_)
    · have h := ite_t c3 h
      refine fw_iload_n C dX3_longestOf_54 rfl 1 rfl ?_
      exact fw_iret C hrt Y ⟨Option.some.inj h, rfl⟩ (fun t ht => ht) dX3_longestOf_55
    · have h := ite_f c3 h
      refine fw_iload_n C dX3_longestOf_18 rfl 3 rfl ?_
      refine fw_iload_n C dX3_longestOf_19 rfl 0 rfl ?_
      obtain ⟨r4, q5, h⟩ := bd1_some h
      refine fw_callSNi C (As := [.int a1, .int l3]) (c_X11_contains ga0 q5) ⟨(va_cnB 2 (cx_ts C) gX3_longestOf_X11_contains_n100 rfl rfl rfl (cx_nw C (w := .methodLinkNest RX3 100 yX11_contains "RecipeScheduler") 683 (by decide +kernel) rfl) (cx_ts C _ in_X3_longestOf_11) (by decide +kernel) ⟨Nat.le_of_ble_eq_true rfl, Nat.le_of_ble_eq_true rfl⟩), cx_ts C _ sw_X3_longestOf_X11_contains, trivial⟩ rfl (st := []) rfl (Nat.le_of_ble_eq_true rfl) ⟨Nat.le_refl 0, Nat.le_refl 0⟩ dX3_longestOf_20 (pp2 ?_)
      refine fw_if_eq C dX3_longestOf_23 (tgt := 48) rfl (fun c6 => ?_) (fun c6 => ?_)
      · have h := ite_t c6 h
        exact w_X3_longestOf_b48 C hrt hG  ih _ _ h
      · have h := ite_f c6 h
        refine fw_iload_n C dX3_longestOf_26 rfl 1 rfl ?_
        refine fw_iconst C dX3_longestOf_27 (v := (-1)) rfl ?_
        refine fw_icmp_eq C dX3_longestOf_28 (tgt := 46) rfl (fun c7 => ?_) (fun c7 => ?_)
        · have h := ite_t c7 h
          refine fw_sub [0, 2, 3] (L' := [(3, .int l3), (0, .ref (ad 1 g0 0)), (1, .int a1)]) rfl ?_
          exact w_X3_longestOf_b46 C hrt hG  ih _ h
        · have h := ite_f c7 h
          refine fw_aload_n C dX3_longestOf_31 rfl 2 rfl ?_
          refine fw_get C (ci := 3) (Cn := RX3) (Tc := TX3) (N := 5) (j := 2) ly_X3_longestOf_3 rfl (hG _ (List.mem_of_getElem? (i := 0) rfl)) (of1_0 _) (ce1 T ad _ _) (by decide) (cx_ts C _ fl_X3_longestOf_18) (fun _ h => h) (v := .ref (ad 1 g0 1)) rfl dX3_longestOf_32 ?_
          refine fw_iload_n C dX3_longestOf_35 rfl 0 rfl ?_
          obtain ⟨b8, h⟩ := gd_some h
          refine fw_iald2 C (hG _ (List.mem_of_getElem? (i := 0) rfl)) (of1_1 _) (ca1_1 T ad _ _) b8 (Nat.le_of_ble_eq_true rfl) dX3_longestOf_36 ?_
          refine fw_aload_n C dX3_longestOf_37 rfl 2 rfl ?_
          refine fw_get C (ci := 3) (Cn := RX3) (Tc := TX3) (N := 5) (j := 2) ly_X3_longestOf_3 rfl (hG _ (List.mem_of_getElem? (i := 0) rfl)) (of1_0 _) (ce1 T ad _ _) (by decide) (cx_ts C _ fl_X3_longestOf_18) (fun _ h => h) (v := .ref (ad 1 g0 1)) rfl dX3_longestOf_38 ?_
          refine fw_iload_n C dX3_longestOf_41 rfl 1 rfl ?_
          obtain ⟨b9, h⟩ := gd_some h
          refine fw_iald2 C (hG _ (List.mem_of_getElem? (i := 0) rfl)) (of1_1 _) (ca1_1 T ad _ _) b9 (Nat.le_of_ble_eq_true rfl) dX3_longestOf_42 ?_
          refine fw_icmp_le C dX3_longestOf_43 (tgt := 48) rfl (fun c10 => ?_) (fun c10 => ?_)
          · have h := ite_t c10 h
            exact w_X3_longestOf_b48 C hrt hG  ih _ _ h
          · have h := ite_f c10 h
            refine fw_sub [0, 2, 3] (L' := [(3, .int l3), (0, .ref (ad 1 g0 0)), (1, .int a1)]) rfl ?_
            exact w_X3_longestOf_b46 C hrt hG  ih _ h
set_option maxRecDepth 100000 in
set_option maxHeartbeats 4000000 in
theorem w_X3_longestOf {Y : Mem} {g0 : Nat} {a1 : Int32} (C : Cx p s m [.ref (ad 1 g0 0), .int a1].toArray meth c cX3_longestOf 4 wsX3_longestOf RX3 N0 T D gr ad) (hrt : meth.sig.returnType = (some .int)) (hG : ∀ q ∈ ([(1, g0)] ++ allG), q ∈ gr) {res : Int32} (h : X3_longestOf Y g0 a1 = some res) : FW p l e (Rm 1) s m [.ref (ad 1 g0 0), .int a1].toArray below meth c 4 N0 T D gr ad 0 0 (MQ below (va_Qi (fun r Y1 => r = res ∧ Y1 = Y) (WB T D gr ad) (fun q => N0 ≤ q)) [.ref (ad 1 g0 0), .int a1].toArray s 0 0 (fun q => N0 ≤ q)) Y 0 [(0, .ref (ad 1 g0 0)), (1, .int a1)] [] := by
  unfold X3_longestOf at h
  refine fw_iconst C dX3_longestOf_0 (v := (-1)) rfl ?_
  refine fw_istore_n C dX3_longestOf_1 rfl (by decide) (L' := [(2, .int ((-1))), (0, .ref (ad 1 g0 0)), (1, .int a1)]) rfl ?_
  refine fw_iconst C dX3_longestOf_2 (v := 0) rfl ?_
  refine fw_istore_n C dX3_longestOf_3 rfl (by decide) (L' := [(3, .int 0), (2, .int ((-1))), (0, .ref (ad 1 g0 0)), (1, .int a1)]) rfl ?_
  exact w_X3_longestOf_b4 C hrt hG   _ _ _ h
end
set_option maxRecDepth 100000 in
set_option maxHeartbeats 4000000 in
theorem c_X3_longestOf {l : Launch} {N0 : Nat} {T : Nat → ClassId} {D : va_G} {gr : List (Nat × Nat)} {ad : Nat → Nat → Nat → Nat} {Y : Mem} {g0 : Nat} {a1 : Int32} {res : Int32} (hG : ∀ q ∈ ([(1, g0)] ++ allG), q ∈ gr) (h : X3_longestOf Y g0 a1 = some res) : CI l yX3_longestOf wsX3_longestOf (Rm 1) N0 T D gr ad Y [.ref (ad 1 g0 0), .int a1] (fun r Y1 => r = res ∧ Y1 = Y) :=
  fw_body (by decide +kernel) rfl (Nat.le_of_ble_eq_true rfl) (fun p e s m below meth c C hrt => w_X3_longestOf C hrt hG  h)
theorem ly_X3_rank_3 : ∀ w ∈ u_ws RX3 TX3 5, w ∈ wsX3_rank := by decide +kernel
theorem fl_X3_rank_28 : Cond.fieldLink RX3 28 "RecipeScheduler$Kitchen" "recipe" "LRecipeScheduler$Recipe;" ∈ wsX3_rank := by decide +kernel
theorem ly_X3_rank_5 : ∀ w ∈ u_ws RX5 TX5 17, w ∈ wsX3_rank := by decide +kernel
theorem ly_X3_rank_4 : ∀ w ∈ u_ws RX4 TX4 3, w ∈ wsX3_rank := by decide +kernel
theorem fl_X3_rank_22 : Cond.fieldLink RX3 22 "RecipeScheduler$Kitchen" "order" "[I" ∈ wsX3_rank := by decide +kernel
theorem fl_X3_rank_18 : Cond.fieldLink RX3 18 "RecipeScheduler$Kitchen" "path" "[I" ∈ wsX3_rank := by decide +kernel
theorem fl_X3_rank_12 : Cond.fieldLink RX3 12 "RecipeScheduler$Kitchen" "state" "LRecipeScheduler$State;" ∈ wsX3_rank := by decide +kernel
theorem ly_X3_rank_8 : ∀ w ∈ u_ws RX8 TX8 15, w ∈ wsX3_rank := by decide +kernel
section
variable {p : Program} {l : Launch} {e : Env} {s : State} {m : MethodId} {below : List Frame} {meth : Method} {c : Code} {N0 : Nat} {T : Nat → ClassId} {D : va_G} {gr : List (Nat × Nat)} {ad : Nat → Nat → Nat → Nat}
set_option maxRecDepth 100000 in
set_option maxHeartbeats 4000000 in
theorem w_X3_rank_b132 {g0 : Nat} (C : Cx p s m [.ref (ad 1 g0 0)].toArray meth c cX3_rank 3 wsX3_rank RX3 N0 T D gr ad) (hrt : meth.sig.returnType = none) (hG : ∀ q ∈ ([(1, g0), (2, g0)] ++ allG), q ∈ gr) {res : Mem} {k70 : Mem → Int32 → Option (Mem)} (hk70 : ∀ (Y : Mem) (l1 : Int32), k70 Y l1 = some res → FW p l e (Rm 2) s m [.ref (ad 1 g0 0)].toArray below meth c 3 N0 T D gr ad 0 0 (MQ below (va_Qv (fun Y1 => Y1 = res) (WB T D gr ad) (fun q => N0 ≤ q)) [.ref (ad 1 g0 0)].toArray s 0 0 (fun q => N0 ≤ q)) Y 70 [(1, .int l1), (0, .ref (ad 1 g0 0))] []) (Y : Mem) (l2 : Int32) (l1 : Int32) (h : X3_rank_b132 g0 k70 Y l2 l1 = some res) : FW p l e (Rm 2) s m [.ref (ad 1 g0 0)].toArray below meth c 3 N0 T D gr ad 0 0 (MQ below (va_Qv (fun Y1 => Y1 = res) (WB T D gr ad) (fun q => N0 ≤ q)) [.ref (ad 1 g0 0)].toArray s 0 0 (fun q => N0 ≤ q)) Y 132 [(2, .int l2), (1, .int l1), (0, .ref (ad 1 g0 0))] [] := by
  unfold X3_rank_b132 at h
  refine fw_aload_n C dX3_rank_132 rfl 2 rfl ?_
  refine fw_get C (ci := 3) (Cn := RX3) (Tc := TX3) (N := 5) (j := 3) ly_X3_rank_3 rfl (hG _ (List.mem_of_getElem? (i := 0) rfl)) (of1_0 _) (ce1 T ad _ _) (by decide) (cx_ts C _ fl_X3_rank_22) (fun _ h => h) (v := .ref (ad 1 g0 2)) rfl dX3_rank_133 ?_
  refine fw_iload_n C dX3_rank_136 rfl 0 rfl ?_
  refine fw_iload_n C dX3_rank_137 rfl 1 rfl ?_
  obtain ⟨b10, h⟩ := gd_some h
  obtain ⟨Y11, e12, h⟩ := lt_some h
  refine fw_iast2 C (hG _ (List.mem_of_getElem? (i := 0) rfl)) (of1_2 _) (ca1_2 T ad _) b10 (Nat.le_of_ble_eq_true rfl) dX3_rank_138 ?_
  refine fw_mem e12 ?_
  refine fw_iinc C dX3_rank_139 (kk := 1) (v := l1 + 1) rfl rfl (by decide) (L' := [(1, .int (l1 + 1)), (2, .int l2), (0, .ref (ad 1 g0 0))]) rfl ?_
  refine fw_goto C dX3_rank_142 (tgt := 70) rfl ?_
  refine fw_sub [0, 2] (L' := [(1, .int (l1 + 1)), (0, .ref (ad 1 g0 0))]) rfl ?_
  exact hk70 _ _ h
set_option maxRecDepth 100000 in
set_option maxHeartbeats 4000000 in
theorem w_X3_rank_b86 {g0 : Nat} (C : Cx p s m [.ref (ad 1 g0 0)].toArray meth c cX3_rank 3 wsX3_rank RX3 N0 T D gr ad) (hrt : meth.sig.returnType = none) (hG : ∀ q ∈ ([(1, g0), (2, g0)] ++ allG), q ∈ gr) {res : Mem} {k70 : Mem → Int32 → Option (Mem)} (hk70 : ∀ (Y : Mem) (l1 : Int32), k70 Y l1 = some res → FW p l e (Rm 2) s m [.ref (ad 1 g0 0)].toArray below meth c 3 N0 T D gr ad 0 0 (MQ below (va_Qv (fun Y1 => Y1 = res) (WB T D gr ad) (fun q => N0 ≤ q)) [.ref (ad 1 g0 0)].toArray s 0 0 (fun q => N0 ≤ q)) Y 70 [(1, .int l1), (0, .ref (ad 1 g0 0))] []) : ∀ (n : Nat) (Y : Mem) (l2 : Int32) (l1 : Int32), X3_rank_b86 g0 k70 n Y l2 l1 = some res → FW p l e (Rm 2) s m [.ref (ad 1 g0 0)].toArray below meth c 3 N0 T D gr ad 0 0 (MQ below (va_Qv (fun Y1 => Y1 = res) (WB T D gr ad) (fun q => N0 ≤ q)) [.ref (ad 1 g0 0)].toArray s 0 0 (fun q => N0 ≤ q)) Y 86 [(2, .int l2), (1, .int l1), (0, .ref (ad 1 g0 0))] [] := by
  intro n
  induction n with
  | zero =>
    intro Y l2 l1 h
    unfold X3_rank_b86 at h
    cases h
  | succ n ih =>
    intro Y l2 l1 h
    unfold X3_rank_b86 at h
    refine fw_iload_n C dX3_rank_86 rfl 0 rfl ?_
    refine fw_if_le C dX3_rank_87 (tgt := 132) rfl (fun c9 => ?_) (fun c9 => ?_)
    · have h := ite_t c9 h
      exact w_X3_rank_b132 C hrt hG  hk70 _ _ _ h
    · have h := ite_f c9 h
      refine fw_aload_n C dX3_rank_90 rfl 2 rfl ?_
      refine fw_get C (ci := 3) (Cn := RX3) (Tc := TX3) (N := 5) (j := 2) ly_X3_rank_3 rfl (hG _ (List.mem_of_getElem? (i := 0) rfl)) (of1_0 _) (ce1 T ad _ _) (by decide) (cx_ts C _ fl_X3_rank_18) (fun _ h => h) (v := .ref (ad 1 g0 1)) rfl dX3_rank_91 ?_
      refine fw_aload_n C dX3_rank_94 rfl 2 rfl ?_
      refine fw_get C (ci := 3) (Cn := RX3) (Tc := TX3) (N := 5) (j := 3) ly_X3_rank_3 rfl (hG _ (List.mem_of_getElem? (i := 0) rfl)) (of1_0 _) (ce1 T ad _ _) (by decide) (cx_ts C _ fl_X3_rank_22) (fun _ h => h) (v := .ref (ad 1 g0 2)) rfl dX3_rank_95 ?_
      refine fw_iload_n C dX3_rank_98 rfl 0 rfl ?_
      refine fw_iconst C dX3_rank_99 (v := 1) rfl ?_
      refine fw_isub C dX3_rank_100 ?_
      obtain ⟨b13, h⟩ := gd_some h
      refine fw_iald2 C (hG _ (List.mem_of_getElem? (i := 0) rfl)) (of1_2 _) (ca1_2 T ad _ _) b13 (Nat.le_of_ble_eq_true rfl) dX3_rank_101 ?_
      obtain ⟨b14, h⟩ := gd_some h
      refine fw_iald2 C (hG _ (List.mem_of_getElem? (i := 0) rfl)) (of1_1 _) (ca1_1 T ad _ _) b14 (Nat.le_of_ble_eq_true rfl) dX3_rank_102 ?_
      refine fw_aload_n C dX3_rank_103 rfl 2 rfl ?_
      refine fw_get C (ci := 3) (Cn := RX3) (Tc := TX3) (N := 5) (j := 2) ly_X3_rank_3 rfl (hG _ (List.mem_of_getElem? (i := 0) rfl)) (of1_0 _) (ce1 T ad _ _) (by decide) (cx_ts C _ fl_X3_rank_18) (fun _ h => h) (v := .ref (ad 1 g0 1)) rfl dX3_rank_104 ?_
      refine fw_iload_n C dX3_rank_107 rfl 1 rfl ?_
      obtain ⟨b15, h⟩ := gd_some h
      refine fw_iald2 C (hG _ (List.mem_of_getElem? (i := 0) rfl)) (of1_1 _) (ca1_1 T ad _ _) b15 (Nat.le_of_ble_eq_true rfl) dX3_rank_108 ?_
      refine fw_icmp_ge C dX3_rank_109 (tgt := 132) rfl (fun c16 => ?_) (fun c16 => ?_)
      · have h := ite_t c16 h
        exact w_X3_rank_b132 C hrt hG  hk70 _ _ _ h
      · have h := ite_f c16 h
        refine fw_aload_n C dX3_rank_112 rfl 2 rfl ?_
        refine fw_get C (ci := 3) (Cn := RX3) (Tc := TX3) (N := 5) (j := 3) ly_X3_rank_3 rfl (hG _ (List.mem_of_getElem? (i := 0) rfl)) (of1_0 _) (ce1 T ad _ _) (by decide) (cx_ts C _ fl_X3_rank_22) (fun _ h => h) (v := .ref (ad 1 g0 2)) rfl dX3_rank_113 ?_
        refine fw_iload_n C dX3_rank_116 rfl 0 rfl ?_
        refine fw_aload_n C dX3_rank_117 rfl 2 rfl ?_
        refine fw_get C (ci := 3) (Cn := RX3) (Tc := TX3) (N := 5) (j := 3) ly_X3_rank_3 rfl (hG _ (List.mem_of_getElem? (i := 0) rfl)) (of1_0 _) (ce1 T ad _ _) (by decide) (cx_ts C _ fl_X3_rank_22) (fun _ h => h) (v := .ref (ad 1 g0 2)) rfl dX3_rank_118 ?_
        refine fw_iload_n C dX3_rank_121 rfl 0 rfl ?_
        refine fw_iconst C dX3_rank_122 (v := 1) rfl ?_
        refine fw_isub C dX3_rank_123 ?_
        refine fw_iald2 C (hG _ (List.mem_of_getElem? (i := 0) rfl)) (of1_2 _) (ca1_2 T ad _ _) b13 (Nat.le_of_ble_eq_true rfl) dX3_rank_124 ?_
        obtain ⟨b17, h⟩ := gd_some h
        obtain ⟨Y18, e19, h⟩ := lt_some h
        refine fw_iast2 C (hG _ (List.mem_of_getElem? (i := 0) rfl)) (of1_2 _) (ca1_2 T ad _) b17 (Nat.le_of_ble_eq_true rfl) dX3_rank_125 ?_
        refine fw_mem e19 ?_
        refine fw_iinc C dX3_rank_126 (kk := 0) (v := l2 + (-1)) rfl rfl (by decide) (L' := [(2, .int (l2 + (-1))), (1, .int l1), (0, .ref (ad 1 g0 0))]) rfl ?_
        refine fw_goto C dX3_rank_129 (tgt := 86) rfl ?_
        exact ih _ _ _ h
set_option maxRecDepth 100000 in
set_option maxHeartbeats 4000000 in
theorem w_X3_rank_b70 {g0 : Nat} (C : Cx p s m [.ref (ad 1 g0 0)].toArray meth c cX3_rank 3 wsX3_rank RX3 N0 T D gr ad) (hrt : meth.sig.returnType = none) (hG : ∀ q ∈ ([(1, g0), (2, g0)] ++ allG), q ∈ gr) {res : Mem} : ∀ (n : Nat) (Y : Mem) (l1 : Int32), X3_rank_b70 g0  n Y l1 = some res → FW p l e (Rm 2) s m [.ref (ad 1 g0 0)].toArray below meth c 3 N0 T D gr ad 0 0 (MQ below (va_Qv (fun Y1 => Y1 = res) (WB T D gr ad) (fun q => N0 ≤ q)) [.ref (ad 1 g0 0)].toArray s 0 0 (fun q => N0 ≤ q)) Y 70 [(1, .int l1), (0, .ref (ad 1 g0 0))] [] := by
  intro n
  induction n with
  | zero =>
    intro Y l1 h
    unfold X3_rank_b70 at h
    cases h
  | succ n ih =>
    intro Y l1 h
    unfold X3_rank_b70 at h
    refine fw_iload_n C dX3_rank_70 rfl 0 rfl ?_
    refine fw_aload_n C dX3_rank_71 rfl 1 rfl ?_
    refine fw_get C (ci := 3) (Cn := RX3) (Tc := TX3) (N := 5) (j := 0) ly_X3_rank_3 rfl (hG _ (List.mem_of_getElem? (i := 0) rfl)) (of1_0 _) (ce1 T ad _ _) (by decide) (cx_ts C _ fl_X3_rank_28) (fun _ h => h) (v := .ref (ad 3 ((Y 1 g0 0 0).toNatClampNeg) 0)) rfl dX3_rank_72 ?_
    obtain ⟨b6, h⟩ := gd_some h
    have b6 := of_decide_eq_true b6
    refine fw_getN C (ci := 5) (Cn := RX5) (Tc := TX5) (N := 17) (j := 7) ly_X3_rank_5 rfl ((fun q hq => hG q (List.mem_append_right _ hq)) _ (allG_3 b6)) (of3_0 _) (ce3 T ad _ _) (by decide) (Nst_use (cx_nst C) (w := .fieldLinkNest RX3 91 "RecipeScheduler$Recipe" "steps" "LRecipeScheduler$Names;" "RecipeScheduler") 146 (by decide +kernel) rfl) (fun _ h => h) (v := .ref (ad 4 (2*((Y 1 g0 0 0).toNatClampNeg)+1) 0)) rfl dX3_rank_75 ?_
    obtain ⟨b7, h⟩ := gd_some h
    have b7 := of_decide_eq_true b7
    refine fw_getN C (ci := 4) (Cn := RX4) (Tc := TX4) (N := 3) (j := 2) ly_X3_rank_4 rfl ((fun q hq => hG q (List.mem_append_right _ hq)) _ (allG_4b b7)) (of4_0 _) (ce4 T ad _ _) (by decide) (Nst_use (cx_nst C) (w := .fieldLinkNest RX3 95 "RecipeScheduler$Names" "count" "I" "RecipeScheduler") 114 (by decide +kernel) rfl) (fun _ h => h) (v := .int (Y 4 (2*((Y 1 g0 0 0).toNatClampNeg)+1) 0 2)) rfl dX3_rank_78 ?_
    refine fw_icmp_ge C dX3_rank_81 (tgt := 145) rfl (fun c8 => ?_) (fun c8 => ?_)
    · have h := ite_t c8 h
      exact fw_vret C hrt Y (Option.some.inj h) (fun t ht => ht) dX3_rank_145
    · have h := ite_f c8 h
      refine fw_iload_n C dX3_rank_84 rfl 0 rfl ?_
      refine fw_istore_n C dX3_rank_85 rfl (by decide) (L' := [(2, .int l1), (1, .int l1), (0, .ref (ad 1 g0 0))]) rfl ?_
      exact w_X3_rank_b86 C hrt hG  ih _ _ _ _ h
set_option maxRecDepth 100000 in
set_option maxHeartbeats 4000000 in
theorem w_X3_rank_b60 {g0 : Nat} (C : Cx p s m [.ref (ad 1 g0 0)].toArray meth c cX3_rank 3 wsX3_rank RX3 N0 T D gr ad) (hrt : meth.sig.returnType = none) (hG : ∀ q ∈ ([(1, g0), (2, g0)] ++ allG), q ∈ gr) {res : Mem} {k13 : Mem → Int32 → Option (Mem)} (hk13 : ∀ (Y : Mem) (l1 : Int32), k13 Y l1 = some res → FW p l e (Rm 2) s m [.ref (ad 1 g0 0)].toArray below meth c 3 N0 T D gr ad 0 0 (MQ below (va_Qv (fun Y1 => Y1 = res) (WB T D gr ad) (fun q => N0 ≤ q)) [.ref (ad 1 g0 0)].toArray s 0 0 (fun q => N0 ≤ q)) Y 13 [(1, .int l1), (0, .ref (ad 1 g0 0))] []) (Y : Mem) (l1 : Int32) (s0 : Int32) (s1 : Int32) (s2 : Int32) (h : X3_rank_b60 g0 k13 Y l1 s0 s1 s2 = some res) : FW p l e (Rm 2) s m [.ref (ad 1 g0 0)].toArray below meth c 3 N0 T D gr ad 0 0 (MQ below (va_Qv (fun Y1 => Y1 = res) (WB T D gr ad) (fun q => N0 ≤ q)) [.ref (ad 1 g0 0)].toArray s 0 0 (fun q => N0 ≤ q)) Y 60 [(1, .int l1), (0, .ref (ad 1 g0 0))] [.int s0, .int s1, .int s2, .ref (ad 1 g0 1)] := by
  unfold X3_rank_b60 at h
  refine fw_iadd C dX3_rank_60 ?_
  obtain ⟨b26, h⟩ := gd_some h
  obtain ⟨Y27, e28, h⟩ := lt_some h
  refine fw_iast2 C (hG _ (List.mem_of_getElem? (i := 0) rfl)) (of1_1 _) (ca1_1 T ad _) b26 (Nat.le_of_ble_eq_true rfl) dX3_rank_61 ?_
  refine fw_mem e28 ?_
  refine fw_iinc C dX3_rank_62 (kk := 0) (v := l1 + (-1)) rfl rfl (by decide) (L' := [(1, .int (l1 + (-1))), (0, .ref (ad 1 g0 0))]) rfl ?_
  refine fw_goto C dX3_rank_65 (tgt := 13) rfl ?_
  exact hk13 _ _ h
set_option maxRecDepth 100000 in
set_option maxHeartbeats 4000000 in
theorem w_X3_rank_b13 {g0 : Nat} (C : Cx p s m [.ref (ad 1 g0 0)].toArray meth c cX3_rank 3 wsX3_rank RX3 N0 T D gr ad) (hrt : meth.sig.returnType = none) (hG : ∀ q ∈ ([(1, g0), (2, g0)] ++ allG), q ∈ gr) {res : Mem} : ∀ (n : Nat) (Y : Mem) (l1 : Int32), X3_rank_b13 g0  n Y l1 = some res → FW p l e (Rm 2) s m [.ref (ad 1 g0 0)].toArray below meth c 3 N0 T D gr ad 0 0 (MQ below (va_Qv (fun Y1 => Y1 = res) (WB T D gr ad) (fun q => N0 ≤ q)) [.ref (ad 1 g0 0)].toArray s 0 0 (fun q => N0 ≤ q)) Y 13 [(1, .int l1), (0, .ref (ad 1 g0 0))] [] := by
  intro n
  induction n with
  | zero =>
    intro Y l1 h
    unfold X3_rank_b13 at h
    cases h
  | succ n ih =>
    intro Y l1 h
    unfold X3_rank_b13 at h
    refine fw_iload_n C dX3_rank_13 rfl 0 rfl ?_
    refine fw_if_lt C dX3_rank_14 (tgt := 68) rfl (fun c5 => ?_) (fun c5 => ?_)
    · have h := ite_t c5 h
      refine fw_iconst C dX3_rank_68 (v := 0) rfl ?_
      refine fw_istore_n C dX3_rank_69 rfl (by decide) (L' := [(1, .int 0), (0, .ref (ad 1 g0 0))]) rfl ?_
      exact w_X3_rank_b70 C hrt hG   _ _ _ h
    · have h := ite_f c5 h
      refine fw_aload_n C dX3_rank_17 rfl 1 rfl ?_
      refine fw_aload_n C dX3_rank_18 rfl 1 rfl ?_
      refine fw_get C (ci := 3) (Cn := RX3) (Tc := TX3) (N := 5) (j := 0) ly_X3_rank_3 rfl (hG _ (List.mem_of_getElem? (i := 0) rfl)) (of1_0 _) (ce1 T ad _ _) (by decide) (cx_ts C _ fl_X3_rank_28) (fun _ h => h) (v := .ref (ad 3 ((Y 1 g0 0 0).toNatClampNeg) 0)) rfl dX3_rank_19 ?_
      obtain ⟨b20, h⟩ := gd_some h
      have b20 := of_decide_eq_true b20
      refine fw_getN C (ci := 5) (Cn := RX5) (Tc := TX5) (N := 17) (j := 14) ly_X3_rank_5 rfl ((fun q hq => hG q (List.mem_append_right _ hq)) _ (allG_3 b20)) (of3_0 _) (ce3 T ad _ _) (by decide) (Nst_use (cx_nst C) (w := .fieldLinkNest RX3 141 "RecipeScheduler$Recipe" "successorSet" "[I" "RecipeScheduler") 167 (by decide +kernel) rfl) (fun _ h => h) (v := .ref (ad 3 (((Y 1 g0 0 0).toNatClampNeg)) 9)) rfl dX3_rank_22 ?_
      refine fw_iload_n C dX3_rank_25 rfl 0 rfl ?_
      obtain ⟨b21, h⟩ := gd_some h
      refine fw_iald2 C ((fun q hq => hG q (List.mem_append_right _ hq)) _ (allG_3 b20)) (of3_9 _) (ca3_9 T ad _ _) b21 (Nat.le_of_ble_eq_true rfl) dX3_rank_26 ?_
      obtain ⟨r22, q23, h⟩ := bd1_some h
      refine fw_callVi C (ci := 3) (Cn := RX3) (Tc := TX3) (N := 5) (As := [.int (Y 3 (((Y 1 g0 0 0).toNatClampNeg)) 9 (ix l1))]) (c_X3_longestOf (gac (hG _ (List.mem_of_getElem? (i := 0) rfl)) (fun q hq => hG q (List.mem_append_right _ hq))) q23) (cwV 1 (cx_ts C) gX3_rank_X3_longestOf rfl rfl rfl (by decide +kernel) ⟨Nat.le_of_ble_eq_true rfl, Nat.le_of_ble_eq_true rfl⟩) rfl (hG _ (List.mem_of_getElem? (i := 0) rfl)) (of1_0 _) (ce1 T ad _ _) rfl (st := []) rfl (Nat.le_of_ble_eq_true rfl) ⟨Nat.le_refl 0, Nat.le_refl 0⟩ dX3_rank_27 (pp2 ?_)
      refine fw_istore_n C dX3_rank_30 rfl (by decide) (L' := [(2, .int r22), (1, .int l1), (0, .ref (ad 1 g0 0))]) rfl ?_
      refine fw_aload_n C dX3_rank_31 rfl 2 rfl ?_
      refine fw_get C (ci := 3) (Cn := RX3) (Tc := TX3) (N := 5) (j := 2) ly_X3_rank_3 rfl (hG _ (List.mem_of_getElem? (i := 0) rfl)) (of1_0 _) (ce1 T ad _ _) (by decide) (cx_ts C _ fl_X3_rank_18) (fun _ h => h) (v := .ref (ad 1 g0 1)) rfl dX3_rank_32 ?_
      refine fw_iload_n C dX3_rank_35 rfl 1 rfl ?_
      refine fw_aload_n C dX3_rank_36 rfl 2 rfl ?_
      refine fw_get C (ci := 3) (Cn := RX3) (Tc := TX3) (N := 5) (j := 1) ly_X3_rank_3 rfl (hG _ (List.mem_of_getElem? (i := 0) rfl)) (of1_0 _) (ce1 T ad _ _) (by decide) (cx_ts C _ fl_X3_rank_12) (fun _ h => h) (v := .ref (ad 2 g0 0)) rfl dX3_rank_37 ?_
      refine fw_getN C (ci := 8) (Cn := RX8) (Tc := TX8) (N := 15) (j := 9) ly_X3_rank_8 rfl (hG _ (List.mem_of_getElem? (i := 1) rfl)) (of2_0 _) (ce2 T ad _ _) (by decide) (Nst_use (cx_nst C) (w := .fieldLinkNest RX3 162 "RecipeScheduler$State" "duration" "[I" "RecipeScheduler") 452 (by decide +kernel) rfl) (fun _ h => h) (v := .ref (ad 2 g0 1)) rfl dX3_rank_40 ?_
      refine fw_iload_n C dX3_rank_43 rfl 1 rfl ?_
      refine fw_iald2 C (hG _ (List.mem_of_getElem? (i := 1) rfl)) (of2_1 _) (ca2_1 T ad _ _) b21 (Nat.le_of_ble_eq_true rfl) dX3_rank_44 ?_
      refine fw_iload_n C dX3_rank_45 rfl 0 rfl ?_
      refine fw_iconst C dX3_rank_46 (v := (-1)) rfl ?_
      refine fw_icmp_ne C dX3_rank_47 (tgt := 54) rfl (fun c24 => ?_) (fun c24 => ?_)
      · have h := ite_f c24 h
        refine fw_aload_n C dX3_rank_54 rfl 2 rfl ?_
        refine fw_get C (ci := 3) (Cn := RX3) (Tc := TX3) (N := 5) (j := 2) ly_X3_rank_3 rfl (hG _ (List.mem_of_getElem? (i := 0) rfl)) (of1_0 _) (ce1 T ad _ _) (by decide) (cx_ts C _ fl_X3_rank_18) (fun _ h => h) (v := .ref (ad 1 g0 1)) rfl dX3_rank_55 ?_
        refine fw_iload_n C dX3_rank_58 rfl 0 rfl ?_
        obtain ⟨b25, h⟩ := gd_some h
        refine fw_iald2 C (hG _ (List.mem_of_getElem? (i := 0) rfl)) (of1_1 _) (ca1_1 T ad _ _) b25 (Nat.le_of_ble_eq_true rfl) dX3_rank_59 ?_
        refine fw_sub [1, 2] (L' := [(1, .int l1), (0, .ref (ad 1 g0 0))]) rfl ?_
        exact w_X3_rank_b60 C hrt hG  ih _ _ _ _ _ h
      · have h := ite_t c24 h
        refine fw_iconst C dX3_rank_50 (v := 0) rfl ?_
        refine fw_goto C dX3_rank_51 (tgt := 60) rfl ?_
        refine fw_sub [1, 2] (L' := [(1, .int l1), (0, .ref (ad 1 g0 0))]) rfl ?_
        exact w_X3_rank_b60 C hrt hG  ih _ _ _ _ _ h
set_option maxRecDepth 100000 in
set_option maxHeartbeats 4000000 in
theorem w_X3_rank {Y : Mem} {g0 : Nat} (C : Cx p s m [.ref (ad 1 g0 0)].toArray meth c cX3_rank 3 wsX3_rank RX3 N0 T D gr ad) (hrt : meth.sig.returnType = none) (hG : ∀ q ∈ ([(1, g0), (2, g0)] ++ allG), q ∈ gr) {res : Mem} (h : X3_rank Y g0 = some res) : FW p l e (Rm 2) s m [.ref (ad 1 g0 0)].toArray below meth c 3 N0 T D gr ad 0 0 (MQ below (va_Qv (fun Y1 => Y1 = res) (WB T D gr ad) (fun q => N0 ≤ q)) [.ref (ad 1 g0 0)].toArray s 0 0 (fun q => N0 ≤ q)) Y 0 [(0, .ref (ad 1 g0 0))] [] := by
  unfold X3_rank at h
  refine fw_aload_n C dX3_rank_0 rfl 0 rfl ?_
  refine fw_get C (ci := 3) (Cn := RX3) (Tc := TX3) (N := 5) (j := 0) ly_X3_rank_3 rfl (hG _ (List.mem_of_getElem? (i := 0) rfl)) (of1_0 _) (ce1 T ad _ _) (by decide) (cx_ts C _ fl_X3_rank_28) (fun _ h => h) (v := .ref (ad 3 ((Y 1 g0 0 0).toNatClampNeg) 0)) rfl dX3_rank_1 ?_
  obtain ⟨b1, h⟩ := gd_some h
  have b1 := of_decide_eq_true b1
  refine fw_getN C (ci := 5) (Cn := RX5) (Tc := TX5) (N := 17) (j := 7) ly_X3_rank_5 rfl ((fun q hq => hG q (List.mem_append_right _ hq)) _ (allG_3 b1)) (of3_0 _) (ce3 T ad _ _) (by decide) (Nst_use (cx_nst C) (w := .fieldLinkNest RX3 91 "RecipeScheduler$Recipe" "steps" "LRecipeScheduler$Names;" "RecipeScheduler") 146 (by decide +kernel) rfl) (fun _ h => h) (v := .ref (ad 4 (2*((Y 1 g0 0 0).toNatClampNeg)+1) 0)) rfl dX3_rank_4 ?_
  obtain ⟨b2, h⟩ := gd_some h
  have b2 := of_decide_eq_true b2
  refine fw_getN C (ci := 4) (Cn := RX4) (Tc := TX4) (N := 3) (j := 2) ly_X3_rank_4 rfl ((fun q hq => hG q (List.mem_append_right _ hq)) _ (allG_4b b2)) (of4_0 _) (ce4 T ad _ _) (by decide) (Nst_use (cx_nst C) (w := .fieldLinkNest RX3 95 "RecipeScheduler$Names" "count" "I" "RecipeScheduler") 114 (by decide +kernel) rfl) (fun _ h => h) (v := .int (Y 4 (2*((Y 1 g0 0 0).toNatClampNeg)+1) 0 2)) rfl dX3_rank_7 ?_
  refine fw_iconst C dX3_rank_10 (v := 1) rfl ?_
  refine fw_isub C dX3_rank_11 ?_
  obtain ⟨v3, e4, h⟩ := lt_some h
  refine fw_top (v' := .int v3) (by rw [e4]) ?_
  refine fw_istore_n C dX3_rank_12 rfl (by decide) (L' := [(1, .int v3), (0, .ref (ad 1 g0 0))]) rfl ?_
  exact w_X3_rank_b13 C hrt hG   _ _ _ h
end
set_option maxRecDepth 100000 in
set_option maxHeartbeats 4000000 in
theorem c_X3_rank {l : Launch} {N0 : Nat} {T : Nat → ClassId} {D : va_G} {gr : List (Nat × Nat)} {ad : Nat → Nat → Nat → Nat} {Y : Mem} {g0 : Nat} {res : Mem} (hG : ∀ q ∈ ([(1, g0), (2, g0)] ++ allG), q ∈ gr) (h : X3_rank Y g0 = some res) : CV l yX3_rank wsX3_rank (Rm 2) N0 T D gr ad Y [.ref (ad 1 g0 0)] (fun Y1 => Y1 = res) :=
  fw_body (by decide +kernel) rfl (Nat.le_of_ble_eq_true rfl) (fun p e s m below meth c C hrt => w_X3_rank C hrt hG  h)
theorem ly_X8_complete_8 : ∀ w ∈ u_ws RX8 TX8 15, w ∈ wsX8_complete := by decide +kernel
theorem fl_X8_complete_53 : Cond.fieldLink RX8 53 "RecipeScheduler$State" "running" "I" ∈ wsX8_complete := by decide +kernel
theorem fl_X8_complete_56 : Cond.fieldLink RX8 56 "RecipeScheduler$State" "done" "I" ∈ wsX8_complete := by decide +kernel
theorem fl_X8_complete_24 : Cond.fieldLink RX8 24 "RecipeScheduler$State" "completions" "[I" ∈ wsX8_complete := by decide +kernel
section
variable {p : Program} {l : Launch} {e : Env} {s : State} {m : MethodId} {below : List Frame} {meth : Method} {c : Code} {N0 : Nat} {T : Nat → ClassId} {D : va_G} {gr : List (Nat × Nat)} {ad : Nat → Nat → Nat → Nat}
set_option maxRecDepth 100000 in
set_option maxHeartbeats 4000000 in
theorem w_X8_complete {Y : Mem} {g0 : Nat} {a1 : Int32} (C : Cx p s m [.ref (ad 2 g0 0), .int a1].toArray meth c cX8_complete 2 wsX8_complete RX8 N0 T D gr ad) (hrt : meth.sig.returnType = none) (hG : ∀ q ∈ [(2, g0)], q ∈ gr) {res : Mem} (h : X8_complete Y g0 a1 = some res) : FW p l e (Rm 0) s m [.ref (ad 2 g0 0), .int a1].toArray below meth c 2 N0 T D gr ad 0 0 (MQ below (va_Qv (fun Y1 => Y1 = res) (WB T D gr ad) (fun q => N0 ≤ q)) [.ref (ad 2 g0 0), .int a1].toArray s 0 0 (fun q => N0 ≤ q)) Y 0 [(0, .ref (ad 2 g0 0)), (1, .int a1)] [] := by
  unfold X8_complete at h
  refine fw_aload_n C dX8_complete_0 rfl 0 rfl ?_
  refine fw_dup C dX8_complete_1 rfl ?_
  refine fw_get C (ci := 8) (Cn := RX8) (Tc := TX8) (N := 15) (j := 6) ly_X8_complete_8 rfl (hG _ (List.mem_of_getElem? (i := 0) rfl)) (of2_0 _) (ce2 T ad _ _) (by decide) (cx_ts C _ fl_X8_complete_53) (fun _ h => h) (v := .int (Y 2 g0 0 6)) rfl dX8_complete_2 ?_
  refine fw_iconst C dX8_complete_5 (v := 1) rfl ?_
  refine fw_iload_n C dX8_complete_6 rfl 1 rfl ?_
  refine fw_ishl C dX8_complete_7 ?_
  refine fw_iconst C dX8_complete_8 (v := (-1)) rfl ?_
  refine fw_ixor C dX8_complete_9 ?_
  refine fw_iand C dX8_complete_10 ?_
  obtain ⟨Y1, e2, h⟩ := lt_some h
  refine fw_put C (ci := 8) (Cn := RX8) (Tc := TX8) (N := 15) (j := 6) (ty := .int) (upd (Y 2 g0 0) 6 ((Y 2 g0 0 6) &&& ((1 <<< (a1 &&& 31)) ^^^ ((-1))))) ly_X8_complete_8 rfl tyX8_ok nmX8 (hG _ (List.mem_of_getElem? (i := 0) rfl)) (of2_0 _) (ce2 T ad _ _) (by decide) (cx_ts C _ fl_X8_complete_53) (fun _ h => h) rfl (by decide +kernel) rfl rfl (Nat.le_of_ble_eq_true rfl) (ce2_put6 T ad _ _ _) dX8_complete_11 ?_
  refine fw_mem ((up_eq _ _ _ _ _ _).symm.trans e2) ?_
  refine fw_aload_n C dX8_complete_14 rfl 0 rfl ?_
  refine fw_dup C dX8_complete_15 rfl ?_
  refine fw_get C (ci := 8) (Cn := RX8) (Tc := TX8) (N := 15) (j := 7) ly_X8_complete_8 rfl (hG _ (List.mem_of_getElem? (i := 0) rfl)) (of2_0 _) (ce2 T ad _ _) (by decide) (cx_ts C _ fl_X8_complete_56) (fun _ h => h) (v := .int (Y1 2 g0 0 7)) rfl dX8_complete_16 ?_
  refine fw_iconst C dX8_complete_19 (v := 1) rfl ?_
  refine fw_iload_n C dX8_complete_20 rfl 1 rfl ?_
  refine fw_ishl C dX8_complete_21 ?_
  refine fw_ior C dX8_complete_22 ?_
  obtain ⟨Y3, e4, h⟩ := lt_some h
  refine fw_put C (ci := 8) (Cn := RX8) (Tc := TX8) (N := 15) (j := 7) (ty := .int) (upd (Y1 2 g0 0) 7 ((Y1 2 g0 0 7) ||| (1 <<< (a1 &&& 31)))) ly_X8_complete_8 rfl tyX8_ok nmX8 (hG _ (List.mem_of_getElem? (i := 0) rfl)) (of2_0 _) (ce2 T ad _ _) (by decide) (cx_ts C _ fl_X8_complete_56) (fun _ h => h) rfl (by decide +kernel) rfl rfl (Nat.le_of_ble_eq_true rfl) (ce2_put7 T ad _ _ _) dX8_complete_23 ?_
  refine fw_mem ((up_eq _ _ _ _ _ _).symm.trans e4) ?_
  refine fw_aload_n C dX8_complete_26 rfl 0 rfl ?_
  refine fw_get C (ci := 8) (Cn := RX8) (Tc := TX8) (N := 15) (j := 13) ly_X8_complete_8 rfl (hG _ (List.mem_of_getElem? (i := 0) rfl)) (of2_0 _) (ce2 T ad _ _) (by decide) (cx_ts C _ fl_X8_complete_24) (fun _ h => h) (v := .ref (ad 2 g0 5)) rfl dX8_complete_27 ?_
  refine fw_iload_n C dX8_complete_30 rfl 1 rfl ?_
  refine fw_dup2 C dX8_complete_31 rfl rfl ?_
  obtain ⟨b5, h⟩ := gd_some h
  refine fw_iald2 C (hG _ (List.mem_of_getElem? (i := 0) rfl)) (of2_5 _) (ca2_5 T ad _ _) b5 (Nat.le_of_ble_eq_true rfl) dX8_complete_32 ?_
  refine fw_iconst C dX8_complete_33 (v := 1) rfl ?_
  refine fw_iadd C dX8_complete_34 ?_
  obtain ⟨Y6, e7, h⟩ := lt_some h
  refine fw_iast2 C (hG _ (List.mem_of_getElem? (i := 0) rfl)) (of2_5 _) (ca2_5 T ad _) b5 (Nat.le_of_ble_eq_true rfl) dX8_complete_35 ?_
  refine fw_mem e7 ?_
  exact fw_vret C hrt Y6 (Option.some.inj h) (fun t ht => ht) dX8_complete_36
end
set_option maxRecDepth 100000 in
set_option maxHeartbeats 4000000 in
theorem c_X8_complete {l : Launch} {N0 : Nat} {T : Nat → ClassId} {D : va_G} {gr : List (Nat × Nat)} {ad : Nat → Nat → Nat → Nat} {Y : Mem} {g0 : Nat} {a1 : Int32} {res : Mem} (hG : ∀ q ∈ [(2, g0)], q ∈ gr) (h : X8_complete Y g0 a1 = some res) : CV l yX8_complete wsX8_complete (Rm 0) N0 T D gr ad Y [.ref (ad 2 g0 0), .int a1] (fun Y1 => Y1 = res) :=
  fw_body (by decide +kernel) rfl (Nat.le_of_ble_eq_true rfl) (fun p e s m below meth c C hrt => w_X8_complete C hrt hG  h)
