theorem ly_X4_indexOf_4 : ∀ w ∈ u_ws RX4 TX4 3, w ∈ wsX4_indexOf := by decide +kernel
theorem fl_X4_indexOf_20 : Cond.fieldLink RX4 20 "RecipeScheduler$Names" "count" "I" ∈ wsX4_indexOf := by decide +kernel
theorem fl_X4_indexOf_16 : Cond.fieldLink RX4 16 "RecipeScheduler$Names" "lengths" "[I" ∈ wsX4_indexOf := by decide +kernel
section
variable {p : Program} {l : Launch} {e : Env} {s : State} {m : MethodId} {below : List Frame} {meth : Method} {c : Code} {N0 : Nat} {T : Nat → ClassId} {D : va_G} {gr : List (Nat × Nat)} {ad : Nat → Nat → Nat → Nat}
set_option maxRecDepth 100000 in
set_option maxHeartbeats 4000000 in
theorem w_X4_indexOf_b39 {Y : Mem} {g0 : Nat} {g1 : Nat} {a2 : Int32} {a3 : Int32} (C : Cx p s m [.ref (ad 4 g0 0), .ref (ad 5 g1 0), .int a2, .int a3].toArray meth c cX4_indexOf 5 wsX4_indexOf RX4 N0 T D gr ad) (hrt : meth.sig.returnType = (some .int)) (hG : ∀ q ∈ [(4, g0), (5, g1)], q ∈ gr) {res : Int32} {k3 : Int32 → Option (Int32)} (hk3 : ∀ (l4 : Int32), k3 l4 = some res → FW p l e (Rm 1) s m [.ref (ad 4 g0 0), .ref (ad 5 g1 0), .int a2, .int a3].toArray below meth c 5 N0 T D gr ad 0 0 (MQ below (va_Qi (fun r Y1 => r = res ∧ Y1 = Y) (WB T D gr ad) (fun q => N0 ≤ q)) [.ref (ad 4 g0 0), .ref (ad 5 g1 0), .int a2, .int a3].toArray s 0 0 (fun q => N0 ≤ q)) Y 3 [(4, .int l4), (0, .ref (ad 4 g0 0)), (1, .ref (ad 5 g1 0)), (2, .int a2), (3, .int a3)] []) (l4 : Int32) (h : X4_indexOf_b39 Y g0 g1 a2 a3 k3 l4 = some res) : FW p l e (Rm 1) s m [.ref (ad 4 g0 0), .ref (ad 5 g1 0), .int a2, .int a3].toArray below meth c 5 N0 T D gr ad 0 0 (MQ below (va_Qi (fun r Y1 => r = res ∧ Y1 = Y) (WB T D gr ad) (fun q => N0 ≤ q)) [.ref (ad 4 g0 0), .ref (ad 5 g1 0), .int a2, .int a3].toArray s 0 0 (fun q => N0 ≤ q)) Y 39 [(4, .int l4), (0, .ref (ad 4 g0 0)), (1, .ref (ad 5 g1 0)), (2, .int a2), (3, .int a3)] [] := by
  unfold X4_indexOf_b39 at h
  refine fw_iinc C dX4_indexOf_39 (kk := 0) (v := l4 + 1) rfl rfl (by decide) (L' := [(4, .int (l4 + 1)), (0, .ref (ad 4 g0 0)), (1, .ref (ad 5 g1 0)), (2, .int a2), (3, .int a3)]) rfl ?_
  refine fw_goto C dX4_indexOf_42 (tgt := 3) rfl ?_
  exact hk3 _ h
set_option maxRecDepth 100000 in
set_option maxHeartbeats 4000000 in
theorem w_X4_indexOf_b3 {Y : Mem} {g0 : Nat} {g1 : Nat} {a2 : Int32} {a3 : Int32} (C : Cx p s m [.ref (ad 4 g0 0), .ref (ad 5 g1 0), .int a2, .int a3].toArray meth c cX4_indexOf 5 wsX4_indexOf RX4 N0 T D gr ad) (hrt : meth.sig.returnType = (some .int)) (hG : ∀ q ∈ [(4, g0), (5, g1)], q ∈ gr) {res : Int32} : ∀ (n : Nat) (l4 : Int32), X4_indexOf_b3 Y g0 g1 a2 a3  n l4 = some res → FW p l e (Rm 1) s m [.ref (ad 4 g0 0), .ref (ad 5 g1 0), .int a2, .int a3].toArray below meth c 5 N0 T D gr ad 0 0 (MQ below (va_Qi (fun r Y1 => r = res ∧ Y1 = Y) (WB T D gr ad) (fun q => N0 ≤ q)) [.ref (ad 4 g0 0), .ref (ad 5 g1 0), .int a2, .int a3].toArray s 0 0 (fun q => N0 ≤ q)) Y 3 [(4, .int l4), (0, .ref (ad 4 g0 0)), (1, .ref (ad 5 g1 0)), (2, .int a2), (3, .int a3)] [] := by
  intro n
  induction n with
  | zero =>
    intro l4 h
    unfold X4_indexOf_b3 at h
    cases h
  | succ n ih =>
    intro l4 h
    unfold X4_indexOf_b3 at h
    refine fw_iload C dX4_indexOf_3 0 rfl ?_
    refine fw_aload_n C dX4_indexOf_5 rfl 1 rfl ?_
    refine fw_get C (ci := 4) (Cn := RX4) (Tc := TX4) (N := 3) (j := 2) ly_X4_indexOf_4 rfl (hG _ (List.mem_of_getElem? (i := 0) rfl)) (of4_0 _) (ce4 T ad _ _) (by decide) (cx_ts C _ fl_X4_indexOf_20) (fun _ h => h) (v := .int (Y 4 g0 0 2)) rfl dX4_indexOf_6 ?_
    refine fw_icmp_ge C dX4_indexOf_9 (tgt := 45) rfl (fun c1 => ?_) (fun c1 => ?_)
    · have h := ite_t c1 h
      refine fw_iconst C dX4_indexOf_45 (v := (-1)) rfl ?_
      exact fw_iret C hrt Y ⟨Option.some.inj h, rfl⟩ (fun t ht => ht) dX4_indexOf_46
    · have h := ite_f c1 h
      refine fw_aload_n C dX4_indexOf_12 rfl 1 rfl ?_
      refine fw_get C (ci := 4) (Cn := RX4) (Tc := TX4) (N := 3) (j := 1) ly_X4_indexOf_4 rfl (hG _ (List.mem_of_getElem? (i := 0) rfl)) (of4_0 _) (ce4 T ad _ _) (by decide) (cx_ts C _ fl_X4_indexOf_16) (fun _ h => h) (v := .ref (ad 4 g0 2)) rfl dX4_indexOf_13 ?_
      refine fw_iload C dX4_indexOf_16 0 rfl ?_
      obtain ⟨b2, h⟩ := gd_some h
      refine fw_iald2 C (hG _ (List.mem_of_getElem? (i := 0) rfl)) (of4_2 _) (ca4_2 T ad _ _) b2 (ncap_lt _) dX4_indexOf_18 ?_
      refine fw_iload_n C dX4_indexOf_19 rfl 4 rfl ?_
      refine fw_iload_n C dX4_indexOf_20 rfl 3 rfl ?_
      refine fw_isub C dX4_indexOf_21 ?_
      refine fw_icmp_ne C dX4_indexOf_22 (tgt := 39) rfl (fun c3 => ?_) (fun c3 => ?_)
      · have h := ite_f c3 h
        exact w_X4_indexOf_b39 C hrt hG  ih _ h
      · have h := ite_t c3 h
        refine fw_aload_n C dX4_indexOf_25 rfl 1 rfl ?_
        refine fw_iload C dX4_indexOf_26 0 rfl ?_
        refine fw_aload_n C dX4_indexOf_28 rfl 2 rfl ?_
        refine fw_iload_n C dX4_indexOf_29 rfl 3 rfl ?_
        obtain ⟨r4, q5, h⟩ := bd1_some h
        refine fw_callVi C (ci := 4) (Cn := RX4) (Tc := TX4) (N := 3) (As := [.int l4, .ref (ad 5 g1 0), .int a2]) (c_X4_matches (gac (hG _ (List.mem_of_getElem? (i := 0) rfl)) (gac (hG _ (List.mem_of_getElem? (i := 1) rfl)) ga0)) q5) (cwV 3 (cx_ts C) gX4_indexOf_X4_matches rfl rfl rfl (by decide +kernel) ⟨Nat.le_of_ble_eq_true rfl, Nat.le_of_ble_eq_true rfl⟩) rfl (hG _ (List.mem_of_getElem? (i := 0) rfl)) (of4_0 _) (ce4 T ad _ _) rfl (st := []) rfl (Nat.le_of_ble_eq_true rfl) ⟨Nat.le_refl 0, Nat.le_refl 0⟩ dX4_indexOf_30 (pp2 ?_)
        refine fw_if_eq C dX4_indexOf_33 (tgt := 39) rfl (fun c6 => ?_) (fun c6 => ?_)
        · have h := ite_t c6 h
          exact w_X4_indexOf_b39 C hrt hG  ih _ h
        · have h := ite_f c6 h
          refine fw_iload C dX4_indexOf_36 0 rfl ?_
          exact fw_iret C hrt Y ⟨Option.some.inj h, rfl⟩ (fun t ht => ht) dX4_indexOf_38
set_option maxRecDepth 100000 in
set_option maxHeartbeats 4000000 in
theorem w_X4_indexOf {Y : Mem} {g0 : Nat} {g1 : Nat} {a2 : Int32} {a3 : Int32} (C : Cx p s m [.ref (ad 4 g0 0), .ref (ad 5 g1 0), .int a2, .int a3].toArray meth c cX4_indexOf 5 wsX4_indexOf RX4 N0 T D gr ad) (hrt : meth.sig.returnType = (some .int)) (hG : ∀ q ∈ [(4, g0), (5, g1)], q ∈ gr) {res : Int32} (h : X4_indexOf Y g0 g1 a2 a3 = some res) : FW p l e (Rm 1) s m [.ref (ad 4 g0 0), .ref (ad 5 g1 0), .int a2, .int a3].toArray below meth c 5 N0 T D gr ad 0 0 (MQ below (va_Qi (fun r Y1 => r = res ∧ Y1 = Y) (WB T D gr ad) (fun q => N0 ≤ q)) [.ref (ad 4 g0 0), .ref (ad 5 g1 0), .int a2, .int a3].toArray s 0 0 (fun q => N0 ≤ q)) Y 0 [(0, .ref (ad 4 g0 0)), (1, .ref (ad 5 g1 0)), (2, .int a2), (3, .int a3)] [] := by
  unfold X4_indexOf at h
  refine fw_iconst C dX4_indexOf_0 (v := 0) rfl ?_
  refine fw_istore C dX4_indexOf_1 (by decide) (L' := [(4, .int 0), (0, .ref (ad 4 g0 0)), (1, .ref (ad 5 g1 0)), (2, .int a2), (3, .int a3)]) rfl ?_
  exact w_X4_indexOf_b3 C hrt hG   _ _ h
end
set_option maxRecDepth 100000 in
set_option maxHeartbeats 4000000 in
theorem c_X4_indexOf {l : Launch} {N0 : Nat} {T : Nat → ClassId} {D : va_G} {gr : List (Nat × Nat)} {ad : Nat → Nat → Nat → Nat} {Y : Mem} {g0 : Nat} {g1 : Nat} {a2 : Int32} {a3 : Int32} {res : Int32} (hG : ∀ q ∈ [(4, g0), (5, g1)], q ∈ gr) (h : X4_indexOf Y g0 g1 a2 a3 = some res) : CI l yX4_indexOf wsX4_indexOf (Rm 1) N0 T D gr ad Y [.ref (ad 4 g0 0), .ref (ad 5 g1 0), .int a2, .int a3] (fun r Y1 => r = res ∧ Y1 = Y) :=
  fw_body (by decide +kernel) rfl (Nat.le_of_ble_eq_true rfl) (fun p e s m below meth c C hrt => w_X4_indexOf C hrt hG  h)
theorem ly_X4_isFull_4 : ∀ w ∈ u_ws RX4 TX4 3, w ∈ wsX4_isFull := by decide +kernel
theorem fl_X4_isFull_20 : Cond.fieldLink RX4 20 "RecipeScheduler$Names" "count" "I" ∈ wsX4_isFull := by decide +kernel
theorem fl_X4_isFull_16 : Cond.fieldLink RX4 16 "RecipeScheduler$Names" "lengths" "[I" ∈ wsX4_isFull := by decide +kernel
section
variable {p : Program} {l : Launch} {e : Env} {s : State} {m : MethodId} {below : List Frame} {meth : Method} {c : Code} {N0 : Nat} {T : Nat → ClassId} {D : va_G} {gr : List (Nat × Nat)} {ad : Nat → Nat → Nat → Nat}
set_option maxRecDepth 100000 in
set_option maxHeartbeats 4000000 in
theorem w_X4_isFull {Y : Mem} {g0 : Nat} (C : Cx p s m [.ref (ad 4 g0 0)].toArray meth c cX4_isFull 1 wsX4_isFull RX4 N0 T D gr ad) (hrt : meth.sig.returnType = (some .boolean)) (hG : ∀ q ∈ [(4, g0)], q ∈ gr) {res : Int32} (h : X4_isFull Y g0 = some res) : FW p l e (Rm 0) s m [.ref (ad 4 g0 0)].toArray below meth c 1 N0 T D gr ad 0 0 (MQ below (va_Qi (fun r Y1 => r = res ∧ Y1 = Y) (WB T D gr ad) (fun q => N0 ≤ q)) [.ref (ad 4 g0 0)].toArray s 0 0 (fun q => N0 ≤ q)) Y 0 [(0, .ref (ad 4 g0 0))] [] := by
  unfold X4_isFull at h
  refine fw_aload_n C dX4_isFull_0 rfl 0 rfl ?_
  refine fw_get C (ci := 4) (Cn := RX4) (Tc := TX4) (N := 3) (j := 2) ly_X4_isFull_4 rfl (hG _ (List.mem_of_getElem? (i := 0) rfl)) (of4_0 _) (ce4 T ad _ _) (by decide) (cx_ts C _ fl_X4_isFull_20) (fun _ h => h) (v := .int (Y 4 g0 0 2)) rfl dX4_isFull_1 ?_
  refine fw_aload_n C dX4_isFull_4 rfl 0 rfl ?_
  refine fw_get C (ci := 4) (Cn := RX4) (Tc := TX4) (N := 3) (j := 1) ly_X4_isFull_4 rfl (hG _ (List.mem_of_getElem? (i := 0) rfl)) (of4_0 _) (ce4 T ad _ _) (by decide) (cx_ts C _ fl_X4_isFull_16) (fun _ h => h) (v := .ref (ad 4 g0 2)) rfl dX4_isFull_5 ?_
  refine fw_alen C 0 (hG _ (List.mem_of_getElem? (i := 0) rfl)) (of4_2 _) (ca4_2 T ad _ _) rfl (v := (Int32.ofNat (ncap (g0)))) rfl dX4_isFull_8 ?_
  refine fw_icmp_lt C dX4_isFull_9 (tgt := 16) rfl (fun c1 => ?_) (fun c1 => ?_)
  · have h := ite_t c1 h
    refine fw_iconst C dX4_isFull_16 (v := 0) rfl ?_
    exact fw_zret C hrt (by decide) Y ⟨Option.some.inj h, rfl⟩ (fun t ht => ht) dX4_isFull_17
  · have h := ite_f c1 h
    refine fw_iconst C dX4_isFull_12 (v := 1) rfl ?_
    refine fw_goto C dX4_isFull_13 (tgt := 17) rfl ?_
    exact fw_zret C hrt (by decide) Y ⟨Option.some.inj h, rfl⟩ (fun t ht => ht) dX4_isFull_17
end
set_option maxRecDepth 100000 in
set_option maxHeartbeats 4000000 in
theorem c_X4_isFull {l : Launch} {N0 : Nat} {T : Nat → ClassId} {D : va_G} {gr : List (Nat × Nat)} {ad : Nat → Nat → Nat → Nat} {Y : Mem} {g0 : Nat} {res : Int32} (hG : ∀ q ∈ [(4, g0)], q ∈ gr) (h : X4_isFull Y g0 = some res) : CI l yX4_isFull wsX4_isFull (Rm 0) N0 T D gr ad Y [.ref (ad 4 g0 0)] (fun r Y1 => r = res ∧ Y1 = Y) :=
  fw_body (by decide +kernel) rfl (Nat.le_of_ble_eq_true rfl) (fun p e s m below meth c C hrt => w_X4_isFull C hrt hG  h)
theorem ly_X4_prepare_4 : ∀ w ∈ u_ws RX4 TX4 3, w ∈ wsX4_prepare := by decide +kernel
theorem fl_X4_prepare_16 : Cond.fieldLink RX4 16 "RecipeScheduler$Names" "lengths" "[I" ∈ wsX4_prepare := by decide +kernel
theorem fl_X4_prepare_20 : Cond.fieldLink RX4 20 "RecipeScheduler$Names" "count" "I" ∈ wsX4_prepare := by decide +kernel
theorem fl_X4_prepare_11 : Cond.fieldLink RX4 11 "RecipeScheduler$Names" "letters" "[[B" ∈ wsX4_prepare := by decide +kernel
theorem ly_X4_prepare_9 : ∀ w ∈ u_ws RX9 TX9 2, w ∈ wsX4_prepare := by decide +kernel
section
variable {p : Program} {l : Launch} {e : Env} {s : State} {m : MethodId} {below : List Frame} {meth : Method} {c : Code} {N0 : Nat} {T : Nat → ClassId} {D : va_G} {gr : List (Nat × Nat)} {ad : Nat → Nat → Nat → Nat}
set_option maxRecDepth 100000 in
set_option maxHeartbeats 4000000 in
theorem w_X4_prepare_b31 {g0 : Nat} {g1 : Nat} {a2 : Int32} {a3 : Int32} (C : Cx p s m [.ref (ad 4 g0 0), .ref (ad 5 g1 0), .int a2, .int a3].toArray meth c cX4_prepare 5 wsX4_prepare RX4 N0 T D gr ad) (hrt : meth.sig.returnType = none) (hG : ∀ q ∈ [(4, g0), (5, g1)], q ∈ gr) {res : Mem} : ∀ (n : Nat) (Y : Mem) (l4 : Int32), X4_prepare_b31 g0 g1 a2 a3  n Y l4 = some res → FW p l e (Rm 1) s m [.ref (ad 4 g0 0), .ref (ad 5 g1 0), .int a2, .int a3].toArray below meth c 5 N0 T D gr ad 0 0 (MQ below (va_Qv (fun Y1 => Y1 = res) (WB T D gr ad) (fun q => N0 ≤ q)) [.ref (ad 4 g0 0), .ref (ad 5 g1 0), .int a2, .int a3].toArray s 0 0 (fun q => N0 ≤ q)) Y 31 [(4, .int l4), (0, .ref (ad 4 g0 0)), (1, .ref (ad 5 g1 0)), (2, .int a2), (3, .int a3)] [] := by
  intro n
  induction n with
  | zero =>
    intro Y l4 h
    unfold X4_prepare_b31 at h
    cases h
  | succ n ih =>
    intro Y l4 h
    unfold X4_prepare_b31 at h
    refine fw_iload C dX4_prepare_31 0 rfl ?_
    refine fw_iload_n C dX4_prepare_33 rfl 4 rfl ?_
    refine fw_iload_n C dX4_prepare_34 rfl 3 rfl ?_
    refine fw_isub C dX4_prepare_35 ?_
    refine fw_icmp_ge C dX4_prepare_36 (tgt := 66) rfl (fun c8 => ?_) (fun c8 => ?_)
    · have h := ite_t c8 h
      exact fw_vret C hrt Y (Option.some.inj h) (fun t ht => ht) dX4_prepare_66
    · have h := ite_f c8 h
      refine fw_aload_n C dX4_prepare_39 rfl 1 rfl ?_
      refine fw_get C (ci := 4) (Cn := RX4) (Tc := TX4) (N := 3) (j := 0) ly_X4_prepare_4 rfl (hG _ (List.mem_of_getElem? (i := 0) rfl)) (of4_0 _) (ce4 T ad _ _) (by decide) (cx_ts C _ fl_X4_prepare_11) (fun _ h => h) (v := .ref (ad 4 g0 1)) rfl dX4_prepare_40 ?_
      refine fw_aload_n C dX4_prepare_43 rfl 1 rfl ?_
      refine fw_get C (ci := 4) (Cn := RX4) (Tc := TX4) (N := 3) (j := 2) ly_X4_prepare_4 rfl (hG _ (List.mem_of_getElem? (i := 0) rfl)) (of4_0 _) (ce4 T ad _ _) (by decide) (cx_ts C _ fl_X4_prepare_20) (fun _ h => h) (v := .int (Y 4 g0 0 2)) rfl dX4_prepare_44 ?_
      obtain ⟨b9, h⟩ := gd_some h
      refine fw_aald2 C 4 (hG _ (List.mem_of_getElem? (i := 0) rfl)) (of4_1 _) (ca4_1 T ad _ _) rfl rfl b9 (ncap_lt _) (v := .ref (ad 4 g0 (10+ix (Y 4 g0 0 2)))) rfl dX4_prepare_47 ?_
      refine fw_iload C dX4_prepare_48 0 rfl ?_
      refine fw_aload_n C dX4_prepare_50 rfl 2 rfl ?_
      refine fw_getN C (ci := 9) (Cn := RX9) (Tc := TX9) (N := 2) (j := 0) ly_X4_prepare_9 rfl (hG _ (List.mem_of_getElem? (i := 1) rfl)) (of5_0 _) (ce5 T ad _ _) (by decide) (Nst_use (cx_nst C) (w := .fieldLinkNest RX4 28 "RecipeScheduler$Text" "bytes" "[B" "RecipeScheduler") 48 (by decide +kernel) rfl) (fun _ h => h) (v := .ref (ad 5 g1 1)) rfl dX4_prepare_51 ?_
      refine fw_iload_n C dX4_prepare_54 rfl 3 rfl ?_
      refine fw_iload C dX4_prepare_55 0 rfl ?_
      refine fw_iadd C dX4_prepare_57 ?_
      obtain ⟨b10, h⟩ := gd_some h
      refine fw_bald2 C (hG _ (List.mem_of_getElem? (i := 1) rfl)) (of5_1 _) (ca5_1 T ad _ _) b10 (tcap_lt _) dX4_prepare_58 ?_
      obtain ⟨b11, h⟩ := gd_some h
      obtain ⟨Y12, e13, h⟩ := lt_some h
      refine fw_bast2 C (hG _ (List.mem_of_getElem? (i := 0) rfl)) (of4_r _ (inb_lt b9)) (ca4_r T ad _ _) b11 (Nat.le_of_ble_eq_true rfl) dX4_prepare_59 ?_
      refine fw_mem e13 ?_
      refine fw_iinc C dX4_prepare_60 (kk := 0) (v := l4 + 1) rfl rfl (by decide) (L' := [(4, .int (l4 + 1)), (0, .ref (ad 4 g0 0)), (1, .ref (ad 5 g1 0)), (2, .int a2), (3, .int a3)]) rfl ?_
      refine fw_goto C dX4_prepare_63 (tgt := 31) rfl ?_
      exact ih _ _ h
set_option maxRecDepth 100000 in
set_option maxHeartbeats 4000000 in
theorem w_X4_prepare {Y : Mem} {g0 : Nat} {g1 : Nat} {a2 : Int32} {a3 : Int32} (C : Cx p s m [.ref (ad 4 g0 0), .ref (ad 5 g1 0), .int a2, .int a3].toArray meth c cX4_prepare 5 wsX4_prepare RX4 N0 T D gr ad) (hrt : meth.sig.returnType = none) (hG : ∀ q ∈ [(4, g0), (5, g1)], q ∈ gr) {res : Mem} (h : X4_prepare Y g0 g1 a2 a3 = some res) : FW p l e (Rm 1) s m [.ref (ad 4 g0 0), .ref (ad 5 g1 0), .int a2, .int a3].toArray below meth c 5 N0 T D gr ad 0 0 (MQ below (va_Qv (fun Y1 => Y1 = res) (WB T D gr ad) (fun q => N0 ≤ q)) [.ref (ad 4 g0 0), .ref (ad 5 g1 0), .int a2, .int a3].toArray s 0 0 (fun q => N0 ≤ q)) Y 0 [(0, .ref (ad 4 g0 0)), (1, .ref (ad 5 g1 0)), (2, .int a2), (3, .int a3)] [] := by
  unfold X4_prepare at h
  refine fw_aload_n C dX4_prepare_0 rfl 0 rfl ?_
  obtain ⟨r1, q2, h⟩ := bd1_some h
  refine fw_callVi C (ci := 4) (Cn := RX4) (Tc := TX4) (N := 3) (As := []) (c_X4_isFull (gac (hG _ (List.mem_of_getElem? (i := 0) rfl)) ga0) q2) (cwV 0 (cx_ts C) gX4_prepare_X4_isFull rfl rfl rfl (by decide +kernel) ⟨Nat.le_of_ble_eq_true rfl, Nat.le_of_ble_eq_true rfl⟩) rfl (hG _ (List.mem_of_getElem? (i := 0) rfl)) (of4_0 _) (ce4 T ad _ _) rfl (st := []) rfl (Nat.le_of_ble_eq_true rfl) ⟨Nat.le_refl 0, Nat.le_refl 0⟩ dX4_prepare_1 (pp2 ?_)
  refine fw_if_ne C dX4_prepare_4 (tgt := 15) rfl (fun c3 => ?_) (fun c3 => ?_)
  · have h := ite_f c3 h
    exact fw_vret C hrt Y (Option.some.inj h) (fun t ht => ht) dX4_prepare_15
  · have h := ite_t c3 h
    refine fw_iload_n C dX4_prepare_7 rfl 3 rfl ?_
    refine fw_iload_n C dX4_prepare_8 rfl 2 rfl ?_
    refine fw_isub C dX4_prepare_9 ?_
    refine fw_bipush C dX4_prepare_10 (v := 6) rfl ?_
    refine fw_icmp_le C dX4_prepare_12 (tgt := 16) rfl (fun c4 => ?_) (fun c4 => ?_)
    · have h := ite_t c4 h
      refine fw_aload_n C dX4_prepare_16 rfl 0 rfl ?_
      refine fw_get C (ci := 4) (Cn := RX4) (Tc := TX4) (N := 3) (j := 1) ly_X4_prepare_4 rfl (hG _ (List.mem_of_getElem? (i := 0) rfl)) (of4_0 _) (ce4 T ad _ _) (by decide) (cx_ts C _ fl_X4_prepare_16) (fun _ h => h) (v := .ref (ad 4 g0 2)) rfl dX4_prepare_17 ?_
      refine fw_aload_n C dX4_prepare_20 rfl 0 rfl ?_
      refine fw_get C (ci := 4) (Cn := RX4) (Tc := TX4) (N := 3) (j := 2) ly_X4_prepare_4 rfl (hG _ (List.mem_of_getElem? (i := 0) rfl)) (of4_0 _) (ce4 T ad _ _) (by decide) (cx_ts C _ fl_X4_prepare_20) (fun _ h => h) (v := .int (Y 4 g0 0 2)) rfl dX4_prepare_21 ?_
      refine fw_iload_n C dX4_prepare_24 rfl 3 rfl ?_
      refine fw_iload_n C dX4_prepare_25 rfl 2 rfl ?_
      refine fw_isub C dX4_prepare_26 ?_
      obtain ⟨b5, h⟩ := gd_some h
      obtain ⟨Y6, e7, h⟩ := lt_some h
      refine fw_iast2 C (hG _ (List.mem_of_getElem? (i := 0) rfl)) (of4_2 _) (ca4_2 T ad _) b5 (ncap_lt _) dX4_prepare_27 ?_
      refine fw_mem e7 ?_
      refine fw_iconst C dX4_prepare_28 (v := 0) rfl ?_
      refine fw_istore C dX4_prepare_29 (by decide) (L' := [(4, .int 0), (0, .ref (ad 4 g0 0)), (1, .ref (ad 5 g1 0)), (2, .int a2), (3, .int a3)]) rfl ?_
      exact w_X4_prepare_b31 C hrt hG   _ _ _ h
    · have h := ite_f c4 h
      exact fw_vret C hrt Y (Option.some.inj h) (fun t ht => ht) dX4_prepare_15
end
set_option maxRecDepth 100000 in
set_option maxHeartbeats 4000000 in
theorem c_X4_prepare {l : Launch} {N0 : Nat} {T : Nat → ClassId} {D : va_G} {gr : List (Nat × Nat)} {ad : Nat → Nat → Nat → Nat} {Y : Mem} {g0 : Nat} {g1 : Nat} {a2 : Int32} {a3 : Int32} {res : Mem} (hG : ∀ q ∈ [(4, g0), (5, g1)], q ∈ gr) (h : X4_prepare Y g0 g1 a2 a3 = some res) : CV l yX4_prepare wsX4_prepare (Rm 1) N0 T D gr ad Y [.ref (ad 4 g0 0), .ref (ad 5 g1 0), .int a2, .int a3] (fun Y1 => Y1 = res) :=
  fw_body (by decide +kernel) rfl (Nat.le_of_ble_eq_true rfl) (fun p e s m below meth c C hrt => w_X4_prepare C hrt hG  h)
theorem ly_X10_expectNewName_10 : ∀ w ∈ u_ws RX10 TX10 6, w ∈ wsX10_expectNewName := by decide +kernel
theorem fl_X10_expectNewName_44 : Cond.fieldLink RX10 44 "RecipeScheduler$Tokens" "kind" "I" ∈ wsX10_expectNewName := by decide +kernel
theorem fl_X10_expectNewName_22 : Cond.fieldLink RX10 22 "RecipeScheduler$Tokens" "end" "I" ∈ wsX10_expectNewName := by decide +kernel
theorem fl_X10_expectNewName_28 : Cond.fieldLink RX10 28 "RecipeScheduler$Tokens" "start" "I" ∈ wsX10_expectNewName := by decide +kernel
theorem fl_X10_expectNewName_9 : Cond.fieldLink RX10 9 "RecipeScheduler$Tokens" "text" "LRecipeScheduler$Text;" ∈ wsX10_expectNewName := by decide +kernel
section
variable {p : Program} {l : Launch} {e : Env} {s : State} {m : MethodId} {below : List Frame} {meth : Method} {c : Code} {N0 : Nat} {T : Nat → ClassId} {D : va_G} {gr : List (Nat × Nat)} {ad : Nat → Nat → Nat → Nat}
set_option maxRecDepth 100000 in
set_option maxHeartbeats 4000000 in
theorem w_X10_expectNewName_b48 {g1 : Nat} (C : Cx p s m [.ref (ad 6 0 0), .ref (ad 4 g1 0)].toArray meth c cX10_expectNewName 2 wsX10_expectNewName RX10 N0 T D gr ad) (hrt : meth.sig.returnType = none) (hG : ∀ q ∈ [(6, 0), (5, 0), (4, g1)], q ∈ gr) {res : Mem} (Y : Mem) (h : X10_expectNewName_b48 g1  Y = some res) : FW p l e (Rm 2) s m [.ref (ad 6 0 0), .ref (ad 4 g1 0)].toArray below meth c 2 N0 T D gr ad 0 0 (MQ below (va_Qv (fun Y1 => Y1 = res) (WB T D gr ad) (fun q => N0 ≤ q)) [.ref (ad 6 0 0), .ref (ad 4 g1 0)].toArray s 0 0 (fun q => N0 ≤ q)) Y 48 [(0, .ref (ad 6 0 0))] [] := by
  unfold X10_expectNewName_b48 at h
  refine fw_aload_n C dX10_expectNewName_48 rfl 0 rfl ?_
  refine fw_iconst C dX10_expectNewName_49 (v := 3) rfl ?_
  obtain ⟨Y5, q4, h⟩ := bd1_some h
  refine fw_callVv C (ci := 10) (Cn := RX10) (Tc := TX10) (N := 6) (As := [.int 3]) (c_X10_fail (gac (hG _ (List.mem_of_getElem? (i := 0) rfl)) ga0) q4) (cwV 1 (cx_ts C) gX10_expectNewName_X10_fail rfl rfl rfl (by decide +kernel) ⟨Nat.le_of_ble_eq_true rfl, Nat.le_of_ble_eq_true rfl⟩) rfl (hG _ (List.mem_of_getElem? (i := 0) rfl)) (of6_0 _) (ce6 T ad _ _) rfl (st := []) rfl (Nat.le_of_ble_eq_true rfl) ⟨Nat.le_refl 0, Nat.le_refl 0⟩ dX10_expectNewName_50 (ppv ?_)
  exact fw_vret C hrt Y5 (Option.some.inj h) (fun t ht => ht) dX10_expectNewName_53
set_option maxRecDepth 100000 in
set_option maxHeartbeats 4000000 in
theorem w_X10_expectNewName {Y : Mem} {g1 : Nat} (C : Cx p s m [.ref (ad 6 0 0), .ref (ad 4 g1 0)].toArray meth c cX10_expectNewName 2 wsX10_expectNewName RX10 N0 T D gr ad) (hrt : meth.sig.returnType = none) (hG : ∀ q ∈ [(6, 0), (5, 0), (4, g1)], q ∈ gr) {res : Mem} (h : X10_expectNewName Y g1 = some res) : FW p l e (Rm 2) s m [.ref (ad 6 0 0), .ref (ad 4 g1 0)].toArray below meth c 2 N0 T D gr ad 0 0 (MQ below (va_Qv (fun Y1 => Y1 = res) (WB T D gr ad) (fun q => N0 ≤ q)) [.ref (ad 6 0 0), .ref (ad 4 g1 0)].toArray s 0 0 (fun q => N0 ≤ q)) Y 0 [(0, .ref (ad 6 0 0)), (1, .ref (ad 4 g1 0))] [] := by
  unfold X10_expectNewName at h
  refine fw_aload_n C dX10_expectNewName_0 rfl 0 rfl ?_
  refine fw_get C (ci := 10) (Cn := RX10) (Tc := TX10) (N := 6) (j := 1) ly_X10_expectNewName_10 rfl (hG _ (List.mem_of_getElem? (i := 0) rfl)) (of6_0 _) (ce6 T ad _ _) (by decide) (cx_ts C _ fl_X10_expectNewName_44) (fun _ h => h) (v := .int (Y 6 0 0 1)) rfl dX10_expectNewName_1 ?_
  refine fw_iconst C dX10_expectNewName_4 (v := 1) rfl ?_
  refine fw_icmp_eq C dX10_expectNewName_5 (tgt := 14) rfl (fun c1 => ?_) (fun c1 => ?_)
  · have h := ite_t c1 h
    refine fw_aload_n C dX10_expectNewName_14 rfl 0 rfl ?_
    refine fw_get C (ci := 10) (Cn := RX10) (Tc := TX10) (N := 6) (j := 3) ly_X10_expectNewName_10 rfl (hG _ (List.mem_of_getElem? (i := 0) rfl)) (of6_0 _) (ce6 T ad _ _) (by decide) (cx_ts C _ fl_X10_expectNewName_22) (fun _ h => h) (v := .int (Y 6 0 0 3)) rfl dX10_expectNewName_15 ?_
    refine fw_aload_n C dX10_expectNewName_18 rfl 0 rfl ?_
    refine fw_get C (ci := 10) (Cn := RX10) (Tc := TX10) (N := 6) (j := 2) ly_X10_expectNewName_10 rfl (hG _ (List.mem_of_getElem? (i := 0) rfl)) (of6_0 _) (ce6 T ad _ _) (by decide) (cx_ts C _ fl_X10_expectNewName_28) (fun _ h => h) (v := .int (Y 6 0 0 2)) rfl dX10_expectNewName_19 ?_
    refine fw_isub C dX10_expectNewName_22 ?_
    refine fw_bipush C dX10_expectNewName_23 (v := 6) rfl ?_
    refine fw_icmp_gt C dX10_expectNewName_25 (tgt := 48) rfl (fun c2 => ?_) (fun c2 => ?_)
    · have h := ite_t c2 h
      refine fw_sub [0] (L' := [(0, .ref (ad 6 0 0))]) rfl ?_
      exact w_X10_expectNewName_b48 C hrt hG   _ h
    · have h := ite_f c2 h
      refine fw_aload_n C dX10_expectNewName_28 rfl 1 rfl ?_
      refine fw_aload_n C dX10_expectNewName_29 rfl 0 rfl ?_
      refine fw_get C (ci := 10) (Cn := RX10) (Tc := TX10) (N := 6) (j := 0) ly_X10_expectNewName_10 rfl (hG _ (List.mem_of_getElem? (i := 0) rfl)) (of6_0 _) (ce6 T ad _ _) (by decide) (cx_ts C _ fl_X10_expectNewName_9) (fun _ h => h) (v := .ref (ad 5 0 0)) rfl dX10_expectNewName_30 ?_
      refine fw_aload_n C dX10_expectNewName_33 rfl 0 rfl ?_
      refine fw_get C (ci := 10) (Cn := RX10) (Tc := TX10) (N := 6) (j := 2) ly_X10_expectNewName_10 rfl (hG _ (List.mem_of_getElem? (i := 0) rfl)) (of6_0 _) (ce6 T ad _ _) (by decide) (cx_ts C _ fl_X10_expectNewName_28) (fun _ h => h) (v := .int (Y 6 0 0 2)) rfl dX10_expectNewName_34 ?_
      refine fw_aload_n C dX10_expectNewName_37 rfl 0 rfl ?_
      refine fw_get C (ci := 10) (Cn := RX10) (Tc := TX10) (N := 6) (j := 3) ly_X10_expectNewName_10 rfl (hG _ (List.mem_of_getElem? (i := 0) rfl)) (of6_0 _) (ce6 T ad _ _) (by decide) (cx_ts C _ fl_X10_expectNewName_22) (fun _ h => h) (v := .int (Y 6 0 0 3)) rfl dX10_expectNewName_38 ?_
      obtain ⟨r6, q7, h⟩ := bd1_some h
      refine fw_callVi C (ci := 4) (Cn := RX4) (Tc := TX4) (N := 3) (As := [.ref (ad 5 0 0), .int (Y 6 0 0 2), .int (Y 6 0 0 3)]) (c_X4_indexOf (gac (hG _ (List.mem_of_getElem? (i := 2) rfl)) (gac (hG _ (List.mem_of_getElem? (i := 1) rfl)) ga0)) q7) (cwV 3 (cx_ts C) gX10_expectNewName_X4_indexOf rfl rfl rfl (by decide +kernel) ⟨Nat.le_of_ble_eq_true rfl, Nat.le_of_ble_eq_true rfl⟩) rfl (hG _ (List.mem_of_getElem? (i := 2) rfl)) (of4_0 _) (ce4 T ad _ _) rfl (st := []) rfl (Nat.le_of_ble_eq_true rfl) ⟨Nat.le_refl 0, Nat.le_refl 0⟩ dX10_expectNewName_41 (pp2 ?_)
      refine fw_iconst C dX10_expectNewName_44 (v := (-1)) rfl ?_
      refine fw_icmp_eq C dX10_expectNewName_45 (tgt := 54) rfl (fun c8 => ?_) (fun c8 => ?_)
      · have h := ite_t c8 h
        refine fw_aload_n C dX10_expectNewName_54 rfl 1 rfl ?_
        refine fw_aload_n C dX10_expectNewName_55 rfl 0 rfl ?_
        refine fw_get C (ci := 10) (Cn := RX10) (Tc := TX10) (N := 6) (j := 0) ly_X10_expectNewName_10 rfl (hG _ (List.mem_of_getElem? (i := 0) rfl)) (of6_0 _) (ce6 T ad _ _) (by decide) (cx_ts C _ fl_X10_expectNewName_9) (fun _ h => h) (v := .ref (ad 5 0 0)) rfl dX10_expectNewName_56 ?_
        refine fw_aload_n C dX10_expectNewName_59 rfl 0 rfl ?_
        refine fw_get C (ci := 10) (Cn := RX10) (Tc := TX10) (N := 6) (j := 2) ly_X10_expectNewName_10 rfl (hG _ (List.mem_of_getElem? (i := 0) rfl)) (of6_0 _) (ce6 T ad _ _) (by decide) (cx_ts C _ fl_X10_expectNewName_28) (fun _ h => h) (v := .int (Y 6 0 0 2)) rfl dX10_expectNewName_60 ?_
        refine fw_aload_n C dX10_expectNewName_63 rfl 0 rfl ?_
        refine fw_get C (ci := 10) (Cn := RX10) (Tc := TX10) (N := 6) (j := 3) ly_X10_expectNewName_10 rfl (hG _ (List.mem_of_getElem? (i := 0) rfl)) (of6_0 _) (ce6 T ad _ _) (by decide) (cx_ts C _ fl_X10_expectNewName_22) (fun _ h => h) (v := .int (Y 6 0 0 3)) rfl dX10_expectNewName_64 ?_
        obtain ⟨Y11, q10, h⟩ := bd1_some h
        refine fw_callVv C (ci := 4) (Cn := RX4) (Tc := TX4) (N := 3) (As := [.ref (ad 5 0 0), .int (Y 6 0 0 2), .int (Y 6 0 0 3)]) (c_X4_prepare (gac (hG _ (List.mem_of_getElem? (i := 2) rfl)) (gac (hG _ (List.mem_of_getElem? (i := 1) rfl)) ga0)) q10) (cwV 3 (cx_ts C) gX10_expectNewName_X4_prepare rfl rfl rfl (by decide +kernel) ⟨Nat.le_of_ble_eq_true rfl, Nat.le_of_ble_eq_true rfl⟩) rfl (hG _ (List.mem_of_getElem? (i := 2) rfl)) (of4_0 _) (ce4 T ad _ _) rfl (st := []) rfl (Nat.le_of_ble_eq_true rfl) ⟨Nat.le_refl 0, Nat.le_refl 0⟩ dX10_expectNewName_67 (ppv ?_)
        refine fw_aload_n C dX10_expectNewName_70 rfl 0 rfl ?_
        obtain ⟨Y14, q13, h⟩ := bd1_some h
        refine fw_callVv C (ci := 10) (Cn := RX10) (Tc := TX10) (N := 6) (As := []) (c_X10_advance (gac (hG _ (List.mem_of_getElem? (i := 0) rfl)) (gac (hG _ (List.mem_of_getElem? (i := 1) rfl)) ga0)) q13) (cwV 0 (cx_ts C) gX10_expectNewName_X10_advance rfl rfl rfl (by decide +kernel) ⟨Nat.le_of_ble_eq_true rfl, Nat.le_of_ble_eq_true rfl⟩) rfl (hG _ (List.mem_of_getElem? (i := 0) rfl)) (of6_0 _) (ce6 T ad _ _) rfl (st := []) rfl (Nat.le_of_ble_eq_true rfl) ⟨Nat.le_refl 0, Nat.le_refl 0⟩ dX10_expectNewName_71 (ppv ?_)
        exact fw_vret C hrt Y14 (Option.some.inj h) (fun t ht => ht) dX10_expectNewName_74
      · have h := ite_f c8 h
        refine fw_sub [0] (L' := [(0, .ref (ad 6 0 0))]) rfl ?_
        exact w_X10_expectNewName_b48 C hrt hG   _ h
  · have h := ite_f c1 h
    refine fw_aload_n C dX10_expectNewName_8 rfl 0 rfl ?_
    refine fw_iconst C dX10_expectNewName_9 (v := 1) rfl ?_
    obtain ⟨Y17, q16, h⟩ := bd1_some h
    refine fw_callVv C (ci := 10) (Cn := RX10) (Tc := TX10) (N := 6) (As := [.int 1]) (c_X10_fail (gac (hG _ (List.mem_of_getElem? (i := 0) rfl)) ga0) q16) (cwV 1 (cx_ts C) gX10_expectNewName_X10_fail rfl rfl rfl (by decide +kernel) ⟨Nat.le_of_ble_eq_true rfl, Nat.le_of_ble_eq_true rfl⟩) rfl (hG _ (List.mem_of_getElem? (i := 0) rfl)) (of6_0 _) (ce6 T ad _ _) rfl (st := []) rfl (Nat.le_of_ble_eq_true rfl) ⟨Nat.le_refl 0, Nat.le_refl 0⟩ dX10_expectNewName_10 (ppv ?_)
    exact fw_vret C hrt Y17 (Option.some.inj h) (fun t ht => ht) dX10_expectNewName_13
end
set_option maxRecDepth 100000 in
set_option maxHeartbeats 4000000 in
theorem c_X10_expectNewName {l : Launch} {N0 : Nat} {T : Nat → ClassId} {D : va_G} {gr : List (Nat × Nat)} {ad : Nat → Nat → Nat → Nat} {Y : Mem} {g1 : Nat} {res : Mem} (hG : ∀ q ∈ [(6, 0), (5, 0), (4, g1)], q ∈ gr) (h : X10_expectNewName Y g1 = some res) : CV l yX10_expectNewName wsX10_expectNewName (Rm 2) N0 T D gr ad Y [.ref (ad 6 0 0), .ref (ad 4 g1 0)] (fun Y1 => Y1 = res) :=
  fw_body (by decide +kernel) rfl (Nat.le_of_ble_eq_true rfl) (fun p e s m below meth c C hrt => w_X10_expectNewName C hrt hG  h)
theorem ly_X10_expectNumber_10 : ∀ w ∈ u_ws RX10 TX10 6, w ∈ wsX10_expectNumber := by decide +kernel
theorem fl_X10_expectNumber_44 : Cond.fieldLink RX10 44 "RecipeScheduler$Tokens" "kind" "I" ∈ wsX10_expectNumber := by decide +kernel
theorem fl_X10_expectNumber_28 : Cond.fieldLink RX10 28 "RecipeScheduler$Tokens" "start" "I" ∈ wsX10_expectNumber := by decide +kernel
theorem fl_X10_expectNumber_22 : Cond.fieldLink RX10 22 "RecipeScheduler$Tokens" "end" "I" ∈ wsX10_expectNumber := by decide +kernel
theorem in_X10_expectNumber_11 : Cond.initialized RX11 ∈ wsX10_expectNumber := by decide +kernel
theorem sw_X10_expectNumber_X11_isWithin : Cond.static yX11_isWithin ∈ wsX10_expectNumber := by decide +kernel
theorem fl_X10_expectNumber_9 : Cond.fieldLink RX10 9 "RecipeScheduler$Tokens" "text" "LRecipeScheduler$Text;" ∈ wsX10_expectNumber := by decide +kernel
theorem ly_X10_expectNumber_9 : ∀ w ∈ u_ws RX9 TX9 2, w ∈ wsX10_expectNumber := by decide +kernel
section
variable {p : Program} {l : Launch} {e : Env} {s : State} {m : MethodId} {below : List Frame} {meth : Method} {c : Code} {N0 : Nat} {T : Nat → ClassId} {D : va_G} {gr : List (Nat × Nat)} {ad : Nat → Nat → Nat → Nat}
set_option maxRecDepth 100000 in
set_option maxHeartbeats 4000000 in
theorem w_X10_expectNumber_b23 {a1 : Int32} {a2 : Int32} (C : Cx p s m [.ref (ad 6 0 0), .int a1, .int a2].toArray meth c cX10_expectNumber 5 wsX10_expectNumber RX10 N0 T D gr ad) (hrt : meth.sig.returnType = (some .int)) (hG : ∀ q ∈ [(6, 0), (5, 0)], q ∈ gr) {res : Int32 × Mem} : ∀ (n : Nat) (Y : Mem) (l4 : Int32) (l3 : Int32), X10_expectNumber_b23 a1 a2  n Y l4 l3 = some res → FW p l e (Rm 2) s m [.ref (ad 6 0 0), .int a1, .int a2].toArray below meth c 5 N0 T D gr ad 0 0 (MQ below (va_Qi (fun r Y1 => (r, Y1) = res) (WB T D gr ad) (fun q => N0 ≤ q)) [.ref (ad 6 0 0), .int a1, .int a2].toArray s 0 0 (fun q => N0 ≤ q)) Y 23 [(4, .int l4), (3, .int l3), (0, .ref (ad 6 0 0)), (1, .int a1), (2, .int a2)] [] := by
  intro n
  induction n with
  | zero =>
    intro Y l4 l3 h
    unfold X10_expectNumber_b23 at h
    cases h
  | succ n ih =>
    intro Y l4 l3 h
    unfold X10_expectNumber_b23 at h
    refine fw_iload C dX10_expectNumber_23 0 rfl ?_
    refine fw_aload_n C dX10_expectNumber_25 rfl 2 rfl ?_
    refine fw_get C (ci := 10) (Cn := RX10) (Tc := TX10) (N := 6) (j := 3) ly_X10_expectNumber_10 rfl (hG _ (List.mem_of_getElem? (i := 0) rfl)) (of6_0 _) (ce6 T ad _ _) (by decide) (cx_ts C _ fl_X10_expectNumber_22) (fun _ h => h) (v := .int (Y 6 0 0 3)) rfl dX10_expectNumber_26 ?_
    refine fw_icmp_ge C dX10_expectNumber_29 (tgt := 57) rfl (fun c4 => ?_) (fun c4 => ?_)
    · have h := ite_t c4 h
      refine fw_iload_n C dX10_expectNumber_57 rfl 1 rfl ?_
      refine fw_iload_n C dX10_expectNumber_58 rfl 3 rfl ?_
      refine fw_iload_n C dX10_expectNumber_59 rfl 4 rfl ?_
      obtain ⟨r5, q6, h⟩ := bd1_some h
      refine fw_callSNi C (As := [.int l3, .int a1, .int a2]) (c_X11_isWithin ga0 q6) ⟨(va_cnB 3 (cx_ts C) gX10_expectNumber_X11_isWithin_n47 rfl rfl rfl (cx_nw C (w := .methodLinkNest RX10 47 yX11_isWithin "RecipeScheduler") 290 (by decide +kernel) rfl) (cx_ts C _ in_X10_expectNumber_11) (by decide +kernel) ⟨Nat.le_of_ble_eq_true rfl, Nat.le_of_ble_eq_true rfl⟩), cx_ts C _ sw_X10_expectNumber_X11_isWithin, trivial⟩ rfl (st := []) rfl (Nat.le_of_ble_eq_true rfl) ⟨Nat.le_refl 0, Nat.le_refl 0⟩ dX10_expectNumber_60 (pp2 ?_)
      refine fw_if_ne C dX10_expectNumber_63 (tgt := 73) rfl (fun c7 => ?_) (fun c7 => ?_)
      · have h := ite_f c7 h
        refine fw_aload_n C dX10_expectNumber_73 rfl 2 rfl ?_
        obtain ⟨Y10, q9, h⟩ := bd1_some h
        refine fw_callVv C (ci := 10) (Cn := RX10) (Tc := TX10) (N := 6) (As := []) (c_X10_advance (gac (hG _ (List.mem_of_getElem? (i := 0) rfl)) (gac (hG _ (List.mem_of_getElem? (i := 1) rfl)) ga0)) q9) (cwV 0 (cx_ts C) gX10_expectNumber_X10_advance rfl rfl rfl (by decide +kernel) ⟨Nat.le_of_ble_eq_true rfl, Nat.le_of_ble_eq_true rfl⟩) rfl (hG _ (List.mem_of_getElem? (i := 0) rfl)) (of6_0 _) (ce6 T ad _ _) rfl (st := []) rfl (Nat.le_of_ble_eq_true rfl) ⟨Nat.le_refl 0, Nat.le_refl 0⟩ dX10_expectNumber_74 (ppv ?_)
        refine fw_iload_n C dX10_expectNumber_77 rfl 1 rfl ?_
        exact fw_iret C hrt Y10 (Option.some.inj h) (fun t ht => ht) dX10_expectNumber_78
      · have h := ite_t c7 h
        refine fw_aload_n C dX10_expectNumber_66 rfl 2 rfl ?_
        refine fw_iconst C dX10_expectNumber_67 (v := 2) rfl ?_
        obtain ⟨Y13, q12, h⟩ := bd1_some h
        refine fw_callVv C (ci := 10) (Cn := RX10) (Tc := TX10) (N := 6) (As := [.int 2]) (c_X10_fail (gac (hG _ (List.mem_of_getElem? (i := 0) rfl)) ga0) q12) (cwV 1 (cx_ts C) gX10_expectNumber_X10_fail rfl rfl rfl (by decide +kernel) ⟨Nat.le_of_ble_eq_true rfl, Nat.le_of_ble_eq_true rfl⟩) rfl (hG _ (List.mem_of_getElem? (i := 0) rfl)) (of6_0 _) (ce6 T ad _ _) rfl (st := []) rfl (Nat.le_of_ble_eq_true rfl) ⟨Nat.le_refl 0, Nat.le_refl 0⟩ dX10_expectNumber_68 (ppv ?_)
        refine fw_iload_n C dX10_expectNumber_71 rfl 3 rfl ?_
        exact fw_iret C hrt Y13 (Option.some.inj h) (fun t ht => ht) dX10_expectNumber_72
    · have h := ite_f c4 h
      refine fw_iload_n C dX10_expectNumber_32 rfl 1 rfl ?_
      refine fw_bipush C dX10_expectNumber_33 (v := 10) rfl ?_
      refine fw_imul C dX10_expectNumber_35 ?_
      refine fw_aload_n C dX10_expectNumber_36 rfl 2 rfl ?_
      refine fw_get C (ci := 10) (Cn := RX10) (Tc := TX10) (N := 6) (j := 0) ly_X10_expectNumber_10 rfl (hG _ (List.mem_of_getElem? (i := 0) rfl)) (of6_0 _) (ce6 T ad _ _) (by decide) (cx_ts C _ fl_X10_expectNumber_9) (fun _ h => h) (v := .ref (ad 5 0 0)) rfl dX10_expectNumber_37 ?_
      refine fw_getN C (ci := 9) (Cn := RX9) (Tc := TX9) (N := 2) (j := 0) ly_X10_expectNumber_9 rfl (hG _ (List.mem_of_getElem? (i := 1) rfl)) (of5_0 _) (ce5 T ad _ _) (by decide) (Nst_use (cx_nst C) (w := .fieldLinkNest RX10 36 "RecipeScheduler$Text" "bytes" "[B" "RecipeScheduler") 47 (by decide +kernel) rfl) (fun _ h => h) (v := .ref (ad 5 0 1)) rfl dX10_expectNumber_40 ?_
      refine fw_iload C dX10_expectNumber_43 0 rfl ?_
      obtain ⟨b14, h⟩ := gd_some h
      refine fw_bald2 C (hG _ (List.mem_of_getElem? (i := 1) rfl)) (of5_1 _) (ca5_1 T ad _ _) b14 (tcap_lt _) dX10_expectNumber_45 ?_
      refine fw_iadd C dX10_expectNumber_46 ?_
      refine fw_bipush C dX10_expectNumber_47 (v := 48) rfl ?_
      refine fw_isub C dX10_expectNumber_49 ?_
      obtain ⟨v15, e16, h⟩ := lt_some h
      refine fw_top (v' := .int v15) (by rw [e16]) ?_
      refine fw_istore_n C dX10_expectNumber_50 rfl (by decide) (L' := [(3, .int v15), (4, .int l4), (0, .ref (ad 6 0 0)), (1, .int a1), (2, .int a2)]) rfl ?_
      refine fw_iinc C dX10_expectNumber_51 (kk := 1) (v := l4 + 1) rfl rfl (by decide) (L' := [(4, .int (l4 + 1)), (3, .int v15), (0, .ref (ad 6 0 0)), (1, .int a1), (2, .int a2)]) rfl ?_
      refine fw_goto C dX10_expectNumber_54 (tgt := 23) rfl ?_
      exact ih _ _ _ h
set_option maxRecDepth 100000 in
set_option maxHeartbeats 4000000 in
theorem w_X10_expectNumber {Y : Mem} {a1 : Int32} {a2 : Int32} (C : Cx p s m [.ref (ad 6 0 0), .int a1, .int a2].toArray meth c cX10_expectNumber 5 wsX10_expectNumber RX10 N0 T D gr ad) (hrt : meth.sig.returnType = (some .int)) (hG : ∀ q ∈ [(6, 0), (5, 0)], q ∈ gr) {res : Int32 × Mem} (h : X10_expectNumber Y a1 a2 = some res) : FW p l e (Rm 2) s m [.ref (ad 6 0 0), .int a1, .int a2].toArray below meth c 5 N0 T D gr ad 0 0 (MQ below (va_Qi (fun r Y1 => (r, Y1) = res) (WB T D gr ad) (fun q => N0 ≤ q)) [.ref (ad 6 0 0), .int a1, .int a2].toArray s 0 0 (fun q => N0 ≤ q)) Y 0 [(0, .ref (ad 6 0 0)), (1, .int a1), (2, .int a2)] [] := by
  unfold X10_expectNumber at h
  refine fw_aload_n C dX10_expectNumber_0 rfl 0 rfl ?_
  refine fw_get C (ci := 10) (Cn := RX10) (Tc := TX10) (N := 6) (j := 1) ly_X10_expectNumber_10 rfl (hG _ (List.mem_of_getElem? (i := 0) rfl)) (of6_0 _) (ce6 T ad _ _) (by decide) (cx_ts C _ fl_X10_expectNumber_44) (fun _ h => h) (v := .int (Y 6 0 0 1)) rfl dX10_expectNumber_1 ?_
  refine fw_iconst C dX10_expectNumber_4 (v := 2) rfl ?_
  refine fw_icmp_eq C dX10_expectNumber_5 (tgt := 15) rfl (fun c1 => ?_) (fun c1 => ?_)
  · have h := ite_t c1 h
    refine fw_iconst C dX10_expectNumber_15 (v := 0) rfl ?_
    refine fw_istore_n C dX10_expectNumber_16 rfl (by decide) (L' := [(3, .int 0), (0, .ref (ad 6 0 0)), (1, .int a1), (2, .int a2)]) rfl ?_
    refine fw_aload_n C dX10_expectNumber_17 rfl 1 rfl ?_
    refine fw_get C (ci := 10) (Cn := RX10) (Tc := TX10) (N := 6) (j := 2) ly_X10_expectNumber_10 rfl (hG _ (List.mem_of_getElem? (i := 0) rfl)) (of6_0 _) (ce6 T ad _ _) (by decide) (cx_ts C _ fl_X10_expectNumber_28) (fun _ h => h) (v := .int (Y 6 0 0 2)) rfl dX10_expectNumber_18 ?_
    obtain ⟨v2, e3, h⟩ := lt_some h
    refine fw_top (v' := .int v2) (by rw [e3]) ?_
    refine fw_istore C dX10_expectNumber_21 (by decide) (L' := [(4, .int v2), (3, .int 0), (0, .ref (ad 6 0 0)), (1, .int a1), (2, .int a2)]) rfl ?_
    exact w_X10_expectNumber_b23 C hrt hG   _ _ _ _ h
  · have h := ite_f c1 h
    refine fw_aload_n C dX10_expectNumber_8 rfl 0 rfl ?_
    refine fw_iconst C dX10_expectNumber_9 (v := 1) rfl ?_
    obtain ⟨Y19, q18, h⟩ := bd1_some h
    refine fw_callVv C (ci := 10) (Cn := RX10) (Tc := TX10) (N := 6) (As := [.int 1]) (c_X10_fail (gac (hG _ (List.mem_of_getElem? (i := 0) rfl)) ga0) q18) (cwV 1 (cx_ts C) gX10_expectNumber_X10_fail rfl rfl rfl (by decide +kernel) ⟨Nat.le_of_ble_eq_true rfl, Nat.le_of_ble_eq_true rfl⟩) rfl (hG _ (List.mem_of_getElem? (i := 0) rfl)) (of6_0 _) (ce6 T ad _ _) rfl (st := []) rfl (Nat.le_of_ble_eq_true rfl) ⟨Nat.le_refl 0, Nat.le_refl 0⟩ dX10_expectNumber_10 (ppv ?_)
    refine fw_iload_n C dX10_expectNumber_13 rfl 1 rfl ?_
    exact fw_iret C hrt Y19 (Option.some.inj h) (fun t ht => ht) dX10_expectNumber_14
end
set_option maxRecDepth 100000 in
set_option maxHeartbeats 4000000 in
theorem c_X10_expectNumber {l : Launch} {N0 : Nat} {T : Nat → ClassId} {D : va_G} {gr : List (Nat × Nat)} {ad : Nat → Nat → Nat → Nat} {Y : Mem} {a1 : Int32} {a2 : Int32} {res : Int32 × Mem} (hG : ∀ q ∈ [(6, 0), (5, 0)], q ∈ gr) (h : X10_expectNumber Y a1 a2 = some res) : CI l yX10_expectNumber wsX10_expectNumber (Rm 2) N0 T D gr ad Y [.ref (ad 6 0 0), .int a1, .int a2] (fun r Y1 => (r, Y1) = res) :=
  fw_body (by decide +kernel) rfl (Nat.le_of_ble_eq_true rfl) (fun p e s m below meth c C hrt => w_X10_expectNumber C hrt hG  h)
theorem ly_X10_expectSemicolon_10 : ∀ w ∈ u_ws RX10 TX10 6, w ∈ wsX10_expectSemicolon := by decide +kernel
theorem fl_X10_expectSemicolon_44 : Cond.fieldLink RX10 44 "RecipeScheduler$Tokens" "kind" "I" ∈ wsX10_expectSemicolon := by decide +kernel
section
variable {p : Program} {l : Launch} {e : Env} {s : State} {m : MethodId} {below : List Frame} {meth : Method} {c : Code} {N0 : Nat} {T : Nat → ClassId} {D : va_G} {gr : List (Nat × Nat)} {ad : Nat → Nat → Nat → Nat}
set_option maxRecDepth 100000 in
set_option maxHeartbeats 4000000 in
theorem w_X10_expectSemicolon {Y : Mem} (C : Cx p s m [.ref (ad 6 0 0)].toArray meth c cX10_expectSemicolon 1 wsX10_expectSemicolon RX10 N0 T D gr ad) (hrt : meth.sig.returnType = none) (hG : ∀ q ∈ [(6, 0), (5, 0)], q ∈ gr) {res : Mem} (h : X10_expectSemicolon Y = some res) : FW p l e (Rm 2) s m [.ref (ad 6 0 0)].toArray below meth c 1 N0 T D gr ad 0 0 (MQ below (va_Qv (fun Y1 => Y1 = res) (WB T D gr ad) (fun q => N0 ≤ q)) [.ref (ad 6 0 0)].toArray s 0 0 (fun q => N0 ≤ q)) Y 0 [(0, .ref (ad 6 0 0))] [] := by
  unfold X10_expectSemicolon at h
  refine fw_aload_n C dX10_expectSemicolon_0 rfl 0 rfl ?_
  refine fw_get C (ci := 10) (Cn := RX10) (Tc := TX10) (N := 6) (j := 1) ly_X10_expectSemicolon_10 rfl (hG _ (List.mem_of_getElem? (i := 0) rfl)) (of6_0 _) (ce6 T ad _ _) (by decide) (cx_ts C _ fl_X10_expectSemicolon_44) (fun _ h => h) (v := .int (Y 6 0 0 1)) rfl dX10_expectSemicolon_1 ?_
  refine fw_iconst C dX10_expectSemicolon_4 (v := 3) rfl ?_
  refine fw_icmp_eq C dX10_expectSemicolon_5 (tgt := 14) rfl (fun c1 => ?_) (fun c1 => ?_)
  · have h := ite_t c1 h
    refine fw_aload_n C dX10_expectSemicolon_14 rfl 0 rfl ?_
    obtain ⟨Y4, q3, h⟩ := bd1_some h
    refine fw_callVv C (ci := 10) (Cn := RX10) (Tc := TX10) (N := 6) (As := []) (c_X10_advance (gac (hG _ (List.mem_of_getElem? (i := 0) rfl)) (gac (hG _ (List.mem_of_getElem? (i := 1) rfl)) ga0)) q3) (cwV 0 (cx_ts C) gX10_expectSemicolon_X10_advance rfl rfl rfl (by decide +kernel) ⟨Nat.le_of_ble_eq_true rfl, Nat.le_of_ble_eq_true rfl⟩) rfl (hG _ (List.mem_of_getElem? (i := 0) rfl)) (of6_0 _) (ce6 T ad _ _) rfl (st := []) rfl (Nat.le_of_ble_eq_true rfl) ⟨Nat.le_refl 0, Nat.le_refl 0⟩ dX10_expectSemicolon_15 (ppv ?_)
    exact fw_vret C hrt Y4 (Option.some.inj h) (fun t ht => ht) dX10_expectSemicolon_18
  · have h := ite_f c1 h
    refine fw_aload_n C dX10_expectSemicolon_8 rfl 0 rfl ?_
    refine fw_iconst C dX10_expectSemicolon_9 (v := 1) rfl ?_
    obtain ⟨Y7, q6, h⟩ := bd1_some h
    refine fw_callVv C (ci := 10) (Cn := RX10) (Tc := TX10) (N := 6) (As := [.int 1]) (c_X10_fail (gac (hG _ (List.mem_of_getElem? (i := 0) rfl)) ga0) q6) (cwV 1 (cx_ts C) gX10_expectSemicolon_X10_fail rfl rfl rfl (by decide +kernel) ⟨Nat.le_of_ble_eq_true rfl, Nat.le_of_ble_eq_true rfl⟩) rfl (hG _ (List.mem_of_getElem? (i := 0) rfl)) (of6_0 _) (ce6 T ad _ _) rfl (st := []) rfl (Nat.le_of_ble_eq_true rfl) ⟨Nat.le_refl 0, Nat.le_refl 0⟩ dX10_expectSemicolon_10 (ppv ?_)
    exact fw_vret C hrt Y7 (Option.some.inj h) (fun t ht => ht) dX10_expectSemicolon_13
end
set_option maxRecDepth 100000 in
set_option maxHeartbeats 4000000 in
theorem c_X10_expectSemicolon {l : Launch} {N0 : Nat} {T : Nat → ClassId} {D : va_G} {gr : List (Nat × Nat)} {ad : Nat → Nat → Nat → Nat} {Y : Mem} {res : Mem} (hG : ∀ q ∈ [(6, 0), (5, 0)], q ∈ gr) (h : X10_expectSemicolon Y = some res) : CV l yX10_expectSemicolon wsX10_expectSemicolon (Rm 2) N0 T D gr ad Y [.ref (ad 6 0 0)] (fun Y1 => Y1 = res) :=
  fw_body (by decide +kernel) rfl (Nat.le_of_ble_eq_true rfl) (fun p e s m below meth c C hrt => w_X10_expectSemicolon C hrt hG  h)
