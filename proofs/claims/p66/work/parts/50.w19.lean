theorem ly_X12_follows_12 : ∀ w ∈ u_ws RX12 TX12 12, w ∈ wsX12_follows := by decide +kernel
theorem fl_X12_follows_36 : Cond.fieldLink RX12 36 "RecipeSchedulerLaw$Kitchen" "many" "I" ∈ wsX12_follows := by decide +kernel
theorem fl_X12_follows_7 : Cond.fieldLink RX12 7 "RecipeSchedulerLaw$Kitchen" "status" "[I" ∈ wsX12_follows := by decide +kernel
section
variable {p : Program} {l : Launch} {e : Env} {s : State} {m : MethodId} {below : List Frame} {meth : Method} {c : Code} {N0 : Nat} {T : Nat → ClassId} {D : va_G} {gr : List (Nat × Nat)} {ad : Nat → Nat → Nat → Nat}
set_option maxRecDepth 100000 in
set_option maxHeartbeats 4000000 in
theorem w_X12_follows_b59 {Y : Mem} {a1 : Int32} {a2 : Int32} {a3 : Int32} (C : Cx p s m [.ref (ad 12 0 0), .int a1, .int a2, .int a3].toArray meth c cX12_follows 6 wsX12_follows RX12 N0 T D gr ad) (hrt : meth.sig.returnType = (some .boolean)) (hG : ∀ q ∈ ([(12, 0), (1, 0), (0, 0)] ++ allG), q ∈ gr) {res : Int32} {k8 : Int32 → Int32 → Option (Int32)} (hk8 : ∀ (l5 : Int32) (l4 : Int32), k8 l5 l4 = some res → FW p l e (Rm 4) s m [.ref (ad 12 0 0), .int a1, .int a2, .int a3].toArray below meth c 6 N0 T D gr ad 0 0 (MQ below (va_Qi (fun r Y1 => r = res ∧ Y1 = Y) (WB T D gr ad) (fun q => N0 ≤ q)) [.ref (ad 12 0 0), .int a1, .int a2, .int a3].toArray s 0 0 (fun q => N0 ≤ q)) Y 8 [(5, .int l5), (4, .int l4), (0, .ref (ad 12 0 0)), (1, .int a1), (2, .int a2), (3, .int a3)] []) (l5 : Int32) (s0 : Int32) (h : X12_follows_b59 Y a1 a2 a3 k8 l5 s0 = some res) : FW p l e (Rm 4) s m [.ref (ad 12 0 0), .int a1, .int a2, .int a3].toArray below meth c 6 N0 T D gr ad 0 0 (MQ below (va_Qi (fun r Y1 => r = res ∧ Y1 = Y) (WB T D gr ad) (fun q => N0 ≤ q)) [.ref (ad 12 0 0), .int a1, .int a2, .int a3].toArray s 0 0 (fun q => N0 ≤ q)) Y 59 [(5, .int l5), (0, .ref (ad 12 0 0)), (1, .int a1), (2, .int a2), (3, .int a3)] [.int s0] := by
  unfold X12_follows_b59 at h
  refine fw_istore C dX12_follows_59 (by decide) (L' := [(4, .int s0), (5, .int l5), (0, .ref (ad 12 0 0)), (1, .int a1), (2, .int a2), (3, .int a3)]) rfl ?_
  refine fw_iinc C dX12_follows_61 (kk := 1) (v := l5 + 1) rfl rfl (by decide) (L' := [(5, .int (l5 + 1)), (4, .int s0), (0, .ref (ad 12 0 0)), (1, .int a1), (2, .int a2), (3, .int a3)]) rfl ?_
  refine fw_goto C dX12_follows_64 (tgt := 8) rfl ?_
  exact hk8 _ _ h
set_option maxRecDepth 100000 in
set_option maxHeartbeats 4000000 in
theorem w_X12_follows_b54 {Y : Mem} {a1 : Int32} {a2 : Int32} {a3 : Int32} (C : Cx p s m [.ref (ad 12 0 0), .int a1, .int a2, .int a3].toArray meth c cX12_follows 6 wsX12_follows RX12 N0 T D gr ad) (hrt : meth.sig.returnType = (some .boolean)) (hG : ∀ q ∈ ([(12, 0), (1, 0), (0, 0)] ++ allG), q ∈ gr) {res : Int32} {k8 : Int32 → Int32 → Option (Int32)} (hk8 : ∀ (l5 : Int32) (l4 : Int32), k8 l5 l4 = some res → FW p l e (Rm 4) s m [.ref (ad 12 0 0), .int a1, .int a2, .int a3].toArray below meth c 6 N0 T D gr ad 0 0 (MQ below (va_Qi (fun r Y1 => r = res ∧ Y1 = Y) (WB T D gr ad) (fun q => N0 ≤ q)) [.ref (ad 12 0 0), .int a1, .int a2, .int a3].toArray s 0 0 (fun q => N0 ≤ q)) Y 8 [(5, .int l5), (4, .int l4), (0, .ref (ad 12 0 0)), (1, .int a1), (2, .int a2), (3, .int a3)] []) (l5 : Int32) (h : X12_follows_b54 Y a1 a2 a3 k8 l5 = some res) : FW p l e (Rm 4) s m [.ref (ad 12 0 0), .int a1, .int a2, .int a3].toArray below meth c 6 N0 T D gr ad 0 0 (MQ below (va_Qi (fun r Y1 => r = res ∧ Y1 = Y) (WB T D gr ad) (fun q => N0 ≤ q)) [.ref (ad 12 0 0), .int a1, .int a2, .int a3].toArray s 0 0 (fun q => N0 ≤ q)) Y 54 [(5, .int l5), (0, .ref (ad 12 0 0)), (1, .int a1), (2, .int a2), (3, .int a3)] [] := by
  unfold X12_follows_b54 at h
  refine fw_iconst C dX12_follows_54 (v := 1) rfl ?_
  refine fw_goto C dX12_follows_55 (tgt := 59) rfl ?_
  exact w_X12_follows_b59 C hrt hG  hk8 _ _ h
set_option maxRecDepth 100000 in
set_option maxHeartbeats 4000000 in
theorem w_X12_follows_b58 {Y : Mem} {a1 : Int32} {a2 : Int32} {a3 : Int32} (C : Cx p s m [.ref (ad 12 0 0), .int a1, .int a2, .int a3].toArray meth c cX12_follows 6 wsX12_follows RX12 N0 T D gr ad) (hrt : meth.sig.returnType = (some .boolean)) (hG : ∀ q ∈ ([(12, 0), (1, 0), (0, 0)] ++ allG), q ∈ gr) {res : Int32} {k8 : Int32 → Int32 → Option (Int32)} (hk8 : ∀ (l5 : Int32) (l4 : Int32), k8 l5 l4 = some res → FW p l e (Rm 4) s m [.ref (ad 12 0 0), .int a1, .int a2, .int a3].toArray below meth c 6 N0 T D gr ad 0 0 (MQ below (va_Qi (fun r Y1 => r = res ∧ Y1 = Y) (WB T D gr ad) (fun q => N0 ≤ q)) [.ref (ad 12 0 0), .int a1, .int a2, .int a3].toArray s 0 0 (fun q => N0 ≤ q)) Y 8 [(5, .int l5), (4, .int l4), (0, .ref (ad 12 0 0)), (1, .int a1), (2, .int a2), (3, .int a3)] []) (l5 : Int32) (h : X12_follows_b58 Y a1 a2 a3 k8 l5 = some res) : FW p l e (Rm 4) s m [.ref (ad 12 0 0), .int a1, .int a2, .int a3].toArray below meth c 6 N0 T D gr ad 0 0 (MQ below (va_Qi (fun r Y1 => r = res ∧ Y1 = Y) (WB T D gr ad) (fun q => N0 ≤ q)) [.ref (ad 12 0 0), .int a1, .int a2, .int a3].toArray s 0 0 (fun q => N0 ≤ q)) Y 58 [(5, .int l5), (0, .ref (ad 12 0 0)), (1, .int a1), (2, .int a2), (3, .int a3)] [] := by
  unfold X12_follows_b58 at h
  refine fw_iconst C dX12_follows_58 (v := 0) rfl ?_
  exact w_X12_follows_b59 C hrt hG  hk8 _ _ h
set_option maxRecDepth 100000 in
set_option maxHeartbeats 4000000 in
theorem w_X12_follows_b8 {Y : Mem} {a1 : Int32} {a2 : Int32} {a3 : Int32} (C : Cx p s m [.ref (ad 12 0 0), .int a1, .int a2, .int a3].toArray meth c cX12_follows 6 wsX12_follows RX12 N0 T D gr ad) (hrt : meth.sig.returnType = (some .boolean)) (hG : ∀ q ∈ ([(12, 0), (1, 0), (0, 0)] ++ allG), q ∈ gr) {res : Int32} : ∀ (n : Nat) (l5 : Int32) (l4 : Int32), X12_follows_b8 Y a1 a2 a3  n l5 l4 = some res → FW p l e (Rm 4) s m [.ref (ad 12 0 0), .int a1, .int a2, .int a3].toArray below meth c 6 N0 T D gr ad 0 0 (MQ below (va_Qi (fun r Y1 => r = res ∧ Y1 = Y) (WB T D gr ad) (fun q => N0 ≤ q)) [.ref (ad 12 0 0), .int a1, .int a2, .int a3].toArray s 0 0 (fun q => N0 ≤ q)) Y 8 [(5, .int l5), (4, .int l4), (0, .ref (ad 12 0 0)), (1, .int a1), (2, .int a2), (3, .int a3)] [] := by
  intro n
  induction n with
  | zero =>
    intro l5 l4 h
    unfold X12_follows_b8 at h
    cases h
  | succ n ih =>
    intro l5 l4 h
    unfold X12_follows_b8 at h
    refine fw_iload C dX12_follows_8 0 rfl ?_
    refine fw_aload_n C dX12_follows_10 rfl 2 rfl ?_
    refine fw_get C (ci := 12) (Cn := RX12) (Tc := TX12) (N := 12) (j := 1) ly_X12_follows_12 rfl (hG _ (List.mem_of_getElem? (i := 0) rfl)) (of12_0 _) (ce12 T ad _ _) (by decide) (cx_ts C _ fl_X12_follows_36) (fun _ h => h) (v := .int (Y 12 0 0 1)) rfl dX12_follows_11 ?_
    refine fw_icmp_ge C dX12_follows_14 (tgt := 67) rfl (fun c3 => ?_) (fun c3 => ?_)
    · have h := ite_t c3 h
      refine fw_iload C dX12_follows_67 1 rfl ?_
      obtain ⟨b4, h⟩ := gd_some h
      exact fw_zret C hrt (of_decide_eq_true b4) Y ⟨Option.some.inj h, rfl⟩ (fun t ht => ht) dX12_follows_69
    · have h := ite_f c3 h
      refine fw_iload C dX12_follows_17 1 rfl ?_
      refine fw_if_ne C dX12_follows_19 (tgt := 54) rfl (fun c5 => ?_) (fun c5 => ?_)
      · have h := ite_f c5 h
        refine fw_sub [0, 2, 3, 4, 5] (L' := [(5, .int l5), (0, .ref (ad 12 0 0)), (1, .int a1), (2, .int a2), (3, .int a3)]) rfl ?_
        exact w_X12_follows_b54 C hrt hG  ih _ h
      · have h := ite_t c5 h
        refine fw_aload_n C dX12_follows_22 rfl 2 rfl ?_
        refine fw_iload C dX12_follows_23 0 rfl ?_
        refine fw_iload_n C dX12_follows_25 rfl 3 rfl ?_
        obtain ⟨r6, q7, h⟩ := bd1_some h
        refine fw_callVi C (ci := 12) (Cn := RX12) (Tc := TX12) (N := 12) (As := [.int l5, .int a1]) (c_X12_isAfter (gac (hG _ (List.mem_of_getElem? (i := 0) rfl)) (gac (hG _ (List.mem_of_getElem? (i := 2) rfl)) (gac (hG _ (List.mem_of_getElem? (i := 1) rfl)) (fun q hq => hG q (List.mem_append_right _ hq))))) q7) (cwV 2 (cx_ts C) gX12_follows_X12_isAfter rfl rfl rfl (by decide +kernel) ⟨Nat.le_of_ble_eq_true rfl, Nat.le_of_ble_eq_true rfl⟩) rfl (hG _ (List.mem_of_getElem? (i := 0) rfl)) (of12_0 _) (ce12 T ad _ _) rfl (st := []) rfl (Nat.le_of_ble_eq_true rfl) ⟨Nat.le_refl 0, Nat.le_refl 0⟩ dX12_follows_26 (pp2 ?_)
        refine fw_if_eq C dX12_follows_29 (tgt := 58) rfl (fun c8 => ?_) (fun c8 => ?_)
        · have h := ite_t c8 h
          refine fw_sub [0, 2, 3, 4, 5] (L' := [(5, .int l5), (0, .ref (ad 12 0 0)), (1, .int a1), (2, .int a2), (3, .int a3)]) rfl ?_
          exact w_X12_follows_b58 C hrt hG  ih _ h
        · have h := ite_f c8 h
          refine fw_aload_n C dX12_follows_32 rfl 2 rfl ?_
          refine fw_get C (ci := 12) (Cn := RX12) (Tc := TX12) (N := 12) (j := 3) ly_X12_follows_12 rfl (hG _ (List.mem_of_getElem? (i := 0) rfl)) (of12_0 _) (ce12 T ad _ _) (by decide) (cx_ts C _ fl_X12_follows_7) (fun _ h => h) (v := .ref (ad 12 0 1)) rfl dX12_follows_33 ?_
          refine fw_iload C dX12_follows_36 0 rfl ?_
          obtain ⟨b9, h⟩ := gd_some h
          refine fw_iald2 C (hG _ (List.mem_of_getElem? (i := 0) rfl)) (of12_1 _) (ca12_1 T ad _ _) b9 (Nat.le_of_ble_eq_true rfl) dX12_follows_38 ?_
          refine fw_iload_n C dX12_follows_39 rfl 4 rfl ?_
          refine fw_icmp_eq C dX12_follows_40 (tgt := 54) rfl (fun c10 => ?_) (fun c10 => ?_)
          · have h := ite_t c10 h
            refine fw_sub [0, 2, 3, 4, 5] (L' := [(5, .int l5), (0, .ref (ad 12 0 0)), (1, .int a1), (2, .int a2), (3, .int a3)]) rfl ?_
            exact w_X12_follows_b54 C hrt hG  ih _ h
          · have h := ite_f c10 h
            refine fw_aload_n C dX12_follows_43 rfl 2 rfl ?_
            refine fw_get C (ci := 12) (Cn := RX12) (Tc := TX12) (N := 12) (j := 3) ly_X12_follows_12 rfl (hG _ (List.mem_of_getElem? (i := 0) rfl)) (of12_0 _) (ce12 T ad _ _) (by decide) (cx_ts C _ fl_X12_follows_7) (fun _ h => h) (v := .ref (ad 12 0 1)) rfl dX12_follows_44 ?_
            refine fw_iload C dX12_follows_47 0 rfl ?_
            refine fw_iald2 C (hG _ (List.mem_of_getElem? (i := 0) rfl)) (of12_1 _) (ca12_1 T ad _ _) b9 (Nat.le_of_ble_eq_true rfl) dX12_follows_49 ?_
            refine fw_iload_n C dX12_follows_50 rfl 5 rfl ?_
            refine fw_icmp_ne C dX12_follows_51 (tgt := 58) rfl (fun c11 => ?_) (fun c11 => ?_)
            · have h := ite_f c11 h
              refine fw_sub [0, 2, 3, 4, 5] (L' := [(5, .int l5), (0, .ref (ad 12 0 0)), (1, .int a1), (2, .int a2), (3, .int a3)]) rfl ?_
              exact w_X12_follows_b58 C hrt hG  ih _ h
            · have h := ite_t c11 h
              refine fw_sub [0, 2, 3, 4, 5] (L' := [(5, .int l5), (0, .ref (ad 12 0 0)), (1, .int a1), (2, .int a2), (3, .int a3)]) rfl ?_
              exact w_X12_follows_b54 C hrt hG  ih _ h
set_option maxRecDepth 100000 in
set_option maxHeartbeats 4000000 in
theorem w_X12_follows {Y : Mem} {a1 : Int32} {a2 : Int32} {a3 : Int32} (C : Cx p s m [.ref (ad 12 0 0), .int a1, .int a2, .int a3].toArray meth c cX12_follows 6 wsX12_follows RX12 N0 T D gr ad) (hrt : meth.sig.returnType = (some .boolean)) (hG : ∀ q ∈ ([(12, 0), (1, 0), (0, 0)] ++ allG), q ∈ gr) {res : Int32} (h : X12_follows Y a1 a2 a3 = some res) : FW p l e (Rm 4) s m [.ref (ad 12 0 0), .int a1, .int a2, .int a3].toArray below meth c 6 N0 T D gr ad 0 0 (MQ below (va_Qi (fun r Y1 => r = res ∧ Y1 = Y) (WB T D gr ad) (fun q => N0 ≤ q)) [.ref (ad 12 0 0), .int a1, .int a2, .int a3].toArray s 0 0 (fun q => N0 ≤ q)) Y 0 [(0, .ref (ad 12 0 0)), (1, .int a1), (2, .int a2), (3, .int a3)] [] := by
  unfold X12_follows at h
  refine fw_iconst C dX12_follows_0 (v := 0) rfl ?_
  refine fw_istore C dX12_follows_1 (by decide) (L' := [(4, .int 0), (0, .ref (ad 12 0 0)), (1, .int a1), (2, .int a2), (3, .int a3)]) rfl ?_
  refine fw_iload_n C dX12_follows_3 rfl 2 rfl ?_
  refine fw_iconst C dX12_follows_4 (v := 1) rfl ?_
  refine fw_iadd C dX12_follows_5 ?_
  obtain ⟨v1, e2, h⟩ := lt_some h
  refine fw_top (v' := .int v1) (by rw [e2]) ?_
  refine fw_istore C dX12_follows_6 (by decide) (L' := [(5, .int v1), (4, .int 0), (0, .ref (ad 12 0 0)), (1, .int a1), (2, .int a2), (3, .int a3)]) rfl ?_
  exact w_X12_follows_b8 C hrt hG   _ _ _ h
end
set_option maxRecDepth 100000 in
set_option maxHeartbeats 4000000 in
theorem c_X12_follows {l : Launch} {N0 : Nat} {T : Nat → ClassId} {D : va_G} {gr : List (Nat × Nat)} {ad : Nat → Nat → Nat → Nat} {Y : Mem} {a1 : Int32} {a2 : Int32} {a3 : Int32} {res : Int32} (hG : ∀ q ∈ ([(12, 0), (1, 0), (0, 0)] ++ allG), q ∈ gr) (h : X12_follows Y a1 a2 a3 = some res) : CI l yX12_follows wsX12_follows (Rm 4) N0 T D gr ad Y [.ref (ad 12 0 0), .int a1, .int a2, .int a3] (fun r Y1 => r = res ∧ Y1 = Y) :=
  fw_body (by decide +kernel) rfl (Nat.le_of_ble_eq_true rfl) (fun p e s m below meth c C hrt => w_X12_follows C hrt hG  h)
theorem ly_X12_canStart_12 : ∀ w ∈ u_ws RX12 TX12 12, w ∈ wsX12_canStart := by decide +kernel
theorem fl_X12_canStart_22 : Cond.fieldLink RX12 22 "RecipeSchedulerLaw$Kitchen" "x" "LRecipeScheduler;" ∈ wsX12_canStart := by decide +kernel
theorem fl_X12_canStart_36 : Cond.fieldLink RX12 36 "RecipeSchedulerLaw$Kitchen" "many" "I" ∈ wsX12_canStart := by decide +kernel
theorem fl_X12_canStart_7 : Cond.fieldLink RX12 7 "RecipeSchedulerLaw$Kitchen" "status" "[I" ∈ wsX12_canStart := by decide +kernel
section
variable {p : Program} {l : Launch} {e : Env} {s : State} {m : MethodId} {below : List Frame} {meth : Method} {c : Code} {N0 : Nat} {T : Nat → ClassId} {D : va_G} {gr : List (Nat × Nat)} {ad : Nat → Nat → Nat → Nat}
set_option maxRecDepth 100000 in
set_option maxHeartbeats 4000000 in
theorem w_X12_canStart_b153 {Y : Mem} {a1 : Int32} (C : Cx p s m [.ref (ad 12 0 0), .int a1].toArray meth c cX12_canStart 6 wsX12_canStart RX12 N0 T D gr ad) (hrt : meth.sig.returnType = (some .boolean)) (hG : ∀ q ∈ ([(12, 0), (0, 0), (1, 0), (2, 0)] ++ allG), q ∈ gr) {res : Int32}  (h : X12_canStart_b153 Y a1   = some res) : FW p l e (Rm 5) s m [.ref (ad 12 0 0), .int a1].toArray below meth c 6 N0 T D gr ad 0 0 (MQ below (va_Qi (fun r Y1 => r = res ∧ Y1 = Y) (WB T D gr ad) (fun q => N0 ≤ q)) [.ref (ad 12 0 0), .int a1].toArray s 0 0 (fun q => N0 ≤ q)) Y 153 [] [] := by
  unfold X12_canStart_b153 at h
  refine fw_iconst C dX12_canStart_153 (v := 1) rfl ?_
  refine fw_goto C dX12_canStart_154 (tgt := 158) rfl ?_
  exact fw_zret C hrt (by decide) Y ⟨Option.some.inj h, rfl⟩ (fun t ht => ht) dX12_canStart_158
set_option maxRecDepth 100000 in
set_option maxHeartbeats 4000000 in
theorem w_X12_canStart_b135 {Y : Mem} {a1 : Int32} (C : Cx p s m [.ref (ad 12 0 0), .int a1].toArray meth c cX12_canStart 6 wsX12_canStart RX12 N0 T D gr ad) (hrt : meth.sig.returnType = (some .boolean)) (hG : ∀ q ∈ ([(12, 0), (0, 0), (1, 0), (2, 0)] ++ allG), q ∈ gr) {res : Int32} (l4 : Int32) (l3 : Int32) (h : X12_canStart_b135 Y a1  l4 l3 = some res) : FW p l e (Rm 5) s m [.ref (ad 12 0 0), .int a1].toArray below meth c 6 N0 T D gr ad 0 0 (MQ below (va_Qi (fun r Y1 => r = res ∧ Y1 = Y) (WB T D gr ad) (fun q => N0 ≤ q)) [.ref (ad 12 0 0), .int a1].toArray s 0 0 (fun q => N0 ≤ q)) Y 135 [(4, .int l4), (3, .int l3), (0, .ref (ad 12 0 0))] [] := by
  unfold X12_canStart_b135 at h
  refine fw_iload C dX12_canStart_135 0 rfl ?_
  refine fw_if_lt C dX12_canStart_137 (tgt := 153) rfl (fun c7 => ?_) (fun c7 => ?_)
  · have h := ite_t c7 h
    refine fw_sub [] (L' := []) rfl ?_
    exact w_X12_canStart_b153 C hrt hG    h
  · have h := ite_f c7 h
    refine fw_iload_n C dX12_canStart_140 rfl 1 rfl ?_
    refine fw_aload_n C dX12_canStart_141 rfl 2 rfl ?_
    refine fw_get C (ci := 12) (Cn := RX12) (Tc := TX12) (N := 12) (j := 0) ly_X12_canStart_12 rfl (hG _ (List.mem_of_getElem? (i := 0) rfl)) (of12_0 _) (ce12 T ad _ _) (by decide) (cx_ts C _ fl_X12_canStart_22) (fun _ h => h) (v := .ref (ad 0 0 0)) rfl dX12_canStart_142 ?_
    refine fw_iload C dX12_canStart_145 0 rfl ?_
    obtain ⟨r8, q9, h⟩ := bd1_some h
    refine fw_callVi C (ci := 11) (Cn := RX11) (Tc := TX11) (N := 11) (As := [.int l4]) (c_X11_panCapacity (gac (hG _ (List.mem_of_getElem? (i := 2) rfl)) (gac (hG _ (List.mem_of_getElem? (i := 1) rfl)) (fun q hq => hG q (List.mem_append_right _ hq)))) q9) (cwV 1 (cx_ts C) gX12_canStart_X11_panCapacity rfl rfl rfl (by decide +kernel) ⟨Nat.le_of_ble_eq_true rfl, Nat.le_of_ble_eq_true rfl⟩) rfl (hG _ (List.mem_of_getElem? (i := 1) rfl)) (of0_0 _) (ce0 T ad _ _) rfl (st := [.int l3]) rfl (Nat.le_of_ble_eq_true rfl) ⟨Nat.le_refl 0, Nat.le_refl 0⟩ dX12_canStart_147 (pp2 ?_)
    refine fw_icmp_ge C dX12_canStart_150 (tgt := 157) rfl (fun c10 => ?_) (fun c10 => ?_)
    · have h := ite_t c10 h
      refine fw_iconst C dX12_canStart_157 (v := 0) rfl ?_
      exact fw_zret C hrt (by decide) Y ⟨Option.some.inj h, rfl⟩ (fun t ht => ht) dX12_canStart_158
    · have h := ite_f c10 h
      refine fw_sub [] (L' := []) rfl ?_
      exact w_X12_canStart_b153 C hrt hG    h
set_option maxRecDepth 100000 in
set_option maxHeartbeats 4000000 in
theorem w_X12_canStart_b107 {Y : Mem} {a1 : Int32} (C : Cx p s m [.ref (ad 12 0 0), .int a1].toArray meth c cX12_canStart 6 wsX12_canStart RX12 N0 T D gr ad) (hrt : meth.sig.returnType = (some .boolean)) (hG : ∀ q ∈ ([(12, 0), (0, 0), (1, 0), (2, 0)] ++ allG), q ∈ gr) {res : Int32} {k17 : Int32 → Int32 → Int32 → Int32 → Option (Int32)} (hk17 : ∀ (l5 : Int32) (l4 : Int32) (l3 : Int32) (l2 : Int32), k17 l5 l4 l3 l2 = some res → FW p l e (Rm 5) s m [.ref (ad 12 0 0), .int a1].toArray below meth c 6 N0 T D gr ad 0 0 (MQ below (va_Qi (fun r Y1 => r = res ∧ Y1 = Y) (WB T D gr ad) (fun q => N0 ≤ q)) [.ref (ad 12 0 0), .int a1].toArray s 0 0 (fun q => N0 ≤ q)) Y 17 [(5, .int l5), (4, .int l4), (3, .int l3), (2, .int l2), (0, .ref (ad 12 0 0)), (1, .int a1)] []) (l5 : Int32) (l4 : Int32) (l3 : Int32) (l2 : Int32) (h : X12_canStart_b107 Y a1 k17 l5 l4 l3 l2 = some res) : FW p l e (Rm 5) s m [.ref (ad 12 0 0), .int a1].toArray below meth c 6 N0 T D gr ad 0 0 (MQ below (va_Qi (fun r Y1 => r = res ∧ Y1 = Y) (WB T D gr ad) (fun q => N0 ≤ q)) [.ref (ad 12 0 0), .int a1].toArray s 0 0 (fun q => N0 ≤ q)) Y 107 [(5, .int l5), (4, .int l4), (3, .int l3), (2, .int l2), (0, .ref (ad 12 0 0)), (1, .int a1)] [] := by
  unfold X12_canStart_b107 at h
  refine fw_iinc C dX12_canStart_107 (kk := 0) (v := l5 + 1) rfl rfl (by decide) (L' := [(5, .int (l5 + 1)), (4, .int l4), (3, .int l3), (2, .int l2), (0, .ref (ad 12 0 0)), (1, .int a1)]) rfl ?_
  refine fw_goto C dX12_canStart_110 (tgt := 17) rfl ?_
  exact hk17 _ _ _ _ h
set_option maxRecDepth 100000 in
set_option maxHeartbeats 4000000 in
theorem w_X12_canStart_b104 {Y : Mem} {a1 : Int32} (C : Cx p s m [.ref (ad 12 0 0), .int a1].toArray meth c cX12_canStart 6 wsX12_canStart RX12 N0 T D gr ad) (hrt : meth.sig.returnType = (some .boolean)) (hG : ∀ q ∈ ([(12, 0), (0, 0), (1, 0), (2, 0)] ++ allG), q ∈ gr) {res : Int32} {k17 : Int32 → Int32 → Int32 → Int32 → Option (Int32)} (hk17 : ∀ (l5 : Int32) (l4 : Int32) (l3 : Int32) (l2 : Int32), k17 l5 l4 l3 l2 = some res → FW p l e (Rm 5) s m [.ref (ad 12 0 0), .int a1].toArray below meth c 6 N0 T D gr ad 0 0 (MQ below (va_Qi (fun r Y1 => r = res ∧ Y1 = Y) (WB T D gr ad) (fun q => N0 ≤ q)) [.ref (ad 12 0 0), .int a1].toArray s 0 0 (fun q => N0 ≤ q)) Y 17 [(5, .int l5), (4, .int l4), (3, .int l3), (2, .int l2), (0, .ref (ad 12 0 0)), (1, .int a1)] []) (l5 : Int32) (l4 : Int32) (l3 : Int32) (l2 : Int32) (h : X12_canStart_b104 Y a1 k17 l5 l4 l3 l2 = some res) : FW p l e (Rm 5) s m [.ref (ad 12 0 0), .int a1].toArray below meth c 6 N0 T D gr ad 0 0 (MQ below (va_Qi (fun r Y1 => r = res ∧ Y1 = Y) (WB T D gr ad) (fun q => N0 ≤ q)) [.ref (ad 12 0 0), .int a1].toArray s 0 0 (fun q => N0 ≤ q)) Y 104 [(5, .int l5), (4, .int l4), (3, .int l3), (2, .int l2), (0, .ref (ad 12 0 0)), (1, .int a1)] [] := by
  unfold X12_canStart_b104 at h
  refine fw_iinc C dX12_canStart_104 (kk := 2) (v := l3 + 1) rfl rfl (by decide) (L' := [(3, .int (l3 + 1)), (5, .int l5), (4, .int l4), (2, .int l2), (0, .ref (ad 12 0 0)), (1, .int a1)]) rfl ?_
  refine fw_sub [1, 2, 0, 3, 4, 5] (L' := [(5, .int l5), (4, .int l4), (3, .int (l3 + 1)), (2, .int l2), (0, .ref (ad 12 0 0)), (1, .int a1)]) rfl ?_
  exact w_X12_canStart_b107 C hrt hG  hk17 _ _ _ _ h
set_option maxRecDepth 100000 in
set_option maxHeartbeats 4000000 in
theorem w_X12_canStart_b52 {Y : Mem} {a1 : Int32} (C : Cx p s m [.ref (ad 12 0 0), .int a1].toArray meth c cX12_canStart 6 wsX12_canStart RX12 N0 T D gr ad) (hrt : meth.sig.returnType = (some .boolean)) (hG : ∀ q ∈ ([(12, 0), (0, 0), (1, 0), (2, 0)] ++ allG), q ∈ gr) {res : Int32} {k17 : Int32 → Int32 → Int32 → Int32 → Option (Int32)} (hk17 : ∀ (l5 : Int32) (l4 : Int32) (l3 : Int32) (l2 : Int32), k17 l5 l4 l3 l2 = some res → FW p l e (Rm 5) s m [.ref (ad 12 0 0), .int a1].toArray below meth c 6 N0 T D gr ad 0 0 (MQ below (va_Qi (fun r Y1 => r = res ∧ Y1 = Y) (WB T D gr ad) (fun q => N0 ≤ q)) [.ref (ad 12 0 0), .int a1].toArray s 0 0 (fun q => N0 ≤ q)) Y 17 [(5, .int l5), (4, .int l4), (3, .int l3), (2, .int l2), (0, .ref (ad 12 0 0)), (1, .int a1)] []) (l5 : Int32) (l4 : Int32) (l3 : Int32) (l2 : Int32) (h : X12_canStart_b52 Y a1 k17 l5 l4 l3 l2 = some res) : FW p l e (Rm 5) s m [.ref (ad 12 0 0), .int a1].toArray below meth c 6 N0 T D gr ad 0 0 (MQ below (va_Qi (fun r Y1 => r = res ∧ Y1 = Y) (WB T D gr ad) (fun q => N0 ≤ q)) [.ref (ad 12 0 0), .int a1].toArray s 0 0 (fun q => N0 ≤ q)) Y 52 [(5, .int l5), (4, .int l4), (3, .int l3), (2, .int l2), (0, .ref (ad 12 0 0)), (1, .int a1)] [] := by
  unfold X12_canStart_b52 at h
  refine fw_iload C dX12_canStart_52 1 rfl ?_
  refine fw_if_lt C dX12_canStart_54 (tgt := 107) rfl (fun c16 => ?_) (fun c16 => ?_)
  · have h := ite_t c16 h
    exact w_X12_canStart_b107 C hrt hG  hk17 _ _ _ _ h
  · have h := ite_f c16 h
    refine fw_aload_n C dX12_canStart_57 rfl 4 rfl ?_
    refine fw_get C (ci := 12) (Cn := RX12) (Tc := TX12) (N := 12) (j := 0) ly_X12_canStart_12 rfl (hG _ (List.mem_of_getElem? (i := 0) rfl)) (of12_0 _) (ce12 T ad _ _) (by decide) (cx_ts C _ fl_X12_canStart_22) (fun _ h => h) (v := .ref (ad 0 0 0)) rfl dX12_canStart_58 ?_
    refine fw_iload C dX12_canStart_61 0 rfl ?_
    obtain ⟨r17, q18, h⟩ := bd1_some h
    refine fw_callVi C (ci := 11) (Cn := RX11) (Tc := TX11) (N := 11) (As := [.int l5]) (c_X11_panType (gac (hG _ (List.mem_of_getElem? (i := 2) rfl)) (gac (hG _ (List.mem_of_getElem? (i := 1) rfl)) (fun q hq => hG q (List.mem_append_right _ hq)))) q18) (cwV 1 (cx_ts C) gX12_canStart_X11_panType rfl rfl rfl (by decide +kernel) ⟨Nat.le_of_ble_eq_true rfl, Nat.le_of_ble_eq_true rfl⟩) rfl (hG _ (List.mem_of_getElem? (i := 1) rfl)) (of0_0 _) (ce0 T ad _ _) rfl (st := []) rfl (Nat.le_of_ble_eq_true rfl) ⟨Nat.le_refl 0, Nat.le_refl 0⟩ dX12_canStart_63 (pp2 ?_)
    refine fw_iload C dX12_canStart_66 1 rfl ?_
    refine fw_icmp_ne C dX12_canStart_68 (tgt := 107) rfl (fun c19 => ?_) (fun c19 => ?_)
    · have h := ite_f c19 h
      exact w_X12_canStart_b107 C hrt hG  hk17 _ _ _ _ h
    · have h := ite_t c19 h
      refine fw_aload_n C dX12_canStart_71 rfl 4 rfl ?_
      refine fw_get C (ci := 12) (Cn := RX12) (Tc := TX12) (N := 12) (j := 3) ly_X12_canStart_12 rfl (hG _ (List.mem_of_getElem? (i := 0) rfl)) (of12_0 _) (ce12 T ad _ _) (by decide) (cx_ts C _ fl_X12_canStart_7) (fun _ h => h) (v := .ref (ad 12 0 1)) rfl dX12_canStart_72 ?_
      refine fw_iload C dX12_canStart_75 0 rfl ?_
      obtain ⟨b20, h⟩ := gd_some h
      refine fw_iald2 C (hG _ (List.mem_of_getElem? (i := 0) rfl)) (of12_1 _) (ca12_1 T ad _ _) b20 (Nat.le_of_ble_eq_true rfl) dX12_canStart_77 ?_
      refine fw_iconst C dX12_canStart_78 (v := 1) rfl ?_
      refine fw_icmp_eq C dX12_canStart_79 (tgt := 104) rfl (fun c21 => ?_) (fun c21 => ?_)
      · have h := ite_t c21 h
        exact w_X12_canStart_b104 C hrt hG  hk17 _ _ _ _ h
      · have h := ite_f c21 h
        refine fw_aload_n C dX12_canStart_82 rfl 4 rfl ?_
        refine fw_get C (ci := 12) (Cn := RX12) (Tc := TX12) (N := 12) (j := 3) ly_X12_canStart_12 rfl (hG _ (List.mem_of_getElem? (i := 0) rfl)) (of12_0 _) (ce12 T ad _ _) (by decide) (cx_ts C _ fl_X12_canStart_7) (fun _ h => h) (v := .ref (ad 12 0 1)) rfl dX12_canStart_83 ?_
        refine fw_iload C dX12_canStart_86 0 rfl ?_
        refine fw_iald2 C (hG _ (List.mem_of_getElem? (i := 0) rfl)) (of12_1 _) (ca12_1 T ad _ _) b20 (Nat.le_of_ble_eq_true rfl) dX12_canStart_88 ?_
        refine fw_iconst C dX12_canStart_89 (v := 2) rfl ?_
        refine fw_icmp_ne C dX12_canStart_90 (tgt := 107) rfl (fun c22 => ?_) (fun c22 => ?_)
        · have h := ite_f c22 h
          exact w_X12_canStart_b107 C hrt hG  hk17 _ _ _ _ h
        · have h := ite_t c22 h
          refine fw_aload_n C dX12_canStart_93 rfl 4 rfl ?_
          refine fw_iload C dX12_canStart_94 0 rfl ?_
          refine fw_iconst C dX12_canStart_96 (v := 0) rfl ?_
          refine fw_iconst C dX12_canStart_97 (v := 3) rfl ?_
          obtain ⟨r23, q24, h⟩ := bd1_some h
          refine fw_callVi C (ci := 12) (Cn := RX12) (Tc := TX12) (N := 12) (As := [.int l5, .int 0, .int 3]) (c_X12_follows (gac (hG _ (List.mem_of_getElem? (i := 0) rfl)) (gac (hG _ (List.mem_of_getElem? (i := 2) rfl)) (gac (hG _ (List.mem_of_getElem? (i := 1) rfl)) (fun q hq => hG q (List.mem_append_right _ hq))))) q24) (cwV 3 (cx_ts C) gX12_canStart_X12_follows rfl rfl rfl (by decide +kernel) ⟨Nat.le_of_ble_eq_true rfl, Nat.le_of_ble_eq_true rfl⟩) rfl (hG _ (List.mem_of_getElem? (i := 0) rfl)) (of12_0 _) (ce12 T ad _ _) rfl (st := []) rfl (Nat.le_of_ble_eq_true rfl) ⟨Nat.le_refl 0, Nat.le_refl 0⟩ dX12_canStart_98 (pp2 ?_)
          refine fw_if_eq C dX12_canStart_101 (tgt := 107) rfl (fun c25 => ?_) (fun c25 => ?_)
          · have h := ite_t c25 h
            exact w_X12_canStart_b107 C hrt hG  hk17 _ _ _ _ h
          · have h := ite_f c25 h
            exact w_X12_canStart_b104 C hrt hG  hk17 _ _ _ _ h
set_option maxRecDepth 100000 in
set_option maxHeartbeats 4000000 in
theorem w_X12_canStart_b17 {Y : Mem} {a1 : Int32} (C : Cx p s m [.ref (ad 12 0 0), .int a1].toArray meth c cX12_canStart 6 wsX12_canStart RX12 N0 T D gr ad) (hrt : meth.sig.returnType = (some .boolean)) (hG : ∀ q ∈ ([(12, 0), (0, 0), (1, 0), (2, 0)] ++ allG), q ∈ gr) {res : Int32} : ∀ (n : Nat) (l5 : Int32) (l4 : Int32) (l3 : Int32) (l2 : Int32), X12_canStart_b17 Y a1  n l5 l4 l3 l2 = some res → FW p l e (Rm 5) s m [.ref (ad 12 0 0), .int a1].toArray below meth c 6 N0 T D gr ad 0 0 (MQ below (va_Qi (fun r Y1 => r = res ∧ Y1 = Y) (WB T D gr ad) (fun q => N0 ≤ q)) [.ref (ad 12 0 0), .int a1].toArray s 0 0 (fun q => N0 ≤ q)) Y 17 [(5, .int l5), (4, .int l4), (3, .int l3), (2, .int l2), (0, .ref (ad 12 0 0)), (1, .int a1)] [] := by
  intro n
  induction n with
  | zero =>
    intro l5 l4 l3 l2 h
    unfold X12_canStart_b17 at h
    cases h
  | succ n ih =>
    intro l5 l4 l3 l2 h
    unfold X12_canStart_b17 at h
    refine fw_iload C dX12_canStart_17 0 rfl ?_
    refine fw_aload_n C dX12_canStart_19 rfl 4 rfl ?_
    refine fw_get C (ci := 12) (Cn := RX12) (Tc := TX12) (N := 12) (j := 1) ly_X12_canStart_12 rfl (hG _ (List.mem_of_getElem? (i := 0) rfl)) (of12_0 _) (ce12 T ad _ _) (by decide) (cx_ts C _ fl_X12_canStart_36) (fun _ h => h) (v := .int (Y 12 0 0 1)) rfl dX12_canStart_20 ?_
    refine fw_icmp_ge C dX12_canStart_23 (tgt := 113) rfl (fun c3 => ?_) (fun c3 => ?_)
    · have h := ite_t c3 h
      refine fw_aload_n C dX12_canStart_113 rfl 4 rfl ?_
      refine fw_get C (ci := 12) (Cn := RX12) (Tc := TX12) (N := 12) (j := 0) ly_X12_canStart_12 rfl (hG _ (List.mem_of_getElem? (i := 0) rfl)) (of12_0 _) (ce12 T ad _ _) (by decide) (cx_ts C _ fl_X12_canStart_22) (fun _ h => h) (v := .ref (ad 0 0 0)) rfl dX12_canStart_114 ?_
      refine fw_iload_n C dX12_canStart_117 rfl 5 rfl ?_
      obtain ⟨r4, q5, h⟩ := bd1_some h
      refine fw_callVi C (ci := 11) (Cn := RX11) (Tc := TX11) (N := 11) (As := [.int a1]) (c_X11_isUnattended (gac (hG _ (List.mem_of_getElem? (i := 2) rfl)) (gac (hG _ (List.mem_of_getElem? (i := 1) rfl)) (fun q hq => hG q (List.mem_append_right _ hq)))) q5) (cwV 1 (cx_ts C) gX12_canStart_X11_isUnattended rfl rfl rfl (by decide +kernel) ⟨Nat.le_of_ble_eq_true rfl, Nat.le_of_ble_eq_true rfl⟩) rfl (hG _ (List.mem_of_getElem? (i := 1) rfl)) (of0_0 _) (ce0 T ad _ _) rfl (st := []) rfl (Nat.le_of_ble_eq_true rfl) ⟨Nat.le_refl 0, Nat.le_refl 0⟩ dX12_canStart_118 (pp2 ?_)
      refine fw_if_ne C dX12_canStart_121 (tgt := 135) rfl (fun c6 => ?_) (fun c6 => ?_)
      · have h := ite_f c6 h
        refine fw_sub [1, 2, 4] (L' := [(4, .int l4), (3, .int l3), (0, .ref (ad 12 0 0))]) rfl ?_
        exact w_X12_canStart_b135 C hrt hG   _ _ h
      · have h := ite_t c6 h
        refine fw_iload_n C dX12_canStart_124 rfl 3 rfl ?_
        refine fw_aload_n C dX12_canStart_125 rfl 4 rfl ?_
        refine fw_get C (ci := 12) (Cn := RX12) (Tc := TX12) (N := 12) (j := 0) ly_X12_canStart_12 rfl (hG _ (List.mem_of_getElem? (i := 0) rfl)) (of12_0 _) (ce12 T ad _ _) (by decide) (cx_ts C _ fl_X12_canStart_22) (fun _ h => h) (v := .ref (ad 0 0 0)) rfl dX12_canStart_126 ?_
        obtain ⟨r11, q12, h⟩ := bd1_some h
        refine fw_callVi C (ci := 11) (Cn := RX11) (Tc := TX11) (N := 11) (As := []) (c_X11_cooks (gac (hG _ (List.mem_of_getElem? (i := 1) rfl)) (gac (hG _ (List.mem_of_getElem? (i := 2) rfl)) (gac (hG _ (List.mem_of_getElem? (i := 3) rfl)) ga0))) q12) (cwV 0 (cx_ts C) gX12_canStart_X11_cooks rfl rfl rfl (by decide +kernel) ⟨Nat.le_of_ble_eq_true rfl, Nat.le_of_ble_eq_true rfl⟩) rfl (hG _ (List.mem_of_getElem? (i := 1) rfl)) (of0_0 _) (ce0 T ad _ _) rfl (st := [.int l2]) rfl (Nat.le_of_ble_eq_true rfl) ⟨Nat.le_refl 0, Nat.le_refl 0⟩ dX12_canStart_129 (pp2 ?_)
        refine fw_icmp_ge C dX12_canStart_132 (tgt := 157) rfl (fun c13 => ?_) (fun c13 => ?_)
        · have h := ite_t c13 h
          refine fw_iconst C dX12_canStart_157 (v := 0) rfl ?_
          exact fw_zret C hrt (by decide) Y ⟨Option.some.inj h, rfl⟩ (fun t ht => ht) dX12_canStart_158
        · have h := ite_f c13 h
          refine fw_sub [1, 2, 4] (L' := [(4, .int l4), (3, .int l3), (0, .ref (ad 12 0 0))]) rfl ?_
          exact w_X12_canStart_b135 C hrt hG   _ _ h
    · have h := ite_f c3 h
      refine fw_aload_n C dX12_canStart_26 rfl 4 rfl ?_
      refine fw_get C (ci := 12) (Cn := RX12) (Tc := TX12) (N := 12) (j := 3) ly_X12_canStart_12 rfl (hG _ (List.mem_of_getElem? (i := 0) rfl)) (of12_0 _) (ce12 T ad _ _) (by decide) (cx_ts C _ fl_X12_canStart_7) (fun _ h => h) (v := .ref (ad 12 0 1)) rfl dX12_canStart_27 ?_
      refine fw_iload C dX12_canStart_30 0 rfl ?_
      obtain ⟨b14, h⟩ := gd_some h
      refine fw_iald2 C (hG _ (List.mem_of_getElem? (i := 0) rfl)) (of12_1 _) (ca12_1 T ad _ _) b14 (Nat.le_of_ble_eq_true rfl) dX12_canStart_32 ?_
      refine fw_iconst C dX12_canStart_33 (v := 1) rfl ?_
      refine fw_icmp_ne C dX12_canStart_34 (tgt := 52) rfl (fun c15 => ?_) (fun c15 => ?_)
      · have h := ite_f c15 h
        exact w_X12_canStart_b52 C hrt hG  ih _ _ _ _ h
      · have h := ite_t c15 h
        refine fw_aload_n C dX12_canStart_37 rfl 4 rfl ?_
        refine fw_get C (ci := 12) (Cn := RX12) (Tc := TX12) (N := 12) (j := 0) ly_X12_canStart_12 rfl (hG _ (List.mem_of_getElem? (i := 0) rfl)) (of12_0 _) (ce12 T ad _ _) (by decide) (cx_ts C _ fl_X12_canStart_22) (fun _ h => h) (v := .ref (ad 0 0 0)) rfl dX12_canStart_38 ?_
        refine fw_iload C dX12_canStart_41 0 rfl ?_
        obtain ⟨r26, q27, h⟩ := bd1_some h
        refine fw_callVi C (ci := 11) (Cn := RX11) (Tc := TX11) (N := 11) (As := [.int l5]) (c_X11_isUnattended (gac (hG _ (List.mem_of_getElem? (i := 2) rfl)) (gac (hG _ (List.mem_of_getElem? (i := 1) rfl)) (fun q hq => hG q (List.mem_append_right _ hq)))) q27) (cwV 1 (cx_ts C) gX12_canStart_X11_isUnattended rfl rfl rfl (by decide +kernel) ⟨Nat.le_of_ble_eq_true rfl, Nat.le_of_ble_eq_true rfl⟩) rfl (hG _ (List.mem_of_getElem? (i := 1) rfl)) (of0_0 _) (ce0 T ad _ _) rfl (st := []) rfl (Nat.le_of_ble_eq_true rfl) ⟨Nat.le_refl 0, Nat.le_refl 0⟩ dX12_canStart_43 (pp2 ?_)
        refine fw_if_ne C dX12_canStart_46 (tgt := 52) rfl (fun c28 => ?_) (fun c28 => ?_)
        · have h := ite_f c28 h
          exact w_X12_canStart_b52 C hrt hG  ih _ _ _ _ h
        · have h := ite_t c28 h
          refine fw_iinc C dX12_canStart_49 (kk := 3) (v := l2 + 1) rfl rfl (by decide) (L' := [(2, .int (l2 + 1)), (5, .int l5), (4, .int l4), (3, .int l3), (0, .ref (ad 12 0 0)), (1, .int a1)]) rfl ?_
          refine fw_sub [1, 2, 3, 0, 4, 5] (L' := [(5, .int l5), (4, .int l4), (3, .int l3), (2, .int (l2 + 1)), (0, .ref (ad 12 0 0)), (1, .int a1)]) rfl ?_
          exact w_X12_canStart_b52 C hrt hG  ih _ _ _ _ h
set_option maxRecDepth 100000 in
set_option maxHeartbeats 4000000 in
theorem w_X12_canStart {Y : Mem} {a1 : Int32} (C : Cx p s m [.ref (ad 12 0 0), .int a1].toArray meth c cX12_canStart 6 wsX12_canStart RX12 N0 T D gr ad) (hrt : meth.sig.returnType = (some .boolean)) (hG : ∀ q ∈ ([(12, 0), (0, 0), (1, 0), (2, 0)] ++ allG), q ∈ gr) {res : Int32} (h : X12_canStart Y a1 = some res) : FW p l e (Rm 5) s m [.ref (ad 12 0 0), .int a1].toArray below meth c 6 N0 T D gr ad 0 0 (MQ below (va_Qi (fun r Y1 => r = res ∧ Y1 = Y) (WB T D gr ad) (fun q => N0 ≤ q)) [.ref (ad 12 0 0), .int a1].toArray s 0 0 (fun q => N0 ≤ q)) Y 0 [(0, .ref (ad 12 0 0)), (1, .int a1)] [] := by
  unfold X12_canStart at h
  refine fw_iconst C dX12_canStart_0 (v := 0) rfl ?_
  refine fw_istore_n C dX12_canStart_1 rfl (by decide) (L' := [(2, .int 0), (0, .ref (ad 12 0 0)), (1, .int a1)]) rfl ?_
  refine fw_iconst C dX12_canStart_2 (v := 0) rfl ?_
  refine fw_istore_n C dX12_canStart_3 rfl (by decide) (L' := [(3, .int 0), (2, .int 0), (0, .ref (ad 12 0 0)), (1, .int a1)]) rfl ?_
  refine fw_aload_n C dX12_canStart_4 rfl 2 rfl ?_
  refine fw_get C (ci := 12) (Cn := RX12) (Tc := TX12) (N := 12) (j := 0) ly_X12_canStart_12 rfl (hG _ (List.mem_of_getElem? (i := 0) rfl)) (of12_0 _) (ce12 T ad _ _) (by decide) (cx_ts C _ fl_X12_canStart_22) (fun _ h => h) (v := .ref (ad 0 0 0)) rfl dX12_canStart_5 ?_
  refine fw_iload_n C dX12_canStart_8 rfl 3 rfl ?_
  obtain ⟨r1, q2, h⟩ := bd1_some h
  refine fw_callVi C (ci := 11) (Cn := RX11) (Tc := TX11) (N := 11) (As := [.int a1]) (c_X11_panType (gac (hG _ (List.mem_of_getElem? (i := 2) rfl)) (gac (hG _ (List.mem_of_getElem? (i := 1) rfl)) (fun q hq => hG q (List.mem_append_right _ hq)))) q2) (cwV 1 (cx_ts C) gX12_canStart_X11_panType rfl rfl rfl (by decide +kernel) ⟨Nat.le_of_ble_eq_true rfl, Nat.le_of_ble_eq_true rfl⟩) rfl (hG _ (List.mem_of_getElem? (i := 1) rfl)) (of0_0 _) (ce0 T ad _ _) rfl (st := []) rfl (Nat.le_of_ble_eq_true rfl) ⟨Nat.le_refl 0, Nat.le_refl 0⟩ dX12_canStart_9 (pp2 ?_)
  refine fw_istore C dX12_canStart_12 (by decide) (L' := [(4, .int r1), (3, .int 0), (2, .int 0), (0, .ref (ad 12 0 0)), (1, .int a1)]) rfl ?_
  refine fw_iconst C dX12_canStart_14 (v := 0) rfl ?_
  refine fw_istore C dX12_canStart_15 (by decide) (L' := [(5, .int 0), (4, .int r1), (3, .int 0), (2, .int 0), (0, .ref (ad 12 0 0)), (1, .int a1)]) rfl ?_
  exact w_X12_canStart_b17 C hrt hG   _ _ _ _ _ h
end
set_option maxRecDepth 100000 in
set_option maxHeartbeats 4000000 in
theorem c_X12_canStart {l : Launch} {N0 : Nat} {T : Nat → ClassId} {D : va_G} {gr : List (Nat × Nat)} {ad : Nat → Nat → Nat → Nat} {Y : Mem} {a1 : Int32} {res : Int32} (hG : ∀ q ∈ ([(12, 0), (0, 0), (1, 0), (2, 0)] ++ allG), q ∈ gr) (h : X12_canStart Y a1 = some res) : CI l yX12_canStart wsX12_canStart (Rm 5) N0 T D gr ad Y [.ref (ad 12 0 0), .int a1] (fun r Y1 => r = res ∧ Y1 = Y) :=
  fw_body (by decide +kernel) rfl (Nat.le_of_ble_eq_true rfl) (fun p e s m below meth c C hrt => w_X12_canStart C hrt hG  h)
theorem ly_X12_next_12 : ∀ w ∈ u_ws RX12 TX12 12, w ∈ wsX12_next := by decide +kernel
theorem fl_X12_next_36 : Cond.fieldLink RX12 36 "RecipeSchedulerLaw$Kitchen" "many" "I" ∈ wsX12_next := by decide +kernel
theorem fl_X12_next_19 : Cond.fieldLink RX12 19 "RecipeSchedulerLaw$Kitchen" "path" "[I" ∈ wsX12_next := by decide +kernel
section
variable {p : Program} {l : Launch} {e : Env} {s : State} {m : MethodId} {below : List Frame} {meth : Method} {c : Code} {N0 : Nat} {T : Nat → ClassId} {D : va_G} {gr : List (Nat × Nat)} {ad : Nat → Nat → Nat → Nat}
set_option maxRecDepth 100000 in
set_option maxHeartbeats 4000000 in
theorem w_X12_next_b39 {Y : Mem} (C : Cx p s m [.ref (ad 12 0 0), .ref (ad 14 0 0)].toArray meth c cX12_next 4 wsX12_next RX12 N0 T D gr ad) (hrt : meth.sig.returnType = (some .int)) (hG : ∀ q ∈ [(12, 0), (14, 0)], q ∈ gr) {res : Int32} {k4 : Int32 → Int32 → Option (Int32)} (hk4 : ∀ (l3 : Int32) (l2 : Int32), k4 l3 l2 = some res → FW p l e (Rm 0) s m [.ref (ad 12 0 0), .ref (ad 14 0 0)].toArray below meth c 4 N0 T D gr ad 0 0 (MQ below (va_Qi (fun r Y1 => r = res ∧ Y1 = Y) (WB T D gr ad) (fun q => N0 ≤ q)) [.ref (ad 12 0 0), .ref (ad 14 0 0)].toArray s 0 0 (fun q => N0 ≤ q)) Y 4 [(3, .int l3), (2, .int l2), (0, .ref (ad 12 0 0)), (1, .ref (ad 14 0 0))] []) (l3 : Int32) (l2 : Int32) (h : X12_next_b39 Y k4 l3 l2 = some res) : FW p l e (Rm 0) s m [.ref (ad 12 0 0), .ref (ad 14 0 0)].toArray below meth c 4 N0 T D gr ad 0 0 (MQ below (va_Qi (fun r Y1 => r = res ∧ Y1 = Y) (WB T D gr ad) (fun q => N0 ≤ q)) [.ref (ad 12 0 0), .ref (ad 14 0 0)].toArray s 0 0 (fun q => N0 ≤ q)) Y 39 [(3, .int l3), (2, .int l2), (0, .ref (ad 12 0 0)), (1, .ref (ad 14 0 0))] [] := by
  unfold X12_next_b39 at h
  refine fw_iinc C dX12_next_39 (kk := 0) (v := l3 + 1) rfl rfl (by decide) (L' := [(3, .int (l3 + 1)), (2, .int l2), (0, .ref (ad 12 0 0)), (1, .ref (ad 14 0 0))]) rfl ?_
  refine fw_goto C dX12_next_42 (tgt := 4) rfl ?_
  exact hk4 _ _ h
set_option maxRecDepth 100000 in
set_option maxHeartbeats 4000000 in
theorem w_X12_next_b37 {Y : Mem} (C : Cx p s m [.ref (ad 12 0 0), .ref (ad 14 0 0)].toArray meth c cX12_next 4 wsX12_next RX12 N0 T D gr ad) (hrt : meth.sig.returnType = (some .int)) (hG : ∀ q ∈ [(12, 0), (14, 0)], q ∈ gr) {res : Int32} {k4 : Int32 → Int32 → Option (Int32)} (hk4 : ∀ (l3 : Int32) (l2 : Int32), k4 l3 l2 = some res → FW p l e (Rm 0) s m [.ref (ad 12 0 0), .ref (ad 14 0 0)].toArray below meth c 4 N0 T D gr ad 0 0 (MQ below (va_Qi (fun r Y1 => r = res ∧ Y1 = Y) (WB T D gr ad) (fun q => N0 ≤ q)) [.ref (ad 12 0 0), .ref (ad 14 0 0)].toArray s 0 0 (fun q => N0 ≤ q)) Y 4 [(3, .int l3), (2, .int l2), (0, .ref (ad 12 0 0)), (1, .ref (ad 14 0 0))] []) (l3 : Int32) (h : X12_next_b37 Y k4 l3 = some res) : FW p l e (Rm 0) s m [.ref (ad 12 0 0), .ref (ad 14 0 0)].toArray below meth c 4 N0 T D gr ad 0 0 (MQ below (va_Qi (fun r Y1 => r = res ∧ Y1 = Y) (WB T D gr ad) (fun q => N0 ≤ q)) [.ref (ad 12 0 0), .ref (ad 14 0 0)].toArray s 0 0 (fun q => N0 ≤ q)) Y 37 [(3, .int l3), (0, .ref (ad 12 0 0)), (1, .ref (ad 14 0 0))] [] := by
  unfold X12_next_b37 at h
  refine fw_iload_n C dX12_next_37 rfl 0 rfl ?_
  refine fw_istore_n C dX12_next_38 rfl (by decide) (L' := [(2, .int l3), (3, .int l3), (0, .ref (ad 12 0 0)), (1, .ref (ad 14 0 0))]) rfl ?_
  refine fw_sub [1, 0, 2, 3] (L' := [(3, .int l3), (2, .int l3), (0, .ref (ad 12 0 0)), (1, .ref (ad 14 0 0))]) rfl ?_
  exact w_X12_next_b39 C hrt hG  hk4 _ _ h
set_option maxRecDepth 100000 in
set_option maxHeartbeats 4000000 in
theorem w_X12_next_b4 {Y : Mem} (C : Cx p s m [.ref (ad 12 0 0), .ref (ad 14 0 0)].toArray meth c cX12_next 4 wsX12_next RX12 N0 T D gr ad) (hrt : meth.sig.returnType = (some .int)) (hG : ∀ q ∈ [(12, 0), (14, 0)], q ∈ gr) {res : Int32} : ∀ (n : Nat) (l3 : Int32) (l2 : Int32), X12_next_b4 Y  n l3 l2 = some res → FW p l e (Rm 0) s m [.ref (ad 12 0 0), .ref (ad 14 0 0)].toArray below meth c 4 N0 T D gr ad 0 0 (MQ below (va_Qi (fun r Y1 => r = res ∧ Y1 = Y) (WB T D gr ad) (fun q => N0 ≤ q)) [.ref (ad 12 0 0), .ref (ad 14 0 0)].toArray s 0 0 (fun q => N0 ≤ q)) Y 4 [(3, .int l3), (2, .int l2), (0, .ref (ad 12 0 0)), (1, .ref (ad 14 0 0))] [] := by
  intro n
  induction n with
  | zero =>
    intro l3 l2 h
    unfold X12_next_b4 at h
    cases h
  | succ n ih =>
    intro l3 l2 h
    unfold X12_next_b4 at h
    refine fw_iload_n C dX12_next_4 rfl 0 rfl ?_
    refine fw_aload_n C dX12_next_5 rfl 2 rfl ?_
    refine fw_get C (ci := 12) (Cn := RX12) (Tc := TX12) (N := 12) (j := 1) ly_X12_next_12 rfl (hG _ (List.mem_of_getElem? (i := 0) rfl)) (of12_0 _) (ce12 T ad _ _) (by decide) (cx_ts C _ fl_X12_next_36) (fun _ h => h) (v := .int (Y 12 0 0 1)) rfl dX12_next_6 ?_
    refine fw_icmp_ge C dX12_next_9 (tgt := 45) rfl (fun c1 => ?_) (fun c1 => ?_)
    · have h := ite_t c1 h
      refine fw_iload_n C dX12_next_45 rfl 1 rfl ?_
      exact fw_iret C hrt Y ⟨Option.some.inj h, rfl⟩ (fun t ht => ht) dX12_next_46
    · have h := ite_f c1 h
      refine fw_aload_n C dX12_next_12 rfl 3 rfl ?_
      refine fw_iload_n C dX12_next_13 rfl 0 rfl ?_
      obtain ⟨b2, h⟩ := gd_some h
      refine fw_zald2 C (hG _ (List.mem_of_getElem? (i := 1) rfl)) (of14_0 _) (ca14_0 T ad _ _) b2 (Nat.le_of_ble_eq_true rfl) dX12_next_14 ?_
      refine fw_if_eq C dX12_next_15 (tgt := 39) rfl (fun c3 => ?_) (fun c3 => ?_)
      · have h := ite_t c3 h
        exact w_X12_next_b39 C hrt hG  ih _ _ h
      · have h := ite_f c3 h
        refine fw_iload_n C dX12_next_18 rfl 1 rfl ?_
        refine fw_if_lt C dX12_next_19 (tgt := 37) rfl (fun c4 => ?_) (fun c4 => ?_)
        · have h := ite_t c4 h
          refine fw_sub [0, 2, 3] (L' := [(3, .int l3), (0, .ref (ad 12 0 0)), (1, .ref (ad 14 0 0))]) rfl ?_
          exact w_X12_next_b37 C hrt hG  ih _ h
        · have h := ite_f c4 h
          refine fw_aload_n C dX12_next_22 rfl 2 rfl ?_
          refine fw_get C (ci := 12) (Cn := RX12) (Tc := TX12) (N := 12) (j := 6) ly_X12_next_12 rfl (hG _ (List.mem_of_getElem? (i := 0) rfl)) (of12_0 _) (ce12 T ad _ _) (by decide) (cx_ts C _ fl_X12_next_19) (fun _ h => h) (v := .ref (ad 12 0 4)) rfl dX12_next_23 ?_
          refine fw_iload_n C dX12_next_26 rfl 0 rfl ?_
          refine fw_iald2 C (hG _ (List.mem_of_getElem? (i := 0) rfl)) (of12_4 _) (ca12_4 T ad _ _) b2 (Nat.le_of_ble_eq_true rfl) dX12_next_27 ?_
          refine fw_aload_n C dX12_next_28 rfl 2 rfl ?_
          refine fw_get C (ci := 12) (Cn := RX12) (Tc := TX12) (N := 12) (j := 6) ly_X12_next_12 rfl (hG _ (List.mem_of_getElem? (i := 0) rfl)) (of12_0 _) (ce12 T ad _ _) (by decide) (cx_ts C _ fl_X12_next_19) (fun _ h => h) (v := .ref (ad 12 0 4)) rfl dX12_next_29 ?_
          refine fw_iload_n C dX12_next_32 rfl 1 rfl ?_
          obtain ⟨b5, h⟩ := gd_some h
          refine fw_iald2 C (hG _ (List.mem_of_getElem? (i := 0) rfl)) (of12_4 _) (ca12_4 T ad _ _) b5 (Nat.le_of_ble_eq_true rfl) dX12_next_33 ?_
          refine fw_icmp_le C dX12_next_34 (tgt := 39) rfl (fun c6 => ?_) (fun c6 => ?_)
          · have h := ite_t c6 h
            exact w_X12_next_b39 C hrt hG  ih _ _ h
          · have h := ite_f c6 h
            refine fw_sub [0, 2, 3] (L' := [(3, .int l3), (0, .ref (ad 12 0 0)), (1, .ref (ad 14 0 0))]) rfl ?_
            exact w_X12_next_b37 C hrt hG  ih _ h
set_option maxRecDepth 100000 in
set_option maxHeartbeats 4000000 in
theorem w_X12_next {Y : Mem} (C : Cx p s m [.ref (ad 12 0 0), .ref (ad 14 0 0)].toArray meth c cX12_next 4 wsX12_next RX12 N0 T D gr ad) (hrt : meth.sig.returnType = (some .int)) (hG : ∀ q ∈ [(12, 0), (14, 0)], q ∈ gr) {res : Int32} (h : X12_next Y = some res) : FW p l e (Rm 0) s m [.ref (ad 12 0 0), .ref (ad 14 0 0)].toArray below meth c 4 N0 T D gr ad 0 0 (MQ below (va_Qi (fun r Y1 => r = res ∧ Y1 = Y) (WB T D gr ad) (fun q => N0 ≤ q)) [.ref (ad 12 0 0), .ref (ad 14 0 0)].toArray s 0 0 (fun q => N0 ≤ q)) Y 0 [(0, .ref (ad 12 0 0)), (1, .ref (ad 14 0 0))] [] := by
  unfold X12_next at h
  refine fw_iconst C dX12_next_0 (v := (-1)) rfl ?_
  refine fw_istore_n C dX12_next_1 rfl (by decide) (L' := [(2, .int ((-1))), (0, .ref (ad 12 0 0)), (1, .ref (ad 14 0 0))]) rfl ?_
  refine fw_iconst C dX12_next_2 (v := 0) rfl ?_
  refine fw_istore_n C dX12_next_3 rfl (by decide) (L' := [(3, .int 0), (2, .int ((-1))), (0, .ref (ad 12 0 0)), (1, .ref (ad 14 0 0))]) rfl ?_
  exact w_X12_next_b4 C hrt hG   _ _ _ h
end
set_option maxRecDepth 100000 in
set_option maxHeartbeats 4000000 in
theorem c_X12_next {l : Launch} {N0 : Nat} {T : Nat → ClassId} {D : va_G} {gr : List (Nat × Nat)} {ad : Nat → Nat → Nat → Nat} {Y : Mem} {res : Int32} (hG : ∀ q ∈ [(12, 0), (14, 0)], q ∈ gr) (h : X12_next Y = some res) : CI l yX12_next wsX12_next (Rm 0) N0 T D gr ad Y [.ref (ad 12 0 0), .ref (ad 14 0 0)] (fun r Y1 => r = res ∧ Y1 = Y) :=
  fw_body (by decide +kernel) rfl (Nat.le_of_ble_eq_true rfl) (fun p e s m below meth c C hrt => w_X12_next C hrt hG  h)
