theorem ly_X12_isAfter_12 : ∀ w ∈ u_ws RX12 TX12 12, w ∈ wsX12_isAfter := by decide +kernel
theorem fl_X12_isAfter_22 : Cond.fieldLink RX12 22 "RecipeSchedulerLaw$Kitchen" "x" "LRecipeScheduler;" ∈ wsX12_isAfter := by decide +kernel
section
variable {p : Program} {l : Launch} {e : Env} {s : State} {m : MethodId} {below : List Frame} {meth : Method} {c : Code} {N0 : Nat} {T : Nat → ClassId} {D : va_G} {gr : List (Nat × Nat)} {ad : Nat → Nat → Nat → Nat}
set_option maxRecDepth 100000 in
set_option maxHeartbeats 4000000 in
theorem w_X12_isAfter_b34 {a1 : Int32} {a2 : Int32} (C : Cx p s m [.ref (ad 12 0 0), .int a1, .int a2].toArray meth c cX12_isAfter 5 wsX12_isAfter RX12 N0 T D gr ad) (hrt : meth.sig.returnType = (some .boolean)) (hG : ∀ q ∈ ([(12, 0), (0, 0), (1, 0)] ++ allG), q ∈ gr) (hl : l.stackTraces = false) (hX : ∀ x ∈ c.exceptionTable.toList, False) {res : (Nat × Mem) ⊕ (Int32 × Mem)} {k5 : Mem → Int32 → Int32 → Option ((Nat × Mem) ⊕ (Int32 × Mem))} (hk5 : ∀ (Y : Mem) (l4 : Int32) (l3 : Int32), k5 Y l4 l3 = some res → FW p l e (Rx 8 50) s m [.ref (ad 12 0 0), .int a1, .int a2].toArray below meth c 5 N0 T D gr ad 50 300 (vx_MQ below (va_Qi (fun r Y1 => Sum.inr (r, Y1) = res) (WB T D gr ad) (fun q => N0 ≤ q)) (vx_X (fun u => Sum.inl u = res) (XB T D gr ad) (fun q => N0 ≤ q)) [.ref (ad 12 0 0), .int a1, .int a2].toArray s 50 300 (fun q => N0 ≤ q)) Y 5 [(4, .int l4), (3, .int l3), (0, .ref (ad 12 0 0)), (1, .int a1), (2, .int a2)] []) (Y : Mem) (l4 : Int32) (s0 : Int32) (h : X12_isAfter_b34 a1 a2 k5 Y l4 s0 = some res) : FW p l e (Rx 8 50) s m [.ref (ad 12 0 0), .int a1, .int a2].toArray below meth c 5 N0 T D gr ad 50 300 (vx_MQ below (va_Qi (fun r Y1 => Sum.inr (r, Y1) = res) (WB T D gr ad) (fun q => N0 ≤ q)) (vx_X (fun u => Sum.inl u = res) (XB T D gr ad) (fun q => N0 ≤ q)) [.ref (ad 12 0 0), .int a1, .int a2].toArray s 50 300 (fun q => N0 ≤ q)) Y 34 [(4, .int l4), (0, .ref (ad 12 0 0)), (1, .int a1), (2, .int a2)] [.int s0] := by
  unfold X12_isAfter_b34 at h
  refine fw_istore_n C dX12_isAfter_34 rfl (by decide) (L' := [(3, .int s0), (4, .int l4), (0, .ref (ad 12 0 0)), (1, .int a1), (2, .int a2)]) rfl ?_
  refine fw_iinc C dX12_isAfter_35 (kk := 1) (v := l4 + 1) rfl rfl (by decide) (L' := [(4, .int (l4 + 1)), (3, .int s0), (0, .ref (ad 12 0 0)), (1, .int a1), (2, .int a2)]) rfl ?_
  refine fw_goto C dX12_isAfter_38 (tgt := 5) rfl ?_
  exact hk5 _ _ _ h
set_option maxRecDepth 100000 in
set_option maxHeartbeats 4000000 in
theorem w_X12_isAfter_b29 {a1 : Int32} {a2 : Int32} (C : Cx p s m [.ref (ad 12 0 0), .int a1, .int a2].toArray meth c cX12_isAfter 5 wsX12_isAfter RX12 N0 T D gr ad) (hrt : meth.sig.returnType = (some .boolean)) (hG : ∀ q ∈ ([(12, 0), (0, 0), (1, 0)] ++ allG), q ∈ gr) (hl : l.stackTraces = false) (hX : ∀ x ∈ c.exceptionTable.toList, False) {res : (Nat × Mem) ⊕ (Int32 × Mem)} {k5 : Mem → Int32 → Int32 → Option ((Nat × Mem) ⊕ (Int32 × Mem))} (hk5 : ∀ (Y : Mem) (l4 : Int32) (l3 : Int32), k5 Y l4 l3 = some res → FW p l e (Rx 8 50) s m [.ref (ad 12 0 0), .int a1, .int a2].toArray below meth c 5 N0 T D gr ad 50 300 (vx_MQ below (va_Qi (fun r Y1 => Sum.inr (r, Y1) = res) (WB T D gr ad) (fun q => N0 ≤ q)) (vx_X (fun u => Sum.inl u = res) (XB T D gr ad) (fun q => N0 ≤ q)) [.ref (ad 12 0 0), .int a1, .int a2].toArray s 50 300 (fun q => N0 ≤ q)) Y 5 [(4, .int l4), (3, .int l3), (0, .ref (ad 12 0 0)), (1, .int a1), (2, .int a2)] []) (Y : Mem) (l4 : Int32) (h : X12_isAfter_b29 a1 a2 k5 Y l4 = some res) : FW p l e (Rx 8 50) s m [.ref (ad 12 0 0), .int a1, .int a2].toArray below meth c 5 N0 T D gr ad 50 300 (vx_MQ below (va_Qi (fun r Y1 => Sum.inr (r, Y1) = res) (WB T D gr ad) (fun q => N0 ≤ q)) (vx_X (fun u => Sum.inl u = res) (XB T D gr ad) (fun q => N0 ≤ q)) [.ref (ad 12 0 0), .int a1, .int a2].toArray s 50 300 (fun q => N0 ≤ q)) Y 29 [(4, .int l4), (0, .ref (ad 12 0 0)), (1, .int a1), (2, .int a2)] [] := by
  unfold X12_isAfter_b29 at h
  refine fw_iconst C dX12_isAfter_29 (v := 1) rfl ?_
  refine fw_goto C dX12_isAfter_30 (tgt := 34) rfl ?_
  exact w_X12_isAfter_b34 C hrt hG  hl hX hk5 _ _ _ h
set_option maxRecDepth 100000 in
set_option maxHeartbeats 4000000 in
theorem w_X12_isAfter_b5 {a1 : Int32} {a2 : Int32} (C : Cx p s m [.ref (ad 12 0 0), .int a1, .int a2].toArray meth c cX12_isAfter 5 wsX12_isAfter RX12 N0 T D gr ad) (hrt : meth.sig.returnType = (some .boolean)) (hG : ∀ q ∈ ([(12, 0), (0, 0), (1, 0)] ++ allG), q ∈ gr) (hl : l.stackTraces = false) (hX : ∀ x ∈ c.exceptionTable.toList, False) {res : (Nat × Mem) ⊕ (Int32 × Mem)} : ∀ (n : Nat) (Y : Mem) (l4 : Int32) (l3 : Int32), X12_isAfter_b5 a1 a2  n Y l4 l3 = some res → FW p l e (Rx 8 50) s m [.ref (ad 12 0 0), .int a1, .int a2].toArray below meth c 5 N0 T D gr ad 50 300 (vx_MQ below (va_Qi (fun r Y1 => Sum.inr (r, Y1) = res) (WB T D gr ad) (fun q => N0 ≤ q)) (vx_X (fun u => Sum.inl u = res) (XB T D gr ad) (fun q => N0 ≤ q)) [.ref (ad 12 0 0), .int a1, .int a2].toArray s 50 300 (fun q => N0 ≤ q)) Y 5 [(4, .int l4), (3, .int l3), (0, .ref (ad 12 0 0)), (1, .int a1), (2, .int a2)] [] := by
  intro n
  induction n with
  | zero =>
    intro Y l4 l3 h
    unfold X12_isAfter_b5 at h
    cases h
  | succ n ih =>
    intro Y l4 l3 h
    unfold X12_isAfter_b5 at h
    refine fw_iload C dX12_isAfter_5 0 rfl ?_
    refine fw_iconst C dX12_isAfter_7 (v := 4) rfl ?_
    refine fw_icmp_ge C dX12_isAfter_8 (tgt := 41) rfl (fun c1 => ?_) (fun c1 => ?_)
    · have h := ite_t c1 h
      refine fw_iload_n C dX12_isAfter_41 rfl 1 rfl ?_
      refine fw_xr (Nat.le_of_ble_eq_true rfl) (Nat.le_of_ble_eq_true rfl) ?_
      obtain ⟨b2, h⟩ := gd_some h
      exact fw_zret C hrt (of_decide_eq_true b2) Y (Option.some.inj h) (fun t ht => ht) dX12_isAfter_42
    · have h := ite_f c1 h
      refine fw_iload_n C dX12_isAfter_11 rfl 1 rfl ?_
      refine fw_if_ne C dX12_isAfter_12 (tgt := 29) rfl (fun c3 => ?_) (fun c3 => ?_)
      · have h := ite_f c3 h
        refine fw_sub [0, 2, 3, 4] (L' := [(4, .int l4), (0, .ref (ad 12 0 0)), (1, .int a1), (2, .int a2)]) rfl ?_
        exact w_X12_isAfter_b29 C hrt hG  hl hX ih _ _ h
      · have h := ite_t c3 h
        refine fw_aload_n C dX12_isAfter_15 rfl 2 rfl ?_
        refine fw_get C (ci := 12) (Cn := RX12) (Tc := TX12) (N := 12) (j := 0) ly_X12_isAfter_12 rfl (hG _ (List.mem_of_getElem? (i := 0) rfl)) (of12_0 _) (ce12 T ad _ _) (by decide) (cx_ts C _ fl_X12_isAfter_22) (fun _ h => h) (v := .ref (ad 0 0 0)) rfl dX12_isAfter_16 ?_
        refine fw_iload_n C dX12_isAfter_19 rfl 3 rfl ?_
        refine fw_iload C dX12_isAfter_20 0 rfl ?_
        rcases bdxi_some h with ⟨x8, q5, e9⟩ | ⟨r4, Y7, q5, h⟩
        · exact fw_callXVi_l C (ci := 11) (Cn := RX11) (Tc := TX11) (N := 11) (As := [.int a1, .int l4]) (c_X11_predecessor hl (gac (hG _ (List.mem_of_getElem? (i := 2) rfl)) (gac (hG _ (List.mem_of_getElem? (i := 1) rfl)) (fun q hq => hG q (List.mem_append_right _ hq)))) q5) (cwV 2 (cx_ts C) gX12_isAfter_X11_predecessor rfl rfl rfl (by decide +kernel) ⟨Nat.le_of_ble_eq_true rfl, Nat.le_of_ble_eq_true rfl⟩) rfl (hG _ (List.mem_of_getElem? (i := 1) rfl)) (of0_0 _) (ce0 T ad _ _) rfl (st := []) rfl (Nat.le_of_ble_eq_true rfl) ⟨Nat.le_of_ble_eq_true rfl, Nat.le_of_ble_eq_true rfl⟩ dX12_isAfter_22 hX e9 (Nat.le_of_ble_eq_true rfl) (Nat.le_of_ble_eq_true rfl)
        refine fw_callXVi_r C (ci := 11) (Cn := RX11) (Tc := TX11) (N := 11) (As := [.int a1, .int l4]) (c_X11_predecessor hl (gac (hG _ (List.mem_of_getElem? (i := 2) rfl)) (gac (hG _ (List.mem_of_getElem? (i := 1) rfl)) (fun q hq => hG q (List.mem_append_right _ hq)))) q5) (cwV 2 (cx_ts C) gX12_isAfter_X11_predecessor rfl rfl rfl (by decide +kernel) ⟨Nat.le_of_ble_eq_true rfl, Nat.le_of_ble_eq_true rfl⟩) rfl (hG _ (List.mem_of_getElem? (i := 1) rfl)) (of0_0 _) (ce0 T ad _ _) rfl (st := []) rfl (Nat.le_of_ble_eq_true rfl) ⟨Nat.le_of_ble_eq_true rfl, Nat.le_of_ble_eq_true rfl⟩ dX12_isAfter_22 ?_
        refine fw_iload_n C dX12_isAfter_25 rfl 4 rfl ?_
        refine fw_icmp_ne C dX12_isAfter_26 (tgt := 33) rfl (fun c10 => ?_) (fun c10 => ?_)
        · have h := ite_f c10 h
          refine fw_iconst C dX12_isAfter_33 (v := 0) rfl ?_
          refine fw_sub [0, 2, 3, 4] (L' := [(4, .int l4), (0, .ref (ad 12 0 0)), (1, .int a1), (2, .int a2)]) rfl ?_
          exact w_X12_isAfter_b34 C hrt hG  hl hX ih _ _ _ h
        · have h := ite_t c10 h
          refine fw_sub [0, 2, 3, 4] (L' := [(4, .int l4), (0, .ref (ad 12 0 0)), (1, .int a1), (2, .int a2)]) rfl ?_
          exact w_X12_isAfter_b29 C hrt hG  hl hX ih _ _ h
set_option maxRecDepth 100000 in
set_option maxHeartbeats 4000000 in
theorem w_X12_isAfter {Y : Mem} {a1 : Int32} {a2 : Int32} (C : Cx p s m [.ref (ad 12 0 0), .int a1, .int a2].toArray meth c cX12_isAfter 5 wsX12_isAfter RX12 N0 T D gr ad) (hrt : meth.sig.returnType = (some .boolean)) (hG : ∀ q ∈ ([(12, 0), (0, 0), (1, 0)] ++ allG), q ∈ gr) (hl : l.stackTraces = false) (hX : ∀ x ∈ c.exceptionTable.toList, False) {res : (Nat × Mem) ⊕ (Int32 × Mem)} (h : X12_isAfter Y a1 a2 = some res) : FW p l e (Rx 8 50) s m [.ref (ad 12 0 0), .int a1, .int a2].toArray below meth c 5 N0 T D gr ad 0 0 (vx_MQ below (va_Qi (fun r Y1 => Sum.inr (r, Y1) = res) (WB T D gr ad) (fun q => N0 ≤ q)) (vx_X (fun u => Sum.inl u = res) (XB T D gr ad) (fun q => N0 ≤ q)) [.ref (ad 12 0 0), .int a1, .int a2].toArray s 50 300 (fun q => N0 ≤ q)) Y 0 [(0, .ref (ad 12 0 0)), (1, .int a1), (2, .int a2)] [] := by
  unfold X12_isAfter at h
  refine fw_iconst C dX12_isAfter_0 (v := 0) rfl ?_
  refine fw_istore_n C dX12_isAfter_1 rfl (by decide) (L' := [(3, .int 0), (0, .ref (ad 12 0 0)), (1, .int a1), (2, .int a2)]) rfl ?_
  refine fw_iconst C dX12_isAfter_2 (v := 0) rfl ?_
  refine fw_istore C dX12_isAfter_3 (by decide) (L' := [(4, .int 0), (3, .int 0), (0, .ref (ad 12 0 0)), (1, .int a1), (2, .int a2)]) rfl ?_
  exact w_X12_isAfter_b5 C hrt hG  hl hX  _ _ _ _ h
end
set_option maxRecDepth 100000 in
set_option maxHeartbeats 4000000 in
theorem c_X12_isAfter {l : Launch} {N0 : Nat} {T : Nat → ClassId} {D : va_G} {gr : List (Nat × Nat)} {ad : Nat → Nat → Nat → Nat} {Y : Mem} {a1 : Int32} {a2 : Int32} {res : (Nat × Mem) ⊕ (Int32 × Mem)} (hl : l.stackTraces = false) (hG : ∀ q ∈ ([(12, 0), (0, 0), (1, 0)] ++ allG), q ∈ gr) (h : X12_isAfter Y a1 a2 = some res) : CXi l yX12_isAfter wsX12_isAfter (Rx 8 50) N0 T D gr ad Y [.ref (ad 12 0 0), .int a1, .int a2] 50 res :=
  fw_xbody (by decide +kernel) rfl (Nat.le_of_ble_eq_true rfl) (fun p e s m below meth c C hrt hX => w_X12_isAfter C hrt hG hl hX h)
theorem ly_X12_follows_12 : ∀ w ∈ u_ws RX12 TX12 12, w ∈ wsX12_follows := by decide +kernel
theorem fl_X12_follows_36 : Cond.fieldLink RX12 36 "RecipeSchedulerLaw$Kitchen" "many" "I" ∈ wsX12_follows := by decide +kernel
theorem fl_X12_follows_7 : Cond.fieldLink RX12 7 "RecipeSchedulerLaw$Kitchen" "status" "[I" ∈ wsX12_follows := by decide +kernel
section
variable {p : Program} {l : Launch} {e : Env} {s : State} {m : MethodId} {below : List Frame} {meth : Method} {c : Code} {N0 : Nat} {T : Nat → ClassId} {D : va_G} {gr : List (Nat × Nat)} {ad : Nat → Nat → Nat → Nat}
set_option maxRecDepth 100000 in
set_option maxHeartbeats 4000000 in
theorem w_X12_follows_b59 {a1 : Int32} {a2 : Int32} {a3 : Int32} (C : Cx p s m [.ref (ad 12 0 0), .int a1, .int a2, .int a3].toArray meth c cX12_follows 6 wsX12_follows RX12 N0 T D gr ad) (hrt : meth.sig.returnType = (some .boolean)) (hG : ∀ q ∈ ([(12, 0), (1, 0), (0, 0)] ++ allG), q ∈ gr) (hl : l.stackTraces = false) (hX : ∀ x ∈ c.exceptionTable.toList, False) {res : (Nat × Mem) ⊕ (Int32 × Mem)} {k8 : Mem → Int32 → Int32 → Option ((Nat × Mem) ⊕ (Int32 × Mem))} (hk8 : ∀ (Y : Mem) (l5 : Int32) (l4 : Int32), k8 Y l5 l4 = some res → FW p l e (Rx 9 2500) s m [.ref (ad 12 0 0), .int a1, .int a2, .int a3].toArray below meth c 6 N0 T D gr ad 2500 15000 (vx_MQ below (va_Qi (fun r Y1 => Sum.inr (r, Y1) = res) (WB T D gr ad) (fun q => N0 ≤ q)) (vx_X (fun u => Sum.inl u = res) (XB T D gr ad) (fun q => N0 ≤ q)) [.ref (ad 12 0 0), .int a1, .int a2, .int a3].toArray s 2500 15000 (fun q => N0 ≤ q)) Y 8 [(5, .int l5), (4, .int l4), (0, .ref (ad 12 0 0)), (1, .int a1), (2, .int a2), (3, .int a3)] []) (Y : Mem) (l5 : Int32) (s0 : Int32) (h : X12_follows_b59 a1 a2 a3 k8 Y l5 s0 = some res) : FW p l e (Rx 9 2500) s m [.ref (ad 12 0 0), .int a1, .int a2, .int a3].toArray below meth c 6 N0 T D gr ad 2500 15000 (vx_MQ below (va_Qi (fun r Y1 => Sum.inr (r, Y1) = res) (WB T D gr ad) (fun q => N0 ≤ q)) (vx_X (fun u => Sum.inl u = res) (XB T D gr ad) (fun q => N0 ≤ q)) [.ref (ad 12 0 0), .int a1, .int a2, .int a3].toArray s 2500 15000 (fun q => N0 ≤ q)) Y 59 [(5, .int l5), (0, .ref (ad 12 0 0)), (1, .int a1), (2, .int a2), (3, .int a3)] [.int s0] := by
  unfold X12_follows_b59 at h
  refine fw_istore C dX12_follows_59 (by decide) (L' := [(4, .int s0), (5, .int l5), (0, .ref (ad 12 0 0)), (1, .int a1), (2, .int a2), (3, .int a3)]) rfl ?_
  refine fw_iinc C dX12_follows_61 (kk := 1) (v := l5 + 1) rfl rfl (by decide) (L' := [(5, .int (l5 + 1)), (4, .int s0), (0, .ref (ad 12 0 0)), (1, .int a1), (2, .int a2), (3, .int a3)]) rfl ?_
  refine fw_goto C dX12_follows_64 (tgt := 8) rfl ?_
  exact hk8 _ _ _ h
set_option maxRecDepth 100000 in
set_option maxHeartbeats 4000000 in
theorem w_X12_follows_b54 {a1 : Int32} {a2 : Int32} {a3 : Int32} (C : Cx p s m [.ref (ad 12 0 0), .int a1, .int a2, .int a3].toArray meth c cX12_follows 6 wsX12_follows RX12 N0 T D gr ad) (hrt : meth.sig.returnType = (some .boolean)) (hG : ∀ q ∈ ([(12, 0), (1, 0), (0, 0)] ++ allG), q ∈ gr) (hl : l.stackTraces = false) (hX : ∀ x ∈ c.exceptionTable.toList, False) {res : (Nat × Mem) ⊕ (Int32 × Mem)} {k8 : Mem → Int32 → Int32 → Option ((Nat × Mem) ⊕ (Int32 × Mem))} (hk8 : ∀ (Y : Mem) (l5 : Int32) (l4 : Int32), k8 Y l5 l4 = some res → FW p l e (Rx 9 2500) s m [.ref (ad 12 0 0), .int a1, .int a2, .int a3].toArray below meth c 6 N0 T D gr ad 2500 15000 (vx_MQ below (va_Qi (fun r Y1 => Sum.inr (r, Y1) = res) (WB T D gr ad) (fun q => N0 ≤ q)) (vx_X (fun u => Sum.inl u = res) (XB T D gr ad) (fun q => N0 ≤ q)) [.ref (ad 12 0 0), .int a1, .int a2, .int a3].toArray s 2500 15000 (fun q => N0 ≤ q)) Y 8 [(5, .int l5), (4, .int l4), (0, .ref (ad 12 0 0)), (1, .int a1), (2, .int a2), (3, .int a3)] []) (Y : Mem) (l5 : Int32) (h : X12_follows_b54 a1 a2 a3 k8 Y l5 = some res) : FW p l e (Rx 9 2500) s m [.ref (ad 12 0 0), .int a1, .int a2, .int a3].toArray below meth c 6 N0 T D gr ad 2500 15000 (vx_MQ below (va_Qi (fun r Y1 => Sum.inr (r, Y1) = res) (WB T D gr ad) (fun q => N0 ≤ q)) (vx_X (fun u => Sum.inl u = res) (XB T D gr ad) (fun q => N0 ≤ q)) [.ref (ad 12 0 0), .int a1, .int a2, .int a3].toArray s 2500 15000 (fun q => N0 ≤ q)) Y 54 [(5, .int l5), (0, .ref (ad 12 0 0)), (1, .int a1), (2, .int a2), (3, .int a3)] [] := by
  unfold X12_follows_b54 at h
  refine fw_iconst C dX12_follows_54 (v := 1) rfl ?_
  refine fw_goto C dX12_follows_55 (tgt := 59) rfl ?_
  exact w_X12_follows_b59 C hrt hG  hl hX hk8 _ _ _ h
set_option maxRecDepth 100000 in
set_option maxHeartbeats 4000000 in
theorem w_X12_follows_b58 {a1 : Int32} {a2 : Int32} {a3 : Int32} (C : Cx p s m [.ref (ad 12 0 0), .int a1, .int a2, .int a3].toArray meth c cX12_follows 6 wsX12_follows RX12 N0 T D gr ad) (hrt : meth.sig.returnType = (some .boolean)) (hG : ∀ q ∈ ([(12, 0), (1, 0), (0, 0)] ++ allG), q ∈ gr) (hl : l.stackTraces = false) (hX : ∀ x ∈ c.exceptionTable.toList, False) {res : (Nat × Mem) ⊕ (Int32 × Mem)} {k8 : Mem → Int32 → Int32 → Option ((Nat × Mem) ⊕ (Int32 × Mem))} (hk8 : ∀ (Y : Mem) (l5 : Int32) (l4 : Int32), k8 Y l5 l4 = some res → FW p l e (Rx 9 2500) s m [.ref (ad 12 0 0), .int a1, .int a2, .int a3].toArray below meth c 6 N0 T D gr ad 2500 15000 (vx_MQ below (va_Qi (fun r Y1 => Sum.inr (r, Y1) = res) (WB T D gr ad) (fun q => N0 ≤ q)) (vx_X (fun u => Sum.inl u = res) (XB T D gr ad) (fun q => N0 ≤ q)) [.ref (ad 12 0 0), .int a1, .int a2, .int a3].toArray s 2500 15000 (fun q => N0 ≤ q)) Y 8 [(5, .int l5), (4, .int l4), (0, .ref (ad 12 0 0)), (1, .int a1), (2, .int a2), (3, .int a3)] []) (Y : Mem) (l5 : Int32) (h : X12_follows_b58 a1 a2 a3 k8 Y l5 = some res) : FW p l e (Rx 9 2500) s m [.ref (ad 12 0 0), .int a1, .int a2, .int a3].toArray below meth c 6 N0 T D gr ad 2500 15000 (vx_MQ below (va_Qi (fun r Y1 => Sum.inr (r, Y1) = res) (WB T D gr ad) (fun q => N0 ≤ q)) (vx_X (fun u => Sum.inl u = res) (XB T D gr ad) (fun q => N0 ≤ q)) [.ref (ad 12 0 0), .int a1, .int a2, .int a3].toArray s 2500 15000 (fun q => N0 ≤ q)) Y 58 [(5, .int l5), (0, .ref (ad 12 0 0)), (1, .int a1), (2, .int a2), (3, .int a3)] [] := by
  unfold X12_follows_b58 at h
  refine fw_iconst C dX12_follows_58 (v := 0) rfl ?_
  exact w_X12_follows_b59 C hrt hG  hl hX hk8 _ _ _ h
set_option maxRecDepth 100000 in
set_option maxHeartbeats 4000000 in
theorem w_X12_follows_b8 {a1 : Int32} {a2 : Int32} {a3 : Int32} (C : Cx p s m [.ref (ad 12 0 0), .int a1, .int a2, .int a3].toArray meth c cX12_follows 6 wsX12_follows RX12 N0 T D gr ad) (hrt : meth.sig.returnType = (some .boolean)) (hG : ∀ q ∈ ([(12, 0), (1, 0), (0, 0)] ++ allG), q ∈ gr) (hl : l.stackTraces = false) (hX : ∀ x ∈ c.exceptionTable.toList, False) {res : (Nat × Mem) ⊕ (Int32 × Mem)} : ∀ (n : Nat) (Y : Mem) (l5 : Int32) (l4 : Int32), X12_follows_b8 a1 a2 a3  n Y l5 l4 = some res → FW p l e (Rx 9 2500) s m [.ref (ad 12 0 0), .int a1, .int a2, .int a3].toArray below meth c 6 N0 T D gr ad 2500 15000 (vx_MQ below (va_Qi (fun r Y1 => Sum.inr (r, Y1) = res) (WB T D gr ad) (fun q => N0 ≤ q)) (vx_X (fun u => Sum.inl u = res) (XB T D gr ad) (fun q => N0 ≤ q)) [.ref (ad 12 0 0), .int a1, .int a2, .int a3].toArray s 2500 15000 (fun q => N0 ≤ q)) Y 8 [(5, .int l5), (4, .int l4), (0, .ref (ad 12 0 0)), (1, .int a1), (2, .int a2), (3, .int a3)] [] := by
  intro n
  induction n with
  | zero =>
    intro Y l5 l4 h
    unfold X12_follows_b8 at h
    cases h
  | succ n ih =>
    intro Y l5 l4 h
    unfold X12_follows_b8 at h
    refine fw_iload C dX12_follows_8 0 rfl ?_
    refine fw_aload_n C dX12_follows_10 rfl 2 rfl ?_
    refine fw_get C (ci := 12) (Cn := RX12) (Tc := TX12) (N := 12) (j := 1) ly_X12_follows_12 rfl (hG _ (List.mem_of_getElem? (i := 0) rfl)) (of12_0 _) (ce12 T ad _ _) (by decide) (cx_ts C _ fl_X12_follows_36) (fun _ h => h) (v := .int (Y 12 0 0 1)) rfl dX12_follows_11 ?_
    refine fw_icmp_ge C dX12_follows_14 (tgt := 67) rfl (fun c3 => ?_) (fun c3 => ?_)
    · have h := ite_t c3 h
      refine fw_iload C dX12_follows_67 1 rfl ?_
      refine fw_xr (Nat.le_of_ble_eq_true rfl) (Nat.le_of_ble_eq_true rfl) ?_
      obtain ⟨b4, h⟩ := gd_some h
      exact fw_zret C hrt (of_decide_eq_true b4) Y (Option.some.inj h) (fun t ht => ht) dX12_follows_69
    · have h := ite_f c3 h
      refine fw_iload C dX12_follows_17 1 rfl ?_
      refine fw_if_ne C dX12_follows_19 (tgt := 54) rfl (fun c5 => ?_) (fun c5 => ?_)
      · have h := ite_f c5 h
        refine fw_sub [0, 2, 3, 4, 5] (L' := [(5, .int l5), (0, .ref (ad 12 0 0)), (1, .int a1), (2, .int a2), (3, .int a3)]) rfl ?_
        exact w_X12_follows_b54 C hrt hG  hl hX ih _ _ h
      · have h := ite_t c5 h
        refine fw_aload_n C dX12_follows_22 rfl 2 rfl ?_
        refine fw_iload C dX12_follows_23 0 rfl ?_
        refine fw_iload_n C dX12_follows_25 rfl 3 rfl ?_
        rcases bdxi_some h with ⟨x10, q7, e11⟩ | ⟨r6, Y9, q7, h⟩
        · exact fw_callXVi_l C (ci := 12) (Cn := RX12) (Tc := TX12) (N := 12) (As := [.int l5, .int a1]) (c_X12_isAfter hl (gac (hG _ (List.mem_of_getElem? (i := 0) rfl)) (gac (hG _ (List.mem_of_getElem? (i := 2) rfl)) (gac (hG _ (List.mem_of_getElem? (i := 1) rfl)) (fun q hq => hG q (List.mem_append_right _ hq))))) q7) (cwV 2 (cx_ts C) gX12_follows_X12_isAfter rfl rfl rfl (by decide +kernel) ⟨Nat.le_of_ble_eq_true rfl, Nat.le_of_ble_eq_true rfl⟩) rfl (hG _ (List.mem_of_getElem? (i := 0) rfl)) (of12_0 _) (ce12 T ad _ _) rfl (st := []) rfl (Nat.le_of_ble_eq_true rfl) ⟨Nat.le_of_ble_eq_true rfl, Nat.le_of_ble_eq_true rfl⟩ dX12_follows_26 hX e11 (Nat.le_of_ble_eq_true rfl) (Nat.le_of_ble_eq_true rfl)
        refine fw_callXVi_r C (ci := 12) (Cn := RX12) (Tc := TX12) (N := 12) (As := [.int l5, .int a1]) (c_X12_isAfter hl (gac (hG _ (List.mem_of_getElem? (i := 0) rfl)) (gac (hG _ (List.mem_of_getElem? (i := 2) rfl)) (gac (hG _ (List.mem_of_getElem? (i := 1) rfl)) (fun q hq => hG q (List.mem_append_right _ hq))))) q7) (cwV 2 (cx_ts C) gX12_follows_X12_isAfter rfl rfl rfl (by decide +kernel) ⟨Nat.le_of_ble_eq_true rfl, Nat.le_of_ble_eq_true rfl⟩) rfl (hG _ (List.mem_of_getElem? (i := 0) rfl)) (of12_0 _) (ce12 T ad _ _) rfl (st := []) rfl (Nat.le_of_ble_eq_true rfl) ⟨Nat.le_of_ble_eq_true rfl, Nat.le_of_ble_eq_true rfl⟩ dX12_follows_26 ?_
        refine fw_if_eq C dX12_follows_29 (tgt := 58) rfl (fun c12 => ?_) (fun c12 => ?_)
        · have h := ite_t c12 h
          refine fw_sub [0, 2, 3, 4, 5] (L' := [(5, .int l5), (0, .ref (ad 12 0 0)), (1, .int a1), (2, .int a2), (3, .int a3)]) rfl ?_
          exact w_X12_follows_b58 C hrt hG  hl hX ih _ _ h
        · have h := ite_f c12 h
          refine fw_aload_n C dX12_follows_32 rfl 2 rfl ?_
          refine fw_get C (ci := 12) (Cn := RX12) (Tc := TX12) (N := 12) (j := 3) ly_X12_follows_12 rfl (hG _ (List.mem_of_getElem? (i := 0) rfl)) (of12_0 _) (ce12 T ad _ _) (by decide) (cx_ts C _ fl_X12_follows_7) (fun _ h => h) (v := .ref (ad 12 0 1)) rfl dX12_follows_33 ?_
          refine fw_iload C dX12_follows_36 0 rfl ?_
          obtain ⟨b13, h⟩ := gd_some h
          refine fw_iald2 C (hG _ (List.mem_of_getElem? (i := 0) rfl)) (of12_1 _) (ca12_1 T ad _ _) b13 (Nat.le_of_ble_eq_true rfl) dX12_follows_38 ?_
          refine fw_iload_n C dX12_follows_39 rfl 4 rfl ?_
          refine fw_icmp_eq C dX12_follows_40 (tgt := 54) rfl (fun c14 => ?_) (fun c14 => ?_)
          · have h := ite_t c14 h
            refine fw_sub [0, 2, 3, 4, 5] (L' := [(5, .int l5), (0, .ref (ad 12 0 0)), (1, .int a1), (2, .int a2), (3, .int a3)]) rfl ?_
            exact w_X12_follows_b54 C hrt hG  hl hX ih _ _ h
          · have h := ite_f c14 h
            refine fw_aload_n C dX12_follows_43 rfl 2 rfl ?_
            refine fw_get C (ci := 12) (Cn := RX12) (Tc := TX12) (N := 12) (j := 3) ly_X12_follows_12 rfl (hG _ (List.mem_of_getElem? (i := 0) rfl)) (of12_0 _) (ce12 T ad _ _) (by decide) (cx_ts C _ fl_X12_follows_7) (fun _ h => h) (v := .ref (ad 12 0 1)) rfl dX12_follows_44 ?_
            refine fw_iload C dX12_follows_47 0 rfl ?_
            refine fw_iald2 C (hG _ (List.mem_of_getElem? (i := 0) rfl)) (of12_1 _) (ca12_1 T ad _ _) b13 (Nat.le_of_ble_eq_true rfl) dX12_follows_49 ?_
            refine fw_iload_n C dX12_follows_50 rfl 5 rfl ?_
            refine fw_icmp_ne C dX12_follows_51 (tgt := 58) rfl (fun c15 => ?_) (fun c15 => ?_)
            · have h := ite_f c15 h
              refine fw_sub [0, 2, 3, 4, 5] (L' := [(5, .int l5), (0, .ref (ad 12 0 0)), (1, .int a1), (2, .int a2), (3, .int a3)]) rfl ?_
              exact w_X12_follows_b58 C hrt hG  hl hX ih _ _ h
            · have h := ite_t c15 h
              refine fw_sub [0, 2, 3, 4, 5] (L' := [(5, .int l5), (0, .ref (ad 12 0 0)), (1, .int a1), (2, .int a2), (3, .int a3)]) rfl ?_
              exact w_X12_follows_b54 C hrt hG  hl hX ih _ _ h
set_option maxRecDepth 100000 in
set_option maxHeartbeats 4000000 in
theorem w_X12_follows {Y : Mem} {a1 : Int32} {a2 : Int32} {a3 : Int32} (C : Cx p s m [.ref (ad 12 0 0), .int a1, .int a2, .int a3].toArray meth c cX12_follows 6 wsX12_follows RX12 N0 T D gr ad) (hrt : meth.sig.returnType = (some .boolean)) (hG : ∀ q ∈ ([(12, 0), (1, 0), (0, 0)] ++ allG), q ∈ gr) (hl : l.stackTraces = false) (hX : ∀ x ∈ c.exceptionTable.toList, False) {res : (Nat × Mem) ⊕ (Int32 × Mem)} (h : X12_follows Y a1 a2 a3 = some res) : FW p l e (Rx 9 2500) s m [.ref (ad 12 0 0), .int a1, .int a2, .int a3].toArray below meth c 6 N0 T D gr ad 0 0 (vx_MQ below (va_Qi (fun r Y1 => Sum.inr (r, Y1) = res) (WB T D gr ad) (fun q => N0 ≤ q)) (vx_X (fun u => Sum.inl u = res) (XB T D gr ad) (fun q => N0 ≤ q)) [.ref (ad 12 0 0), .int a1, .int a2, .int a3].toArray s 2500 15000 (fun q => N0 ≤ q)) Y 0 [(0, .ref (ad 12 0 0)), (1, .int a1), (2, .int a2), (3, .int a3)] [] := by
  unfold X12_follows at h
  refine fw_iconst C dX12_follows_0 (v := 0) rfl ?_
  refine fw_istore C dX12_follows_1 (by decide) (L' := [(4, .int 0), (0, .ref (ad 12 0 0)), (1, .int a1), (2, .int a2), (3, .int a3)]) rfl ?_
  refine fw_iload_n C dX12_follows_3 rfl 2 rfl ?_
  refine fw_iconst C dX12_follows_4 (v := 1) rfl ?_
  refine fw_iadd C dX12_follows_5 ?_
  obtain ⟨v1, e2, h⟩ := lt_some h
  refine fw_top (v' := .int v1) (by rw [e2]) ?_
  refine fw_istore C dX12_follows_6 (by decide) (L' := [(5, .int v1), (4, .int 0), (0, .ref (ad 12 0 0)), (1, .int a1), (2, .int a2), (3, .int a3)]) rfl ?_
  exact w_X12_follows_b8 C hrt hG  hl hX  _ _ _ _ h
end
set_option maxRecDepth 100000 in
set_option maxHeartbeats 4000000 in
theorem c_X12_follows {l : Launch} {N0 : Nat} {T : Nat → ClassId} {D : va_G} {gr : List (Nat × Nat)} {ad : Nat → Nat → Nat → Nat} {Y : Mem} {a1 : Int32} {a2 : Int32} {a3 : Int32} {res : (Nat × Mem) ⊕ (Int32 × Mem)} (hl : l.stackTraces = false) (hG : ∀ q ∈ ([(12, 0), (1, 0), (0, 0)] ++ allG), q ∈ gr) (h : X12_follows Y a1 a2 a3 = some res) : CXi l yX12_follows wsX12_follows (Rx 9 2500) N0 T D gr ad Y [.ref (ad 12 0 0), .int a1, .int a2, .int a3] 2500 res :=
  fw_xbody (by decide +kernel) rfl (Nat.le_of_ble_eq_true rfl) (fun p e s m below meth c C hrt hX => w_X12_follows C hrt hG hl hX h)
