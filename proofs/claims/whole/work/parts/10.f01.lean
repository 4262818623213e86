noncomputable def X12_firstOpen_b2 (Y : Mem) (a1 : Int32) : Nat → Int32 → Option (Int32)
  | 0, _ => none
  | n+1, l2 =>
  bd1 (X12_of Y a1 12) <| fun r1 => if r1 ≤ l2 then (some ((-1))) else (bd1 (X12_of Y a1 (13 + l2)) <| fun r4 => bd1 (X12_of Y r4 17) <| fun r6 => if r6 = 2 then (X12_firstOpen_b2 Y a1 n (l2 + 1)) else (bd1 (X12_of Y a1 (13 + l2)) <| fun r9 => some r9))
noncomputable def X12_firstOpen (Y : Mem) (a1 : Int32) : Option (Int32) :=
  X12_firstOpen_b2 Y a1 FU 0
section
variable {p : Program} {l : Launch} {e : Env} {s : State} {m : MethodId} {below : List Frame} {meth : Method} {c : Code} {N0 : Nat} {T : Nat → ClassId} {D : va_G} {gr : List (Nat × Nat)} {ad : Nat → Nat → Nat → Nat}
set_option maxRecDepth 100000 in
set_option maxHeartbeats 4000000 in
theorem w_X12_firstOpen_b2 {Y : Mem} {a1 : Int32} (C : Cx p s m [.ref (ad 10 0 0), .int a1].toArray meth c cX12_firstOpen 3 wsX12_firstOpen RX12 N0 T D gr ad) (hrt : meth.sig.returnType = (some .int)) (hG : ∀ q ∈ [(10, 0)], q ∈ gr) {res : Int32} : ∀ (n : Nat) (l2 : Int32), X12_firstOpen_b2 Y a1  n l2 = some res → FW p l e (Rm 1) s m [.ref (ad 10 0 0), .int a1].toArray below meth c 3 N0 T D gr ad 0 0 (MQ below (va_Qi (fun r Y1 => r = res ∧ Y1 = Y) (WB T D gr ad) (fun q => N0 ≤ q)) [.ref (ad 10 0 0), .int a1].toArray s 0 0 (fun q => N0 ≤ q)) Y 2 [(2, .int l2), (0, .ref (ad 10 0 0)), (1, .int a1)] [] := by
  intro n
  induction n with
  | zero =>
    intro l2 h
    unfold X12_firstOpen_b2 at h
    cases h
  | succ n ih =>
    intro l2 h
    unfold X12_firstOpen_b2 at h
    refine fw_iload_n C dX12_firstOpen_2 rfl 0 rfl ?_
    refine fw_aload_n C dX12_firstOpen_3 rfl 1 rfl ?_
    refine fw_iload_n C dX12_firstOpen_4 rfl 2 rfl ?_
    refine fw_bipush C dX12_firstOpen_5 (v := 12) rfl ?_
    obtain ⟨r1, q2, h⟩ := bd1_some h
    refine fw_callVi C (ci := 10) (Cn := RX12) (Tc := TX12) (N := 19) (As := [.int a1, .int 12]) (c_X12_of (gac (hG _ (List.mem_of_getElem? (i := 0) rfl)) ga0) q2) (cwV 2 (cx_ts C) gX12_firstOpen_X12_of rfl rfl rfl (by decide +kernel) ⟨Nat.le_of_ble_eq_true rfl, Nat.le_of_ble_eq_true rfl⟩) rfl (hG _ (List.mem_of_getElem? (i := 0) rfl)) (of10_0 _) (ce10 T ad _ _) rfl (st := [.int l2]) rfl (Nat.le_of_ble_eq_true rfl) ⟨Nat.le_refl 0, Nat.le_refl 0⟩ dX12_firstOpen_7 ?_
    rintro _ _ ⟨rfl, rfl⟩
    refine fw_icmp_ge C dX12_firstOpen_10 (tgt := 48) rfl (fun c3 => ?_) (fun c3 => ?_)
    · have h := ite_t c3 h
      refine fw_iconst C dX12_firstOpen_48 (v := (-1)) rfl ?_
      exact fw_iret C hrt Y ⟨Option.some.inj h, rfl⟩ (fun t ht => ht) dX12_firstOpen_49
    · have h := ite_f c3 h
      refine fw_aload_n C dX12_firstOpen_13 rfl 1 rfl ?_
      refine fw_aload_n C dX12_firstOpen_14 rfl 1 rfl ?_
      refine fw_iload_n C dX12_firstOpen_15 rfl 2 rfl ?_
      refine fw_bipush C dX12_firstOpen_16 (v := 13) rfl ?_
      refine fw_iload_n C dX12_firstOpen_18 rfl 0 rfl ?_
      refine fw_iadd C dX12_firstOpen_19 ?_
      obtain ⟨r4, q5, h⟩ := bd1_some h
      refine fw_callVi C (ci := 10) (Cn := RX12) (Tc := TX12) (N := 19) (As := [.int a1, .int (13 + l2)]) (c_X12_of (gac (hG _ (List.mem_of_getElem? (i := 0) rfl)) ga0) q5) (cwV 2 (cx_ts C) gX12_firstOpen_X12_of rfl rfl rfl (by decide +kernel) ⟨Nat.le_of_ble_eq_true rfl, Nat.le_of_ble_eq_true rfl⟩) rfl (hG _ (List.mem_of_getElem? (i := 0) rfl)) (of10_0 _) (ce10 T ad _ _) rfl (st := [.ref (ad 10 0 0)]) rfl (Nat.le_of_ble_eq_true rfl) ⟨Nat.le_refl 0, Nat.le_refl 0⟩ dX12_firstOpen_20 ?_
      rintro _ _ ⟨rfl, rfl⟩
      refine fw_bipush C dX12_firstOpen_23 (v := 17) rfl ?_
      obtain ⟨r6, q7, h⟩ := bd1_some h
      refine fw_callVi C (ci := 10) (Cn := RX12) (Tc := TX12) (N := 19) (As := [.int r4, .int 17]) (c_X12_of (gac (hG _ (List.mem_of_getElem? (i := 0) rfl)) ga0) q7) (cwV 2 (cx_ts C) gX12_firstOpen_X12_of rfl rfl rfl (by decide +kernel) ⟨Nat.le_of_ble_eq_true rfl, Nat.le_of_ble_eq_true rfl⟩) rfl (hG _ (List.mem_of_getElem? (i := 0) rfl)) (of10_0 _) (ce10 T ad _ _) rfl (st := []) rfl (Nat.le_of_ble_eq_true rfl) ⟨Nat.le_refl 0, Nat.le_refl 0⟩ dX12_firstOpen_25 ?_
      rintro _ _ ⟨rfl, rfl⟩
      refine fw_iconst C dX12_firstOpen_28 (v := 2) rfl ?_
      refine fw_icmp_eq C dX12_firstOpen_29 (tgt := 42) rfl (fun c8 => ?_) (fun c8 => ?_)
      · have h := ite_t c8 h
        refine fw_iinc C dX12_firstOpen_42 (kk := 0) (v := l2 + 1) rfl rfl (by decide) (L' := [(2, .int (l2 + 1)), (0, .ref (ad 10 0 0)), (1, .int a1)]) rfl ?_
        refine fw_goto C dX12_firstOpen_45 (tgt := 2) rfl ?_
        exact ih _ h
      · have h := ite_f c8 h
        refine fw_aload_n C dX12_firstOpen_32 rfl 1 rfl ?_
        refine fw_iload_n C dX12_firstOpen_33 rfl 2 rfl ?_
        refine fw_bipush C dX12_firstOpen_34 (v := 13) rfl ?_
        refine fw_iload_n C dX12_firstOpen_36 rfl 0 rfl ?_
        refine fw_iadd C dX12_firstOpen_37 ?_
        obtain ⟨r9, q10, h⟩ := bd1_some h
        refine fw_callVi C (ci := 10) (Cn := RX12) (Tc := TX12) (N := 19) (As := [.int a1, .int (13 + l2)]) (c_X12_of (gac (hG _ (List.mem_of_getElem? (i := 0) rfl)) ga0) q10) (cwV 2 (cx_ts C) gX12_firstOpen_X12_of rfl rfl rfl (by decide +kernel) ⟨Nat.le_of_ble_eq_true rfl, Nat.le_of_ble_eq_true rfl⟩) rfl (hG _ (List.mem_of_getElem? (i := 0) rfl)) (of10_0 _) (ce10 T ad _ _) rfl (st := []) rfl (Nat.le_of_ble_eq_true rfl) ⟨Nat.le_refl 0, Nat.le_refl 0⟩ dX12_firstOpen_38 ?_
        rintro _ _ ⟨rfl, rfl⟩
        exact fw_iret C hrt Y ⟨Option.some.inj h, rfl⟩ (fun t ht => ht) dX12_firstOpen_41
set_option maxRecDepth 100000 in
set_option maxHeartbeats 4000000 in
theorem w_X12_firstOpen {Y : Mem} {a1 : Int32} (C : Cx p s m [.ref (ad 10 0 0), .int a1].toArray meth c cX12_firstOpen 3 wsX12_firstOpen RX12 N0 T D gr ad) (hrt : meth.sig.returnType = (some .int)) (hG : ∀ q ∈ [(10, 0)], q ∈ gr) {res : Int32} (h : X12_firstOpen Y a1 = some res) : FW p l e (Rm 1) s m [.ref (ad 10 0 0), .int a1].toArray below meth c 3 N0 T D gr ad 0 0 (MQ below (va_Qi (fun r Y1 => r = res ∧ Y1 = Y) (WB T D gr ad) (fun q => N0 ≤ q)) [.ref (ad 10 0 0), .int a1].toArray s 0 0 (fun q => N0 ≤ q)) Y 0 [(0, .ref (ad 10 0 0)), (1, .int a1)] [] := by
  unfold X12_firstOpen at h
  refine fw_iconst C dX12_firstOpen_0 (v := 0) rfl ?_
  refine fw_istore_n C dX12_firstOpen_1 rfl (by decide) (L' := [(2, .int 0), (0, .ref (ad 10 0 0)), (1, .int a1)]) rfl ?_
  exact w_X12_firstOpen_b2 C hrt hG   _ _ h
end
set_option maxRecDepth 100000 in
set_option maxHeartbeats 4000000 in
theorem c_X12_firstOpen {l : Launch} {N0 : Nat} {T : Nat → ClassId} {D : va_G} {gr : List (Nat × Nat)} {ad : Nat → Nat → Nat → Nat} {Y : Mem} {a1 : Int32} {res : Int32} (hG : ∀ q ∈ [(10, 0)], q ∈ gr) (h : X12_firstOpen Y a1 = some res) : CI l yX12_firstOpen wsX12_firstOpen (Rm 1) N0 T D gr ad Y [.ref (ad 10 0 0), .int a1] (fun r Y1 => r = res ∧ Y1 = Y) :=
  fw_body (by decide +kernel) rfl (Nat.le_of_ble_eq_true rfl) (fun p e s m below meth c C hrt => w_X12_firstOpen C hrt hG  h)
noncomputable def X12_isPredecessor_b2 (Y : Mem) (a1 : Int32) (a2 : Int32) : Nat → Int32 → Option (Int32)
  | 0, _ => none
  | n+1, l3 =>
  bd1 (X12_of Y a2 12) <| fun r1 => if r1 ≤ l3 then (some 0) else (bd1 (X12_of Y a2 (13 + l3)) <| fun r4 => if r4 = a1 then (some 1) else (X12_isPredecessor_b2 Y a1 a2 n (l3 + 1)))
noncomputable def X12_isPredecessor (Y : Mem) (a1 : Int32) (a2 : Int32) : Option (Int32) :=
  X12_isPredecessor_b2 Y a1 a2 FU 0
section
variable {p : Program} {l : Launch} {e : Env} {s : State} {m : MethodId} {below : List Frame} {meth : Method} {c : Code} {N0 : Nat} {T : Nat → ClassId} {D : va_G} {gr : List (Nat × Nat)} {ad : Nat → Nat → Nat → Nat}
set_option maxRecDepth 100000 in
set_option maxHeartbeats 4000000 in
theorem w_X12_isPredecessor_b2 {Y : Mem} {a1 : Int32} {a2 : Int32} (C : Cx p s m [.ref (ad 10 0 0), .int a1, .int a2].toArray meth c cX12_isPredecessor 4 wsX12_isPredecessor RX12 N0 T D gr ad) (hrt : meth.sig.returnType = (some .boolean)) (hG : ∀ q ∈ [(10, 0)], q ∈ gr) {res : Int32} : ∀ (n : Nat) (l3 : Int32), X12_isPredecessor_b2 Y a1 a2  n l3 = some res → FW p l e (Rm 1) s m [.ref (ad 10 0 0), .int a1, .int a2].toArray below meth c 4 N0 T D gr ad 0 0 (MQ below (va_Qi (fun r Y1 => r = res ∧ Y1 = Y) (WB T D gr ad) (fun q => N0 ≤ q)) [.ref (ad 10 0 0), .int a1, .int a2].toArray s 0 0 (fun q => N0 ≤ q)) Y 2 [(3, .int l3), (0, .ref (ad 10 0 0)), (1, .int a1), (2, .int a2)] [] := by
  intro n
  induction n with
  | zero =>
    intro l3 h
    unfold X12_isPredecessor_b2 at h
    cases h
  | succ n ih =>
    intro l3 h
    unfold X12_isPredecessor_b2 at h
    refine fw_iload_n C dX12_isPredecessor_2 rfl 0 rfl ?_
    refine fw_aload_n C dX12_isPredecessor_3 rfl 1 rfl ?_
    refine fw_iload_n C dX12_isPredecessor_4 rfl 3 rfl ?_
    refine fw_bipush C dX12_isPredecessor_5 (v := 12) rfl ?_
    obtain ⟨r1, q2, h⟩ := bd1_some h
    refine fw_callVi C (ci := 10) (Cn := RX12) (Tc := TX12) (N := 19) (As := [.int a2, .int 12]) (c_X12_of (gac (hG _ (List.mem_of_getElem? (i := 0) rfl)) ga0) q2) (cwV 2 (cx_ts C) gX12_isPredecessor_X12_of rfl rfl rfl (by decide +kernel) ⟨Nat.le_of_ble_eq_true rfl, Nat.le_of_ble_eq_true rfl⟩) rfl (hG _ (List.mem_of_getElem? (i := 0) rfl)) (of10_0 _) (ce10 T ad _ _) rfl (st := [.int l3]) rfl (Nat.le_of_ble_eq_true rfl) ⟨Nat.le_refl 0, Nat.le_refl 0⟩ dX12_isPredecessor_7 ?_
    rintro _ _ ⟨rfl, rfl⟩
    refine fw_icmp_ge C dX12_isPredecessor_10 (tgt := 34) rfl (fun c3 => ?_) (fun c3 => ?_)
    · have h := ite_t c3 h
      refine fw_iconst C dX12_isPredecessor_34 (v := 0) rfl ?_
      exact fw_zret C hrt (by decide) Y ⟨Option.some.inj h, rfl⟩ (fun t ht => ht) dX12_isPredecessor_35
    · have h := ite_f c3 h
      refine fw_aload_n C dX12_isPredecessor_13 rfl 1 rfl ?_
      refine fw_iload_n C dX12_isPredecessor_14 rfl 3 rfl ?_
      refine fw_bipush C dX12_isPredecessor_15 (v := 13) rfl ?_
      refine fw_iload_n C dX12_isPredecessor_17 rfl 0 rfl ?_
      refine fw_iadd C dX12_isPredecessor_18 ?_
      obtain ⟨r4, q5, h⟩ := bd1_some h
      refine fw_callVi C (ci := 10) (Cn := RX12) (Tc := TX12) (N := 19) (As := [.int a2, .int (13 + l3)]) (c_X12_of (gac (hG _ (List.mem_of_getElem? (i := 0) rfl)) ga0) q5) (cwV 2 (cx_ts C) gX12_isPredecessor_X12_of rfl rfl rfl (by decide +kernel) ⟨Nat.le_of_ble_eq_true rfl, Nat.le_of_ble_eq_true rfl⟩) rfl (hG _ (List.mem_of_getElem? (i := 0) rfl)) (of10_0 _) (ce10 T ad _ _) rfl (st := []) rfl (Nat.le_of_ble_eq_true rfl) ⟨Nat.le_refl 0, Nat.le_refl 0⟩ dX12_isPredecessor_19 ?_
      rintro _ _ ⟨rfl, rfl⟩
      refine fw_iload_n C dX12_isPredecessor_22 rfl 2 rfl ?_
      refine fw_icmp_ne C dX12_isPredecessor_23 (tgt := 28) rfl (fun c6 => ?_) (fun c6 => ?_)
      · have h := ite_f c6 h
        refine fw_iinc C dX12_isPredecessor_28 (kk := 0) (v := l3 + 1) rfl rfl (by decide) (L' := [(3, .int (l3 + 1)), (0, .ref (ad 10 0 0)), (1, .int a1), (2, .int a2)]) rfl ?_
        refine fw_goto C dX12_isPredecessor_31 (tgt := 2) rfl ?_
        exact ih _ h
      · have h := ite_t c6 h
        refine fw_iconst C dX12_isPredecessor_26 (v := 1) rfl ?_
        exact fw_zret C hrt (by decide) Y ⟨Option.some.inj h, rfl⟩ (fun t ht => ht) dX12_isPredecessor_27
set_option maxRecDepth 100000 in
set_option maxHeartbeats 4000000 in
theorem w_X12_isPredecessor {Y : Mem} {a1 : Int32} {a2 : Int32} (C : Cx p s m [.ref (ad 10 0 0), .int a1, .int a2].toArray meth c cX12_isPredecessor 4 wsX12_isPredecessor RX12 N0 T D gr ad) (hrt : meth.sig.returnType = (some .boolean)) (hG : ∀ q ∈ [(10, 0)], q ∈ gr) {res : Int32} (h : X12_isPredecessor Y a1 a2 = some res) : FW p l e (Rm 1) s m [.ref (ad 10 0 0), .int a1, .int a2].toArray below meth c 4 N0 T D gr ad 0 0 (MQ below (va_Qi (fun r Y1 => r = res ∧ Y1 = Y) (WB T D gr ad) (fun q => N0 ≤ q)) [.ref (ad 10 0 0), .int a1, .int a2].toArray s 0 0 (fun q => N0 ≤ q)) Y 0 [(0, .ref (ad 10 0 0)), (1, .int a1), (2, .int a2)] [] := by
  unfold X12_isPredecessor at h
  refine fw_iconst C dX12_isPredecessor_0 (v := 0) rfl ?_
  refine fw_istore_n C dX12_isPredecessor_1 rfl (by decide) (L' := [(3, .int 0), (0, .ref (ad 10 0 0)), (1, .int a1), (2, .int a2)]) rfl ?_
  exact w_X12_isPredecessor_b2 C hrt hG   _ _ h
end
set_option maxRecDepth 100000 in
set_option maxHeartbeats 4000000 in
theorem c_X12_isPredecessor {l : Launch} {N0 : Nat} {T : Nat → ClassId} {D : va_G} {gr : List (Nat × Nat)} {ad : Nat → Nat → Nat → Nat} {Y : Mem} {a1 : Int32} {a2 : Int32} {res : Int32} (hG : ∀ q ∈ [(10, 0)], q ∈ gr) (h : X12_isPredecessor Y a1 a2 = some res) : CI l yX12_isPredecessor wsX12_isPredecessor (Rm 1) N0 T D gr ad Y [.ref (ad 10 0 0), .int a1, .int a2] (fun r Y1 => r = res ∧ Y1 = Y) :=
  fw_body (by decide +kernel) rfl (Nat.le_of_ble_eq_true rfl) (fun p e s m below meth c C hrt => w_X12_isPredecessor C hrt hG  h)
theorem ly_X12_hasSuccessor_12 : ∀ w ∈ u_ws RX12 TX12 19, w ∈ wsX12_hasSuccessor := by decide +kernel
theorem fl_X12_hasSuccessor_13 : Cond.fieldLink RX12 13 "RecipeSchedulerModel" "m" "[I" ∈ wsX12_hasSuccessor := by decide +kernel
noncomputable def X12_hasSuccessor_b53 (Y : Mem) (a1 : Int32) (a2 : Int32) (a3 : Int32) (k5 : Int32 → Option (Int32)) (l4 : Int32) : Option (Int32) :=
  k5 (l4 + 1)
noncomputable def X12_hasSuccessor_b5 (Y : Mem) (a1 : Int32) (a2 : Int32) (a3 : Int32) : Nat → Int32 → Option (Int32)
  | 0, _ => none
  | n+1, l4 =>
  gd (inb 13 4202) <| if (Y 10 0 1 (ix 13)) ≤ l4 then (some 0) else (bd1 (X12_isPredecessor Y a1 l4) <| fun r5 => if r5 = 0 then (X12_hasSuccessor_b53 Y a1 a2 a3 (X12_hasSuccessor_b5 Y a1 a2 a3 n) l4) else (bd1 (X12_of Y l4 17) <| fun r8 => if r8 = a2 then (some 1) else (bd1 (X12_of Y l4 17) <| fun r11 => if r11 = a3 then (some 1) else (X12_hasSuccessor_b53 Y a1 a2 a3 (X12_hasSuccessor_b5 Y a1 a2 a3 n) l4))))
noncomputable def X12_hasSuccessor (Y : Mem) (a1 : Int32) (a2 : Int32) (a3 : Int32) : Option (Int32) :=
  lt_ (a1 + 1) <| fun v1 => X12_hasSuccessor_b5 Y a1 a2 a3 FU v1
section
variable {p : Program} {l : Launch} {e : Env} {s : State} {m : MethodId} {below : List Frame} {meth : Method} {c : Code} {N0 : Nat} {T : Nat → ClassId} {D : va_G} {gr : List (Nat × Nat)} {ad : Nat → Nat → Nat → Nat}
set_option maxRecDepth 100000 in
set_option maxHeartbeats 4000000 in
theorem w_X12_hasSuccessor_b53 {Y : Mem} {a1 : Int32} {a2 : Int32} {a3 : Int32} (C : Cx p s m [.ref (ad 10 0 0), .int a1, .int a2, .int a3].toArray meth c cX12_hasSuccessor 5 wsX12_hasSuccessor RX12 N0 T D gr ad) (hrt : meth.sig.returnType = (some .boolean)) (hG : ∀ q ∈ [(10, 0)], q ∈ gr) {res : Int32} {k5 : Int32 → Option (Int32)} (hk5 : ∀ (l4 : Int32), k5 l4 = some res → FW p l e (Rm 2) s m [.ref (ad 10 0 0), .int a1, .int a2, .int a3].toArray below meth c 5 N0 T D gr ad 0 0 (MQ below (va_Qi (fun r Y1 => r = res ∧ Y1 = Y) (WB T D gr ad) (fun q => N0 ≤ q)) [.ref (ad 10 0 0), .int a1, .int a2, .int a3].toArray s 0 0 (fun q => N0 ≤ q)) Y 5 [(4, .int l4), (0, .ref (ad 10 0 0)), (1, .int a1), (2, .int a2), (3, .int a3)] []) (l4 : Int32) (h : X12_hasSuccessor_b53 Y a1 a2 a3 k5 l4 = some res) : FW p l e (Rm 2) s m [.ref (ad 10 0 0), .int a1, .int a2, .int a3].toArray below meth c 5 N0 T D gr ad 0 0 (MQ below (va_Qi (fun r Y1 => r = res ∧ Y1 = Y) (WB T D gr ad) (fun q => N0 ≤ q)) [.ref (ad 10 0 0), .int a1, .int a2, .int a3].toArray s 0 0 (fun q => N0 ≤ q)) Y 53 [(4, .int l4), (0, .ref (ad 10 0 0)), (1, .int a1), (2, .int a2), (3, .int a3)] [] := by
  unfold X12_hasSuccessor_b53 at h
  refine fw_iinc C dX12_hasSuccessor_53 (kk := 0) (v := l4 + 1) rfl rfl (by decide) (L' := [(4, .int (l4 + 1)), (0, .ref (ad 10 0 0)), (1, .int a1), (2, .int a2), (3, .int a3)]) rfl ?_
  refine fw_goto C dX12_hasSuccessor_56 (tgt := 5) rfl ?_
  exact hk5 _ h
set_option maxRecDepth 100000 in
set_option maxHeartbeats 4000000 in
theorem w_X12_hasSuccessor_b5 {Y : Mem} {a1 : Int32} {a2 : Int32} {a3 : Int32} (C : Cx p s m [.ref (ad 10 0 0), .int a1, .int a2, .int a3].toArray meth c cX12_hasSuccessor 5 wsX12_hasSuccessor RX12 N0 T D gr ad) (hrt : meth.sig.returnType = (some .boolean)) (hG : ∀ q ∈ [(10, 0)], q ∈ gr) {res : Int32} : ∀ (n : Nat) (l4 : Int32), X12_hasSuccessor_b5 Y a1 a2 a3  n l4 = some res → FW p l e (Rm 2) s m [.ref (ad 10 0 0), .int a1, .int a2, .int a3].toArray below meth c 5 N0 T D gr ad 0 0 (MQ below (va_Qi (fun r Y1 => r = res ∧ Y1 = Y) (WB T D gr ad) (fun q => N0 ≤ q)) [.ref (ad 10 0 0), .int a1, .int a2, .int a3].toArray s 0 0 (fun q => N0 ≤ q)) Y 5 [(4, .int l4), (0, .ref (ad 10 0 0)), (1, .int a1), (2, .int a2), (3, .int a3)] [] := by
  intro n
  induction n with
  | zero =>
    intro l4 h
    unfold X12_hasSuccessor_b5 at h
    cases h
  | succ n ih =>
    intro l4 h
    unfold X12_hasSuccessor_b5 at h
    refine fw_iload C dX12_hasSuccessor_5 0 rfl ?_
    refine fw_aload_n C dX12_hasSuccessor_7 rfl 1 rfl ?_
    refine fw_get C (ci := 10) (Cn := RX12) (Tc := TX12) (N := 19) (j := 0) ly_X12_hasSuccessor_12 rfl (hG _ (List.mem_of_getElem? (i := 0) rfl)) (of10_0 _) (ce10 T ad _ _) (by decide) (cx_ts C _ fl_X12_hasSuccessor_13) (fun _ h => h) (v := .ref (ad 10 0 1)) rfl dX12_hasSuccessor_8 ?_
    refine fw_bipush C dX12_hasSuccessor_11 (v := 13) rfl ?_
    obtain ⟨b3, h⟩ := gd_some h
    refine fw_iald2 C (hG _ (List.mem_of_getElem? (i := 0) rfl)) (of10_1 _) (ca10_1 T ad _ _) b3 (Nat.le_of_ble_eq_true rfl) dX12_hasSuccessor_13 ?_
    refine fw_icmp_ge C dX12_hasSuccessor_14 (tgt := 59) rfl (fun c4 => ?_) (fun c4 => ?_)
    · have h := ite_t c4 h
      refine fw_iconst C dX12_hasSuccessor_59 (v := 0) rfl ?_
      exact fw_zret C hrt (by decide) Y ⟨Option.some.inj h, rfl⟩ (fun t ht => ht) dX12_hasSuccessor_60
    · have h := ite_f c4 h
      refine fw_aload_n C dX12_hasSuccessor_17 rfl 1 rfl ?_
      refine fw_iload_n C dX12_hasSuccessor_18 rfl 2 rfl ?_
      refine fw_iload C dX12_hasSuccessor_19 0 rfl ?_
      obtain ⟨r5, q6, h⟩ := bd1_some h
      refine fw_callVi C (ci := 10) (Cn := RX12) (Tc := TX12) (N := 19) (As := [.int a1, .int l4]) (c_X12_isPredecessor (gac (hG _ (List.mem_of_getElem? (i := 0) rfl)) ga0) q6) (cwV 2 (cx_ts C) gX12_hasSuccessor_X12_isPredecessor rfl rfl rfl (by decide +kernel) ⟨Nat.le_of_ble_eq_true rfl, Nat.le_of_ble_eq_true rfl⟩) rfl (hG _ (List.mem_of_getElem? (i := 0) rfl)) (of10_0 _) (ce10 T ad _ _) rfl (st := []) rfl (Nat.le_of_ble_eq_true rfl) ⟨Nat.le_refl 0, Nat.le_refl 0⟩ dX12_hasSuccessor_21 ?_
      rintro _ _ ⟨rfl, rfl⟩
      refine fw_if_eq C dX12_hasSuccessor_24 (tgt := 53) rfl (fun c7 => ?_) (fun c7 => ?_)
      · have h := ite_t c7 h
        exact w_X12_hasSuccessor_b53 C hrt hG  ih _ h
      · have h := ite_f c7 h
        refine fw_aload_n C dX12_hasSuccessor_27 rfl 1 rfl ?_
        refine fw_iload C dX12_hasSuccessor_28 0 rfl ?_
        refine fw_bipush C dX12_hasSuccessor_30 (v := 17) rfl ?_
        obtain ⟨r8, q9, h⟩ := bd1_some h
        refine fw_callVi C (ci := 10) (Cn := RX12) (Tc := TX12) (N := 19) (As := [.int l4, .int 17]) (c_X12_of (gac (hG _ (List.mem_of_getElem? (i := 0) rfl)) ga0) q9) (cwV 2 (cx_ts C) gX12_hasSuccessor_X12_of rfl rfl rfl (by decide +kernel) ⟨Nat.le_of_ble_eq_true rfl, Nat.le_of_ble_eq_true rfl⟩) rfl (hG _ (List.mem_of_getElem? (i := 0) rfl)) (of10_0 _) (ce10 T ad _ _) rfl (st := []) rfl (Nat.le_of_ble_eq_true rfl) ⟨Nat.le_refl 0, Nat.le_refl 0⟩ dX12_hasSuccessor_32 ?_
        rintro _ _ ⟨rfl, rfl⟩
        refine fw_iload_n C dX12_hasSuccessor_35 rfl 3 rfl ?_
        refine fw_icmp_eq C dX12_hasSuccessor_36 (tgt := 51) rfl (fun c10 => ?_) (fun c10 => ?_)
        · have h := ite_t c10 h
          refine fw_iconst C dX12_hasSuccessor_51 (v := 1) rfl ?_
          exact fw_zret C hrt (by decide) Y ⟨Option.some.inj h, rfl⟩ (fun t ht => ht) dX12_hasSuccessor_52
        · have h := ite_f c10 h
          refine fw_aload_n C dX12_hasSuccessor_39 rfl 1 rfl ?_
          refine fw_iload C dX12_hasSuccessor_40 0 rfl ?_
          refine fw_bipush C dX12_hasSuccessor_42 (v := 17) rfl ?_
          obtain ⟨r11, q12, h⟩ := bd1_some h
          refine fw_callVi C (ci := 10) (Cn := RX12) (Tc := TX12) (N := 19) (As := [.int l4, .int 17]) (c_X12_of (gac (hG _ (List.mem_of_getElem? (i := 0) rfl)) ga0) q12) (cwV 2 (cx_ts C) gX12_hasSuccessor_X12_of rfl rfl rfl (by decide +kernel) ⟨Nat.le_of_ble_eq_true rfl, Nat.le_of_ble_eq_true rfl⟩) rfl (hG _ (List.mem_of_getElem? (i := 0) rfl)) (of10_0 _) (ce10 T ad _ _) rfl (st := []) rfl (Nat.le_of_ble_eq_true rfl) ⟨Nat.le_refl 0, Nat.le_refl 0⟩ dX12_hasSuccessor_44 ?_
          rintro _ _ ⟨rfl, rfl⟩
          refine fw_iload_n C dX12_hasSuccessor_47 rfl 4 rfl ?_
          refine fw_icmp_ne C dX12_hasSuccessor_48 (tgt := 53) rfl (fun c13 => ?_) (fun c13 => ?_)
          · have h := ite_f c13 h
            exact w_X12_hasSuccessor_b53 C hrt hG  ih _ h
          · have h := ite_t c13 h
            refine fw_iconst C dX12_hasSuccessor_51 (v := 1) rfl ?_
            exact fw_zret C hrt (by decide) Y ⟨Option.some.inj h, rfl⟩ (fun t ht => ht) dX12_hasSuccessor_52
set_option maxRecDepth 100000 in
set_option maxHeartbeats 4000000 in
theorem w_X12_hasSuccessor {Y : Mem} {a1 : Int32} {a2 : Int32} {a3 : Int32} (C : Cx p s m [.ref (ad 10 0 0), .int a1, .int a2, .int a3].toArray meth c cX12_hasSuccessor 5 wsX12_hasSuccessor RX12 N0 T D gr ad) (hrt : meth.sig.returnType = (some .boolean)) (hG : ∀ q ∈ [(10, 0)], q ∈ gr) {res : Int32} (h : X12_hasSuccessor Y a1 a2 a3 = some res) : FW p l e (Rm 2) s m [.ref (ad 10 0 0), .int a1, .int a2, .int a3].toArray below meth c 5 N0 T D gr ad 0 0 (MQ below (va_Qi (fun r Y1 => r = res ∧ Y1 = Y) (WB T D gr ad) (fun q => N0 ≤ q)) [.ref (ad 10 0 0), .int a1, .int a2, .int a3].toArray s 0 0 (fun q => N0 ≤ q)) Y 0 [(0, .ref (ad 10 0 0)), (1, .int a1), (2, .int a2), (3, .int a3)] [] := by
  unfold X12_hasSuccessor at h
  refine fw_iload_n C dX12_hasSuccessor_0 rfl 1 rfl ?_
  refine fw_iconst C dX12_hasSuccessor_1 (v := 1) rfl ?_
  refine fw_iadd C dX12_hasSuccessor_2 ?_
  obtain ⟨v1, e2, h⟩ := lt_some h
  refine fw_top (v' := .int v1) (by rw [e2]) ?_
  refine fw_istore C dX12_hasSuccessor_3 (by decide) (L' := [(4, .int v1), (0, .ref (ad 10 0 0)), (1, .int a1), (2, .int a2), (3, .int a3)]) rfl ?_
  exact w_X12_hasSuccessor_b5 C hrt hG   _ _ h
end
set_option maxRecDepth 100000 in
set_option maxHeartbeats 4000000 in
theorem c_X12_hasSuccessor {l : Launch} {N0 : Nat} {T : Nat → ClassId} {D : va_G} {gr : List (Nat × Nat)} {ad : Nat → Nat → Nat → Nat} {Y : Mem} {a1 : Int32} {a2 : Int32} {a3 : Int32} {res : Int32} (hG : ∀ q ∈ [(10, 0)], q ∈ gr) (h : X12_hasSuccessor Y a1 a2 a3 = some res) : CI l yX12_hasSuccessor wsX12_hasSuccessor (Rm 2) N0 T D gr ad Y [.ref (ad 10 0 0), .int a1, .int a2, .int a3] (fun r Y1 => r = res ∧ Y1 = Y) :=
  fw_body (by decide +kernel) rfl (Nat.le_of_ble_eq_true rfl) (fun p e s m below meth c C hrt => w_X12_hasSuccessor C hrt hG  h)
noncomputable def X12_occupies_b45 (Y : Mem) (a1 : Int32) (a2 : Int32)  : Option (Int32) :=
  some 1
noncomputable def X12_occupies (Y : Mem) (a1 : Int32) (a2 : Int32) : Option (Int32) :=
  bd1 (X12_of Y a1 9) <| fun r1 => if r1 = a2 then (bd1 (X12_of Y a1 17) <| fun r4 => if r4 = 1 then (X12_occupies_b45 Y a1 a2) else (bd1 (X12_of Y a1 17) <| fun r7 => if r7 = 2 then (bd1 (X12_hasSuccessor Y a1 0 3) <| fun r10 => if r10 = 0 then (some 0) else (X12_occupies_b45 Y a1 a2)) else (some 0))) else (some 0)
section
variable {p : Program} {l : Launch} {e : Env} {s : State} {m : MethodId} {below : List Frame} {meth : Method} {c : Code} {N0 : Nat} {T : Nat → ClassId} {D : va_G} {gr : List (Nat × Nat)} {ad : Nat → Nat → Nat → Nat}
set_option maxRecDepth 100000 in
set_option maxHeartbeats 4000000 in
theorem w_X12_occupies_b45 {Y : Mem} {a1 : Int32} {a2 : Int32} (C : Cx p s m [.ref (ad 10 0 0), .int a1, .int a2].toArray meth c cX12_occupies 3 wsX12_occupies RX12 N0 T D gr ad) (hrt : meth.sig.returnType = (some .boolean)) (hG : ∀ q ∈ [(10, 0)], q ∈ gr) {res : Int32}  (h : X12_occupies_b45 Y a1 a2   = some res) : FW p l e (Rm 3) s m [.ref (ad 10 0 0), .int a1, .int a2].toArray below meth c 3 N0 T D gr ad 0 0 (MQ below (va_Qi (fun r Y1 => r = res ∧ Y1 = Y) (WB T D gr ad) (fun q => N0 ≤ q)) [.ref (ad 10 0 0), .int a1, .int a2].toArray s 0 0 (fun q => N0 ≤ q)) Y 45 [] [] := by
  unfold X12_occupies_b45 at h
  refine fw_iconst C dX12_occupies_45 (v := 1) rfl ?_
  refine fw_goto C dX12_occupies_46 (tgt := 50) rfl ?_
  exact fw_zret C hrt (by decide) Y ⟨Option.some.inj h, rfl⟩ (fun t ht => ht) dX12_occupies_50
set_option maxRecDepth 100000 in
set_option maxHeartbeats 4000000 in
theorem w_X12_occupies {Y : Mem} {a1 : Int32} {a2 : Int32} (C : Cx p s m [.ref (ad 10 0 0), .int a1, .int a2].toArray meth c cX12_occupies 3 wsX12_occupies RX12 N0 T D gr ad) (hrt : meth.sig.returnType = (some .boolean)) (hG : ∀ q ∈ [(10, 0)], q ∈ gr) {res : Int32} (h : X12_occupies Y a1 a2 = some res) : FW p l e (Rm 3) s m [.ref (ad 10 0 0), .int a1, .int a2].toArray below meth c 3 N0 T D gr ad 0 0 (MQ below (va_Qi (fun r Y1 => r = res ∧ Y1 = Y) (WB T D gr ad) (fun q => N0 ≤ q)) [.ref (ad 10 0 0), .int a1, .int a2].toArray s 0 0 (fun q => N0 ≤ q)) Y 0 [(0, .ref (ad 10 0 0)), (1, .int a1), (2, .int a2)] [] := by
  unfold X12_occupies at h
  refine fw_aload_n C dX12_occupies_0 rfl 0 rfl ?_
  refine fw_iload_n C dX12_occupies_1 rfl 1 rfl ?_
  refine fw_bipush C dX12_occupies_2 (v := 9) rfl ?_
  obtain ⟨r1, q2, h⟩ := bd1_some h
  refine fw_callVi C (ci := 10) (Cn := RX12) (Tc := TX12) (N := 19) (As := [.int a1, .int 9]) (c_X12_of (gac (hG _ (List.mem_of_getElem? (i := 0) rfl)) ga0) q2) (cwV 2 (cx_ts C) gX12_occupies_X12_of rfl rfl rfl (by decide +kernel) ⟨Nat.le_of_ble_eq_true rfl, Nat.le_of_ble_eq_true rfl⟩) rfl (hG _ (List.mem_of_getElem? (i := 0) rfl)) (of10_0 _) (ce10 T ad _ _) rfl (st := []) rfl (Nat.le_of_ble_eq_true rfl) ⟨Nat.le_refl 0, Nat.le_refl 0⟩ dX12_occupies_4 ?_
  rintro _ _ ⟨rfl, rfl⟩
  refine fw_iload_n C dX12_occupies_7 rfl 2 rfl ?_
  refine fw_icmp_eq C dX12_occupies_8 (tgt := 13) rfl (fun c3 => ?_) (fun c3 => ?_)
  · have h := ite_t c3 h
    refine fw_aload_n C dX12_occupies_13 rfl 0 rfl ?_
    refine fw_iload_n C dX12_occupies_14 rfl 1 rfl ?_
    refine fw_bipush C dX12_occupies_15 (v := 17) rfl ?_
    obtain ⟨r4, q5, h⟩ := bd1_some h
    refine fw_callVi C (ci := 10) (Cn := RX12) (Tc := TX12) (N := 19) (As := [.int a1, .int 17]) (c_X12_of (gac (hG _ (List.mem_of_getElem? (i := 0) rfl)) ga0) q5) (cwV 2 (cx_ts C) gX12_occupies_X12_of rfl rfl rfl (by decide +kernel) ⟨Nat.le_of_ble_eq_true rfl, Nat.le_of_ble_eq_true rfl⟩) rfl (hG _ (List.mem_of_getElem? (i := 0) rfl)) (of10_0 _) (ce10 T ad _ _) rfl (st := []) rfl (Nat.le_of_ble_eq_true rfl) ⟨Nat.le_refl 0, Nat.le_refl 0⟩ dX12_occupies_17 ?_
    rintro _ _ ⟨rfl, rfl⟩
    refine fw_iconst C dX12_occupies_20 (v := 1) rfl ?_
    refine fw_icmp_eq C dX12_occupies_21 (tgt := 45) rfl (fun c6 => ?_) (fun c6 => ?_)
    · have h := ite_t c6 h
      refine fw_sub [] (L' := []) rfl ?_
      exact w_X12_occupies_b45 C hrt hG    h
    · have h := ite_f c6 h
      refine fw_aload_n C dX12_occupies_24 rfl 0 rfl ?_
      refine fw_iload_n C dX12_occupies_25 rfl 1 rfl ?_
      refine fw_bipush C dX12_occupies_26 (v := 17) rfl ?_
      obtain ⟨r7, q8, h⟩ := bd1_some h
      refine fw_callVi C (ci := 10) (Cn := RX12) (Tc := TX12) (N := 19) (As := [.int a1, .int 17]) (c_X12_of (gac (hG _ (List.mem_of_getElem? (i := 0) rfl)) ga0) q8) (cwV 2 (cx_ts C) gX12_occupies_X12_of rfl rfl rfl (by decide +kernel) ⟨Nat.le_of_ble_eq_true rfl, Nat.le_of_ble_eq_true rfl⟩) rfl (hG _ (List.mem_of_getElem? (i := 0) rfl)) (of10_0 _) (ce10 T ad _ _) rfl (st := []) rfl (Nat.le_of_ble_eq_true rfl) ⟨Nat.le_refl 0, Nat.le_refl 0⟩ dX12_occupies_28 ?_
      rintro _ _ ⟨rfl, rfl⟩
      refine fw_iconst C dX12_occupies_31 (v := 2) rfl ?_
      refine fw_icmp_ne C dX12_occupies_32 (tgt := 49) rfl (fun c9 => ?_) (fun c9 => ?_)
      · have h := ite_f c9 h
        refine fw_iconst C dX12_occupies_49 (v := 0) rfl ?_
        exact fw_zret C hrt (by decide) Y ⟨Option.some.inj h, rfl⟩ (fun t ht => ht) dX12_occupies_50
      · have h := ite_t c9 h
        refine fw_aload_n C dX12_occupies_35 rfl 0 rfl ?_
        refine fw_iload_n C dX12_occupies_36 rfl 1 rfl ?_
        refine fw_iconst C dX12_occupies_37 (v := 0) rfl ?_
        refine fw_iconst C dX12_occupies_38 (v := 3) rfl ?_
        obtain ⟨r10, q11, h⟩ := bd1_some h
        refine fw_callVi C (ci := 10) (Cn := RX12) (Tc := TX12) (N := 19) (As := [.int a1, .int 0, .int 3]) (c_X12_hasSuccessor (gac (hG _ (List.mem_of_getElem? (i := 0) rfl)) ga0) q11) (cwV 3 (cx_ts C) gX12_occupies_X12_hasSuccessor rfl rfl rfl (by decide +kernel) ⟨Nat.le_of_ble_eq_true rfl, Nat.le_of_ble_eq_true rfl⟩) rfl (hG _ (List.mem_of_getElem? (i := 0) rfl)) (of10_0 _) (ce10 T ad _ _) rfl (st := []) rfl (Nat.le_of_ble_eq_true rfl) ⟨Nat.le_refl 0, Nat.le_refl 0⟩ dX12_occupies_39 ?_
        rintro _ _ ⟨rfl, rfl⟩
        refine fw_if_eq C dX12_occupies_42 (tgt := 49) rfl (fun c12 => ?_) (fun c12 => ?_)
        · have h := ite_t c12 h
          refine fw_iconst C dX12_occupies_49 (v := 0) rfl ?_
          exact fw_zret C hrt (by decide) Y ⟨Option.some.inj h, rfl⟩ (fun t ht => ht) dX12_occupies_50
        · have h := ite_f c12 h
          refine fw_sub [] (L' := []) rfl ?_
          exact w_X12_occupies_b45 C hrt hG    h
  · have h := ite_f c3 h
    refine fw_iconst C dX12_occupies_11 (v := 0) rfl ?_
    exact fw_zret C hrt (by decide) Y ⟨Option.some.inj h, rfl⟩ (fun t ht => ht) dX12_occupies_12
end
set_option maxRecDepth 100000 in
set_option maxHeartbeats 4000000 in
theorem c_X12_occupies {l : Launch} {N0 : Nat} {T : Nat → ClassId} {D : va_G} {gr : List (Nat × Nat)} {ad : Nat → Nat → Nat → Nat} {Y : Mem} {a1 : Int32} {a2 : Int32} {res : Int32} (hG : ∀ q ∈ [(10, 0)], q ∈ gr) (h : X12_occupies Y a1 a2 = some res) : CI l yX12_occupies wsX12_occupies (Rm 3) N0 T D gr ad Y [.ref (ad 10 0 0), .int a1, .int a2] (fun r Y1 => r = res ∧ Y1 = Y) :=
  fw_body (by decide +kernel) rfl (Nat.le_of_ble_eq_true rfl) (fun p e s m below meth c C hrt => w_X12_occupies C hrt hG  h)
theorem ly_X12_usedPans_12 : ∀ w ∈ u_ws RX12 TX12 19, w ∈ wsX12_usedPans := by decide +kernel
theorem fl_X12_usedPans_13 : Cond.fieldLink RX12 13 "RecipeSchedulerModel" "m" "[I" ∈ wsX12_usedPans := by decide +kernel
noncomputable def X12_usedPans_b30 (Y : Mem) (a1 : Int32) (k4 : Int32 → Int32 → Option (Int32)) (l3 : Int32) (s0 : Int32) (s1 : Int32) : Option (Int32) :=
  lt_ (s1 + s0) <| fun v6 => k4 (l3 + 1) v6
noncomputable def X12_usedPans_b4 (Y : Mem) (a1 : Int32) : Nat → Int32 → Int32 → Option (Int32)
  | 0, _, _ => none
  | n+1, l3, l2 =>
  gd (inb 13 4202) <| if (Y 10 0 1 (ix 13)) ≤ l3 then (some l2) else (bd1 (X12_occupies Y l3 a1) <| fun r3 => if r3 = 0 then (X12_usedPans_b30 Y a1 (X12_usedPans_b4 Y a1 n) l3 0 l2) else (X12_usedPans_b30 Y a1 (X12_usedPans_b4 Y a1 n) l3 1 l2))
noncomputable def X12_usedPans (Y : Mem) (a1 : Int32) : Option (Int32) :=
  X12_usedPans_b4 Y a1 FU 0 0
section
variable {p : Program} {l : Launch} {e : Env} {s : State} {m : MethodId} {below : List Frame} {meth : Method} {c : Code} {N0 : Nat} {T : Nat → ClassId} {D : va_G} {gr : List (Nat × Nat)} {ad : Nat → Nat → Nat → Nat}
set_option maxRecDepth 100000 in
set_option maxHeartbeats 4000000 in
theorem w_X12_usedPans_b30 {Y : Mem} {a1 : Int32} (C : Cx p s m [.ref (ad 10 0 0), .int a1].toArray meth c cX12_usedPans 4 wsX12_usedPans RX12 N0 T D gr ad) (hrt : meth.sig.returnType = (some .int)) (hG : ∀ q ∈ [(10, 0)], q ∈ gr) {res : Int32} {k4 : Int32 → Int32 → Option (Int32)} (hk4 : ∀ (l3 : Int32) (l2 : Int32), k4 l3 l2 = some res → FW p l e (Rm 4) s m [.ref (ad 10 0 0), .int a1].toArray below meth c 4 N0 T D gr ad 0 0 (MQ below (va_Qi (fun r Y1 => r = res ∧ Y1 = Y) (WB T D gr ad) (fun q => N0 ≤ q)) [.ref (ad 10 0 0), .int a1].toArray s 0 0 (fun q => N0 ≤ q)) Y 4 [(3, .int l3), (2, .int l2), (0, .ref (ad 10 0 0)), (1, .int a1)] []) (l3 : Int32) (s0 : Int32) (s1 : Int32) (h : X12_usedPans_b30 Y a1 k4 l3 s0 s1 = some res) : FW p l e (Rm 4) s m [.ref (ad 10 0 0), .int a1].toArray below meth c 4 N0 T D gr ad 0 0 (MQ below (va_Qi (fun r Y1 => r = res ∧ Y1 = Y) (WB T D gr ad) (fun q => N0 ≤ q)) [.ref (ad 10 0 0), .int a1].toArray s 0 0 (fun q => N0 ≤ q)) Y 30 [(3, .int l3), (0, .ref (ad 10 0 0)), (1, .int a1)] [.int s0, .int s1] := by
  unfold X12_usedPans_b30 at h
  refine fw_iadd C dX12_usedPans_30 ?_
  obtain ⟨v6, e7, h⟩ := lt_some h
  refine fw_top (v' := .int v6) (by rw [e7]) ?_
  refine fw_istore_n C dX12_usedPans_31 rfl (by decide) (L' := [(2, .int v6), (3, .int l3), (0, .ref (ad 10 0 0)), (1, .int a1)]) rfl ?_
  refine fw_iinc C dX12_usedPans_32 (kk := 1) (v := l3 + 1) rfl rfl (by decide) (L' := [(3, .int (l3 + 1)), (2, .int v6), (0, .ref (ad 10 0 0)), (1, .int a1)]) rfl ?_
  refine fw_goto C dX12_usedPans_35 (tgt := 4) rfl ?_
  exact hk4 _ _ h
set_option maxRecDepth 100000 in
set_option maxHeartbeats 4000000 in
theorem w_X12_usedPans_b4 {Y : Mem} {a1 : Int32} (C : Cx p s m [.ref (ad 10 0 0), .int a1].toArray meth c cX12_usedPans 4 wsX12_usedPans RX12 N0 T D gr ad) (hrt : meth.sig.returnType = (some .int)) (hG : ∀ q ∈ [(10, 0)], q ∈ gr) {res : Int32} : ∀ (n : Nat) (l3 : Int32) (l2 : Int32), X12_usedPans_b4 Y a1  n l3 l2 = some res → FW p l e (Rm 4) s m [.ref (ad 10 0 0), .int a1].toArray below meth c 4 N0 T D gr ad 0 0 (MQ below (va_Qi (fun r Y1 => r = res ∧ Y1 = Y) (WB T D gr ad) (fun q => N0 ≤ q)) [.ref (ad 10 0 0), .int a1].toArray s 0 0 (fun q => N0 ≤ q)) Y 4 [(3, .int l3), (2, .int l2), (0, .ref (ad 10 0 0)), (1, .int a1)] [] := by
  intro n
  induction n with
  | zero =>
    intro l3 l2 h
    unfold X12_usedPans_b4 at h
    cases h
  | succ n ih =>
    intro l3 l2 h
    unfold X12_usedPans_b4 at h
    refine fw_iload_n C dX12_usedPans_4 rfl 0 rfl ?_
    refine fw_aload_n C dX12_usedPans_5 rfl 2 rfl ?_
    refine fw_get C (ci := 10) (Cn := RX12) (Tc := TX12) (N := 19) (j := 0) ly_X12_usedPans_12 rfl (hG _ (List.mem_of_getElem? (i := 0) rfl)) (of10_0 _) (ce10 T ad _ _) (by decide) (cx_ts C _ fl_X12_usedPans_13) (fun _ h => h) (v := .ref (ad 10 0 1)) rfl dX12_usedPans_6 ?_
    refine fw_bipush C dX12_usedPans_9 (v := 13) rfl ?_
    obtain ⟨b1, h⟩ := gd_some h
    refine fw_iald2 C (hG _ (List.mem_of_getElem? (i := 0) rfl)) (of10_1 _) (ca10_1 T ad _ _) b1 (Nat.le_of_ble_eq_true rfl) dX12_usedPans_11 ?_
    refine fw_icmp_ge C dX12_usedPans_12 (tgt := 38) rfl (fun c2 => ?_) (fun c2 => ?_)
    · have h := ite_t c2 h
      refine fw_iload_n C dX12_usedPans_38 rfl 1 rfl ?_
      exact fw_iret C hrt Y ⟨Option.some.inj h, rfl⟩ (fun t ht => ht) dX12_usedPans_39
    · have h := ite_f c2 h
      refine fw_iload_n C dX12_usedPans_15 rfl 1 rfl ?_
      refine fw_aload_n C dX12_usedPans_16 rfl 2 rfl ?_
      refine fw_iload_n C dX12_usedPans_17 rfl 0 rfl ?_
      refine fw_iload_n C dX12_usedPans_18 rfl 3 rfl ?_
      obtain ⟨r3, q4, h⟩ := bd1_some h
      refine fw_callVi C (ci := 10) (Cn := RX12) (Tc := TX12) (N := 19) (As := [.int l3, .int a1]) (c_X12_occupies (gac (hG _ (List.mem_of_getElem? (i := 0) rfl)) ga0) q4) (cwV 2 (cx_ts C) gX12_usedPans_X12_occupies rfl rfl rfl (by decide +kernel) ⟨Nat.le_of_ble_eq_true rfl, Nat.le_of_ble_eq_true rfl⟩) rfl (hG _ (List.mem_of_getElem? (i := 0) rfl)) (of10_0 _) (ce10 T ad _ _) rfl (st := [.int l2]) rfl (Nat.le_of_ble_eq_true rfl) ⟨Nat.le_refl 0, Nat.le_refl 0⟩ dX12_usedPans_19 ?_
      rintro _ _ ⟨rfl, rfl⟩
      refine fw_if_eq C dX12_usedPans_22 (tgt := 29) rfl (fun c5 => ?_) (fun c5 => ?_)
      · have h := ite_t c5 h
        refine fw_iconst C dX12_usedPans_29 (v := 0) rfl ?_
        refine fw_sub [0, 2, 3] (L' := [(3, .int l3), (0, .ref (ad 10 0 0)), (1, .int a1)]) rfl ?_
        exact w_X12_usedPans_b30 C hrt hG  ih _ _ _ h
      · have h := ite_f c5 h
        refine fw_iconst C dX12_usedPans_25 (v := 1) rfl ?_
        refine fw_goto C dX12_usedPans_26 (tgt := 30) rfl ?_
        refine fw_sub [0, 2, 3] (L' := [(3, .int l3), (0, .ref (ad 10 0 0)), (1, .int a1)]) rfl ?_
        exact w_X12_usedPans_b30 C hrt hG  ih _ _ _ h
set_option maxRecDepth 100000 in
set_option maxHeartbeats 4000000 in
theorem w_X12_usedPans {Y : Mem} {a1 : Int32} (C : Cx p s m [.ref (ad 10 0 0), .int a1].toArray meth c cX12_usedPans 4 wsX12_usedPans RX12 N0 T D gr ad) (hrt : meth.sig.returnType = (some .int)) (hG : ∀ q ∈ [(10, 0)], q ∈ gr) {res : Int32} (h : X12_usedPans Y a1 = some res) : FW p l e (Rm 4) s m [.ref (ad 10 0 0), .int a1].toArray below meth c 4 N0 T D gr ad 0 0 (MQ below (va_Qi (fun r Y1 => r = res ∧ Y1 = Y) (WB T D gr ad) (fun q => N0 ≤ q)) [.ref (ad 10 0 0), .int a1].toArray s 0 0 (fun q => N0 ≤ q)) Y 0 [(0, .ref (ad 10 0 0)), (1, .int a1)] [] := by
  unfold X12_usedPans at h
  refine fw_iconst C dX12_usedPans_0 (v := 0) rfl ?_
  refine fw_istore_n C dX12_usedPans_1 rfl (by decide) (L' := [(2, .int 0), (0, .ref (ad 10 0 0)), (1, .int a1)]) rfl ?_
  refine fw_iconst C dX12_usedPans_2 (v := 0) rfl ?_
  refine fw_istore_n C dX12_usedPans_3 rfl (by decide) (L' := [(3, .int 0), (2, .int 0), (0, .ref (ad 10 0 0)), (1, .int a1)]) rfl ?_
  exact w_X12_usedPans_b4 C hrt hG   _ _ _ h
end
set_option maxRecDepth 100000 in
set_option maxHeartbeats 4000000 in
theorem c_X12_usedPans {l : Launch} {N0 : Nat} {T : Nat → ClassId} {D : va_G} {gr : List (Nat × Nat)} {ad : Nat → Nat → Nat → Nat} {Y : Mem} {a1 : Int32} {res : Int32} (hG : ∀ q ∈ [(10, 0)], q ∈ gr) (h : X12_usedPans Y a1 = some res) : CI l yX12_usedPans wsX12_usedPans (Rm 4) N0 T D gr ad Y [.ref (ad 10 0 0), .int a1] (fun r Y1 => r = res ∧ Y1 = Y) :=
  fw_body (by decide +kernel) rfl (Nat.le_of_ble_eq_true rfl) (fun p e s m below meth c C hrt => w_X12_usedPans C hrt hG  h)
theorem ly_X12_capacity_12 : ∀ w ∈ u_ws RX12 TX12 19, w ∈ wsX12_capacity := by decide +kernel
theorem fl_X12_capacity_13 : Cond.fieldLink RX12 13 "RecipeSchedulerModel" "m" "[I" ∈ wsX12_capacity := by decide +kernel
noncomputable def X12_capacity (Y : Mem) (a1 : Int32) : Option (Int32) :=
  gd (inb ((14 + (a1 * 8)) + 7) 4202) <| some (Y 10 0 1 (ix ((14 + (a1 * 8)) + 7)))
section
variable {p : Program} {l : Launch} {e : Env} {s : State} {m : MethodId} {below : List Frame} {meth : Method} {c : Code} {N0 : Nat} {T : Nat → ClassId} {D : va_G} {gr : List (Nat × Nat)} {ad : Nat → Nat → Nat → Nat}
set_option maxRecDepth 100000 in
set_option maxHeartbeats 4000000 in
theorem w_X12_capacity {Y : Mem} {a1 : Int32} (C : Cx p s m [.ref (ad 10 0 0), .int a1].toArray meth c cX12_capacity 2 wsX12_capacity RX12 N0 T D gr ad) (hrt : meth.sig.returnType = (some .int)) (hG : ∀ q ∈ [(10, 0)], q ∈ gr) {res : Int32} (h : X12_capacity Y a1 = some res) : FW p l e (Rm 0) s m [.ref (ad 10 0 0), .int a1].toArray below meth c 2 N0 T D gr ad 0 0 (MQ below (va_Qi (fun r Y1 => r = res ∧ Y1 = Y) (WB T D gr ad) (fun q => N0 ≤ q)) [.ref (ad 10 0 0), .int a1].toArray s 0 0 (fun q => N0 ≤ q)) Y 0 [(0, .ref (ad 10 0 0)), (1, .int a1)] [] := by
  unfold X12_capacity at h
  refine fw_aload_n C dX12_capacity_0 rfl 0 rfl ?_
  refine fw_get C (ci := 10) (Cn := RX12) (Tc := TX12) (N := 19) (j := 0) ly_X12_capacity_12 rfl (hG _ (List.mem_of_getElem? (i := 0) rfl)) (of10_0 _) (ce10 T ad _ _) (by decide) (cx_ts C _ fl_X12_capacity_13) (fun _ h => h) (v := .ref (ad 10 0 1)) rfl dX12_capacity_1 ?_
  refine fw_bipush C dX12_capacity_4 (v := 14) rfl ?_
  refine fw_iload_n C dX12_capacity_6 rfl 1 rfl ?_
  refine fw_bipush C dX12_capacity_7 (v := 8) rfl ?_
  refine fw_imul C dX12_capacity_9 ?_
  refine fw_iadd C dX12_capacity_10 ?_
  refine fw_bipush C dX12_capacity_11 (v := 7) rfl ?_
  refine fw_iadd C dX12_capacity_13 ?_
  obtain ⟨b1, h⟩ := gd_some h
  refine fw_iald2 C (hG _ (List.mem_of_getElem? (i := 0) rfl)) (of10_1 _) (ca10_1 T ad _ _) b1 (Nat.le_of_ble_eq_true rfl) dX12_capacity_14 ?_
  exact fw_iret C hrt Y ⟨Option.some.inj h, rfl⟩ (fun t ht => ht) dX12_capacity_15
end
set_option maxRecDepth 100000 in
set_option maxHeartbeats 4000000 in
theorem c_X12_capacity {l : Launch} {N0 : Nat} {T : Nat → ClassId} {D : va_G} {gr : List (Nat × Nat)} {ad : Nat → Nat → Nat → Nat} {Y : Mem} {a1 : Int32} {res : Int32} (hG : ∀ q ∈ [(10, 0)], q ∈ gr) (h : X12_capacity Y a1 = some res) : CI l yX12_capacity wsX12_capacity (Rm 0) N0 T D gr ad Y [.ref (ad 10 0 0), .int a1] (fun r Y1 => r = res ∧ Y1 = Y) :=
  fw_body (by decide +kernel) rfl (Nat.le_of_ble_eq_true rfl) (fun p e s m below meth c C hrt => w_X12_capacity C hrt hG  h)
noncomputable def X12_hasPan_b26 (Y : Mem) (a1 : Int32)  : Option (Int32) :=
  some 1
noncomputable def X12_hasPan (Y : Mem) (a1 : Int32) : Option (Int32) :=
  bd1 (X12_of Y a1 9) <| fun r1 => if r1 = ((-1)) then (X12_hasPan_b26 Y a1) else (bd1 (X12_usedPans Y r1) <| fun r4 => bd1 (X12_capacity Y r1) <| fun r6 => if r6 ≤ r4 then (some 0) else (X12_hasPan_b26 Y a1))
section
variable {p : Program} {l : Launch} {e : Env} {s : State} {m : MethodId} {below : List Frame} {meth : Method} {c : Code} {N0 : Nat} {T : Nat → ClassId} {D : va_G} {gr : List (Nat × Nat)} {ad : Nat → Nat → Nat → Nat}
set_option maxRecDepth 100000 in
set_option maxHeartbeats 4000000 in
theorem w_X12_hasPan_b26 {Y : Mem} {a1 : Int32} (C : Cx p s m [.ref (ad 10 0 0), .int a1].toArray meth c cX12_hasPan 3 wsX12_hasPan RX12 N0 T D gr ad) (hrt : meth.sig.returnType = (some .boolean)) (hG : ∀ q ∈ [(10, 0)], q ∈ gr) {res : Int32}  (h : X12_hasPan_b26 Y a1   = some res) : FW p l e (Rm 5) s m [.ref (ad 10 0 0), .int a1].toArray below meth c 3 N0 T D gr ad 0 0 (MQ below (va_Qi (fun r Y1 => r = res ∧ Y1 = Y) (WB T D gr ad) (fun q => N0 ≤ q)) [.ref (ad 10 0 0), .int a1].toArray s 0 0 (fun q => N0 ≤ q)) Y 26 [] [] := by
  unfold X12_hasPan_b26 at h
  refine fw_iconst C dX12_hasPan_26 (v := 1) rfl ?_
  refine fw_goto C dX12_hasPan_27 (tgt := 31) rfl ?_
  exact fw_zret C hrt (by decide) Y ⟨Option.some.inj h, rfl⟩ (fun t ht => ht) dX12_hasPan_31
set_option maxRecDepth 100000 in
set_option maxHeartbeats 4000000 in
theorem w_X12_hasPan {Y : Mem} {a1 : Int32} (C : Cx p s m [.ref (ad 10 0 0), .int a1].toArray meth c cX12_hasPan 3 wsX12_hasPan RX12 N0 T D gr ad) (hrt : meth.sig.returnType = (some .boolean)) (hG : ∀ q ∈ [(10, 0)], q ∈ gr) {res : Int32} (h : X12_hasPan Y a1 = some res) : FW p l e (Rm 5) s m [.ref (ad 10 0 0), .int a1].toArray below meth c 3 N0 T D gr ad 0 0 (MQ below (va_Qi (fun r Y1 => r = res ∧ Y1 = Y) (WB T D gr ad) (fun q => N0 ≤ q)) [.ref (ad 10 0 0), .int a1].toArray s 0 0 (fun q => N0 ≤ q)) Y 0 [(0, .ref (ad 10 0 0)), (1, .int a1)] [] := by
  unfold X12_hasPan at h
  refine fw_aload_n C dX12_hasPan_0 rfl 0 rfl ?_
  refine fw_iload_n C dX12_hasPan_1 rfl 1 rfl ?_
  refine fw_bipush C dX12_hasPan_2 (v := 9) rfl ?_
  obtain ⟨r1, q2, h⟩ := bd1_some h
  refine fw_callVi C (ci := 10) (Cn := RX12) (Tc := TX12) (N := 19) (As := [.int a1, .int 9]) (c_X12_of (gac (hG _ (List.mem_of_getElem? (i := 0) rfl)) ga0) q2) (cwV 2 (cx_ts C) gX12_hasPan_X12_of rfl rfl rfl (by decide +kernel) ⟨Nat.le_of_ble_eq_true rfl, Nat.le_of_ble_eq_true rfl⟩) rfl (hG _ (List.mem_of_getElem? (i := 0) rfl)) (of10_0 _) (ce10 T ad _ _) rfl (st := []) rfl (Nat.le_of_ble_eq_true rfl) ⟨Nat.le_refl 0, Nat.le_refl 0⟩ dX12_hasPan_4 ?_
  rintro _ _ ⟨rfl, rfl⟩
  refine fw_istore_n C dX12_hasPan_7 rfl (by decide) (L' := [(2, .int r1), (0, .ref (ad 10 0 0)), (1, .int a1)]) rfl ?_
  refine fw_iload_n C dX12_hasPan_8 rfl 0 rfl ?_
  refine fw_iconst C dX12_hasPan_9 (v := (-1)) rfl ?_
  refine fw_icmp_eq C dX12_hasPan_10 (tgt := 26) rfl (fun c3 => ?_) (fun c3 => ?_)
  · have h := ite_t c3 h
    refine fw_sub [] (L' := []) rfl ?_
    exact w_X12_hasPan_b26 C hrt hG    h
  · have h := ite_f c3 h
    refine fw_aload_n C dX12_hasPan_13 rfl 1 rfl ?_
    refine fw_iload_n C dX12_hasPan_14 rfl 0 rfl ?_
    obtain ⟨r4, q5, h⟩ := bd1_some h
    refine fw_callVi C (ci := 10) (Cn := RX12) (Tc := TX12) (N := 19) (As := [.int r1]) (c_X12_usedPans (gac (hG _ (List.mem_of_getElem? (i := 0) rfl)) ga0) q5) (cwV 1 (cx_ts C) gX12_hasPan_X12_usedPans rfl rfl rfl (by decide +kernel) ⟨Nat.le_of_ble_eq_true rfl, Nat.le_of_ble_eq_true rfl⟩) rfl (hG _ (List.mem_of_getElem? (i := 0) rfl)) (of10_0 _) (ce10 T ad _ _) rfl (st := []) rfl (Nat.le_of_ble_eq_true rfl) ⟨Nat.le_refl 0, Nat.le_refl 0⟩ dX12_hasPan_15 ?_
    rintro _ _ ⟨rfl, rfl⟩
    refine fw_aload_n C dX12_hasPan_18 rfl 1 rfl ?_
    refine fw_iload_n C dX12_hasPan_19 rfl 0 rfl ?_
    obtain ⟨r6, q7, h⟩ := bd1_some h
    refine fw_callVi C (ci := 10) (Cn := RX12) (Tc := TX12) (N := 19) (As := [.int r1]) (c_X12_capacity (gac (hG _ (List.mem_of_getElem? (i := 0) rfl)) ga0) q7) (cwV 1 (cx_ts C) gX12_hasPan_X12_capacity rfl rfl rfl (by decide +kernel) ⟨Nat.le_of_ble_eq_true rfl, Nat.le_of_ble_eq_true rfl⟩) rfl (hG _ (List.mem_of_getElem? (i := 0) rfl)) (of10_0 _) (ce10 T ad _ _) rfl (st := [.int r4]) rfl (Nat.le_of_ble_eq_true rfl) ⟨Nat.le_refl 0, Nat.le_refl 0⟩ dX12_hasPan_20 ?_
    rintro _ _ ⟨rfl, rfl⟩
    refine fw_icmp_ge C dX12_hasPan_23 (tgt := 30) rfl (fun c8 => ?_) (fun c8 => ?_)
    · have h := ite_t c8 h
      refine fw_iconst C dX12_hasPan_30 (v := 0) rfl ?_
      exact fw_zret C hrt (by decide) Y ⟨Option.some.inj h, rfl⟩ (fun t ht => ht) dX12_hasPan_31
    · have h := ite_f c8 h
      refine fw_sub [] (L' := []) rfl ?_
      exact w_X12_hasPan_b26 C hrt hG    h
end
set_option maxRecDepth 100000 in
set_option maxHeartbeats 4000000 in
theorem c_X12_hasPan {l : Launch} {N0 : Nat} {T : Nat → ClassId} {D : va_G} {gr : List (Nat × Nat)} {ad : Nat → Nat → Nat → Nat} {Y : Mem} {a1 : Int32} {res : Int32} (hG : ∀ q ∈ [(10, 0)], q ∈ gr) (h : X12_hasPan Y a1 = some res) : CI l yX12_hasPan wsX12_hasPan (Rm 5) N0 T D gr ad Y [.ref (ad 10 0 0), .int a1] (fun r Y1 => r = res ∧ Y1 = Y) :=
  fw_body (by decide +kernel) rfl (Nat.le_of_ble_eq_true rfl) (fun p e s m below meth c C hrt => w_X12_hasPan C hrt hG  h)
noncomputable def X12_isCooked (Y : Mem) (a1 : Int32) : Option (Int32) :=
  bd1 (X12_of Y a1 17) <| fun r1 => if r1 = 1 then (bd1 (X12_of Y a1 11) <| fun r4 => if r4 = 0 then (some 1) else (some 0)) else (some 0)
section
variable {p : Program} {l : Launch} {e : Env} {s : State} {m : MethodId} {below : List Frame} {meth : Method} {c : Code} {N0 : Nat} {T : Nat → ClassId} {D : va_G} {gr : List (Nat × Nat)} {ad : Nat → Nat → Nat → Nat}
set_option maxRecDepth 100000 in
set_option maxHeartbeats 4000000 in
theorem w_X12_isCooked {Y : Mem} {a1 : Int32} (C : Cx p s m [.ref (ad 10 0 0), .int a1].toArray meth c cX12_isCooked 2 wsX12_isCooked RX12 N0 T D gr ad) (hrt : meth.sig.returnType = (some .boolean)) (hG : ∀ q ∈ [(10, 0)], q ∈ gr) {res : Int32} (h : X12_isCooked Y a1 = some res) : FW p l e (Rm 1) s m [.ref (ad 10 0 0), .int a1].toArray below meth c 2 N0 T D gr ad 0 0 (MQ below (va_Qi (fun r Y1 => r = res ∧ Y1 = Y) (WB T D gr ad) (fun q => N0 ≤ q)) [.ref (ad 10 0 0), .int a1].toArray s 0 0 (fun q => N0 ≤ q)) Y 0 [(0, .ref (ad 10 0 0)), (1, .int a1)] [] := by
  unfold X12_isCooked at h
  refine fw_aload_n C dX12_isCooked_0 rfl 0 rfl ?_
  refine fw_iload_n C dX12_isCooked_1 rfl 1 rfl ?_
  refine fw_bipush C dX12_isCooked_2 (v := 17) rfl ?_
  obtain ⟨r1, q2, h⟩ := bd1_some h
  refine fw_callVi C (ci := 10) (Cn := RX12) (Tc := TX12) (N := 19) (As := [.int a1, .int 17]) (c_X12_of (gac (hG _ (List.mem_of_getElem? (i := 0) rfl)) ga0) q2) (cwV 2 (cx_ts C) gX12_isCooked_X12_of rfl rfl rfl (by decide +kernel) ⟨Nat.le_of_ble_eq_true rfl, Nat.le_of_ble_eq_true rfl⟩) rfl (hG _ (List.mem_of_getElem? (i := 0) rfl)) (of10_0 _) (ce10 T ad _ _) rfl (st := []) rfl (Nat.le_of_ble_eq_true rfl) ⟨Nat.le_refl 0, Nat.le_refl 0⟩ dX12_isCooked_4 ?_
  rintro _ _ ⟨rfl, rfl⟩
  refine fw_iconst C dX12_isCooked_7 (v := 1) rfl ?_
  refine fw_icmp_ne C dX12_isCooked_8 (tgt := 25) rfl (fun c3 => ?_) (fun c3 => ?_)
  · have h := ite_f c3 h
    refine fw_iconst C dX12_isCooked_25 (v := 0) rfl ?_
    exact fw_zret C hrt (by decide) Y ⟨Option.some.inj h, rfl⟩ (fun t ht => ht) dX12_isCooked_26
  · have h := ite_t c3 h
    refine fw_aload_n C dX12_isCooked_11 rfl 0 rfl ?_
    refine fw_iload_n C dX12_isCooked_12 rfl 1 rfl ?_
    refine fw_bipush C dX12_isCooked_13 (v := 11) rfl ?_
    obtain ⟨r4, q5, h⟩ := bd1_some h
    refine fw_callVi C (ci := 10) (Cn := RX12) (Tc := TX12) (N := 19) (As := [.int a1, .int 11]) (c_X12_of (gac (hG _ (List.mem_of_getElem? (i := 0) rfl)) ga0) q5) (cwV 2 (cx_ts C) gX12_isCooked_X12_of rfl rfl rfl (by decide +kernel) ⟨Nat.le_of_ble_eq_true rfl, Nat.le_of_ble_eq_true rfl⟩) rfl (hG _ (List.mem_of_getElem? (i := 0) rfl)) (of10_0 _) (ce10 T ad _ _) rfl (st := []) rfl (Nat.le_of_ble_eq_true rfl) ⟨Nat.le_refl 0, Nat.le_refl 0⟩ dX12_isCooked_15 ?_
    rintro _ _ ⟨rfl, rfl⟩
    refine fw_if_ne C dX12_isCooked_18 (tgt := 25) rfl (fun c6 => ?_) (fun c6 => ?_)
    · have h := ite_f c6 h
      refine fw_iconst C dX12_isCooked_25 (v := 0) rfl ?_
      exact fw_zret C hrt (by decide) Y ⟨Option.some.inj h, rfl⟩ (fun t ht => ht) dX12_isCooked_26
    · have h := ite_t c6 h
      refine fw_iconst C dX12_isCooked_21 (v := 1) rfl ?_
      refine fw_goto C dX12_isCooked_22 (tgt := 26) rfl ?_
      exact fw_zret C hrt (by decide) Y ⟨Option.some.inj h, rfl⟩ (fun t ht => ht) dX12_isCooked_26
end
set_option maxRecDepth 100000 in
set_option maxHeartbeats 4000000 in
theorem c_X12_isCooked {l : Launch} {N0 : Nat} {T : Nat → ClassId} {D : va_G} {gr : List (Nat × Nat)} {ad : Nat → Nat → Nat → Nat} {Y : Mem} {a1 : Int32} {res : Int32} (hG : ∀ q ∈ [(10, 0)], q ∈ gr) (h : X12_isCooked Y a1 = some res) : CI l yX12_isCooked wsX12_isCooked (Rm 1) N0 T D gr ad Y [.ref (ad 10 0 0), .int a1] (fun r Y1 => r = res ∧ Y1 = Y) :=
  fw_body (by decide +kernel) rfl (Nat.le_of_ble_eq_true rfl) (fun p e s m below meth c C hrt => w_X12_isCooked C hrt hG  h)
theorem ly_X12_hasCook_12 : ∀ w ∈ u_ws RX12 TX12 19, w ∈ wsX12_hasCook := by decide +kernel
theorem fl_X12_hasCook_13 : Cond.fieldLink RX12 13 "RecipeSchedulerModel" "m" "[I" ∈ wsX12_hasCook := by decide +kernel
noncomputable def X12_hasCook_b58 (Y : Mem) (a1 : Int32)  : Option (Int32) :=
  some 1
noncomputable def X12_hasCook_b29 (Y : Mem) (a1 : Int32) (k4 : Int32 → Int32 → Option (Int32)) (l3 : Int32) (s0 : Int32) (s1 : Int32) : Option (Int32) :=
  lt_ (s1 + s0) <| fun v11 => k4 (l3 + 1) v11
noncomputable def X12_hasCook_b4 (Y : Mem) (a1 : Int32) : Nat → Int32 → Int32 → Option (Int32)
  | 0, _, _ => none
  | n+1, l3, l2 =>
  gd (inb 13 4202) <| if (Y 10 0 1 (ix 13)) ≤ l3 then (bd1 (X12_of Y a1 11) <| fun r3 => if r3 = 1 then (X12_hasCook_b58 Y a1) else (gd (inb 0 4202) <| if (Y 10 0 1 (ix 0)) ≤ l2 then (some 0) else (X12_hasCook_b58 Y a1))) else (bd1 (X12_isCooked Y l3) <| fun r8 => if r8 = 0 then (X12_hasCook_b29 Y a1 (X12_hasCook_b4 Y a1 n) l3 0 l2) else (X12_hasCook_b29 Y a1 (X12_hasCook_b4 Y a1 n) l3 1 l2))
noncomputable def X12_hasCook (Y : Mem) (a1 : Int32) : Option (Int32) :=
  X12_hasCook_b4 Y a1 FU 0 0
section
variable {p : Program} {l : Launch} {e : Env} {s : State} {m : MethodId} {below : List Frame} {meth : Method} {c : Code} {N0 : Nat} {T : Nat → ClassId} {D : va_G} {gr : List (Nat × Nat)} {ad : Nat → Nat → Nat → Nat}
set_option maxRecDepth 100000 in
set_option maxHeartbeats 4000000 in
theorem w_X12_hasCook_b58 {Y : Mem} {a1 : Int32} (C : Cx p s m [.ref (ad 10 0 0), .int a1].toArray meth c cX12_hasCook 4 wsX12_hasCook RX12 N0 T D gr ad) (hrt : meth.sig.returnType = (some .boolean)) (hG : ∀ q ∈ [(10, 0)], q ∈ gr) {res : Int32}  (h : X12_hasCook_b58 Y a1   = some res) : FW p l e (Rm 2) s m [.ref (ad 10 0 0), .int a1].toArray below meth c 4 N0 T D gr ad 0 0 (MQ below (va_Qi (fun r Y1 => r = res ∧ Y1 = Y) (WB T D gr ad) (fun q => N0 ≤ q)) [.ref (ad 10 0 0), .int a1].toArray s 0 0 (fun q => N0 ≤ q)) Y 58 [] [] := by
  unfold X12_hasCook_b58 at h
  refine fw_iconst C dX12_hasCook_58 (v := 1) rfl ?_
  refine fw_goto C dX12_hasCook_59 (tgt := 63) rfl ?_
  exact fw_zret C hrt (by decide) Y ⟨Option.some.inj h, rfl⟩ (fun t ht => ht) dX12_hasCook_63
set_option maxRecDepth 100000 in
set_option maxHeartbeats 4000000 in
theorem w_X12_hasCook_b29 {Y : Mem} {a1 : Int32} (C : Cx p s m [.ref (ad 10 0 0), .int a1].toArray meth c cX12_hasCook 4 wsX12_hasCook RX12 N0 T D gr ad) (hrt : meth.sig.returnType = (some .boolean)) (hG : ∀ q ∈ [(10, 0)], q ∈ gr) {res : Int32} {k4 : Int32 → Int32 → Option (Int32)} (hk4 : ∀ (l3 : Int32) (l2 : Int32), k4 l3 l2 = some res → FW p l e (Rm 2) s m [.ref (ad 10 0 0), .int a1].toArray below meth c 4 N0 T D gr ad 0 0 (MQ below (va_Qi (fun r Y1 => r = res ∧ Y1 = Y) (WB T D gr ad) (fun q => N0 ≤ q)) [.ref (ad 10 0 0), .int a1].toArray s 0 0 (fun q => N0 ≤ q)) Y 4 [(3, .int l3), (2, .int l2), (0, .ref (ad 10 0 0)), (1, .int a1)] []) (l3 : Int32) (s0 : Int32) (s1 : Int32) (h : X12_hasCook_b29 Y a1 k4 l3 s0 s1 = some res) : FW p l e (Rm 2) s m [.ref (ad 10 0 0), .int a1].toArray below meth c 4 N0 T D gr ad 0 0 (MQ below (va_Qi (fun r Y1 => r = res ∧ Y1 = Y) (WB T D gr ad) (fun q => N0 ≤ q)) [.ref (ad 10 0 0), .int a1].toArray s 0 0 (fun q => N0 ≤ q)) Y 29 [(3, .int l3), (0, .ref (ad 10 0 0)), (1, .int a1)] [.int s0, .int s1] := by
  unfold X12_hasCook_b29 at h
  refine fw_iadd C dX12_hasCook_29 ?_
  obtain ⟨v11, e12, h⟩ := lt_some h
  refine fw_top (v' := .int v11) (by rw [e12]) ?_
  refine fw_istore_n C dX12_hasCook_30 rfl (by decide) (L' := [(2, .int v11), (3, .int l3), (0, .ref (ad 10 0 0)), (1, .int a1)]) rfl ?_
  refine fw_iinc C dX12_hasCook_31 (kk := 1) (v := l3 + 1) rfl rfl (by decide) (L' := [(3, .int (l3 + 1)), (2, .int v11), (0, .ref (ad 10 0 0)), (1, .int a1)]) rfl ?_
  refine fw_goto C dX12_hasCook_34 (tgt := 4) rfl ?_
  exact hk4 _ _ h
set_option maxRecDepth 100000 in
set_option maxHeartbeats 4000000 in
theorem w_X12_hasCook_b4 {Y : Mem} {a1 : Int32} (C : Cx p s m [.ref (ad 10 0 0), .int a1].toArray meth c cX12_hasCook 4 wsX12_hasCook RX12 N0 T D gr ad) (hrt : meth.sig.returnType = (some .boolean)) (hG : ∀ q ∈ [(10, 0)], q ∈ gr) {res : Int32} : ∀ (n : Nat) (l3 : Int32) (l2 : Int32), X12_hasCook_b4 Y a1  n l3 l2 = some res → FW p l e (Rm 2) s m [.ref (ad 10 0 0), .int a1].toArray below meth c 4 N0 T D gr ad 0 0 (MQ below (va_Qi (fun r Y1 => r = res ∧ Y1 = Y) (WB T D gr ad) (fun q => N0 ≤ q)) [.ref (ad 10 0 0), .int a1].toArray s 0 0 (fun q => N0 ≤ q)) Y 4 [(3, .int l3), (2, .int l2), (0, .ref (ad 10 0 0)), (1, .int a1)] [] := by
  intro n
  induction n with
  | zero =>
    intro l3 l2 h
    unfold X12_hasCook_b4 at h
    cases h
  | succ n ih =>
    intro l3 l2 h
    unfold X12_hasCook_b4 at h
    refine fw_iload_n C dX12_hasCook_4 rfl 0 rfl ?_
    refine fw_aload_n C dX12_hasCook_5 rfl 2 rfl ?_
    refine fw_get C (ci := 10) (Cn := RX12) (Tc := TX12) (N := 19) (j := 0) ly_X12_hasCook_12 rfl (hG _ (List.mem_of_getElem? (i := 0) rfl)) (of10_0 _) (ce10 T ad _ _) (by decide) (cx_ts C _ fl_X12_hasCook_13) (fun _ h => h) (v := .ref (ad 10 0 1)) rfl dX12_hasCook_6 ?_
    refine fw_bipush C dX12_hasCook_9 (v := 13) rfl ?_
    obtain ⟨b1, h⟩ := gd_some h
    refine fw_iald2 C (hG _ (List.mem_of_getElem? (i := 0) rfl)) (of10_1 _) (ca10_1 T ad _ _) b1 (Nat.le_of_ble_eq_true rfl) dX12_hasCook_11 ?_
    refine fw_icmp_ge C dX12_hasCook_12 (tgt := 37) rfl (fun c2 => ?_) (fun c2 => ?_)
    · have h := ite_t c2 h
      refine fw_aload_n C dX12_hasCook_37 rfl 2 rfl ?_
      refine fw_iload_n C dX12_hasCook_38 rfl 3 rfl ?_
      refine fw_bipush C dX12_hasCook_39 (v := 11) rfl ?_
      obtain ⟨r3, q4, h⟩ := bd1_some h
      refine fw_callVi C (ci := 10) (Cn := RX12) (Tc := TX12) (N := 19) (As := [.int a1, .int 11]) (c_X12_of (gac (hG _ (List.mem_of_getElem? (i := 0) rfl)) ga0) q4) (cwV 2 (cx_ts C) gX12_hasCook_X12_of rfl rfl rfl (by decide +kernel) ⟨Nat.le_of_ble_eq_true rfl, Nat.le_of_ble_eq_true rfl⟩) rfl (hG _ (List.mem_of_getElem? (i := 0) rfl)) (of10_0 _) (ce10 T ad _ _) rfl (st := []) rfl (Nat.le_of_ble_eq_true rfl) ⟨Nat.le_refl 0, Nat.le_refl 0⟩ dX12_hasCook_41 ?_
      rintro _ _ ⟨rfl, rfl⟩
      refine fw_iconst C dX12_hasCook_44 (v := 1) rfl ?_
      refine fw_icmp_eq C dX12_hasCook_45 (tgt := 58) rfl (fun c5 => ?_) (fun c5 => ?_)
      · have h := ite_t c5 h
        refine fw_sub [] (L' := []) rfl ?_
        exact w_X12_hasCook_b58 C hrt hG    h
      · have h := ite_f c5 h
        refine fw_iload_n C dX12_hasCook_48 rfl 1 rfl ?_
        refine fw_aload_n C dX12_hasCook_49 rfl 2 rfl ?_
        refine fw_get C (ci := 10) (Cn := RX12) (Tc := TX12) (N := 19) (j := 0) ly_X12_hasCook_12 rfl (hG _ (List.mem_of_getElem? (i := 0) rfl)) (of10_0 _) (ce10 T ad _ _) (by decide) (cx_ts C _ fl_X12_hasCook_13) (fun _ h => h) (v := .ref (ad 10 0 1)) rfl dX12_hasCook_50 ?_
        refine fw_iconst C dX12_hasCook_53 (v := 0) rfl ?_
        obtain ⟨b6, h⟩ := gd_some h
        refine fw_iald2 C (hG _ (List.mem_of_getElem? (i := 0) rfl)) (of10_1 _) (ca10_1 T ad _ _) b6 (Nat.le_of_ble_eq_true rfl) dX12_hasCook_54 ?_
        refine fw_icmp_ge C dX12_hasCook_55 (tgt := 62) rfl (fun c7 => ?_) (fun c7 => ?_)
        · have h := ite_t c7 h
          refine fw_iconst C dX12_hasCook_62 (v := 0) rfl ?_
          exact fw_zret C hrt (by decide) Y ⟨Option.some.inj h, rfl⟩ (fun t ht => ht) dX12_hasCook_63
        · have h := ite_f c7 h
          refine fw_sub [] (L' := []) rfl ?_
          exact w_X12_hasCook_b58 C hrt hG    h
    · have h := ite_f c2 h
      refine fw_iload_n C dX12_hasCook_15 rfl 1 rfl ?_
      refine fw_aload_n C dX12_hasCook_16 rfl 2 rfl ?_
      refine fw_iload_n C dX12_hasCook_17 rfl 0 rfl ?_
      obtain ⟨r8, q9, h⟩ := bd1_some h
      refine fw_callVi C (ci := 10) (Cn := RX12) (Tc := TX12) (N := 19) (As := [.int l3]) (c_X12_isCooked (gac (hG _ (List.mem_of_getElem? (i := 0) rfl)) ga0) q9) (cwV 1 (cx_ts C) gX12_hasCook_X12_isCooked rfl rfl rfl (by decide +kernel) ⟨Nat.le_of_ble_eq_true rfl, Nat.le_of_ble_eq_true rfl⟩) rfl (hG _ (List.mem_of_getElem? (i := 0) rfl)) (of10_0 _) (ce10 T ad _ _) rfl (st := [.int l2]) rfl (Nat.le_of_ble_eq_true rfl) ⟨Nat.le_refl 0, Nat.le_refl 0⟩ dX12_hasCook_18 ?_
      rintro _ _ ⟨rfl, rfl⟩
      refine fw_if_eq C dX12_hasCook_21 (tgt := 28) rfl (fun c10 => ?_) (fun c10 => ?_)
      · have h := ite_t c10 h
        refine fw_iconst C dX12_hasCook_28 (v := 0) rfl ?_
        refine fw_sub [0, 2, 3] (L' := [(3, .int l3), (0, .ref (ad 10 0 0)), (1, .int a1)]) rfl ?_
        exact w_X12_hasCook_b29 C hrt hG  ih _ _ _ h
      · have h := ite_f c10 h
        refine fw_iconst C dX12_hasCook_24 (v := 1) rfl ?_
        refine fw_goto C dX12_hasCook_25 (tgt := 29) rfl ?_
        refine fw_sub [0, 2, 3] (L' := [(3, .int l3), (0, .ref (ad 10 0 0)), (1, .int a1)]) rfl ?_
        exact w_X12_hasCook_b29 C hrt hG  ih _ _ _ h
set_option maxRecDepth 100000 in
set_option maxHeartbeats 4000000 in
theorem w_X12_hasCook {Y : Mem} {a1 : Int32} (C : Cx p s m [.ref (ad 10 0 0), .int a1].toArray meth c cX12_hasCook 4 wsX12_hasCook RX12 N0 T D gr ad) (hrt : meth.sig.returnType = (some .boolean)) (hG : ∀ q ∈ [(10, 0)], q ∈ gr) {res : Int32} (h : X12_hasCook Y a1 = some res) : FW p l e (Rm 2) s m [.ref (ad 10 0 0), .int a1].toArray below meth c 4 N0 T D gr ad 0 0 (MQ below (va_Qi (fun r Y1 => r = res ∧ Y1 = Y) (WB T D gr ad) (fun q => N0 ≤ q)) [.ref (ad 10 0 0), .int a1].toArray s 0 0 (fun q => N0 ≤ q)) Y 0 [(0, .ref (ad 10 0 0)), (1, .int a1)] [] := by
  unfold X12_hasCook at h
  refine fw_iconst C dX12_hasCook_0 (v := 0) rfl ?_
  refine fw_istore_n C dX12_hasCook_1 rfl (by decide) (L' := [(2, .int 0), (0, .ref (ad 10 0 0)), (1, .int a1)]) rfl ?_
  refine fw_iconst C dX12_hasCook_2 (v := 0) rfl ?_
  refine fw_istore_n C dX12_hasCook_3 rfl (by decide) (L' := [(3, .int 0), (2, .int 0), (0, .ref (ad 10 0 0)), (1, .int a1)]) rfl ?_
  exact w_X12_hasCook_b4 C hrt hG   _ _ _ h
end
set_option maxRecDepth 100000 in
set_option maxHeartbeats 4000000 in
theorem c_X12_hasCook {l : Launch} {N0 : Nat} {T : Nat → ClassId} {D : va_G} {gr : List (Nat × Nat)} {ad : Nat → Nat → Nat → Nat} {Y : Mem} {a1 : Int32} {res : Int32} (hG : ∀ q ∈ [(10, 0)], q ∈ gr) (h : X12_hasCook Y a1 = some res) : CI l yX12_hasCook wsX12_hasCook (Rm 2) N0 T D gr ad Y [.ref (ad 10 0 0), .int a1] (fun r Y1 => r = res ∧ Y1 = Y) :=
  fw_body (by decide +kernel) rfl (Nat.le_of_ble_eq_true rfl) (fun p e s m below meth c C hrt => w_X12_hasCook C hrt hG  h)
noncomputable def X12_reasonFor (Y : Mem) (a1 : Int32) : Option (Int32) :=
  bd1 (X12_of Y a1 17) <| fun r1 => if r1 = 1 then (some 0) else (bd1 (X12_of Y a1 17) <| fun r4 => if r4 = 2 then (some 1) else (bd1 (X12_firstOpen Y a1) <| fun r7 => if r7 = ((-1)) then (bd1 (X12_hasPan Y a1) <| fun r10 => if r10 = 0 then (some 3) else (bd1 (X12_hasCook Y a1) <| fun r13 => if r13 = 0 then (some 4) else (some 5))) else (some 2)))
section
variable {p : Program} {l : Launch} {e : Env} {s : State} {m : MethodId} {below : List Frame} {meth : Method} {c : Code} {N0 : Nat} {T : Nat → ClassId} {D : va_G} {gr : List (Nat × Nat)} {ad : Nat → Nat → Nat → Nat}
set_option maxRecDepth 100000 in
set_option maxHeartbeats 4000000 in
theorem w_X12_reasonFor {Y : Mem} {a1 : Int32} (C : Cx p s m [.ref (ad 10 0 0), .int a1].toArray meth c cX12_reasonFor 2 wsX12_reasonFor RX12 N0 T D gr ad) (hrt : meth.sig.returnType = (some .int)) (hG : ∀ q ∈ [(10, 0)], q ∈ gr) {res : Int32} (h : X12_reasonFor Y a1 = some res) : FW p l e (Rm 6) s m [.ref (ad 10 0 0), .int a1].toArray below meth c 2 N0 T D gr ad 0 0 (MQ below (va_Qi (fun r Y1 => r = res ∧ Y1 = Y) (WB T D gr ad) (fun q => N0 ≤ q)) [.ref (ad 10 0 0), .int a1].toArray s 0 0 (fun q => N0 ≤ q)) Y 0 [(0, .ref (ad 10 0 0)), (1, .int a1)] [] := by
  unfold X12_reasonFor at h
  refine fw_aload_n C dX12_reasonFor_0 rfl 0 rfl ?_
  refine fw_iload_n C dX12_reasonFor_1 rfl 1 rfl ?_
  refine fw_bipush C dX12_reasonFor_2 (v := 17) rfl ?_
  obtain ⟨r1, q2, h⟩ := bd1_some h
  refine fw_callVi C (ci := 10) (Cn := RX12) (Tc := TX12) (N := 19) (As := [.int a1, .int 17]) (c_X12_of (gac (hG _ (List.mem_of_getElem? (i := 0) rfl)) ga0) q2) (cwV 2 (cx_ts C) gX12_reasonFor_X12_of rfl rfl rfl (by decide +kernel) ⟨Nat.le_of_ble_eq_true rfl, Nat.le_of_ble_eq_true rfl⟩) rfl (hG _ (List.mem_of_getElem? (i := 0) rfl)) (of10_0 _) (ce10 T ad _ _) rfl (st := []) rfl (Nat.le_of_ble_eq_true rfl) ⟨Nat.le_refl 0, Nat.le_refl 0⟩ dX12_reasonFor_4 ?_
  rintro _ _ ⟨rfl, rfl⟩
  refine fw_iconst C dX12_reasonFor_7 (v := 1) rfl ?_
  refine fw_icmp_ne C dX12_reasonFor_8 (tgt := 13) rfl (fun c3 => ?_) (fun c3 => ?_)
  · have h := ite_f c3 h
    refine fw_aload_n C dX12_reasonFor_13 rfl 0 rfl ?_
    refine fw_iload_n C dX12_reasonFor_14 rfl 1 rfl ?_
    refine fw_bipush C dX12_reasonFor_15 (v := 17) rfl ?_
    obtain ⟨r4, q5, h⟩ := bd1_some h
    refine fw_callVi C (ci := 10) (Cn := RX12) (Tc := TX12) (N := 19) (As := [.int a1, .int 17]) (c_X12_of (gac (hG _ (List.mem_of_getElem? (i := 0) rfl)) ga0) q5) (cwV 2 (cx_ts C) gX12_reasonFor_X12_of rfl rfl rfl (by decide +kernel) ⟨Nat.le_of_ble_eq_true rfl, Nat.le_of_ble_eq_true rfl⟩) rfl (hG _ (List.mem_of_getElem? (i := 0) rfl)) (of10_0 _) (ce10 T ad _ _) rfl (st := []) rfl (Nat.le_of_ble_eq_true rfl) ⟨Nat.le_refl 0, Nat.le_refl 0⟩ dX12_reasonFor_17 ?_
    rintro _ _ ⟨rfl, rfl⟩
    refine fw_iconst C dX12_reasonFor_20 (v := 2) rfl ?_
    refine fw_icmp_ne C dX12_reasonFor_21 (tgt := 26) rfl (fun c6 => ?_) (fun c6 => ?_)
    · have h := ite_f c6 h
      refine fw_aload_n C dX12_reasonFor_26 rfl 0 rfl ?_
      refine fw_iload_n C dX12_reasonFor_27 rfl 1 rfl ?_
      obtain ⟨r7, q8, h⟩ := bd1_some h
      refine fw_callVi C (ci := 10) (Cn := RX12) (Tc := TX12) (N := 19) (As := [.int a1]) (c_X12_firstOpen (gac (hG _ (List.mem_of_getElem? (i := 0) rfl)) ga0) q8) (cwV 1 (cx_ts C) gX12_reasonFor_X12_firstOpen rfl rfl rfl (by decide +kernel) ⟨Nat.le_of_ble_eq_true rfl, Nat.le_of_ble_eq_true rfl⟩) rfl (hG _ (List.mem_of_getElem? (i := 0) rfl)) (of10_0 _) (ce10 T ad _ _) rfl (st := []) rfl (Nat.le_of_ble_eq_true rfl) ⟨Nat.le_refl 0, Nat.le_refl 0⟩ dX12_reasonFor_28 ?_
      rintro _ _ ⟨rfl, rfl⟩
      refine fw_iconst C dX12_reasonFor_31 (v := (-1)) rfl ?_
      refine fw_icmp_eq C dX12_reasonFor_32 (tgt := 37) rfl (fun c9 => ?_) (fun c9 => ?_)
      · have h := ite_t c9 h
        refine fw_aload_n C dX12_reasonFor_37 rfl 0 rfl ?_
        refine fw_iload_n C dX12_reasonFor_38 rfl 1 rfl ?_
        obtain ⟨r10, q11, h⟩ := bd1_some h
        refine fw_callVi C (ci := 10) (Cn := RX12) (Tc := TX12) (N := 19) (As := [.int a1]) (c_X12_hasPan (gac (hG _ (List.mem_of_getElem? (i := 0) rfl)) ga0) q11) (cwV 1 (cx_ts C) gX12_reasonFor_X12_hasPan rfl rfl rfl (by decide +kernel) ⟨Nat.le_of_ble_eq_true rfl, Nat.le_of_ble_eq_true rfl⟩) rfl (hG _ (List.mem_of_getElem? (i := 0) rfl)) (of10_0 _) (ce10 T ad _ _) rfl (st := []) rfl (Nat.le_of_ble_eq_true rfl) ⟨Nat.le_refl 0, Nat.le_refl 0⟩ dX12_reasonFor_39 ?_
        rintro _ _ ⟨rfl, rfl⟩
        refine fw_if_ne C dX12_reasonFor_42 (tgt := 47) rfl (fun c12 => ?_) (fun c12 => ?_)
        · have h := ite_f c12 h
          refine fw_aload_n C dX12_reasonFor_47 rfl 0 rfl ?_
          refine fw_iload_n C dX12_reasonFor_48 rfl 1 rfl ?_
          obtain ⟨r13, q14, h⟩ := bd1_some h
          refine fw_callVi C (ci := 10) (Cn := RX12) (Tc := TX12) (N := 19) (As := [.int a1]) (c_X12_hasCook (gac (hG _ (List.mem_of_getElem? (i := 0) rfl)) ga0) q14) (cwV 1 (cx_ts C) gX12_reasonFor_X12_hasCook rfl rfl rfl (by decide +kernel) ⟨Nat.le_of_ble_eq_true rfl, Nat.le_of_ble_eq_true rfl⟩) rfl (hG _ (List.mem_of_getElem? (i := 0) rfl)) (of10_0 _) (ce10 T ad _ _) rfl (st := []) rfl (Nat.le_of_ble_eq_true rfl) ⟨Nat.le_refl 0, Nat.le_refl 0⟩ dX12_reasonFor_49 ?_
          rintro _ _ ⟨rfl, rfl⟩
          refine fw_if_eq C dX12_reasonFor_52 (tgt := 59) rfl (fun c15 => ?_) (fun c15 => ?_)
          · have h := ite_t c15 h
            refine fw_iconst C dX12_reasonFor_59 (v := 4) rfl ?_
            exact fw_iret C hrt Y ⟨Option.some.inj h, rfl⟩ (fun t ht => ht) dX12_reasonFor_60
          · have h := ite_f c15 h
            refine fw_iconst C dX12_reasonFor_55 (v := 5) rfl ?_
            refine fw_goto C dX12_reasonFor_56 (tgt := 60) rfl ?_
            exact fw_iret C hrt Y ⟨Option.some.inj h, rfl⟩ (fun t ht => ht) dX12_reasonFor_60
        · have h := ite_t c12 h
          refine fw_iconst C dX12_reasonFor_45 (v := 3) rfl ?_
          exact fw_iret C hrt Y ⟨Option.some.inj h, rfl⟩ (fun t ht => ht) dX12_reasonFor_46
      · have h := ite_f c9 h
        refine fw_iconst C dX12_reasonFor_35 (v := 2) rfl ?_
        exact fw_iret C hrt Y ⟨Option.some.inj h, rfl⟩ (fun t ht => ht) dX12_reasonFor_36
    · have h := ite_t c6 h
      refine fw_iconst C dX12_reasonFor_24 (v := 1) rfl ?_
      exact fw_iret C hrt Y ⟨Option.some.inj h, rfl⟩ (fun t ht => ht) dX12_reasonFor_25
  · have h := ite_t c3 h
    refine fw_iconst C dX12_reasonFor_11 (v := 0) rfl ?_
    exact fw_iret C hrt Y ⟨Option.some.inj h, rfl⟩ (fun t ht => ht) dX12_reasonFor_12
end
set_option maxRecDepth 100000 in
set_option maxHeartbeats 4000000 in
theorem c_X12_reasonFor {l : Launch} {N0 : Nat} {T : Nat → ClassId} {D : va_G} {gr : List (Nat × Nat)} {ad : Nat → Nat → Nat → Nat} {Y : Mem} {a1 : Int32} {res : Int32} (hG : ∀ q ∈ [(10, 0)], q ∈ gr) (h : X12_reasonFor Y a1 = some res) : CI l yX12_reasonFor wsX12_reasonFor (Rm 6) N0 T D gr ad Y [.ref (ad 10 0 0), .int a1] (fun r Y1 => r = res ∧ Y1 = Y) :=
  fw_body (by decide +kernel) rfl (Nat.le_of_ble_eq_true rfl) (fun p e s m below meth c C hrt => w_X12_reasonFor C hrt hG  h)
theorem ly_X12_blocker_12 : ∀ w ∈ u_ws RX12 TX12 19, w ∈ wsX12_blocker := by decide +kernel
theorem fl_X12_blocker_13 : Cond.fieldLink RX12 13 "RecipeSchedulerModel" "m" "[I" ∈ wsX12_blocker := by decide +kernel
noncomputable def X12_blocker_b65 (Y : Mem) (a1 : Int32) (k19 : Int32 → Int32 → Option (Int32)) (l3 : Int32) (l2 : Int32) : Option (Int32) :=
  k19 (l3 + 1) l2
noncomputable def X12_blocker_b50 (Y : Mem) (a1 : Int32) (k19 : Int32 → Int32 → Option (Int32)) (l3 : Int32) (l2 : Int32) : Option (Int32) :=
  if l2 = 4 then (bd1 (X12_isCooked Y l3) <| fun r8 => if r8 = 0 then (X12_blocker_b65 Y a1 k19 l3 l2) else (some l3)) else (X12_blocker_b65 Y a1 k19 l3 l2)
noncomputable def X12_blocker_b19 (Y : Mem) (a1 : Int32) : Nat → Int32 → Int32 → Option (Int32)
  | 0, _, _ => none
  | n+1, l3, l2 =>
  gd (inb 13 4202) <| if (Y 10 0 1 (ix 13)) ≤ l3 then (some ((-1))) else (if l2 = 3 then (bd1 (X12_of Y a1 9) <| fun r11 => bd1 (X12_occupies Y l3 r11) <| fun r13 => if r13 = 0 then (X12_blocker_b50 Y a1 (X12_blocker_b19 Y a1 n) l3 l2) else (some l3)) else (X12_blocker_b50 Y a1 (X12_blocker_b19 Y a1 n) l3 l2))
noncomputable def X12_blocker (Y : Mem) (a1 : Int32) : Option (Int32) :=
  bd1 (X12_reasonFor Y a1) <| fun r1 => if r1 = 2 then (bd1 (X12_firstOpen Y a1) <| fun r16 => some r16) else (X12_blocker_b19 Y a1 FU 0 r1)
section
variable {p : Program} {l : Launch} {e : Env} {s : State} {m : MethodId} {below : List Frame} {meth : Method} {c : Code} {N0 : Nat} {T : Nat → ClassId} {D : va_G} {gr : List (Nat × Nat)} {ad : Nat → Nat → Nat → Nat}
set_option maxRecDepth 100000 in
set_option maxHeartbeats 4000000 in
theorem w_X12_blocker_b65 {Y : Mem} {a1 : Int32} (C : Cx p s m [.ref (ad 10 0 0), .int a1].toArray meth c cX12_blocker 4 wsX12_blocker RX12 N0 T D gr ad) (hrt : meth.sig.returnType = (some .int)) (hG : ∀ q ∈ [(10, 0)], q ∈ gr) {res : Int32} {k19 : Int32 → Int32 → Option (Int32)} (hk19 : ∀ (l3 : Int32) (l2 : Int32), k19 l3 l2 = some res → FW p l e (Rm 7) s m [.ref (ad 10 0 0), .int a1].toArray below meth c 4 N0 T D gr ad 0 0 (MQ below (va_Qi (fun r Y1 => r = res ∧ Y1 = Y) (WB T D gr ad) (fun q => N0 ≤ q)) [.ref (ad 10 0 0), .int a1].toArray s 0 0 (fun q => N0 ≤ q)) Y 19 [(3, .int l3), (2, .int l2), (0, .ref (ad 10 0 0)), (1, .int a1)] []) (l3 : Int32) (l2 : Int32) (h : X12_blocker_b65 Y a1 k19 l3 l2 = some res) : FW p l e (Rm 7) s m [.ref (ad 10 0 0), .int a1].toArray below meth c 4 N0 T D gr ad 0 0 (MQ below (va_Qi (fun r Y1 => r = res ∧ Y1 = Y) (WB T D gr ad) (fun q => N0 ≤ q)) [.ref (ad 10 0 0), .int a1].toArray s 0 0 (fun q => N0 ≤ q)) Y 65 [(3, .int l3), (2, .int l2), (0, .ref (ad 10 0 0)), (1, .int a1)] [] := by
  unfold X12_blocker_b65 at h
  refine fw_iinc C dX12_blocker_65 (kk := 0) (v := l3 + 1) rfl rfl (by decide) (L' := [(3, .int (l3 + 1)), (2, .int l2), (0, .ref (ad 10 0 0)), (1, .int a1)]) rfl ?_
  refine fw_goto C dX12_blocker_68 (tgt := 19) rfl ?_
  exact hk19 _ _ h
set_option maxRecDepth 100000 in
set_option maxHeartbeats 4000000 in
theorem w_X12_blocker_b50 {Y : Mem} {a1 : Int32} (C : Cx p s m [.ref (ad 10 0 0), .int a1].toArray meth c cX12_blocker 4 wsX12_blocker RX12 N0 T D gr ad) (hrt : meth.sig.returnType = (some .int)) (hG : ∀ q ∈ [(10, 0)], q ∈ gr) {res : Int32} {k19 : Int32 → Int32 → Option (Int32)} (hk19 : ∀ (l3 : Int32) (l2 : Int32), k19 l3 l2 = some res → FW p l e (Rm 7) s m [.ref (ad 10 0 0), .int a1].toArray below meth c 4 N0 T D gr ad 0 0 (MQ below (va_Qi (fun r Y1 => r = res ∧ Y1 = Y) (WB T D gr ad) (fun q => N0 ≤ q)) [.ref (ad 10 0 0), .int a1].toArray s 0 0 (fun q => N0 ≤ q)) Y 19 [(3, .int l3), (2, .int l2), (0, .ref (ad 10 0 0)), (1, .int a1)] []) (l3 : Int32) (l2 : Int32) (h : X12_blocker_b50 Y a1 k19 l3 l2 = some res) : FW p l e (Rm 7) s m [.ref (ad 10 0 0), .int a1].toArray below meth c 4 N0 T D gr ad 0 0 (MQ below (va_Qi (fun r Y1 => r = res ∧ Y1 = Y) (WB T D gr ad) (fun q => N0 ≤ q)) [.ref (ad 10 0 0), .int a1].toArray s 0 0 (fun q => N0 ≤ q)) Y 50 [(3, .int l3), (2, .int l2), (0, .ref (ad 10 0 0)), (1, .int a1)] [] := by
  unfold X12_blocker_b50 at h
  refine fw_iload_n C dX12_blocker_50 rfl 1 rfl ?_
  refine fw_iconst C dX12_blocker_51 (v := 4) rfl ?_
  refine fw_icmp_ne C dX12_blocker_52 (tgt := 65) rfl (fun c7 => ?_) (fun c7 => ?_)
  · have h := ite_f c7 h
    exact w_X12_blocker_b65 C hrt hG  hk19 _ _ h
  · have h := ite_t c7 h
    refine fw_aload_n C dX12_blocker_55 rfl 2 rfl ?_
    refine fw_iload_n C dX12_blocker_56 rfl 0 rfl ?_
    obtain ⟨r8, q9, h⟩ := bd1_some h
    refine fw_callVi C (ci := 10) (Cn := RX12) (Tc := TX12) (N := 19) (As := [.int l3]) (c_X12_isCooked (gac (hG _ (List.mem_of_getElem? (i := 0) rfl)) ga0) q9) (cwV 1 (cx_ts C) gX12_blocker_X12_isCooked rfl rfl rfl (by decide +kernel) ⟨Nat.le_of_ble_eq_true rfl, Nat.le_of_ble_eq_true rfl⟩) rfl (hG _ (List.mem_of_getElem? (i := 0) rfl)) (of10_0 _) (ce10 T ad _ _) rfl (st := []) rfl (Nat.le_of_ble_eq_true rfl) ⟨Nat.le_refl 0, Nat.le_refl 0⟩ dX12_blocker_57 ?_
    rintro _ _ ⟨rfl, rfl⟩
    refine fw_if_eq C dX12_blocker_60 (tgt := 65) rfl (fun c10 => ?_) (fun c10 => ?_)
    · have h := ite_t c10 h
      exact w_X12_blocker_b65 C hrt hG  hk19 _ _ h
    · have h := ite_f c10 h
      refine fw_iload_n C dX12_blocker_63 rfl 0 rfl ?_
      exact fw_iret C hrt Y ⟨Option.some.inj h, rfl⟩ (fun t ht => ht) dX12_blocker_64
set_option maxRecDepth 100000 in
set_option maxHeartbeats 4000000 in
theorem w_X12_blocker_b19 {Y : Mem} {a1 : Int32} (C : Cx p s m [.ref (ad 10 0 0), .int a1].toArray meth c cX12_blocker 4 wsX12_blocker RX12 N0 T D gr ad) (hrt : meth.sig.returnType = (some .int)) (hG : ∀ q ∈ [(10, 0)], q ∈ gr) {res : Int32} : ∀ (n : Nat) (l3 : Int32) (l2 : Int32), X12_blocker_b19 Y a1  n l3 l2 = some res → FW p l e (Rm 7) s m [.ref (ad 10 0 0), .int a1].toArray below meth c 4 N0 T D gr ad 0 0 (MQ below (va_Qi (fun r Y1 => r = res ∧ Y1 = Y) (WB T D gr ad) (fun q => N0 ≤ q)) [.ref (ad 10 0 0), .int a1].toArray s 0 0 (fun q => N0 ≤ q)) Y 19 [(3, .int l3), (2, .int l2), (0, .ref (ad 10 0 0)), (1, .int a1)] [] := by
  intro n
  induction n with
  | zero =>
    intro l3 l2 h
    unfold X12_blocker_b19 at h
    cases h
  | succ n ih =>
    intro l3 l2 h
    unfold X12_blocker_b19 at h
    refine fw_iload_n C dX12_blocker_19 rfl 0 rfl ?_
    refine fw_aload_n C dX12_blocker_20 rfl 2 rfl ?_
    refine fw_get C (ci := 10) (Cn := RX12) (Tc := TX12) (N := 19) (j := 0) ly_X12_blocker_12 rfl (hG _ (List.mem_of_getElem? (i := 0) rfl)) (of10_0 _) (ce10 T ad _ _) (by decide) (cx_ts C _ fl_X12_blocker_13) (fun _ h => h) (v := .ref (ad 10 0 1)) rfl dX12_blocker_21 ?_
    refine fw_bipush C dX12_blocker_24 (v := 13) rfl ?_
    obtain ⟨b4, h⟩ := gd_some h
    refine fw_iald2 C (hG _ (List.mem_of_getElem? (i := 0) rfl)) (of10_1 _) (ca10_1 T ad _ _) b4 (Nat.le_of_ble_eq_true rfl) dX12_blocker_26 ?_
    refine fw_icmp_ge C dX12_blocker_27 (tgt := 71) rfl (fun c5 => ?_) (fun c5 => ?_)
    · have h := ite_t c5 h
      refine fw_iconst C dX12_blocker_71 (v := (-1)) rfl ?_
      exact fw_iret C hrt Y ⟨Option.some.inj h, rfl⟩ (fun t ht => ht) dX12_blocker_72
    · have h := ite_f c5 h
      refine fw_iload_n C dX12_blocker_30 rfl 1 rfl ?_
      refine fw_iconst C dX12_blocker_31 (v := 3) rfl ?_
      refine fw_icmp_ne C dX12_blocker_32 (tgt := 50) rfl (fun c6 => ?_) (fun c6 => ?_)
      · have h := ite_f c6 h
        exact w_X12_blocker_b50 C hrt hG  ih _ _ h
      · have h := ite_t c6 h
        refine fw_aload_n C dX12_blocker_35 rfl 2 rfl ?_
        refine fw_iload_n C dX12_blocker_36 rfl 0 rfl ?_
        refine fw_aload_n C dX12_blocker_37 rfl 2 rfl ?_
        refine fw_iload_n C dX12_blocker_38 rfl 3 rfl ?_
        refine fw_bipush C dX12_blocker_39 (v := 9) rfl ?_
        obtain ⟨r11, q12, h⟩ := bd1_some h
        refine fw_callVi C (ci := 10) (Cn := RX12) (Tc := TX12) (N := 19) (As := [.int a1, .int 9]) (c_X12_of (gac (hG _ (List.mem_of_getElem? (i := 0) rfl)) ga0) q12) (cwV 2 (cx_ts C) gX12_blocker_X12_of rfl rfl rfl (by decide +kernel) ⟨Nat.le_of_ble_eq_true rfl, Nat.le_of_ble_eq_true rfl⟩) rfl (hG _ (List.mem_of_getElem? (i := 0) rfl)) (of10_0 _) (ce10 T ad _ _) rfl (st := [.int l3, .ref (ad 10 0 0)]) rfl (Nat.le_of_ble_eq_true rfl) ⟨Nat.le_refl 0, Nat.le_refl 0⟩ dX12_blocker_41 ?_
        rintro _ _ ⟨rfl, rfl⟩
        obtain ⟨r13, q14, h⟩ := bd1_some h
        refine fw_callVi C (ci := 10) (Cn := RX12) (Tc := TX12) (N := 19) (As := [.int l3, .int r11]) (c_X12_occupies (gac (hG _ (List.mem_of_getElem? (i := 0) rfl)) ga0) q14) (cwV 2 (cx_ts C) gX12_blocker_X12_occupies rfl rfl rfl (by decide +kernel) ⟨Nat.le_of_ble_eq_true rfl, Nat.le_of_ble_eq_true rfl⟩) rfl (hG _ (List.mem_of_getElem? (i := 0) rfl)) (of10_0 _) (ce10 T ad _ _) rfl (st := []) rfl (Nat.le_of_ble_eq_true rfl) ⟨Nat.le_refl 0, Nat.le_refl 0⟩ dX12_blocker_44 ?_
        rintro _ _ ⟨rfl, rfl⟩
        refine fw_if_ne C dX12_blocker_47 (tgt := 63) rfl (fun c15 => ?_) (fun c15 => ?_)
        · have h := ite_f c15 h
          refine fw_iload_n C dX12_blocker_63 rfl 0 rfl ?_
          exact fw_iret C hrt Y ⟨Option.some.inj h, rfl⟩ (fun t ht => ht) dX12_blocker_64
        · have h := ite_t c15 h
          exact w_X12_blocker_b50 C hrt hG  ih _ _ h
set_option maxRecDepth 100000 in
set_option maxHeartbeats 4000000 in
theorem w_X12_blocker {Y : Mem} {a1 : Int32} (C : Cx p s m [.ref (ad 10 0 0), .int a1].toArray meth c cX12_blocker 4 wsX12_blocker RX12 N0 T D gr ad) (hrt : meth.sig.returnType = (some .int)) (hG : ∀ q ∈ [(10, 0)], q ∈ gr) {res : Int32} (h : X12_blocker Y a1 = some res) : FW p l e (Rm 7) s m [.ref (ad 10 0 0), .int a1].toArray below meth c 4 N0 T D gr ad 0 0 (MQ below (va_Qi (fun r Y1 => r = res ∧ Y1 = Y) (WB T D gr ad) (fun q => N0 ≤ q)) [.ref (ad 10 0 0), .int a1].toArray s 0 0 (fun q => N0 ≤ q)) Y 0 [(0, .ref (ad 10 0 0)), (1, .int a1)] [] := by
  unfold X12_blocker at h
  refine fw_aload_n C dX12_blocker_0 rfl 0 rfl ?_
  refine fw_iload_n C dX12_blocker_1 rfl 1 rfl ?_
  obtain ⟨r1, q2, h⟩ := bd1_some h
  refine fw_callVi C (ci := 10) (Cn := RX12) (Tc := TX12) (N := 19) (As := [.int a1]) (c_X12_reasonFor (gac (hG _ (List.mem_of_getElem? (i := 0) rfl)) ga0) q2) (cwV 1 (cx_ts C) gX12_blocker_X12_reasonFor rfl rfl rfl (by decide +kernel) ⟨Nat.le_of_ble_eq_true rfl, Nat.le_of_ble_eq_true rfl⟩) rfl (hG _ (List.mem_of_getElem? (i := 0) rfl)) (of10_0 _) (ce10 T ad _ _) rfl (st := []) rfl (Nat.le_of_ble_eq_true rfl) ⟨Nat.le_refl 0, Nat.le_refl 0⟩ dX12_blocker_2 ?_
  rintro _ _ ⟨rfl, rfl⟩
  refine fw_istore_n C dX12_blocker_5 rfl (by decide) (L' := [(2, .int r1), (0, .ref (ad 10 0 0)), (1, .int a1)]) rfl ?_
  refine fw_iload_n C dX12_blocker_6 rfl 0 rfl ?_
  refine fw_iconst C dX12_blocker_7 (v := 2) rfl ?_
  refine fw_icmp_ne C dX12_blocker_8 (tgt := 17) rfl (fun c3 => ?_) (fun c3 => ?_)
  · have h := ite_f c3 h
    refine fw_iconst C dX12_blocker_17 (v := 0) rfl ?_
    refine fw_istore_n C dX12_blocker_18 rfl (by decide) (L' := [(3, .int 0), (2, .int r1), (0, .ref (ad 10 0 0)), (1, .int a1)]) rfl ?_
    exact w_X12_blocker_b19 C hrt hG   _ _ _ h
  · have h := ite_t c3 h
    refine fw_aload_n C dX12_blocker_11 rfl 1 rfl ?_
    refine fw_iload_n C dX12_blocker_12 rfl 2 rfl ?_
    obtain ⟨r16, q17, h⟩ := bd1_some h
    refine fw_callVi C (ci := 10) (Cn := RX12) (Tc := TX12) (N := 19) (As := [.int a1]) (c_X12_firstOpen (gac (hG _ (List.mem_of_getElem? (i := 0) rfl)) ga0) q17) (cwV 1 (cx_ts C) gX12_blocker_X12_firstOpen rfl rfl rfl (by decide +kernel) ⟨Nat.le_of_ble_eq_true rfl, Nat.le_of_ble_eq_true rfl⟩) rfl (hG _ (List.mem_of_getElem? (i := 0) rfl)) (of10_0 _) (ce10 T ad _ _) rfl (st := []) rfl (Nat.le_of_ble_eq_true rfl) ⟨Nat.le_refl 0, Nat.le_refl 0⟩ dX12_blocker_13 ?_
    rintro _ _ ⟨rfl, rfl⟩
    exact fw_iret C hrt Y ⟨Option.some.inj h, rfl⟩ (fun t ht => ht) dX12_blocker_16
end
set_option maxRecDepth 100000 in
set_option maxHeartbeats 4000000 in
theorem c_X12_blocker {l : Launch} {N0 : Nat} {T : Nat → ClassId} {D : va_G} {gr : List (Nat × Nat)} {ad : Nat → Nat → Nat → Nat} {Y : Mem} {a1 : Int32} {res : Int32} (hG : ∀ q ∈ [(10, 0)], q ∈ gr) (h : X12_blocker Y a1 = some res) : CI l yX12_blocker wsX12_blocker (Rm 7) N0 T D gr ad Y [.ref (ad 10 0 0), .int a1] (fun r Y1 => r = res ∧ Y1 = Y) :=
  fw_body (by decide +kernel) rfl (Nat.le_of_ble_eq_true rfl) (fun p e s m below meth c C hrt => w_X12_blocker C hrt hG  h)
noncomputable def X12_blockingStep_b14 (a1 : Int32) (Y : Mem) (s0 : Int32) : Option (Int32 × Mem) :=
  bd2 (X12_fails Y s0 0 0) <| fun r4 Y6 => if r4 = 0 then (bd1 (X12_blocker Y6 a1) <| fun r8 => some (r8, Y6)) else (some (0, Y6))
noncomputable def X12_blockingStep (Y : Mem) (a1 : Int32) : Option (Int32 × Mem) :=
  bd1 (X12_isStep Y a1) <| fun r1 => if r1 = 0 then (X12_blockingStep_b14 a1 Y 1) else (X12_blockingStep_b14 a1 Y 0)
section
variable {p : Program} {l : Launch} {e : Env} {s : State} {m : MethodId} {below : List Frame} {meth : Method} {c : Code} {N0 : Nat} {T : Nat → ClassId} {D : va_G} {gr : List (Nat × Nat)} {ad : Nat → Nat → Nat → Nat}
set_option maxRecDepth 100000 in
set_option maxHeartbeats 4000000 in
theorem w_X12_blockingStep_b14 {a1 : Int32} (C : Cx p s m [.ref (ad 10 0 0), .int a1].toArray meth c cX12_blockingStep 2 wsX12_blockingStep RX12 N0 T D gr ad) (hrt : meth.sig.returnType = (some .int)) (hG : ∀ q ∈ [(10, 0)], q ∈ gr) {res : Int32 × Mem} (Y : Mem) (s0 : Int32) (h : X12_blockingStep_b14 a1  Y s0 = some res) : FW p l e (Rm 8) s m [.ref (ad 10 0 0), .int a1].toArray below meth c 2 N0 T D gr ad 0 0 (MQ below (va_Qi (fun r Y1 => (r, Y1) = res) (WB T D gr ad) (fun q => N0 ≤ q)) [.ref (ad 10 0 0), .int a1].toArray s 0 0 (fun q => N0 ≤ q)) Y 14 [(0, .ref (ad 10 0 0)), (1, .int a1)] [.int s0, .ref (ad 10 0 0)] := by
  unfold X12_blockingStep_b14 at h
  refine fw_iconst C dX12_blockingStep_14 (v := 0) rfl ?_
  refine fw_iconst C dX12_blockingStep_15 (v := 0) rfl ?_
  obtain ⟨r4, Y6, q5, h⟩ := bd2_some h
  refine fw_callVi C (ci := 10) (Cn := RX12) (Tc := TX12) (N := 19) (As := [.int s0, .int 0, .int 0]) (c_X12_fails (gac (hG _ (List.mem_of_getElem? (i := 0) rfl)) ga0) q5) (cwV 3 (cx_ts C) gX12_blockingStep_X12_fails rfl rfl rfl (by decide +kernel) ⟨Nat.le_of_ble_eq_true rfl, Nat.le_of_ble_eq_true rfl⟩) rfl (hG _ (List.mem_of_getElem? (i := 0) rfl)) (of10_0 _) (ce10 T ad _ _) rfl (st := []) rfl (Nat.le_of_ble_eq_true rfl) ⟨Nat.le_refl 0, Nat.le_refl 0⟩ dX12_blockingStep_16 ?_
  intro r_ Y_ e_
  obtain ⟨rfl, rfl⟩ := Prod.mk.inj e_
  refine fw_if_eq C dX12_blockingStep_19 (tgt := 24) rfl (fun c7 => ?_) (fun c7 => ?_)
  · have h := ite_t c7 h
    refine fw_aload_n C dX12_blockingStep_24 rfl 0 rfl ?_
    refine fw_iload_n C dX12_blockingStep_25 rfl 1 rfl ?_
    obtain ⟨r8, q9, h⟩ := bd1_some h
    refine fw_callVi C (ci := 10) (Cn := RX12) (Tc := TX12) (N := 19) (As := [.int a1]) (c_X12_blocker (gac (hG _ (List.mem_of_getElem? (i := 0) rfl)) ga0) q9) (cwV 1 (cx_ts C) gX12_blockingStep_X12_blocker rfl rfl rfl (by decide +kernel) ⟨Nat.le_of_ble_eq_true rfl, Nat.le_of_ble_eq_true rfl⟩) rfl (hG _ (List.mem_of_getElem? (i := 0) rfl)) (of10_0 _) (ce10 T ad _ _) rfl (st := []) rfl (Nat.le_of_ble_eq_true rfl) ⟨Nat.le_refl 0, Nat.le_refl 0⟩ dX12_blockingStep_26 ?_
    rintro _ _ ⟨rfl, rfl⟩
    exact fw_iret C hrt Y6 (Option.some.inj h) (fun t ht => ht) dX12_blockingStep_29
  · have h := ite_f c7 h
    refine fw_iconst C dX12_blockingStep_22 (v := 0) rfl ?_
    exact fw_iret C hrt Y6 (Option.some.inj h) (fun t ht => ht) dX12_blockingStep_23
set_option maxRecDepth 100000 in
set_option maxHeartbeats 4000000 in
theorem w_X12_blockingStep {Y : Mem} {a1 : Int32} (C : Cx p s m [.ref (ad 10 0 0), .int a1].toArray meth c cX12_blockingStep 2 wsX12_blockingStep RX12 N0 T D gr ad) (hrt : meth.sig.returnType = (some .int)) (hG : ∀ q ∈ [(10, 0)], q ∈ gr) {res : Int32 × Mem} (h : X12_blockingStep Y a1 = some res) : FW p l e (Rm 8) s m [.ref (ad 10 0 0), .int a1].toArray below meth c 2 N0 T D gr ad 0 0 (MQ below (va_Qi (fun r Y1 => (r, Y1) = res) (WB T D gr ad) (fun q => N0 ≤ q)) [.ref (ad 10 0 0), .int a1].toArray s 0 0 (fun q => N0 ≤ q)) Y 0 [(0, .ref (ad 10 0 0)), (1, .int a1)] [] := by
  unfold X12_blockingStep at h
  refine fw_aload_n C dX12_blockingStep_0 rfl 0 rfl ?_
  refine fw_aload_n C dX12_blockingStep_1 rfl 0 rfl ?_
  refine fw_iload_n C dX12_blockingStep_2 rfl 1 rfl ?_
  obtain ⟨r1, q2, h⟩ := bd1_some h
  refine fw_callVi C (ci := 10) (Cn := RX12) (Tc := TX12) (N := 19) (As := [.int a1]) (c_X12_isStep (gac (hG _ (List.mem_of_getElem? (i := 0) rfl)) ga0) q2) (cwV 1 (cx_ts C) gX12_blockingStep_X12_isStep rfl rfl rfl (by decide +kernel) ⟨Nat.le_of_ble_eq_true rfl, Nat.le_of_ble_eq_true rfl⟩) rfl (hG _ (List.mem_of_getElem? (i := 0) rfl)) (of10_0 _) (ce10 T ad _ _) rfl (st := [.ref (ad 10 0 0)]) rfl (Nat.le_of_ble_eq_true rfl) ⟨Nat.le_refl 0, Nat.le_refl 0⟩ dX12_blockingStep_3 ?_
  rintro _ _ ⟨rfl, rfl⟩
  refine fw_if_ne C dX12_blockingStep_6 (tgt := 13) rfl (fun c3 => ?_) (fun c3 => ?_)
  · have h := ite_f c3 h
    refine fw_iconst C dX12_blockingStep_13 (v := 0) rfl ?_
    exact w_X12_blockingStep_b14 C hrt hG   _ _ h
  · have h := ite_t c3 h
    refine fw_iconst C dX12_blockingStep_9 (v := 1) rfl ?_
    refine fw_goto C dX12_blockingStep_10 (tgt := 14) rfl ?_
    exact w_X12_blockingStep_b14 C hrt hG   _ _ h
end
set_option maxRecDepth 100000 in
set_option maxHeartbeats 4000000 in
theorem c_X12_blockingStep {l : Launch} {N0 : Nat} {T : Nat → ClassId} {D : va_G} {gr : List (Nat × Nat)} {ad : Nat → Nat → Nat → Nat} {Y : Mem} {a1 : Int32} {res : Int32 × Mem} (hG : ∀ q ∈ [(10, 0)], q ∈ gr) (h : X12_blockingStep Y a1 = some res) : CI l yX12_blockingStep wsX12_blockingStep (Rm 8) N0 T D gr ad Y [.ref (ad 10 0 0), .int a1] (fun r Y1 => (r, Y1) = res) :=
  fw_body (by decide +kernel) rfl (Nat.le_of_ble_eq_true rfl) (fun p e s m below meth c C hrt => w_X12_blockingStep C hrt hG  h)
theorem ly_X12_withStatus_12 : ∀ w ∈ u_ws RX12 TX12 19, w ∈ wsX12_withStatus := by decide +kernel
theorem fl_X12_withStatus_13 : Cond.fieldLink RX12 13 "RecipeSchedulerModel" "m" "[I" ∈ wsX12_withStatus := by decide +kernel
noncomputable def X12_withStatus_b32 (Y : Mem) (a1 : Int32) (k4 : Int32 → Int32 → Option (Int32)) (l3 : Int32) (s0 : Int32) (s1 : Int32) : Option (Int32) :=
  lt_ (s1 + s0) <| fun v6 => k4 (l3 + 1) v6
noncomputable def X12_withStatus_b4 (Y : Mem) (a1 : Int32) : Nat → Int32 → Int32 → Option (Int32)
  | 0, _, _ => none
  | n+1, l3, l2 =>
  gd (inb 13 4202) <| if (Y 10 0 1 (ix 13)) ≤ l3 then (some l2) else (bd1 (X12_of Y l3 17) <| fun r3 => if r3 = a1 then (X12_withStatus_b32 Y a1 (X12_withStatus_b4 Y a1 n) l3 1 l2) else (X12_withStatus_b32 Y a1 (X12_withStatus_b4 Y a1 n) l3 0 l2))
noncomputable def X12_withStatus (Y : Mem) (a1 : Int32) : Option (Int32) :=
  X12_withStatus_b4 Y a1 FU 0 0
section
variable {p : Program} {l : Launch} {e : Env} {s : State} {m : MethodId} {below : List Frame} {meth : Method} {c : Code} {N0 : Nat} {T : Nat → ClassId} {D : va_G} {gr : List (Nat × Nat)} {ad : Nat → Nat → Nat → Nat}
set_option maxRecDepth 100000 in
set_option maxHeartbeats 4000000 in
theorem w_X12_withStatus_b32 {Y : Mem} {a1 : Int32} (C : Cx p s m [.ref (ad 10 0 0), .int a1].toArray meth c cX12_withStatus 4 wsX12_withStatus RX12 N0 T D gr ad) (hrt : meth.sig.returnType = (some .int)) (hG : ∀ q ∈ [(10, 0)], q ∈ gr) {res : Int32} {k4 : Int32 → Int32 → Option (Int32)} (hk4 : ∀ (l3 : Int32) (l2 : Int32), k4 l3 l2 = some res → FW p l e (Rm 1) s m [.ref (ad 10 0 0), .int a1].toArray below meth c 4 N0 T D gr ad 0 0 (MQ below (va_Qi (fun r Y1 => r = res ∧ Y1 = Y) (WB T D gr ad) (fun q => N0 ≤ q)) [.ref (ad 10 0 0), .int a1].toArray s 0 0 (fun q => N0 ≤ q)) Y 4 [(3, .int l3), (2, .int l2), (0, .ref (ad 10 0 0)), (1, .int a1)] []) (l3 : Int32) (s0 : Int32) (s1 : Int32) (h : X12_withStatus_b32 Y a1 k4 l3 s0 s1 = some res) : FW p l e (Rm 1) s m [.ref (ad 10 0 0), .int a1].toArray below meth c 4 N0 T D gr ad 0 0 (MQ below (va_Qi (fun r Y1 => r = res ∧ Y1 = Y) (WB T D gr ad) (fun q => N0 ≤ q)) [.ref (ad 10 0 0), .int a1].toArray s 0 0 (fun q => N0 ≤ q)) Y 32 [(3, .int l3), (0, .ref (ad 10 0 0)), (1, .int a1)] [.int s0, .int s1] := by
  unfold X12_withStatus_b32 at h
  refine fw_iadd C dX12_withStatus_32 ?_
  obtain ⟨v6, e7, h⟩ := lt_some h
  refine fw_top (v' := .int v6) (by rw [e7]) ?_
  refine fw_istore_n C dX12_withStatus_33 rfl (by decide) (L' := [(2, .int v6), (3, .int l3), (0, .ref (ad 10 0 0)), (1, .int a1)]) rfl ?_
  refine fw_iinc C dX12_withStatus_34 (kk := 1) (v := l3 + 1) rfl rfl (by decide) (L' := [(3, .int (l3 + 1)), (2, .int v6), (0, .ref (ad 10 0 0)), (1, .int a1)]) rfl ?_
  refine fw_goto C dX12_withStatus_37 (tgt := 4) rfl ?_
  exact hk4 _ _ h
set_option maxRecDepth 100000 in
set_option maxHeartbeats 4000000 in
theorem w_X12_withStatus_b4 {Y : Mem} {a1 : Int32} (C : Cx p s m [.ref (ad 10 0 0), .int a1].toArray meth c cX12_withStatus 4 wsX12_withStatus RX12 N0 T D gr ad) (hrt : meth.sig.returnType = (some .int)) (hG : ∀ q ∈ [(10, 0)], q ∈ gr) {res : Int32} : ∀ (n : Nat) (l3 : Int32) (l2 : Int32), X12_withStatus_b4 Y a1  n l3 l2 = some res → FW p l e (Rm 1) s m [.ref (ad 10 0 0), .int a1].toArray below meth c 4 N0 T D gr ad 0 0 (MQ below (va_Qi (fun r Y1 => r = res ∧ Y1 = Y) (WB T D gr ad) (fun q => N0 ≤ q)) [.ref (ad 10 0 0), .int a1].toArray s 0 0 (fun q => N0 ≤ q)) Y 4 [(3, .int l3), (2, .int l2), (0, .ref (ad 10 0 0)), (1, .int a1)] [] := by
  intro n
  induction n with
  | zero =>
    intro l3 l2 h
    unfold X12_withStatus_b4 at h
    cases h
  | succ n ih =>
    intro l3 l2 h
    unfold X12_withStatus_b4 at h
    refine fw_iload_n C dX12_withStatus_4 rfl 0 rfl ?_
    refine fw_aload_n C dX12_withStatus_5 rfl 2 rfl ?_
    refine fw_get C (ci := 10) (Cn := RX12) (Tc := TX12) (N := 19) (j := 0) ly_X12_withStatus_12 rfl (hG _ (List.mem_of_getElem? (i := 0) rfl)) (of10_0 _) (ce10 T ad _ _) (by decide) (cx_ts C _ fl_X12_withStatus_13) (fun _ h => h) (v := .ref (ad 10 0 1)) rfl dX12_withStatus_6 ?_
    refine fw_bipush C dX12_withStatus_9 (v := 13) rfl ?_
    obtain ⟨b1, h⟩ := gd_some h
    refine fw_iald2 C (hG _ (List.mem_of_getElem? (i := 0) rfl)) (of10_1 _) (ca10_1 T ad _ _) b1 (Nat.le_of_ble_eq_true rfl) dX12_withStatus_11 ?_
    refine fw_icmp_ge C dX12_withStatus_12 (tgt := 40) rfl (fun c2 => ?_) (fun c2 => ?_)
    · have h := ite_t c2 h
      refine fw_iload_n C dX12_withStatus_40 rfl 1 rfl ?_
      exact fw_iret C hrt Y ⟨Option.some.inj h, rfl⟩ (fun t ht => ht) dX12_withStatus_41
    · have h := ite_f c2 h
      refine fw_iload_n C dX12_withStatus_15 rfl 1 rfl ?_
      refine fw_aload_n C dX12_withStatus_16 rfl 2 rfl ?_
      refine fw_iload_n C dX12_withStatus_17 rfl 0 rfl ?_
      refine fw_bipush C dX12_withStatus_18 (v := 17) rfl ?_
      obtain ⟨r3, q4, h⟩ := bd1_some h
      refine fw_callVi C (ci := 10) (Cn := RX12) (Tc := TX12) (N := 19) (As := [.int l3, .int 17]) (c_X12_of (gac (hG _ (List.mem_of_getElem? (i := 0) rfl)) ga0) q4) (cwV 2 (cx_ts C) gX12_withStatus_X12_of rfl rfl rfl (by decide +kernel) ⟨Nat.le_of_ble_eq_true rfl, Nat.le_of_ble_eq_true rfl⟩) rfl (hG _ (List.mem_of_getElem? (i := 0) rfl)) (of10_0 _) (ce10 T ad _ _) rfl (st := [.int l2]) rfl (Nat.le_of_ble_eq_true rfl) ⟨Nat.le_refl 0, Nat.le_refl 0⟩ dX12_withStatus_20 ?_
      rintro _ _ ⟨rfl, rfl⟩
      refine fw_iload_n C dX12_withStatus_23 rfl 3 rfl ?_
      refine fw_icmp_ne C dX12_withStatus_24 (tgt := 31) rfl (fun c5 => ?_) (fun c5 => ?_)
      · have h := ite_f c5 h
        refine fw_iconst C dX12_withStatus_31 (v := 0) rfl ?_
        refine fw_sub [0, 2, 3] (L' := [(3, .int l3), (0, .ref (ad 10 0 0)), (1, .int a1)]) rfl ?_
        exact w_X12_withStatus_b32 C hrt hG  ih _ _ _ h
      · have h := ite_t c5 h
        refine fw_iconst C dX12_withStatus_27 (v := 1) rfl ?_
        refine fw_goto C dX12_withStatus_28 (tgt := 32) rfl ?_
        refine fw_sub [0, 2, 3] (L' := [(3, .int l3), (0, .ref (ad 10 0 0)), (1, .int a1)]) rfl ?_
        exact w_X12_withStatus_b32 C hrt hG  ih _ _ _ h
set_option maxRecDepth 100000 in
set_option maxHeartbeats 4000000 in
theorem w_X12_withStatus {Y : Mem} {a1 : Int32} (C : Cx p s m [.ref (ad 10 0 0), .int a1].toArray meth c cX12_withStatus 4 wsX12_withStatus RX12 N0 T D gr ad) (hrt : meth.sig.returnType = (some .int)) (hG : ∀ q ∈ [(10, 0)], q ∈ gr) {res : Int32} (h : X12_withStatus Y a1 = some res) : FW p l e (Rm 1) s m [.ref (ad 10 0 0), .int a1].toArray below meth c 4 N0 T D gr ad 0 0 (MQ below (va_Qi (fun r Y1 => r = res ∧ Y1 = Y) (WB T D gr ad) (fun q => N0 ≤ q)) [.ref (ad 10 0 0), .int a1].toArray s 0 0 (fun q => N0 ≤ q)) Y 0 [(0, .ref (ad 10 0 0)), (1, .int a1)] [] := by
  unfold X12_withStatus at h
  refine fw_iconst C dX12_withStatus_0 (v := 0) rfl ?_
  refine fw_istore_n C dX12_withStatus_1 rfl (by decide) (L' := [(2, .int 0), (0, .ref (ad 10 0 0)), (1, .int a1)]) rfl ?_
  refine fw_iconst C dX12_withStatus_2 (v := 0) rfl ?_
  refine fw_istore_n C dX12_withStatus_3 rfl (by decide) (L' := [(3, .int 0), (2, .int 0), (0, .ref (ad 10 0 0)), (1, .int a1)]) rfl ?_
  exact w_X12_withStatus_b4 C hrt hG   _ _ _ h
end
set_option maxRecDepth 100000 in
set_option maxHeartbeats 4000000 in
theorem c_X12_withStatus {l : Launch} {N0 : Nat} {T : Nat → ClassId} {D : va_G} {gr : List (Nat × Nat)} {ad : Nat → Nat → Nat → Nat} {Y : Mem} {a1 : Int32} {res : Int32} (hG : ∀ q ∈ [(10, 0)], q ∈ gr) (h : X12_withStatus Y a1 = some res) : CI l yX12_withStatus wsX12_withStatus (Rm 1) N0 T D gr ad Y [.ref (ad 10 0 0), .int a1] (fun r Y1 => r = res ∧ Y1 = Y) :=
  fw_body (by decide +kernel) rfl (Nat.le_of_ble_eq_true rfl) (fun p e s m below meth c C hrt => w_X12_withStatus C hrt hG  h)
theorem ly_X12_isFinished_12 : ∀ w ∈ u_ws RX12 TX12 19, w ∈ wsX12_isFinished := by decide +kernel
theorem fl_X12_isFinished_13 : Cond.fieldLink RX12 13 "RecipeSchedulerModel" "m" "[I" ∈ wsX12_isFinished := by decide +kernel
noncomputable def X12_isFinished (Y : Mem) : Option (Int32) :=
  bd1 (X12_withStatus Y 2) <| fun r1 => gd (inb 13 4202) <| if r1 = (Y 10 0 1 (ix 13)) then (some 1) else (some 0)
section
variable {p : Program} {l : Launch} {e : Env} {s : State} {m : MethodId} {below : List Frame} {meth : Method} {c : Code} {N0 : Nat} {T : Nat → ClassId} {D : va_G} {gr : List (Nat × Nat)} {ad : Nat → Nat → Nat → Nat}
set_option maxRecDepth 100000 in
set_option maxHeartbeats 4000000 in
theorem w_X12_isFinished {Y : Mem} (C : Cx p s m [.ref (ad 10 0 0)].toArray meth c cX12_isFinished 1 wsX12_isFinished RX12 N0 T D gr ad) (hrt : meth.sig.returnType = (some .boolean)) (hG : ∀ q ∈ [(10, 0)], q ∈ gr) {res : Int32} (h : X12_isFinished Y = some res) : FW p l e (Rm 2) s m [.ref (ad 10 0 0)].toArray below meth c 1 N0 T D gr ad 0 0 (MQ below (va_Qi (fun r Y1 => r = res ∧ Y1 = Y) (WB T D gr ad) (fun q => N0 ≤ q)) [.ref (ad 10 0 0)].toArray s 0 0 (fun q => N0 ≤ q)) Y 0 [(0, .ref (ad 10 0 0))] [] := by
  unfold X12_isFinished at h
  refine fw_aload_n C dX12_isFinished_0 rfl 0 rfl ?_
  refine fw_iconst C dX12_isFinished_1 (v := 2) rfl ?_
  obtain ⟨r1, q2, h⟩ := bd1_some h
  refine fw_callVi C (ci := 10) (Cn := RX12) (Tc := TX12) (N := 19) (As := [.int 2]) (c_X12_withStatus (gac (hG _ (List.mem_of_getElem? (i := 0) rfl)) ga0) q2) (cwV 1 (cx_ts C) gX12_isFinished_X12_withStatus rfl rfl rfl (by decide +kernel) ⟨Nat.le_of_ble_eq_true rfl, Nat.le_of_ble_eq_true rfl⟩) rfl (hG _ (List.mem_of_getElem? (i := 0) rfl)) (of10_0 _) (ce10 T ad _ _) rfl (st := []) rfl (Nat.le_of_ble_eq_true rfl) ⟨Nat.le_refl 0, Nat.le_refl 0⟩ dX12_isFinished_2 ?_
  rintro _ _ ⟨rfl, rfl⟩
  refine fw_aload_n C dX12_isFinished_5 rfl 0 rfl ?_
  refine fw_get C (ci := 10) (Cn := RX12) (Tc := TX12) (N := 19) (j := 0) ly_X12_isFinished_12 rfl (hG _ (List.mem_of_getElem? (i := 0) rfl)) (of10_0 _) (ce10 T ad _ _) (by decide) (cx_ts C _ fl_X12_isFinished_13) (fun _ h => h) (v := .ref (ad 10 0 1)) rfl dX12_isFinished_6 ?_
  refine fw_bipush C dX12_isFinished_9 (v := 13) rfl ?_
  obtain ⟨b3, h⟩ := gd_some h
  refine fw_iald2 C (hG _ (List.mem_of_getElem? (i := 0) rfl)) (of10_1 _) (ca10_1 T ad _ _) b3 (Nat.le_of_ble_eq_true rfl) dX12_isFinished_11 ?_
  refine fw_icmp_ne C dX12_isFinished_12 (tgt := 19) rfl (fun c4 => ?_) (fun c4 => ?_)
  · have h := ite_f c4 h
    refine fw_iconst C dX12_isFinished_19 (v := 0) rfl ?_
    exact fw_zret C hrt (by decide) Y ⟨Option.some.inj h, rfl⟩ (fun t ht => ht) dX12_isFinished_20
  · have h := ite_t c4 h
    refine fw_iconst C dX12_isFinished_15 (v := 1) rfl ?_
    refine fw_goto C dX12_isFinished_16 (tgt := 20) rfl ?_
    exact fw_zret C hrt (by decide) Y ⟨Option.some.inj h, rfl⟩ (fun t ht => ht) dX12_isFinished_20
end
set_option maxRecDepth 100000 in
set_option maxHeartbeats 4000000 in
theorem c_X12_isFinished {l : Launch} {N0 : Nat} {T : Nat → ClassId} {D : va_G} {gr : List (Nat × Nat)} {ad : Nat → Nat → Nat → Nat} {Y : Mem} {res : Int32} (hG : ∀ q ∈ [(10, 0)], q ∈ gr) (h : X12_isFinished Y = some res) : CI l yX12_isFinished wsX12_isFinished (Rm 2) N0 T D gr ad Y [.ref (ad 10 0 0)] (fun r Y1 => r = res ∧ Y1 = Y) :=
  fw_body (by decide +kernel) rfl (Nat.le_of_ble_eq_true rfl) (fun p e s m below meth c C hrt => w_X12_isFinished C hrt hG  h)
theorem ly_X12_set_12 : ∀ w ∈ u_ws RX12 TX12 19, w ∈ wsX12_set := by decide +kernel
theorem fl_X12_set_13 : Cond.fieldLink RX12 13 "RecipeSchedulerModel" "m" "[I" ∈ wsX12_set := by decide +kernel
noncomputable def X12_set (Y : Mem) (a1 : Int32) (a2 : Int32) (a3 : Int32) : Option (Mem) :=
  gd (inb ((46 + (a1 * 24)) + a2) 4202) <| lt_ (up Y 10 0 1 (ix ((46 + (a1 * 24)) + a2)) a3) <| fun Y2 => some Y2
section
variable {p : Program} {l : Launch} {e : Env} {s : State} {m : MethodId} {below : List Frame} {meth : Method} {c : Code} {N0 : Nat} {T : Nat → ClassId} {D : va_G} {gr : List (Nat × Nat)} {ad : Nat → Nat → Nat → Nat}
set_option maxRecDepth 100000 in
set_option maxHeartbeats 4000000 in
theorem w_X12_set {Y : Mem} {a1 : Int32} {a2 : Int32} {a3 : Int32} (C : Cx p s m [.ref (ad 10 0 0), .int a1, .int a2, .int a3].toArray meth c cX12_set 4 wsX12_set RX12 N0 T D gr ad) (hrt : meth.sig.returnType = none) (hG : ∀ q ∈ [(10, 0)], q ∈ gr) {res : Mem} (h : X12_set Y a1 a2 a3 = some res) : FW p l e (Rm 0) s m [.ref (ad 10 0 0), .int a1, .int a2, .int a3].toArray below meth c 4 N0 T D gr ad 0 0 (MQ below (va_Qv (fun Y1 => Y1 = res) (WB T D gr ad) (fun q => N0 ≤ q)) [.ref (ad 10 0 0), .int a1, .int a2, .int a3].toArray s 0 0 (fun q => N0 ≤ q)) Y 0 [(0, .ref (ad 10 0 0)), (1, .int a1), (2, .int a2), (3, .int a3)] [] := by
  unfold X12_set at h
  refine fw_aload_n C dX12_set_0 rfl 0 rfl ?_
  refine fw_get C (ci := 10) (Cn := RX12) (Tc := TX12) (N := 19) (j := 0) ly_X12_set_12 rfl (hG _ (List.mem_of_getElem? (i := 0) rfl)) (of10_0 _) (ce10 T ad _ _) (by decide) (cx_ts C _ fl_X12_set_13) (fun _ h => h) (v := .ref (ad 10 0 1)) rfl dX12_set_1 ?_
  refine fw_bipush C dX12_set_4 (v := 46) rfl ?_
  refine fw_iload_n C dX12_set_6 rfl 1 rfl ?_
  refine fw_bipush C dX12_set_7 (v := 24) rfl ?_
  refine fw_imul C dX12_set_9 ?_
  refine fw_iadd C dX12_set_10 ?_
  refine fw_iload_n C dX12_set_11 rfl 2 rfl ?_
  refine fw_iadd C dX12_set_12 ?_
  refine fw_iload_n C dX12_set_13 rfl 3 rfl ?_
  obtain ⟨b1, h⟩ := gd_some h
  obtain ⟨Y2, e3, h⟩ := lt_some h
  refine fw_iast2 C (hG _ (List.mem_of_getElem? (i := 0) rfl)) (of10_1 _) (ca10_1 T ad _) b1 (Nat.le_of_ble_eq_true rfl) dX12_set_14 ?_
  refine fw_mem e3 ?_
  exact fw_vret C hrt Y2 (Option.some.inj h) (fun t ht => ht) dX12_set_15
end
set_option maxRecDepth 100000 in
set_option maxHeartbeats 4000000 in
theorem c_X12_set {l : Launch} {N0 : Nat} {T : Nat → ClassId} {D : va_G} {gr : List (Nat × Nat)} {ad : Nat → Nat → Nat → Nat} {Y : Mem} {a1 : Int32} {a2 : Int32} {a3 : Int32} {res : Mem} (hG : ∀ q ∈ [(10, 0)], q ∈ gr) (h : X12_set Y a1 a2 a3 = some res) : CV l yX12_set wsX12_set (Rm 0) N0 T D gr ad Y [.ref (ad 10 0 0), .int a1, .int a2, .int a3] (fun Y1 => Y1 = res) :=
  fw_body (by decide +kernel) rfl (Nat.le_of_ble_eq_true rfl) (fun p e s m below meth c C hrt => w_X12_set C hrt hG  h)
theorem ly_X12_work_12 : ∀ w ∈ u_ws RX12 TX12 19, w ∈ wsX12_work := by decide +kernel
theorem fl_X12_work_13 : Cond.fieldLink RX12 13 "RecipeSchedulerModel" "m" "[I" ∈ wsX12_work := by decide +kernel
noncomputable def X12_work (Y : Mem) (a1 : Int32) : Option (Mem) :=
  bd1 (X12_set Y a1 23 0) <| fun Y3 => bd1 (X12_of Y3 a1 17) <| fun r4 => if r4 = 1 then (gd (inb 10 4202) <| bd1 (X12_of Y3 a1 11) <| fun r8 => lt_ (up Y3 10 0 1 (ix 10) ((Y3 10 0 1 (ix 10)) + (1 - r8))) <| fun Y10 => bd1 (X12_of Y10 a1 18) <| fun r12 => bd1 (X12_set Y10 a1 18 (r12 - 1)) <| fun Y16 => bd1 (X12_of Y16 a1 18) <| fun r17 => if r17 ≤ 0 then (bd1 (X12_set Y16 a1 17 2) <| fun Y22 => bd1 (X12_set Y22 a1 19 0) <| fun Y25 => bd1 (X12_set Y25 a1 21 1) <| fun Y28 => bd1 (X12_set Y28 a1 23 1) <| fun Y31 => gd (inb 8 4202) <| lt_ (up Y31 10 0 1 (ix 8) ((Y31 10 0 1 (ix 8)) + 1)) <| fun Y33 => some Y33) else (some Y16)) else (some Y3)
section
variable {p : Program} {l : Launch} {e : Env} {s : State} {m : MethodId} {below : List Frame} {meth : Method} {c : Code} {N0 : Nat} {T : Nat → ClassId} {D : va_G} {gr : List (Nat × Nat)} {ad : Nat → Nat → Nat → Nat}
set_option maxRecDepth 100000 in
set_option maxHeartbeats 4000000 in
theorem w_X12_work {Y : Mem} {a1 : Int32} (C : Cx p s m [.ref (ad 10 0 0), .int a1].toArray meth c cX12_work 2 wsX12_work RX12 N0 T D gr ad) (hrt : meth.sig.returnType = none) (hG : ∀ q ∈ [(10, 0)], q ∈ gr) {res : Mem} (h : X12_work Y a1 = some res) : FW p l e (Rm 1) s m [.ref (ad 10 0 0), .int a1].toArray below meth c 2 N0 T D gr ad 0 0 (MQ below (va_Qv (fun Y1 => Y1 = res) (WB T D gr ad) (fun q => N0 ≤ q)) [.ref (ad 10 0 0), .int a1].toArray s 0 0 (fun q => N0 ≤ q)) Y 0 [(0, .ref (ad 10 0 0)), (1, .int a1)] [] := by
  unfold X12_work at h
  refine fw_aload_n C dX12_work_0 rfl 0 rfl ?_
  refine fw_iload_n C dX12_work_1 rfl 1 rfl ?_
  refine fw_bipush C dX12_work_2 (v := 23) rfl ?_
  refine fw_iconst C dX12_work_4 (v := 0) rfl ?_
  obtain ⟨Y3, q2, h⟩ := bd1_some h
  refine fw_callVv C (ci := 10) (Cn := RX12) (Tc := TX12) (N := 19) (As := [.int a1, .int 23, .int 0]) (c_X12_set (gac (hG _ (List.mem_of_getElem? (i := 0) rfl)) ga0) q2) (cwV 3 (cx_ts C) gX12_work_X12_set rfl rfl rfl (by decide +kernel) ⟨Nat.le_of_ble_eq_true rfl, Nat.le_of_ble_eq_true rfl⟩) rfl (hG _ (List.mem_of_getElem? (i := 0) rfl)) (of10_0 _) (ce10 T ad _ _) rfl (st := []) rfl (Nat.le_of_ble_eq_true rfl) ⟨Nat.le_refl 0, Nat.le_refl 0⟩ dX12_work_5 ?_
  rintro _ rfl
  refine fw_aload_n C dX12_work_8 rfl 0 rfl ?_
  refine fw_iload_n C dX12_work_9 rfl 1 rfl ?_
  refine fw_bipush C dX12_work_10 (v := 17) rfl ?_
  obtain ⟨r4, q5, h⟩ := bd1_some h
  refine fw_callVi C (ci := 10) (Cn := RX12) (Tc := TX12) (N := 19) (As := [.int a1, .int 17]) (c_X12_of (gac (hG _ (List.mem_of_getElem? (i := 0) rfl)) ga0) q5) (cwV 2 (cx_ts C) gX12_work_X12_of rfl rfl rfl (by decide +kernel) ⟨Nat.le_of_ble_eq_true rfl, Nat.le_of_ble_eq_true rfl⟩) rfl (hG _ (List.mem_of_getElem? (i := 0) rfl)) (of10_0 _) (ce10 T ad _ _) rfl (st := []) rfl (Nat.le_of_ble_eq_true rfl) ⟨Nat.le_refl 0, Nat.le_refl 0⟩ dX12_work_12 ?_
  rintro _ _ ⟨rfl, rfl⟩
  refine fw_iconst C dX12_work_15 (v := 1) rfl ?_
  refine fw_icmp_eq C dX12_work_16 (tgt := 20) rfl (fun c6 => ?_) (fun c6 => ?_)
  · have h := ite_t c6 h
    refine fw_aload_n C dX12_work_20 rfl 0 rfl ?_
    refine fw_get C (ci := 10) (Cn := RX12) (Tc := TX12) (N := 19) (j := 0) ly_X12_work_12 rfl (hG _ (List.mem_of_getElem? (i := 0) rfl)) (of10_0 _) (ce10 T ad _ _) (by decide) (cx_ts C _ fl_X12_work_13) (fun _ h => h) (v := .ref (ad 10 0 1)) rfl dX12_work_21 ?_
    refine fw_bipush C dX12_work_24 (v := 10) rfl ?_
    refine fw_dup2 C dX12_work_26 rfl rfl ?_
    obtain ⟨b7, h⟩ := gd_some h
    refine fw_iald2 C (hG _ (List.mem_of_getElem? (i := 0) rfl)) (of10_1 _) (ca10_1 T ad _ _) b7 (Nat.le_of_ble_eq_true rfl) dX12_work_27 ?_
    refine fw_iconst C dX12_work_28 (v := 1) rfl ?_
    refine fw_aload_n C dX12_work_29 rfl 0 rfl ?_
    refine fw_iload_n C dX12_work_30 rfl 1 rfl ?_
    refine fw_bipush C dX12_work_31 (v := 11) rfl ?_
    obtain ⟨r8, q9, h⟩ := bd1_some h
    refine fw_callVi C (ci := 10) (Cn := RX12) (Tc := TX12) (N := 19) (As := [.int a1, .int 11]) (c_X12_of (gac (hG _ (List.mem_of_getElem? (i := 0) rfl)) ga0) q9) (cwV 2 (cx_ts C) gX12_work_X12_of rfl rfl rfl (by decide +kernel) ⟨Nat.le_of_ble_eq_true rfl, Nat.le_of_ble_eq_true rfl⟩) rfl (hG _ (List.mem_of_getElem? (i := 0) rfl)) (of10_0 _) (ce10 T ad _ _) rfl (st := [.int 1, .int (Y3 10 0 1 (ix 10)), .int 10, .ref (ad 10 0 1)]) rfl (Nat.le_of_ble_eq_true rfl) ⟨Nat.le_refl 0, Nat.le_refl 0⟩ dX12_work_33 ?_
    rintro _ _ ⟨rfl, rfl⟩
    refine fw_isub C dX12_work_36 ?_
    refine fw_iadd C dX12_work_37 ?_
    obtain ⟨Y10, e11, h⟩ := lt_some h
    refine fw_iast2 C (hG _ (List.mem_of_getElem? (i := 0) rfl)) (of10_1 _) (ca10_1 T ad _) b7 (Nat.le_of_ble_eq_true rfl) dX12_work_38 ?_
    refine fw_mem e11 ?_
    refine fw_aload_n C dX12_work_39 rfl 0 rfl ?_
    refine fw_iload_n C dX12_work_40 rfl 1 rfl ?_
    refine fw_bipush C dX12_work_41 (v := 18) rfl ?_
    refine fw_aload_n C dX12_work_43 rfl 0 rfl ?_
    refine fw_iload_n C dX12_work_44 rfl 1 rfl ?_
    refine fw_bipush C dX12_work_45 (v := 18) rfl ?_
    obtain ⟨r12, q13, h⟩ := bd1_some h
    refine fw_callVi C (ci := 10) (Cn := RX12) (Tc := TX12) (N := 19) (As := [.int a1, .int 18]) (c_X12_of (gac (hG _ (List.mem_of_getElem? (i := 0) rfl)) ga0) q13) (cwV 2 (cx_ts C) gX12_work_X12_of rfl rfl rfl (by decide +kernel) ⟨Nat.le_of_ble_eq_true rfl, Nat.le_of_ble_eq_true rfl⟩) rfl (hG _ (List.mem_of_getElem? (i := 0) rfl)) (of10_0 _) (ce10 T ad _ _) rfl (st := [.int 18, .int a1, .ref (ad 10 0 0)]) rfl (Nat.le_of_ble_eq_true rfl) ⟨Nat.le_refl 0, Nat.le_refl 0⟩ dX12_work_47 ?_
    rintro _ _ ⟨rfl, rfl⟩
    refine fw_iconst C dX12_work_50 (v := 1) rfl ?_
    refine fw_isub C dX12_work_51 ?_
    obtain ⟨Y16, q15, h⟩ := bd1_some h
    refine fw_callVv C (ci := 10) (Cn := RX12) (Tc := TX12) (N := 19) (As := [.int a1, .int 18, .int (r12 - 1)]) (c_X12_set (gac (hG _ (List.mem_of_getElem? (i := 0) rfl)) ga0) q15) (cwV 3 (cx_ts C) gX12_work_X12_set rfl rfl rfl (by decide +kernel) ⟨Nat.le_of_ble_eq_true rfl, Nat.le_of_ble_eq_true rfl⟩) rfl (hG _ (List.mem_of_getElem? (i := 0) rfl)) (of10_0 _) (ce10 T ad _ _) rfl (st := []) rfl (Nat.le_of_ble_eq_true rfl) ⟨Nat.le_refl 0, Nat.le_refl 0⟩ dX12_work_52 ?_
    rintro _ rfl
    refine fw_aload_n C dX12_work_55 rfl 0 rfl ?_
    refine fw_iload_n C dX12_work_56 rfl 1 rfl ?_
    refine fw_bipush C dX12_work_57 (v := 18) rfl ?_
    obtain ⟨r17, q18, h⟩ := bd1_some h
    refine fw_callVi C (ci := 10) (Cn := RX12) (Tc := TX12) (N := 19) (As := [.int a1, .int 18]) (c_X12_of (gac (hG _ (List.mem_of_getElem? (i := 0) rfl)) ga0) q18) (cwV 2 (cx_ts C) gX12_work_X12_of rfl rfl rfl (by decide +kernel) ⟨Nat.le_of_ble_eq_true rfl, Nat.le_of_ble_eq_true rfl⟩) rfl (hG _ (List.mem_of_getElem? (i := 0) rfl)) (of10_0 _) (ce10 T ad _ _) rfl (st := []) rfl (Nat.le_of_ble_eq_true rfl) ⟨Nat.le_refl 0, Nat.le_refl 0⟩ dX12_work_59 ?_
    rintro _ _ ⟨rfl, rfl⟩
    refine fw_if_le C dX12_work_62 (tgt := 66) rfl (fun c19 => ?_) (fun c19 => ?_)
    · have h := ite_t c19 h
      refine fw_aload_n C dX12_work_66 rfl 0 rfl ?_
      refine fw_iload_n C dX12_work_67 rfl 1 rfl ?_
      refine fw_bipush C dX12_work_68 (v := 17) rfl ?_
      refine fw_iconst C dX12_work_70 (v := 2) rfl ?_
      obtain ⟨Y22, q21, h⟩ := bd1_some h
      refine fw_callVv C (ci := 10) (Cn := RX12) (Tc := TX12) (N := 19) (As := [.int a1, .int 17, .int 2]) (c_X12_set (gac (hG _ (List.mem_of_getElem? (i := 0) rfl)) ga0) q21) (cwV 3 (cx_ts C) gX12_work_X12_set rfl rfl rfl (by decide +kernel) ⟨Nat.le_of_ble_eq_true rfl, Nat.le_of_ble_eq_true rfl⟩) rfl (hG _ (List.mem_of_getElem? (i := 0) rfl)) (of10_0 _) (ce10 T ad _ _) rfl (st := []) rfl (Nat.le_of_ble_eq_true rfl) ⟨Nat.le_refl 0, Nat.le_refl 0⟩ dX12_work_71 ?_
      rintro _ rfl
      refine fw_aload_n C dX12_work_74 rfl 0 rfl ?_
      refine fw_iload_n C dX12_work_75 rfl 1 rfl ?_
      refine fw_bipush C dX12_work_76 (v := 19) rfl ?_
      refine fw_iconst C dX12_work_78 (v := 0) rfl ?_
      obtain ⟨Y25, q24, h⟩ := bd1_some h
      refine fw_callVv C (ci := 10) (Cn := RX12) (Tc := TX12) (N := 19) (As := [.int a1, .int 19, .int 0]) (c_X12_set (gac (hG _ (List.mem_of_getElem? (i := 0) rfl)) ga0) q24) (cwV 3 (cx_ts C) gX12_work_X12_set rfl rfl rfl (by decide +kernel) ⟨Nat.le_of_ble_eq_true rfl, Nat.le_of_ble_eq_true rfl⟩) rfl (hG _ (List.mem_of_getElem? (i := 0) rfl)) (of10_0 _) (ce10 T ad _ _) rfl (st := []) rfl (Nat.le_of_ble_eq_true rfl) ⟨Nat.le_refl 0, Nat.le_refl 0⟩ dX12_work_79 ?_
      rintro _ rfl
      refine fw_aload_n C dX12_work_82 rfl 0 rfl ?_
      refine fw_iload_n C dX12_work_83 rfl 1 rfl ?_
      refine fw_bipush C dX12_work_84 (v := 21) rfl ?_
      refine fw_iconst C dX12_work_86 (v := 1) rfl ?_
      obtain ⟨Y28, q27, h⟩ := bd1_some h
      refine fw_callVv C (ci := 10) (Cn := RX12) (Tc := TX12) (N := 19) (As := [.int a1, .int 21, .int 1]) (c_X12_set (gac (hG _ (List.mem_of_getElem? (i := 0) rfl)) ga0) q27) (cwV 3 (cx_ts C) gX12_work_X12_set rfl rfl rfl (by decide +kernel) ⟨Nat.le_of_ble_eq_true rfl, Nat.le_of_ble_eq_true rfl⟩) rfl (hG _ (List.mem_of_getElem? (i := 0) rfl)) (of10_0 _) (ce10 T ad _ _) rfl (st := []) rfl (Nat.le_of_ble_eq_true rfl) ⟨Nat.le_refl 0, Nat.le_refl 0⟩ dX12_work_87 ?_
      rintro _ rfl
      refine fw_aload_n C dX12_work_90 rfl 0 rfl ?_
      refine fw_iload_n C dX12_work_91 rfl 1 rfl ?_
      refine fw_bipush C dX12_work_92 (v := 23) rfl ?_
      refine fw_iconst C dX12_work_94 (v := 1) rfl ?_
      obtain ⟨Y31, q30, h⟩ := bd1_some h
      refine fw_callVv C (ci := 10) (Cn := RX12) (Tc := TX12) (N := 19) (As := [.int a1, .int 23, .int 1]) (c_X12_set (gac (hG _ (List.mem_of_getElem? (i := 0) rfl)) ga0) q30) (cwV 3 (cx_ts C) gX12_work_X12_set rfl rfl rfl (by decide +kernel) ⟨Nat.le_of_ble_eq_true rfl, Nat.le_of_ble_eq_true rfl⟩) rfl (hG _ (List.mem_of_getElem? (i := 0) rfl)) (of10_0 _) (ce10 T ad _ _) rfl (st := []) rfl (Nat.le_of_ble_eq_true rfl) ⟨Nat.le_refl 0, Nat.le_refl 0⟩ dX12_work_95 ?_
      rintro _ rfl
      refine fw_aload_n C dX12_work_98 rfl 0 rfl ?_
      refine fw_get C (ci := 10) (Cn := RX12) (Tc := TX12) (N := 19) (j := 0) ly_X12_work_12 rfl (hG _ (List.mem_of_getElem? (i := 0) rfl)) (of10_0 _) (ce10 T ad _ _) (by decide) (cx_ts C _ fl_X12_work_13) (fun _ h => h) (v := .ref (ad 10 0 1)) rfl dX12_work_99 ?_
      refine fw_bipush C dX12_work_102 (v := 8) rfl ?_
      refine fw_dup2 C dX12_work_104 rfl rfl ?_
      obtain ⟨b32, h⟩ := gd_some h
      refine fw_iald2 C (hG _ (List.mem_of_getElem? (i := 0) rfl)) (of10_1 _) (ca10_1 T ad _ _) b32 (Nat.le_of_ble_eq_true rfl) dX12_work_105 ?_
      refine fw_iconst C dX12_work_106 (v := 1) rfl ?_
      refine fw_iadd C dX12_work_107 ?_
      obtain ⟨Y33, e34, h⟩ := lt_some h
      refine fw_iast2 C (hG _ (List.mem_of_getElem? (i := 0) rfl)) (of10_1 _) (ca10_1 T ad _) b32 (Nat.le_of_ble_eq_true rfl) dX12_work_108 ?_
      refine fw_mem e34 ?_
      exact fw_vret C hrt Y33 (Option.some.inj h) (fun t ht => ht) dX12_work_109
    · have h := ite_f c19 h
      exact fw_vret C hrt Y16 (Option.some.inj h) (fun t ht => ht) dX12_work_65
  · have h := ite_f c6 h
    exact fw_vret C hrt Y3 (Option.some.inj h) (fun t ht => ht) dX12_work_19
end
set_option maxRecDepth 100000 in
set_option maxHeartbeats 4000000 in
theorem c_X12_work {l : Launch} {N0 : Nat} {T : Nat → ClassId} {D : va_G} {gr : List (Nat × Nat)} {ad : Nat → Nat → Nat → Nat} {Y : Mem} {a1 : Int32} {res : Mem} (hG : ∀ q ∈ [(10, 0)], q ∈ gr) (h : X12_work Y a1 = some res) : CV l yX12_work wsX12_work (Rm 1) N0 T D gr ad Y [.ref (ad 10 0 0), .int a1] (fun Y1 => Y1 = res) :=
  fw_body (by decide +kernel) rfl (Nat.le_of_ble_eq_true rfl) (fun p e s m below meth c C hrt => w_X12_work C hrt hG  h)
noncomputable def X12_isTaken (Y : Mem) (a1 : Int32) : Option (Int32) :=
  bd1 (X12_of Y a1 17) <| fun r1 => if r1 = 2 then (bd1 (X12_hasSuccessor Y a1 1 2) <| fun r4 => if r4 = 0 then (some 0) else (some 1)) else (some 0)
section
variable {p : Program} {l : Launch} {e : Env} {s : State} {m : MethodId} {below : List Frame} {meth : Method} {c : Code} {N0 : Nat} {T : Nat → ClassId} {D : va_G} {gr : List (Nat × Nat)} {ad : Nat → Nat → Nat → Nat}
set_option maxRecDepth 100000 in
set_option maxHeartbeats 4000000 in
theorem w_X12_isTaken {Y : Mem} {a1 : Int32} (C : Cx p s m [.ref (ad 10 0 0), .int a1].toArray meth c cX12_isTaken 2 wsX12_isTaken RX12 N0 T D gr ad) (hrt : meth.sig.returnType = (some .boolean)) (hG : ∀ q ∈ [(10, 0)], q ∈ gr) {res : Int32} (h : X12_isTaken Y a1 = some res) : FW p l e (Rm 3) s m [.ref (ad 10 0 0), .int a1].toArray below meth c 2 N0 T D gr ad 0 0 (MQ below (va_Qi (fun r Y1 => r = res ∧ Y1 = Y) (WB T D gr ad) (fun q => N0 ≤ q)) [.ref (ad 10 0 0), .int a1].toArray s 0 0 (fun q => N0 ≤ q)) Y 0 [(0, .ref (ad 10 0 0)), (1, .int a1)] [] := by
  unfold X12_isTaken at h
  refine fw_aload_n C dX12_isTaken_0 rfl 0 rfl ?_
  refine fw_iload_n C dX12_isTaken_1 rfl 1 rfl ?_
  refine fw_bipush C dX12_isTaken_2 (v := 17) rfl ?_
  obtain ⟨r1, q2, h⟩ := bd1_some h
  refine fw_callVi C (ci := 10) (Cn := RX12) (Tc := TX12) (N := 19) (As := [.int a1, .int 17]) (c_X12_of (gac (hG _ (List.mem_of_getElem? (i := 0) rfl)) ga0) q2) (cwV 2 (cx_ts C) gX12_isTaken_X12_of rfl rfl rfl (by decide +kernel) ⟨Nat.le_of_ble_eq_true rfl, Nat.le_of_ble_eq_true rfl⟩) rfl (hG _ (List.mem_of_getElem? (i := 0) rfl)) (of10_0 _) (ce10 T ad _ _) rfl (st := []) rfl (Nat.le_of_ble_eq_true rfl) ⟨Nat.le_refl 0, Nat.le_refl 0⟩ dX12_isTaken_4 ?_
  rintro _ _ ⟨rfl, rfl⟩
  refine fw_iconst C dX12_isTaken_7 (v := 2) rfl ?_
  refine fw_icmp_ne C dX12_isTaken_8 (tgt := 25) rfl (fun c3 => ?_) (fun c3 => ?_)
  · have h := ite_f c3 h
    refine fw_iconst C dX12_isTaken_25 (v := 0) rfl ?_
    exact fw_zret C hrt (by decide) Y ⟨Option.some.inj h, rfl⟩ (fun t ht => ht) dX12_isTaken_26
  · have h := ite_t c3 h
    refine fw_aload_n C dX12_isTaken_11 rfl 0 rfl ?_
    refine fw_iload_n C dX12_isTaken_12 rfl 1 rfl ?_
    refine fw_iconst C dX12_isTaken_13 (v := 1) rfl ?_
    refine fw_iconst C dX12_isTaken_14 (v := 2) rfl ?_
    obtain ⟨r4, q5, h⟩ := bd1_some h
    refine fw_callVi C (ci := 10) (Cn := RX12) (Tc := TX12) (N := 19) (As := [.int a1, .int 1, .int 2]) (c_X12_hasSuccessor (gac (hG _ (List.mem_of_getElem? (i := 0) rfl)) ga0) q5) (cwV 3 (cx_ts C) gX12_isTaken_X12_hasSuccessor rfl rfl rfl (by decide +kernel) ⟨Nat.le_of_ble_eq_true rfl, Nat.le_of_ble_eq_true rfl⟩) rfl (hG _ (List.mem_of_getElem? (i := 0) rfl)) (of10_0 _) (ce10 T ad _ _) rfl (st := []) rfl (Nat.le_of_ble_eq_true rfl) ⟨Nat.le_refl 0, Nat.le_refl 0⟩ dX12_isTaken_15 ?_
    rintro _ _ ⟨rfl, rfl⟩
    refine fw_if_eq C dX12_isTaken_18 (tgt := 25) rfl (fun c6 => ?_) (fun c6 => ?_)
    · have h := ite_t c6 h
      refine fw_iconst C dX12_isTaken_25 (v := 0) rfl ?_
      exact fw_zret C hrt (by decide) Y ⟨Option.some.inj h, rfl⟩ (fun t ht => ht) dX12_isTaken_26
    · have h := ite_f c6 h
      refine fw_iconst C dX12_isTaken_21 (v := 1) rfl ?_
      refine fw_goto C dX12_isTaken_22 (tgt := 26) rfl ?_
      exact fw_zret C hrt (by decide) Y ⟨Option.some.inj h, rfl⟩ (fun t ht => ht) dX12_isTaken_26
end
set_option maxRecDepth 100000 in
set_option maxHeartbeats 4000000 in
theorem c_X12_isTaken {l : Launch} {N0 : Nat} {T : Nat → ClassId} {D : va_G} {gr : List (Nat × Nat)} {ad : Nat → Nat → Nat → Nat} {Y : Mem} {a1 : Int32} {res : Int32} (hG : ∀ q ∈ [(10, 0)], q ∈ gr) (h : X12_isTaken Y a1 = some res) : CI l yX12_isTaken wsX12_isTaken (Rm 3) N0 T D gr ad Y [.ref (ad 10 0 0), .int a1] (fun r Y1 => r = res ∧ Y1 = Y) :=
  fw_body (by decide +kernel) rfl (Nat.le_of_ble_eq_true rfl) (fun p e s m below meth c C hrt => w_X12_isTaken C hrt hG  h)
