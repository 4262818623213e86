theorem ly_X12_wrong_12 : ∀ w ∈ u_ws RX12 TX12 19, w ∈ wsX12_wrong := by decide +kernel
theorem fl_X12_wrong_30 : Cond.fieldLink RX12 30 "RecipeSchedulerModel" "errorCode" "I" ∈ wsX12_wrong := by decide +kernel
theorem fl_X12_wrong_60 : Cond.fieldLink RX12 60 "RecipeSchedulerModel" "from" "I" ∈ wsX12_wrong := by decide +kernel
theorem fl_X12_wrong_33 : Cond.fieldLink RX12 33 "RecipeSchedulerModel" "errorPosition" "I" ∈ wsX12_wrong := by decide +kernel
noncomputable def X12_wrong (Y : Mem) (a1 : Int32) : Option (Int32 × Mem) :=
  lt_ (up Y 10 0 0 5 a1) <| fun Y1 => lt_ (up Y1 10 0 0 6 (Y1 10 0 0 16)) <| fun Y3 => some (0, Y3)
section
variable {p : Program} {l : Launch} {e : Env} {s : State} {m : MethodId} {below : List Frame} {meth : Method} {c : Code} {N0 : Nat} {T : Nat → ClassId} {D : va_G} {gr : List (Nat × Nat)} {ad : Nat → Nat → Nat → Nat}
set_option maxRecDepth 100000 in
set_option maxHeartbeats 4000000 in
theorem w_X12_wrong {Y : Mem} {a1 : Int32} (C : Cx p s m [.ref (ad 10 0 0), .int a1].toArray meth c cX12_wrong 2 wsX12_wrong RX12 N0 T D gr ad) (hrt : meth.sig.returnType = (some .boolean)) (hG : ∀ q ∈ [(10, 0)], q ∈ gr) {res : Int32 × Mem} (h : X12_wrong Y a1 = some res) : FW p l e (Rm 0) s m [.ref (ad 10 0 0), .int a1].toArray below meth c 2 N0 T D gr ad 0 0 (MQ below (va_Qi (fun r Y1 => (r, Y1) = res) (WB T D gr ad) (fun q => N0 ≤ q)) [.ref (ad 10 0 0), .int a1].toArray s 0 0 (fun q => N0 ≤ q)) Y 0 [(0, .ref (ad 10 0 0)), (1, .int a1)] [] := by
  unfold X12_wrong at h
  refine fw_aload_n C dX12_wrong_0 rfl 0 rfl ?_
  refine fw_iload_n C dX12_wrong_1 rfl 1 rfl ?_
  obtain ⟨Y1, e2, h⟩ := lt_some h
  refine fw_put C (ci := 10) (Cn := RX12) (Tc := TX12) (N := 19) (j := 5) (ty := .int) (upd (Y 10 0 0) 5 a1) ly_X12_wrong_12 rfl tyX12_ok nmX12 (hG _ (List.mem_of_getElem? (i := 0) rfl)) (of10_0 _) (ce10 T ad _ _) (by decide) (cx_ts C _ fl_X12_wrong_30) (fun _ h => h) rfl (by decide +kernel) rfl rfl (by decide) (ce10_put5 T ad _ _ _) dX12_wrong_2 ?_
  refine fw_mem ((up_eq _ _ _ _ _ _).symm.trans e2) ?_
  refine fw_aload_n C dX12_wrong_5 rfl 0 rfl ?_
  refine fw_aload_n C dX12_wrong_6 rfl 0 rfl ?_
  refine fw_get C (ci := 10) (Cn := RX12) (Tc := TX12) (N := 19) (j := 16) ly_X12_wrong_12 rfl (hG _ (List.mem_of_getElem? (i := 0) rfl)) (of10_0 _) (ce10 T ad _ _) (by decide) (cx_ts C _ fl_X12_wrong_60) (fun _ h => h) (v := .int (Y1 10 0 0 16)) rfl dX12_wrong_7 ?_
  obtain ⟨Y3, e4, h⟩ := lt_some h
  refine fw_put C (ci := 10) (Cn := RX12) (Tc := TX12) (N := 19) (j := 6) (ty := .int) (upd (Y1 10 0 0) 6 (Y1 10 0 0 16)) ly_X12_wrong_12 rfl tyX12_ok nmX12 (hG _ (List.mem_of_getElem? (i := 0) rfl)) (of10_0 _) (ce10 T ad _ _) (by decide) (cx_ts C _ fl_X12_wrong_33) (fun _ h => h) rfl (by decide +kernel) rfl rfl (by decide) (ce10_put6 T ad _ _ _) dX12_wrong_10 ?_
  refine fw_mem ((up_eq _ _ _ _ _ _).symm.trans e4) ?_
  refine fw_iconst C dX12_wrong_13 (v := 0) rfl ?_
  exact fw_zret C hrt (by decide) Y3 (Option.some.inj h) (fun t ht => ht) dX12_wrong_14
end
set_option maxRecDepth 100000 in
set_option maxHeartbeats 4000000 in
theorem c_X12_wrong {l : Launch} {N0 : Nat} {T : Nat → ClassId} {D : va_G} {gr : List (Nat × Nat)} {ad : Nat → Nat → Nat → Nat} {Y : Mem} {a1 : Int32} {res : Int32 × Mem} (hG : ∀ q ∈ [(10, 0)], q ∈ gr) (h : X12_wrong Y a1 = some res) : CI l yX12_wrong wsX12_wrong (Rm 0) N0 T D gr ad Y [.ref (ad 10 0 0), .int a1] (fun r Y1 => (r, Y1) = res) :=
  fw_body (by decide +kernel) rfl (Nat.le_of_ble_eq_true rfl) (fun p e s m below meth c C hrt => w_X12_wrong C hrt hG  h)
theorem ly_X12_isShortWord_12 : ∀ w ∈ u_ws RX12 TX12 19, w ∈ wsX12_isShortWord := by decide +kernel
theorem fl_X12_isShortWord_57 : Cond.fieldLink RX12 57 "RecipeSchedulerModel" "type" "I" ∈ wsX12_isShortWord := by decide +kernel
theorem fl_X12_isShortWord_54 : Cond.fieldLink RX12 54 "RecipeSchedulerModel" "ahead" "I" ∈ wsX12_isShortWord := by decide +kernel
theorem fl_X12_isShortWord_60 : Cond.fieldLink RX12 60 "RecipeSchedulerModel" "from" "I" ∈ wsX12_isShortWord := by decide +kernel
noncomputable def X12_isShortWord_b36  (Y : Mem) : Option (Int32 × Mem) :=
  some (1, Y)
noncomputable def X12_isShortWord (Y : Mem) : Option (Int32 × Mem) :=
  if (Y 10 0 0 15) = 1 then (if ((Y 10 0 0 14) - (Y 10 0 0 16)) ≤ 6 then (X12_isShortWord_b36 Y) else (bd2 (X12_wrong Y 3) <| fun r3 Y5 => if r3 = 0 then (some (0, Y5)) else (X12_isShortWord_b36 Y5))) else (bd2 (X12_wrong Y 1) <| fun r7 Y9 => gd (decide (r7 = 0 ∨ r7 = 1)) <| some (r7, Y9))
section
variable {p : Program} {l : Launch} {e : Env} {s : State} {m : MethodId} {below : List Frame} {meth : Method} {c : Code} {N0 : Nat} {T : Nat → ClassId} {D : va_G} {gr : List (Nat × Nat)} {ad : Nat → Nat → Nat → Nat}
set_option maxRecDepth 100000 in
set_option maxHeartbeats 4000000 in
theorem w_X12_isShortWord_b36  (C : Cx p s m [.ref (ad 10 0 0)].toArray meth c cX12_isShortWord 1 wsX12_isShortWord RX12 N0 T D gr ad) (hrt : meth.sig.returnType = (some .boolean)) (hG : ∀ q ∈ [(10, 0)], q ∈ gr) {res : Int32 × Mem} (Y : Mem) (h : X12_isShortWord_b36   Y = some res) : FW p l e (Rm 1) s m [.ref (ad 10 0 0)].toArray below meth c 1 N0 T D gr ad 0 0 (MQ below (va_Qi (fun r Y1 => (r, Y1) = res) (WB T D gr ad) (fun q => N0 ≤ q)) [.ref (ad 10 0 0)].toArray s 0 0 (fun q => N0 ≤ q)) Y 36 [] [] := by
  unfold X12_isShortWord_b36 at h
  refine fw_iconst C dX12_isShortWord_36 (v := 1) rfl ?_
  refine fw_goto C dX12_isShortWord_37 (tgt := 41) rfl ?_
  exact fw_zret C hrt (by decide) Y (Option.some.inj h) (fun t ht => ht) dX12_isShortWord_41
set_option maxRecDepth 100000 in
set_option maxHeartbeats 4000000 in
theorem w_X12_isShortWord {Y : Mem} (C : Cx p s m [.ref (ad 10 0 0)].toArray meth c cX12_isShortWord 1 wsX12_isShortWord RX12 N0 T D gr ad) (hrt : meth.sig.returnType = (some .boolean)) (hG : ∀ q ∈ [(10, 0)], q ∈ gr) {res : Int32 × Mem} (h : X12_isShortWord Y = some res) : FW p l e (Rm 1) s m [.ref (ad 10 0 0)].toArray below meth c 1 N0 T D gr ad 0 0 (MQ below (va_Qi (fun r Y1 => (r, Y1) = res) (WB T D gr ad) (fun q => N0 ≤ q)) [.ref (ad 10 0 0)].toArray s 0 0 (fun q => N0 ≤ q)) Y 0 [(0, .ref (ad 10 0 0))] [] := by
  unfold X12_isShortWord at h
  refine fw_aload_n C dX12_isShortWord_0 rfl 0 rfl ?_
  refine fw_get C (ci := 10) (Cn := RX12) (Tc := TX12) (N := 19) (j := 15) ly_X12_isShortWord_12 rfl (hG _ (List.mem_of_getElem? (i := 0) rfl)) (of10_0 _) (ce10 T ad _ _) (by decide) (cx_ts C _ fl_X12_isShortWord_57) (fun _ h => h) (v := .int (Y 10 0 0 15)) rfl dX12_isShortWord_1 ?_
  refine fw_iconst C dX12_isShortWord_4 (v := 1) rfl ?_
  refine fw_icmp_eq C dX12_isShortWord_5 (tgt := 14) rfl (fun c1 => ?_) (fun c1 => ?_)
  · have h := ite_t c1 h
    refine fw_aload_n C dX12_isShortWord_14 rfl 0 rfl ?_
    refine fw_get C (ci := 10) (Cn := RX12) (Tc := TX12) (N := 19) (j := 14) ly_X12_isShortWord_12 rfl (hG _ (List.mem_of_getElem? (i := 0) rfl)) (of10_0 _) (ce10 T ad _ _) (by decide) (cx_ts C _ fl_X12_isShortWord_54) (fun _ h => h) (v := .int (Y 10 0 0 14)) rfl dX12_isShortWord_15 ?_
    refine fw_aload_n C dX12_isShortWord_18 rfl 0 rfl ?_
    refine fw_get C (ci := 10) (Cn := RX12) (Tc := TX12) (N := 19) (j := 16) ly_X12_isShortWord_12 rfl (hG _ (List.mem_of_getElem? (i := 0) rfl)) (of10_0 _) (ce10 T ad _ _) (by decide) (cx_ts C _ fl_X12_isShortWord_60) (fun _ h => h) (v := .int (Y 10 0 0 16)) rfl dX12_isShortWord_19 ?_
    refine fw_isub C dX12_isShortWord_22 ?_
    refine fw_bipush C dX12_isShortWord_23 (v := 6) rfl ?_
    refine fw_icmp_le C dX12_isShortWord_25 (tgt := 36) rfl (fun c2 => ?_) (fun c2 => ?_)
    · have h := ite_t c2 h
      refine fw_sub [] (L' := []) rfl ?_
      exact w_X12_isShortWord_b36 C hrt hG   _ h
    · have h := ite_f c2 h
      refine fw_aload_n C dX12_isShortWord_28 rfl 0 rfl ?_
      refine fw_iconst C dX12_isShortWord_29 (v := 3) rfl ?_
      obtain ⟨r3, Y5, q4, h⟩ := bd2_some h
      refine fw_callVi C (ci := 10) (Cn := RX12) (Tc := TX12) (N := 19) (As := [.int 3]) (c_X12_wrong (gac (hG _ (List.mem_of_getElem? (i := 0) rfl)) ga0) q4) (cwV 1 (cx_ts C) gX12_isShortWord_X12_wrong rfl rfl rfl (by decide +kernel) ⟨Nat.le_of_ble_eq_true rfl, Nat.le_of_ble_eq_true rfl⟩) rfl (hG _ (List.mem_of_getElem? (i := 0) rfl)) (of10_0 _) (ce10 T ad _ _) rfl (st := []) rfl (Nat.le_of_ble_eq_true rfl) ⟨Nat.le_refl 0, Nat.le_refl 0⟩ dX12_isShortWord_30 ?_
      intro r_ Y_ e_
      obtain ⟨rfl, rfl⟩ := Prod.mk.inj e_
      refine fw_if_eq C dX12_isShortWord_33 (tgt := 40) rfl (fun c6 => ?_) (fun c6 => ?_)
      · have h := ite_t c6 h
        refine fw_iconst C dX12_isShortWord_40 (v := 0) rfl ?_
        exact fw_zret C hrt (by decide) Y5 (Option.some.inj h) (fun t ht => ht) dX12_isShortWord_41
      · have h := ite_f c6 h
        refine fw_sub [] (L' := []) rfl ?_
        exact w_X12_isShortWord_b36 C hrt hG   _ h
  · have h := ite_f c1 h
    refine fw_aload_n C dX12_isShortWord_8 rfl 0 rfl ?_
    refine fw_iconst C dX12_isShortWord_9 (v := 1) rfl ?_
    obtain ⟨r7, Y9, q8, h⟩ := bd2_some h
    refine fw_callVi C (ci := 10) (Cn := RX12) (Tc := TX12) (N := 19) (As := [.int 1]) (c_X12_wrong (gac (hG _ (List.mem_of_getElem? (i := 0) rfl)) ga0) q8) (cwV 1 (cx_ts C) gX12_isShortWord_X12_wrong rfl rfl rfl (by decide +kernel) ⟨Nat.le_of_ble_eq_true rfl, Nat.le_of_ble_eq_true rfl⟩) rfl (hG _ (List.mem_of_getElem? (i := 0) rfl)) (of10_0 _) (ce10 T ad _ _) rfl (st := []) rfl (Nat.le_of_ble_eq_true rfl) ⟨Nat.le_refl 0, Nat.le_refl 0⟩ dX12_isShortWord_10 ?_
    intro r_ Y_ e_
    obtain ⟨rfl, rfl⟩ := Prod.mk.inj e_
    obtain ⟨b10, h⟩ := gd_some h
    exact fw_zret C hrt (of_decide_eq_true b10) Y9 (Option.some.inj h) (fun t ht => ht) dX12_isShortWord_13
end
set_option maxRecDepth 100000 in
set_option maxHeartbeats 4000000 in
theorem c_X12_isShortWord {l : Launch} {N0 : Nat} {T : Nat → ClassId} {D : va_G} {gr : List (Nat × Nat)} {ad : Nat → Nat → Nat → Nat} {Y : Mem} {res : Int32 × Mem} (hG : ∀ q ∈ [(10, 0)], q ∈ gr) (h : X12_isShortWord Y = some res) : CI l yX12_isShortWord wsX12_isShortWord (Rm 1) N0 T D gr ad Y [.ref (ad 10 0 0)] (fun r Y1 => (r, Y1) = res) :=
  fw_body (by decide +kernel) rfl (Nat.le_of_ble_eq_true rfl) (fun p e s m below meth c C hrt => w_X12_isShortWord C hrt hG  h)
noncomputable def X12_isTakenUp_b14 (a1 : Int32) (Y : Mem) (s0 : Int32) : Option (Int32 × Mem) :=
  bd2 (X12_fails Y s0 0 0) <| fun r4 Y6 => if r4 = 0 then (bd1 (X12_isTaken Y6 a1) <| fun r8 => gd (decide (r8 = 0 ∨ r8 = 1)) <| some (r8, Y6)) else (some (0, Y6))
noncomputable def X12_isTakenUp (Y : Mem) (a1 : Int32) : Option (Int32 × Mem) :=
  bd1 (X12_isStep Y a1) <| fun r1 => if r1 = 0 then (X12_isTakenUp_b14 a1 Y 1) else (X12_isTakenUp_b14 a1 Y 0)
section
variable {p : Program} {l : Launch} {e : Env} {s : State} {m : MethodId} {below : List Frame} {meth : Method} {c : Code} {N0 : Nat} {T : Nat → ClassId} {D : va_G} {gr : List (Nat × Nat)} {ad : Nat → Nat → Nat → Nat}
set_option maxRecDepth 100000 in
set_option maxHeartbeats 4000000 in
theorem w_X12_isTakenUp_b14 {a1 : Int32} (C : Cx p s m [.ref (ad 10 0 0), .int a1].toArray meth c cX12_isTakenUp 2 wsX12_isTakenUp RX12 N0 T D gr ad) (hrt : meth.sig.returnType = (some .boolean)) (hG : ∀ q ∈ [(10, 0)], q ∈ gr) {res : Int32 × Mem} (Y : Mem) (s0 : Int32) (h : X12_isTakenUp_b14 a1  Y s0 = some res) : FW p l e (Rm 4) s m [.ref (ad 10 0 0), .int a1].toArray below meth c 2 N0 T D gr ad 0 0 (MQ below (va_Qi (fun r Y1 => (r, Y1) = res) (WB T D gr ad) (fun q => N0 ≤ q)) [.ref (ad 10 0 0), .int a1].toArray s 0 0 (fun q => N0 ≤ q)) Y 14 [(0, .ref (ad 10 0 0)), (1, .int a1)] [.int s0, .ref (ad 10 0 0)] := by
  unfold X12_isTakenUp_b14 at h
  refine fw_iconst C dX12_isTakenUp_14 (v := 0) rfl ?_
  refine fw_iconst C dX12_isTakenUp_15 (v := 0) rfl ?_
  obtain ⟨r4, Y6, q5, h⟩ := bd2_some h
  refine fw_callVi C (ci := 10) (Cn := RX12) (Tc := TX12) (N := 19) (As := [.int s0, .int 0, .int 0]) (c_X12_fails (gac (hG _ (List.mem_of_getElem? (i := 0) rfl)) ga0) q5) (cwV 3 (cx_ts C) gX12_isTakenUp_X12_fails rfl rfl rfl (by decide +kernel) ⟨Nat.le_of_ble_eq_true rfl, Nat.le_of_ble_eq_true rfl⟩) rfl (hG _ (List.mem_of_getElem? (i := 0) rfl)) (of10_0 _) (ce10 T ad _ _) rfl (st := []) rfl (Nat.le_of_ble_eq_true rfl) ⟨Nat.le_refl 0, Nat.le_refl 0⟩ dX12_isTakenUp_16 ?_
  intro r_ Y_ e_
  obtain ⟨rfl, rfl⟩ := Prod.mk.inj e_
  refine fw_if_eq C dX12_isTakenUp_19 (tgt := 24) rfl (fun c7 => ?_) (fun c7 => ?_)
  · have h := ite_t c7 h
    refine fw_aload_n C dX12_isTakenUp_24 rfl 0 rfl ?_
    refine fw_iload_n C dX12_isTakenUp_25 rfl 1 rfl ?_
    obtain ⟨r8, q9, h⟩ := bd1_some h
    refine fw_callVi C (ci := 10) (Cn := RX12) (Tc := TX12) (N := 19) (As := [.int a1]) (c_X12_isTaken (gac (hG _ (List.mem_of_getElem? (i := 0) rfl)) ga0) q9) (cwV 1 (cx_ts C) gX12_isTakenUp_X12_isTaken rfl rfl rfl (by decide +kernel) ⟨Nat.le_of_ble_eq_true rfl, Nat.le_of_ble_eq_true rfl⟩) rfl (hG _ (List.mem_of_getElem? (i := 0) rfl)) (of10_0 _) (ce10 T ad _ _) rfl (st := []) rfl (Nat.le_of_ble_eq_true rfl) ⟨Nat.le_refl 0, Nat.le_refl 0⟩ dX12_isTakenUp_26 ?_
    rintro _ _ ⟨rfl, rfl⟩
    obtain ⟨b10, h⟩ := gd_some h
    exact fw_zret C hrt (of_decide_eq_true b10) Y6 (Option.some.inj h) (fun t ht => ht) dX12_isTakenUp_29
  · have h := ite_f c7 h
    refine fw_iconst C dX12_isTakenUp_22 (v := 0) rfl ?_
    exact fw_zret C hrt (by decide) Y6 (Option.some.inj h) (fun t ht => ht) dX12_isTakenUp_23
set_option maxRecDepth 100000 in
set_option maxHeartbeats 4000000 in
theorem w_X12_isTakenUp {Y : Mem} {a1 : Int32} (C : Cx p s m [.ref (ad 10 0 0), .int a1].toArray meth c cX12_isTakenUp 2 wsX12_isTakenUp RX12 N0 T D gr ad) (hrt : meth.sig.returnType = (some .boolean)) (hG : ∀ q ∈ [(10, 0)], q ∈ gr) {res : Int32 × Mem} (h : X12_isTakenUp Y a1 = some res) : FW p l e (Rm 4) s m [.ref (ad 10 0 0), .int a1].toArray below meth c 2 N0 T D gr ad 0 0 (MQ below (va_Qi (fun r Y1 => (r, Y1) = res) (WB T D gr ad) (fun q => N0 ≤ q)) [.ref (ad 10 0 0), .int a1].toArray s 0 0 (fun q => N0 ≤ q)) Y 0 [(0, .ref (ad 10 0 0)), (1, .int a1)] [] := by
  unfold X12_isTakenUp at h
  refine fw_aload_n C dX12_isTakenUp_0 rfl 0 rfl ?_
  refine fw_aload_n C dX12_isTakenUp_1 rfl 0 rfl ?_
  refine fw_iload_n C dX12_isTakenUp_2 rfl 1 rfl ?_
  obtain ⟨r1, q2, h⟩ := bd1_some h
  refine fw_callVi C (ci := 10) (Cn := RX12) (Tc := TX12) (N := 19) (As := [.int a1]) (c_X12_isStep (gac (hG _ (List.mem_of_getElem? (i := 0) rfl)) ga0) q2) (cwV 1 (cx_ts C) gX12_isTakenUp_X12_isStep rfl rfl rfl (by decide +kernel) ⟨Nat.le_of_ble_eq_true rfl, Nat.le_of_ble_eq_true rfl⟩) rfl (hG _ (List.mem_of_getElem? (i := 0) rfl)) (of10_0 _) (ce10 T ad _ _) rfl (st := [.ref (ad 10 0 0)]) rfl (Nat.le_of_ble_eq_true rfl) ⟨Nat.le_refl 0, Nat.le_refl 0⟩ dX12_isTakenUp_3 ?_
  rintro _ _ ⟨rfl, rfl⟩
  refine fw_if_ne C dX12_isTakenUp_6 (tgt := 13) rfl (fun c3 => ?_) (fun c3 => ?_)
  · have h := ite_f c3 h
    refine fw_iconst C dX12_isTakenUp_13 (v := 0) rfl ?_
    exact w_X12_isTakenUp_b14 C hrt hG   _ _ h
  · have h := ite_t c3 h
    refine fw_iconst C dX12_isTakenUp_9 (v := 1) rfl ?_
    refine fw_goto C dX12_isTakenUp_10 (tgt := 14) rfl ?_
    exact w_X12_isTakenUp_b14 C hrt hG   _ _ h
end
set_option maxRecDepth 100000 in
set_option maxHeartbeats 4000000 in
theorem c_X12_isTakenUp {l : Launch} {N0 : Nat} {T : Nat → ClassId} {D : va_G} {gr : List (Nat × Nat)} {ad : Nat → Nat → Nat → Nat} {Y : Mem} {a1 : Int32} {res : Int32 × Mem} (hG : ∀ q ∈ [(10, 0)], q ∈ gr) (h : X12_isTakenUp Y a1 = some res) : CI l yX12_isTakenUp wsX12_isTakenUp (Rm 4) N0 T D gr ad Y [.ref (ad 10 0 0), .int a1] (fun r Y1 => (r, Y1) = res) :=
  fw_body (by decide +kernel) rfl (Nat.le_of_ble_eq_true rfl) (fun p e s m below meth c C hrt => w_X12_isTakenUp C hrt hG  h)
noncomputable def X12_isUnattended (Y : Mem) (a1 : Int32) : Option (Int32 × Mem) :=
  bd2 (X12_field Y a1 11) <| fun r1 Y3 => if r1 = 1 then (some (1, Y3)) else (some (0, Y3))
section
variable {p : Program} {l : Launch} {e : Env} {s : State} {m : MethodId} {below : List Frame} {meth : Method} {c : Code} {N0 : Nat} {T : Nat → ClassId} {D : va_G} {gr : List (Nat × Nat)} {ad : Nat → Nat → Nat → Nat}
set_option maxRecDepth 100000 in
set_option maxHeartbeats 4000000 in
theorem w_X12_isUnattended {Y : Mem} {a1 : Int32} (C : Cx p s m [.ref (ad 10 0 0), .int a1].toArray meth c cX12_isUnattended 2 wsX12_isUnattended RX12 N0 T D gr ad) (hrt : meth.sig.returnType = (some .boolean)) (hG : ∀ q ∈ [(10, 0)], q ∈ gr) {res : Int32 × Mem} (h : X12_isUnattended Y a1 = some res) : FW p l e (Rm 3) s m [.ref (ad 10 0 0), .int a1].toArray below meth c 2 N0 T D gr ad 0 0 (MQ below (va_Qi (fun r Y1 => (r, Y1) = res) (WB T D gr ad) (fun q => N0 ≤ q)) [.ref (ad 10 0 0), .int a1].toArray s 0 0 (fun q => N0 ≤ q)) Y 0 [(0, .ref (ad 10 0 0)), (1, .int a1)] [] := by
  unfold X12_isUnattended at h
  refine fw_aload_n C dX12_isUnattended_0 rfl 0 rfl ?_
  refine fw_iload_n C dX12_isUnattended_1 rfl 1 rfl ?_
  refine fw_bipush C dX12_isUnattended_2 (v := 11) rfl ?_
  obtain ⟨r1, Y3, q2, h⟩ := bd2_some h
  refine fw_callVi C (ci := 10) (Cn := RX12) (Tc := TX12) (N := 19) (As := [.int a1, .int 11]) (c_X12_field (gac (hG _ (List.mem_of_getElem? (i := 0) rfl)) ga0) q2) (cwV 2 (cx_ts C) gX12_isUnattended_X12_field rfl rfl rfl (by decide +kernel) ⟨Nat.le_of_ble_eq_true rfl, Nat.le_of_ble_eq_true rfl⟩) rfl (hG _ (List.mem_of_getElem? (i := 0) rfl)) (of10_0 _) (ce10 T ad _ _) rfl (st := []) rfl (Nat.le_of_ble_eq_true rfl) ⟨Nat.le_refl 0, Nat.le_refl 0⟩ dX12_isUnattended_4 ?_
  intro r_ Y_ e_
  obtain ⟨rfl, rfl⟩ := Prod.mk.inj e_
  refine fw_iconst C dX12_isUnattended_7 (v := 1) rfl ?_
  refine fw_icmp_ne C dX12_isUnattended_8 (tgt := 15) rfl (fun c4 => ?_) (fun c4 => ?_)
  · have h := ite_f c4 h
    refine fw_iconst C dX12_isUnattended_15 (v := 0) rfl ?_
    exact fw_zret C hrt (by decide) Y3 (Option.some.inj h) (fun t ht => ht) dX12_isUnattended_16
  · have h := ite_t c4 h
    refine fw_iconst C dX12_isUnattended_11 (v := 1) rfl ?_
    refine fw_goto C dX12_isUnattended_12 (tgt := 16) rfl ?_
    exact fw_zret C hrt (by decide) Y3 (Option.some.inj h) (fun t ht => ht) dX12_isUnattended_16
end
set_option maxRecDepth 100000 in
set_option maxHeartbeats 4000000 in
theorem c_X12_isUnattended {l : Launch} {N0 : Nat} {T : Nat → ClassId} {D : va_G} {gr : List (Nat × Nat)} {ad : Nat → Nat → Nat → Nat} {Y : Mem} {a1 : Int32} {res : Int32 × Mem} (hG : ∀ q ∈ [(10, 0)], q ∈ gr) (h : X12_isUnattended Y a1 = some res) : CI l yX12_isUnattended wsX12_isUnattended (Rm 3) N0 T D gr ad Y [.ref (ad 10 0 0), .int a1] (fun r Y1 => (r, Y1) = res) :=
  fw_body (by decide +kernel) rfl (Nat.le_of_ble_eq_true rfl) (fun p e s m below meth c C hrt => w_X12_isUnattended C hrt hG  h)
theorem ly_X12_parseRanged_12 : ∀ w ∈ u_ws RX12 TX12 19, w ∈ wsX12_parseRanged := by decide +kernel
theorem fl_X12_parseRanged_57 : Cond.fieldLink RX12 57 "RecipeSchedulerModel" "type" "I" ∈ wsX12_parseRanged := by decide +kernel
theorem fl_X12_parseRanged_63 : Cond.fieldLink RX12 63 "RecipeSchedulerModel" "value" "I" ∈ wsX12_parseRanged := by decide +kernel
theorem fl_X12_parseRanged_13 : Cond.fieldLink RX12 13 "RecipeSchedulerModel" "m" "[I" ∈ wsX12_parseRanged := by decide +kernel
noncomputable def X12_parseRanged (Y : Mem) (a1 : Int32) (a2 : Int32) (a3 : Int32) : Option (Int32 × Mem) :=
  if (Y 10 0 0 15) = 2 then (bd1 (X12_in Y (Y 10 0 0 17) a2 a3) <| fun r2 => if r2 = 0 then (bd2 (X12_wrong Y 2) <| fun r11 Y13 => gd (decide (r11 = 0 ∨ r11 = 1)) <| some (r11, Y13)) else (gd (inb a1 4202) <| lt_ (up Y 10 0 1 (ix a1) (Y 10 0 0 17)) <| fun Y6 => bd1 (X12_token Y6) <| fun Y10 => some (1, Y10))) else (bd2 (X12_wrong Y 1) <| fun r15 Y17 => gd (decide (r15 = 0 ∨ r15 = 1)) <| some (r15, Y17))
section
variable {p : Program} {l : Launch} {e : Env} {s : State} {m : MethodId} {below : List Frame} {meth : Method} {c : Code} {N0 : Nat} {T : Nat → ClassId} {D : va_G} {gr : List (Nat × Nat)} {ad : Nat → Nat → Nat → Nat}
set_option maxRecDepth 100000 in
set_option maxHeartbeats 4000000 in
theorem w_X12_parseRanged {Y : Mem} {a1 : Int32} {a2 : Int32} {a3 : Int32} (C : Cx p s m [.ref (ad 10 0 0), .int a1, .int a2, .int a3].toArray meth c cX12_parseRanged 4 wsX12_parseRanged RX12 N0 T D gr ad) (hrt : meth.sig.returnType = (some .boolean)) (hG : ∀ q ∈ [(10, 0)], q ∈ gr) {res : Int32 × Mem} (h : X12_parseRanged Y a1 a2 a3 = some res) : FW p l e (Rm 2) s m [.ref (ad 10 0 0), .int a1, .int a2, .int a3].toArray below meth c 4 N0 T D gr ad 0 0 (MQ below (va_Qi (fun r Y1 => (r, Y1) = res) (WB T D gr ad) (fun q => N0 ≤ q)) [.ref (ad 10 0 0), .int a1, .int a2, .int a3].toArray s 0 0 (fun q => N0 ≤ q)) Y 0 [(0, .ref (ad 10 0 0)), (1, .int a1), (2, .int a2), (3, .int a3)] [] := by
  unfold X12_parseRanged at h
  refine fw_aload_n C dX12_parseRanged_0 rfl 0 rfl ?_
  refine fw_get C (ci := 10) (Cn := RX12) (Tc := TX12) (N := 19) (j := 15) ly_X12_parseRanged_12 rfl (hG _ (List.mem_of_getElem? (i := 0) rfl)) (of10_0 _) (ce10 T ad _ _) (by decide) (cx_ts C _ fl_X12_parseRanged_57) (fun _ h => h) (v := .int (Y 10 0 0 15)) rfl dX12_parseRanged_1 ?_
  refine fw_iconst C dX12_parseRanged_4 (v := 2) rfl ?_
  refine fw_icmp_eq C dX12_parseRanged_5 (tgt := 14) rfl (fun c1 => ?_) (fun c1 => ?_)
  · have h := ite_t c1 h
    refine fw_aload_n C dX12_parseRanged_14 rfl 0 rfl ?_
    refine fw_get C (ci := 10) (Cn := RX12) (Tc := TX12) (N := 19) (j := 17) ly_X12_parseRanged_12 rfl (hG _ (List.mem_of_getElem? (i := 0) rfl)) (of10_0 _) (ce10 T ad _ _) (by decide) (cx_ts C _ fl_X12_parseRanged_63) (fun _ h => h) (v := .int (Y 10 0 0 17)) rfl dX12_parseRanged_15 ?_
    refine fw_iload_n C dX12_parseRanged_18 rfl 2 rfl ?_
    refine fw_iload_n C dX12_parseRanged_19 rfl 3 rfl ?_
    obtain ⟨r2, q3, h⟩ := bd1_some h
    refine fw_callSi C (As := [.int (Y 10 0 0 17), .int a2, .int a3]) (c_X12_in ga0 q3) (va_cwS 3 (cx_ts C) gX12_parseRanged_X12_in rfl rfl rfl (by decide +kernel) ⟨Nat.le_of_ble_eq_true rfl, Nat.le_of_ble_eq_true rfl⟩) rfl (st := []) rfl (Nat.le_of_ble_eq_true rfl) ⟨Nat.le_refl 0, Nat.le_refl 0⟩ dX12_parseRanged_20 ?_
    rintro _ _ ⟨rfl, rfl⟩
    refine fw_if_ne C dX12_parseRanged_23 (tgt := 32) rfl (fun c4 => ?_) (fun c4 => ?_)
    · have h := ite_f c4 h
      refine fw_aload_n C dX12_parseRanged_32 rfl 0 rfl ?_
      refine fw_get C (ci := 10) (Cn := RX12) (Tc := TX12) (N := 19) (j := 0) ly_X12_parseRanged_12 rfl (hG _ (List.mem_of_getElem? (i := 0) rfl)) (of10_0 _) (ce10 T ad _ _) (by decide) (cx_ts C _ fl_X12_parseRanged_13) (fun _ h => h) (v := .ref (ad 10 0 1)) rfl dX12_parseRanged_33 ?_
      refine fw_iload_n C dX12_parseRanged_36 rfl 1 rfl ?_
      refine fw_aload_n C dX12_parseRanged_37 rfl 0 rfl ?_
      refine fw_get C (ci := 10) (Cn := RX12) (Tc := TX12) (N := 19) (j := 17) ly_X12_parseRanged_12 rfl (hG _ (List.mem_of_getElem? (i := 0) rfl)) (of10_0 _) (ce10 T ad _ _) (by decide) (cx_ts C _ fl_X12_parseRanged_63) (fun _ h => h) (v := .int (Y 10 0 0 17)) rfl dX12_parseRanged_38 ?_
      obtain ⟨b5, h⟩ := gd_some h
      obtain ⟨Y6, e7, h⟩ := lt_some h
      refine fw_iast2 C (hG _ (List.mem_of_getElem? (i := 0) rfl)) (of10_1 _) (ca10_1 T ad _) b5 (Nat.le_of_ble_eq_true rfl) dX12_parseRanged_41 ?_
      refine fw_mem e7 ?_
      refine fw_aload_n C dX12_parseRanged_42 rfl 0 rfl ?_
      obtain ⟨Y10, q9, h⟩ := bd1_some h
      refine fw_callVv C (ci := 10) (Cn := RX12) (Tc := TX12) (N := 19) (As := []) (c_X12_token (gac (hG _ (List.mem_of_getElem? (i := 0) rfl)) ga0) q9) (cwV 0 (cx_ts C) gX12_parseRanged_X12_token rfl rfl rfl (by decide +kernel) ⟨Nat.le_of_ble_eq_true rfl, Nat.le_of_ble_eq_true rfl⟩) rfl (hG _ (List.mem_of_getElem? (i := 0) rfl)) (of10_0 _) (ce10 T ad _ _) rfl (st := []) rfl (Nat.le_of_ble_eq_true rfl) ⟨Nat.le_refl 0, Nat.le_refl 0⟩ dX12_parseRanged_43 ?_
      rintro _ rfl
      refine fw_iconst C dX12_parseRanged_46 (v := 1) rfl ?_
      exact fw_zret C hrt (by decide) Y10 (Option.some.inj h) (fun t ht => ht) dX12_parseRanged_47
    · have h := ite_t c4 h
      refine fw_aload_n C dX12_parseRanged_26 rfl 0 rfl ?_
      refine fw_iconst C dX12_parseRanged_27 (v := 2) rfl ?_
      obtain ⟨r11, Y13, q12, h⟩ := bd2_some h
      refine fw_callVi C (ci := 10) (Cn := RX12) (Tc := TX12) (N := 19) (As := [.int 2]) (c_X12_wrong (gac (hG _ (List.mem_of_getElem? (i := 0) rfl)) ga0) q12) (cwV 1 (cx_ts C) gX12_parseRanged_X12_wrong rfl rfl rfl (by decide +kernel) ⟨Nat.le_of_ble_eq_true rfl, Nat.le_of_ble_eq_true rfl⟩) rfl (hG _ (List.mem_of_getElem? (i := 0) rfl)) (of10_0 _) (ce10 T ad _ _) rfl (st := []) rfl (Nat.le_of_ble_eq_true rfl) ⟨Nat.le_refl 0, Nat.le_refl 0⟩ dX12_parseRanged_28 ?_
      intro r_ Y_ e_
      obtain ⟨rfl, rfl⟩ := Prod.mk.inj e_
      obtain ⟨b14, h⟩ := gd_some h
      exact fw_zret C hrt (of_decide_eq_true b14) Y13 (Option.some.inj h) (fun t ht => ht) dX12_parseRanged_31
  · have h := ite_f c1 h
    refine fw_aload_n C dX12_parseRanged_8 rfl 0 rfl ?_
    refine fw_iconst C dX12_parseRanged_9 (v := 1) rfl ?_
    obtain ⟨r15, Y17, q16, h⟩ := bd2_some h
    refine fw_callVi C (ci := 10) (Cn := RX12) (Tc := TX12) (N := 19) (As := [.int 1]) (c_X12_wrong (gac (hG _ (List.mem_of_getElem? (i := 0) rfl)) ga0) q16) (cwV 1 (cx_ts C) gX12_parseRanged_X12_wrong rfl rfl rfl (by decide +kernel) ⟨Nat.le_of_ble_eq_true rfl, Nat.le_of_ble_eq_true rfl⟩) rfl (hG _ (List.mem_of_getElem? (i := 0) rfl)) (of10_0 _) (ce10 T ad _ _) rfl (st := []) rfl (Nat.le_of_ble_eq_true rfl) ⟨Nat.le_refl 0, Nat.le_refl 0⟩ dX12_parseRanged_10 ?_
    intro r_ Y_ e_
    obtain ⟨rfl, rfl⟩ := Prod.mk.inj e_
    obtain ⟨b18, h⟩ := gd_some h
    exact fw_zret C hrt (of_decide_eq_true b18) Y17 (Option.some.inj h) (fun t ht => ht) dX12_parseRanged_13
end
set_option maxRecDepth 100000 in
set_option maxHeartbeats 4000000 in
theorem c_X12_parseRanged {l : Launch} {N0 : Nat} {T : Nat → ClassId} {D : va_G} {gr : List (Nat × Nat)} {ad : Nat → Nat → Nat → Nat} {Y : Mem} {a1 : Int32} {a2 : Int32} {a3 : Int32} {res : Int32 × Mem} (hG : ∀ q ∈ [(10, 0)], q ∈ gr) (h : X12_parseRanged Y a1 a2 a3 = some res) : CI l yX12_parseRanged wsX12_parseRanged (Rm 2) N0 T D gr ad Y [.ref (ad 10 0 0), .int a1, .int a2, .int a3] (fun r Y1 => (r, Y1) = res) :=
  fw_body (by decide +kernel) rfl (Nat.le_of_ble_eq_true rfl) (fun p e s m below meth c C hrt => w_X12_parseRanged C hrt hG  h)
theorem ly_X12_semicolon_12 : ∀ w ∈ u_ws RX12 TX12 19, w ∈ wsX12_semicolon := by decide +kernel
theorem fl_X12_semicolon_57 : Cond.fieldLink RX12 57 "RecipeSchedulerModel" "type" "I" ∈ wsX12_semicolon := by decide +kernel
noncomputable def X12_semicolon (Y : Mem) : Option (Int32 × Mem) :=
  if (Y 10 0 0 15) = 3 then (bd1 (X12_token Y) <| fun Y4 => some (1, Y4)) else (bd2 (X12_wrong Y 1) <| fun r5 Y7 => gd (decide (r5 = 0 ∨ r5 = 1)) <| some (r5, Y7))
section
variable {p : Program} {l : Launch} {e : Env} {s : State} {m : MethodId} {below : List Frame} {meth : Method} {c : Code} {N0 : Nat} {T : Nat → ClassId} {D : va_G} {gr : List (Nat × Nat)} {ad : Nat → Nat → Nat → Nat}
set_option maxRecDepth 100000 in
set_option maxHeartbeats 4000000 in
theorem w_X12_semicolon {Y : Mem} (C : Cx p s m [.ref (ad 10 0 0)].toArray meth c cX12_semicolon 1 wsX12_semicolon RX12 N0 T D gr ad) (hrt : meth.sig.returnType = (some .boolean)) (hG : ∀ q ∈ [(10, 0)], q ∈ gr) {res : Int32 × Mem} (h : X12_semicolon Y = some res) : FW p l e (Rm 2) s m [.ref (ad 10 0 0)].toArray below meth c 1 N0 T D gr ad 0 0 (MQ below (va_Qi (fun r Y1 => (r, Y1) = res) (WB T D gr ad) (fun q => N0 ≤ q)) [.ref (ad 10 0 0)].toArray s 0 0 (fun q => N0 ≤ q)) Y 0 [(0, .ref (ad 10 0 0))] [] := by
  unfold X12_semicolon at h
  refine fw_aload_n C dX12_semicolon_0 rfl 0 rfl ?_
  refine fw_get C (ci := 10) (Cn := RX12) (Tc := TX12) (N := 19) (j := 15) ly_X12_semicolon_12 rfl (hG _ (List.mem_of_getElem? (i := 0) rfl)) (of10_0 _) (ce10 T ad _ _) (by decide) (cx_ts C _ fl_X12_semicolon_57) (fun _ h => h) (v := .int (Y 10 0 0 15)) rfl dX12_semicolon_1 ?_
  refine fw_iconst C dX12_semicolon_4 (v := 3) rfl ?_
  refine fw_icmp_eq C dX12_semicolon_5 (tgt := 14) rfl (fun c1 => ?_) (fun c1 => ?_)
  · have h := ite_t c1 h
    refine fw_aload_n C dX12_semicolon_14 rfl 0 rfl ?_
    obtain ⟨Y4, q3, h⟩ := bd1_some h
    refine fw_callVv C (ci := 10) (Cn := RX12) (Tc := TX12) (N := 19) (As := []) (c_X12_token (gac (hG _ (List.mem_of_getElem? (i := 0) rfl)) ga0) q3) (cwV 0 (cx_ts C) gX12_semicolon_X12_token rfl rfl rfl (by decide +kernel) ⟨Nat.le_of_ble_eq_true rfl, Nat.le_of_ble_eq_true rfl⟩) rfl (hG _ (List.mem_of_getElem? (i := 0) rfl)) (of10_0 _) (ce10 T ad _ _) rfl (st := []) rfl (Nat.le_of_ble_eq_true rfl) ⟨Nat.le_refl 0, Nat.le_refl 0⟩ dX12_semicolon_15 ?_
    rintro _ rfl
    refine fw_iconst C dX12_semicolon_18 (v := 1) rfl ?_
    exact fw_zret C hrt (by decide) Y4 (Option.some.inj h) (fun t ht => ht) dX12_semicolon_19
  · have h := ite_f c1 h
    refine fw_aload_n C dX12_semicolon_8 rfl 0 rfl ?_
    refine fw_iconst C dX12_semicolon_9 (v := 1) rfl ?_
    obtain ⟨r5, Y7, q6, h⟩ := bd2_some h
    refine fw_callVi C (ci := 10) (Cn := RX12) (Tc := TX12) (N := 19) (As := [.int 1]) (c_X12_wrong (gac (hG _ (List.mem_of_getElem? (i := 0) rfl)) ga0) q6) (cwV 1 (cx_ts C) gX12_semicolon_X12_wrong rfl rfl rfl (by decide +kernel) ⟨Nat.le_of_ble_eq_true rfl, Nat.le_of_ble_eq_true rfl⟩) rfl (hG _ (List.mem_of_getElem? (i := 0) rfl)) (of10_0 _) (ce10 T ad _ _) rfl (st := []) rfl (Nat.le_of_ble_eq_true rfl) ⟨Nat.le_refl 0, Nat.le_refl 0⟩ dX12_semicolon_10 ?_
    intro r_ Y_ e_
    obtain ⟨rfl, rfl⟩ := Prod.mk.inj e_
    obtain ⟨b8, h⟩ := gd_some h
    exact fw_zret C hrt (of_decide_eq_true b8) Y7 (Option.some.inj h) (fun t ht => ht) dX12_semicolon_13
end
set_option maxRecDepth 100000 in
set_option maxHeartbeats 4000000 in
theorem c_X12_semicolon {l : Launch} {N0 : Nat} {T : Nat → ClassId} {D : va_G} {gr : List (Nat × Nat)} {ad : Nat → Nat → Nat → Nat} {Y : Mem} {res : Int32 × Mem} (hG : ∀ q ∈ [(10, 0)], q ∈ gr) (h : X12_semicolon Y = some res) : CI l yX12_semicolon wsX12_semicolon (Rm 2) N0 T D gr ad Y [.ref (ad 10 0 0)] (fun r Y1 => (r, Y1) = res) :=
  fw_body (by decide +kernel) rfl (Nat.le_of_ble_eq_true rfl) (fun p e s m below meth c C hrt => w_X12_semicolon C hrt hG  h)
theorem ly_X12_panNamed_12 : ∀ w ∈ u_ws RX12 TX12 19, w ∈ wsX12_panNamed := by decide +kernel
theorem fl_X12_panNamed_13 : Cond.fieldLink RX12 13 "RecipeSchedulerModel" "m" "[I" ∈ wsX12_panNamed := by decide +kernel
noncomputable def X12_panNamed_b2 (Y : Mem) (a1 : Int32) (a2 : Int32) : Nat → Int32 → Option (Int32)
  | 0, _ => none
  | n+1, l3 =>
  gd (inb 12 4202) <| if (Y 10 0 1 (ix 12)) ≤ l3 then (some ((-1))) else (bd1 (X12_isNamed Y (14 + (l3 * 8)) a1 a2) <| fun r3 => if r3 = 0 then (X12_panNamed_b2 Y a1 a2 n (l3 + 1)) else (some l3))
noncomputable def X12_panNamed (Y : Mem) (a1 : Int32) (a2 : Int32) : Option (Int32) :=
  X12_panNamed_b2 Y a1 a2 FU 0
section
variable {p : Program} {l : Launch} {e : Env} {s : State} {m : MethodId} {below : List Frame} {meth : Method} {c : Code} {N0 : Nat} {T : Nat → ClassId} {D : va_G} {gr : List (Nat × Nat)} {ad : Nat → Nat → Nat → Nat}
set_option maxRecDepth 100000 in
set_option maxHeartbeats 4000000 in
theorem w_X12_panNamed_b2 {Y : Mem} {a1 : Int32} {a2 : Int32} (C : Cx p s m [.ref (ad 10 0 0), .int a1, .int a2].toArray meth c cX12_panNamed 4 wsX12_panNamed RX12 N0 T D gr ad) (hrt : meth.sig.returnType = (some .int)) (hG : ∀ q ∈ [(10, 0)], q ∈ gr) {res : Int32} : ∀ (n : Nat) (l3 : Int32), X12_panNamed_b2 Y a1 a2  n l3 = some res → FW p l e (Rm 1) s m [.ref (ad 10 0 0), .int a1, .int a2].toArray below meth c 4 N0 T D gr ad 0 0 (MQ below (va_Qi (fun r Y1 => r = res ∧ Y1 = Y) (WB T D gr ad) (fun q => N0 ≤ q)) [.ref (ad 10 0 0), .int a1, .int a2].toArray s 0 0 (fun q => N0 ≤ q)) Y 2 [(3, .int l3), (0, .ref (ad 10 0 0)), (1, .int a1), (2, .int a2)] [] := by
  intro n
  induction n with
  | zero =>
    intro l3 h
    unfold X12_panNamed_b2 at h
    cases h
  | succ n ih =>
    intro l3 h
    unfold X12_panNamed_b2 at h
    refine fw_iload_n C dX12_panNamed_2 rfl 0 rfl ?_
    refine fw_aload_n C dX12_panNamed_3 rfl 1 rfl ?_
    refine fw_get C (ci := 10) (Cn := RX12) (Tc := TX12) (N := 19) (j := 0) ly_X12_panNamed_12 rfl (hG _ (List.mem_of_getElem? (i := 0) rfl)) (of10_0 _) (ce10 T ad _ _) (by decide) (cx_ts C _ fl_X12_panNamed_13) (fun _ h => h) (v := .ref (ad 10 0 1)) rfl dX12_panNamed_4 ?_
    refine fw_bipush C dX12_panNamed_7 (v := 12) rfl ?_
    obtain ⟨b1, h⟩ := gd_some h
    refine fw_iald2 C (hG _ (List.mem_of_getElem? (i := 0) rfl)) (of10_1 _) (ca10_1 T ad _ _) b1 (Nat.le_of_ble_eq_true rfl) dX12_panNamed_9 ?_
    refine fw_icmp_ge C dX12_panNamed_10 (tgt := 37) rfl (fun c2 => ?_) (fun c2 => ?_)
    · have h := ite_t c2 h
      refine fw_iconst C dX12_panNamed_37 (v := (-1)) rfl ?_
      exact fw_iret C hrt Y ⟨Option.some.inj h, rfl⟩ (fun t ht => ht) dX12_panNamed_38
    · have h := ite_f c2 h
      refine fw_aload_n C dX12_panNamed_13 rfl 1 rfl ?_
      refine fw_bipush C dX12_panNamed_14 (v := 14) rfl ?_
      refine fw_iload_n C dX12_panNamed_16 rfl 0 rfl ?_
      refine fw_bipush C dX12_panNamed_17 (v := 8) rfl ?_
      refine fw_imul C dX12_panNamed_19 ?_
      refine fw_iadd C dX12_panNamed_20 ?_
      refine fw_iload_n C dX12_panNamed_21 rfl 2 rfl ?_
      refine fw_iload_n C dX12_panNamed_22 rfl 3 rfl ?_
      obtain ⟨r3, q4, h⟩ := bd1_some h
      refine fw_callVi C (ci := 10) (Cn := RX12) (Tc := TX12) (N := 19) (As := [.int (14 + (l3 * 8)), .int a1, .int a2]) (c_X12_isNamed (gac (hG _ (List.mem_of_getElem? (i := 0) rfl)) ga0) q4) (cwV 3 (cx_ts C) gX12_panNamed_X12_isNamed rfl rfl rfl (by decide +kernel) ⟨Nat.le_of_ble_eq_true rfl, Nat.le_of_ble_eq_true rfl⟩) rfl (hG _ (List.mem_of_getElem? (i := 0) rfl)) (of10_0 _) (ce10 T ad _ _) rfl (st := []) rfl (Nat.le_of_ble_eq_true rfl) ⟨Nat.le_refl 0, Nat.le_refl 0⟩ dX12_panNamed_23 ?_
      rintro _ _ ⟨rfl, rfl⟩
      refine fw_if_eq C dX12_panNamed_26 (tgt := 31) rfl (fun c5 => ?_) (fun c5 => ?_)
      · have h := ite_t c5 h
        refine fw_iinc C dX12_panNamed_31 (kk := 0) (v := l3 + 1) rfl rfl (by decide) (L' := [(3, .int (l3 + 1)), (0, .ref (ad 10 0 0)), (1, .int a1), (2, .int a2)]) rfl ?_
        refine fw_goto C dX12_panNamed_34 (tgt := 2) rfl ?_
        exact ih _ h
      · have h := ite_f c5 h
        refine fw_iload_n C dX12_panNamed_29 rfl 0 rfl ?_
        exact fw_iret C hrt Y ⟨Option.some.inj h, rfl⟩ (fun t ht => ht) dX12_panNamed_30
set_option maxRecDepth 100000 in
set_option maxHeartbeats 4000000 in
theorem w_X12_panNamed {Y : Mem} {a1 : Int32} {a2 : Int32} (C : Cx p s m [.ref (ad 10 0 0), .int a1, .int a2].toArray meth c cX12_panNamed 4 wsX12_panNamed RX12 N0 T D gr ad) (hrt : meth.sig.returnType = (some .int)) (hG : ∀ q ∈ [(10, 0)], q ∈ gr) {res : Int32} (h : X12_panNamed Y a1 a2 = some res) : FW p l e (Rm 1) s m [.ref (ad 10 0 0), .int a1, .int a2].toArray below meth c 4 N0 T D gr ad 0 0 (MQ below (va_Qi (fun r Y1 => r = res ∧ Y1 = Y) (WB T D gr ad) (fun q => N0 ≤ q)) [.ref (ad 10 0 0), .int a1, .int a2].toArray s 0 0 (fun q => N0 ≤ q)) Y 0 [(0, .ref (ad 10 0 0)), (1, .int a1), (2, .int a2)] [] := by
  unfold X12_panNamed at h
  refine fw_iconst C dX12_panNamed_0 (v := 0) rfl ?_
  refine fw_istore_n C dX12_panNamed_1 rfl (by decide) (L' := [(3, .int 0), (0, .ref (ad 10 0 0)), (1, .int a1), (2, .int a2)]) rfl ?_
  exact w_X12_panNamed_b2 C hrt hG   _ _ h
end
set_option maxRecDepth 100000 in
set_option maxHeartbeats 4000000 in
theorem c_X12_panNamed {l : Launch} {N0 : Nat} {T : Nat → ClassId} {D : va_G} {gr : List (Nat × Nat)} {ad : Nat → Nat → Nat → Nat} {Y : Mem} {a1 : Int32} {a2 : Int32} {res : Int32} (hG : ∀ q ∈ [(10, 0)], q ∈ gr) (h : X12_panNamed Y a1 a2 = some res) : CI l yX12_panNamed wsX12_panNamed (Rm 1) N0 T D gr ad Y [.ref (ad 10 0 0), .int a1, .int a2] (fun r Y1 => r = res ∧ Y1 = Y) :=
  fw_body (by decide +kernel) rfl (Nat.le_of_ble_eq_true rfl) (fun p e s m below meth c C hrt => w_X12_panNamed C hrt hG  h)
theorem ly_X12_putName_12 : ∀ w ∈ u_ws RX12 TX12 19, w ∈ wsX12_putName := by decide +kernel
theorem fl_X12_putName_13 : Cond.fieldLink RX12 13 "RecipeSchedulerModel" "m" "[I" ∈ wsX12_putName := by decide +kernel
theorem fl_X12_putName_54 : Cond.fieldLink RX12 54 "RecipeSchedulerModel" "ahead" "I" ∈ wsX12_putName := by decide +kernel
theorem fl_X12_putName_60 : Cond.fieldLink RX12 60 "RecipeSchedulerModel" "from" "I" ∈ wsX12_putName := by decide +kernel
theorem fl_X12_putName_24 : Cond.fieldLink RX12 24 "RecipeSchedulerModel" "buffer" "[I" ∈ wsX12_putName := by decide +kernel
noncomputable def X12_putName_b20 (a1 : Int32) : Nat → Mem → Int32 → Option (Mem)
  | 0, _, _ => none
  | n+1, Y, l2 =>
  if (Y 10 0 0 14) ≤ l2 then (bd1 (X12_token Y) <| fun Y9 => some Y9) else (gd (inb l2 700) <| gd (inb (((a1 + 1) + l2) - (Y 10 0 0 16)) 4202) <| lt_ (up Y 10 0 1 (ix (((a1 + 1) + l2) - (Y 10 0 0 16))) (Y 10 0 3 (ix l2))) <| fun Y12 => X12_putName_b20 a1 n Y12 (l2 + 1))
noncomputable def X12_putName (Y : Mem) (a1 : Int32) : Option (Mem) :=
  gd (inb a1 4202) <| lt_ (up Y 10 0 1 (ix a1) ((Y 10 0 0 14) - (Y 10 0 0 16))) <| fun Y2 => lt_ (Y2 10 0 0 16) <| fun v4 => X12_putName_b20 a1 FU Y2 v4
section
variable {p : Program} {l : Launch} {e : Env} {s : State} {m : MethodId} {below : List Frame} {meth : Method} {c : Code} {N0 : Nat} {T : Nat → ClassId} {D : va_G} {gr : List (Nat × Nat)} {ad : Nat → Nat → Nat → Nat}
set_option maxRecDepth 100000 in
set_option maxHeartbeats 4000000 in
theorem w_X12_putName_b20 {a1 : Int32} (C : Cx p s m [.ref (ad 10 0 0), .int a1].toArray meth c cX12_putName 3 wsX12_putName RX12 N0 T D gr ad) (hrt : meth.sig.returnType = none) (hG : ∀ q ∈ [(10, 0)], q ∈ gr) {res : Mem} : ∀ (n : Nat) (Y : Mem) (l2 : Int32), X12_putName_b20 a1  n Y l2 = some res → FW p l e (Rm 2) s m [.ref (ad 10 0 0), .int a1].toArray below meth c 3 N0 T D gr ad 0 0 (MQ below (va_Qv (fun Y1 => Y1 = res) (WB T D gr ad) (fun q => N0 ≤ q)) [.ref (ad 10 0 0), .int a1].toArray s 0 0 (fun q => N0 ≤ q)) Y 20 [(2, .int l2), (0, .ref (ad 10 0 0)), (1, .int a1)] [] := by
  intro n
  induction n with
  | zero =>
    intro Y l2 h
    unfold X12_putName_b20 at h
    cases h
  | succ n ih =>
    intro Y l2 h
    unfold X12_putName_b20 at h
    refine fw_iload_n C dX12_putName_20 rfl 0 rfl ?_
    refine fw_aload_n C dX12_putName_21 rfl 1 rfl ?_
    refine fw_get C (ci := 10) (Cn := RX12) (Tc := TX12) (N := 19) (j := 14) ly_X12_putName_12 rfl (hG _ (List.mem_of_getElem? (i := 0) rfl)) (of10_0 _) (ce10 T ad _ _) (by decide) (cx_ts C _ fl_X12_putName_54) (fun _ h => h) (v := .int (Y 10 0 0 14)) rfl dX12_putName_22 ?_
    refine fw_icmp_ge C dX12_putName_25 (tgt := 55) rfl (fun c6 => ?_) (fun c6 => ?_)
    · have h := ite_t c6 h
      refine fw_aload_n C dX12_putName_55 rfl 1 rfl ?_
      obtain ⟨Y9, q8, h⟩ := bd1_some h
      refine fw_callVv C (ci := 10) (Cn := RX12) (Tc := TX12) (N := 19) (As := []) (c_X12_token (gac (hG _ (List.mem_of_getElem? (i := 0) rfl)) ga0) q8) (cwV 0 (cx_ts C) gX12_putName_X12_token rfl rfl rfl (by decide +kernel) ⟨Nat.le_of_ble_eq_true rfl, Nat.le_of_ble_eq_true rfl⟩) rfl (hG _ (List.mem_of_getElem? (i := 0) rfl)) (of10_0 _) (ce10 T ad _ _) rfl (st := []) rfl (Nat.le_of_ble_eq_true rfl) ⟨Nat.le_refl 0, Nat.le_refl 0⟩ dX12_putName_56 ?_
      rintro _ rfl
      exact fw_vret C hrt Y9 (Option.some.inj h) (fun t ht => ht) dX12_putName_59
    · have h := ite_f c6 h
      refine fw_aload_n C dX12_putName_28 rfl 1 rfl ?_
      refine fw_get C (ci := 10) (Cn := RX12) (Tc := TX12) (N := 19) (j := 0) ly_X12_putName_12 rfl (hG _ (List.mem_of_getElem? (i := 0) rfl)) (of10_0 _) (ce10 T ad _ _) (by decide) (cx_ts C _ fl_X12_putName_13) (fun _ h => h) (v := .ref (ad 10 0 1)) rfl dX12_putName_29 ?_
      refine fw_iload_n C dX12_putName_32 rfl 2 rfl ?_
      refine fw_iconst C dX12_putName_33 (v := 1) rfl ?_
      refine fw_iadd C dX12_putName_34 ?_
      refine fw_iload_n C dX12_putName_35 rfl 0 rfl ?_
      refine fw_iadd C dX12_putName_36 ?_
      refine fw_aload_n C dX12_putName_37 rfl 1 rfl ?_
      refine fw_get C (ci := 10) (Cn := RX12) (Tc := TX12) (N := 19) (j := 16) ly_X12_putName_12 rfl (hG _ (List.mem_of_getElem? (i := 0) rfl)) (of10_0 _) (ce10 T ad _ _) (by decide) (cx_ts C _ fl_X12_putName_60) (fun _ h => h) (v := .int (Y 10 0 0 16)) rfl dX12_putName_38 ?_
      refine fw_isub C dX12_putName_41 ?_
      refine fw_aload_n C dX12_putName_42 rfl 1 rfl ?_
      refine fw_get C (ci := 10) (Cn := RX12) (Tc := TX12) (N := 19) (j := 3) ly_X12_putName_12 rfl (hG _ (List.mem_of_getElem? (i := 0) rfl)) (of10_0 _) (ce10 T ad _ _) (by decide) (cx_ts C _ fl_X12_putName_24) (fun _ h => h) (v := .ref (ad 10 0 3)) rfl dX12_putName_43 ?_
      refine fw_iload_n C dX12_putName_46 rfl 0 rfl ?_
      obtain ⟨b10, h⟩ := gd_some h
      refine fw_iald2 C (hG _ (List.mem_of_getElem? (i := 0) rfl)) (of10_3 _) (ca10_3 T ad _ _) b10 (Nat.le_of_ble_eq_true rfl) dX12_putName_47 ?_
      obtain ⟨b11, h⟩ := gd_some h
      obtain ⟨Y12, e13, h⟩ := lt_some h
      refine fw_iast2 C (hG _ (List.mem_of_getElem? (i := 0) rfl)) (of10_1 _) (ca10_1 T ad _) b11 (Nat.le_of_ble_eq_true rfl) dX12_putName_48 ?_
      refine fw_mem e13 ?_
      refine fw_iinc C dX12_putName_49 (kk := 0) (v := l2 + 1) rfl rfl (by decide) (L' := [(2, .int (l2 + 1)), (0, .ref (ad 10 0 0)), (1, .int a1)]) rfl ?_
      refine fw_goto C dX12_putName_52 (tgt := 20) rfl ?_
      exact ih _ _ h
set_option maxRecDepth 100000 in
set_option maxHeartbeats 4000000 in
theorem w_X12_putName {Y : Mem} {a1 : Int32} (C : Cx p s m [.ref (ad 10 0 0), .int a1].toArray meth c cX12_putName 3 wsX12_putName RX12 N0 T D gr ad) (hrt : meth.sig.returnType = none) (hG : ∀ q ∈ [(10, 0)], q ∈ gr) {res : Mem} (h : X12_putName Y a1 = some res) : FW p l e (Rm 2) s m [.ref (ad 10 0 0), .int a1].toArray below meth c 3 N0 T D gr ad 0 0 (MQ below (va_Qv (fun Y1 => Y1 = res) (WB T D gr ad) (fun q => N0 ≤ q)) [.ref (ad 10 0 0), .int a1].toArray s 0 0 (fun q => N0 ≤ q)) Y 0 [(0, .ref (ad 10 0 0)), (1, .int a1)] [] := by
  unfold X12_putName at h
  refine fw_aload_n C dX12_putName_0 rfl 0 rfl ?_
  refine fw_get C (ci := 10) (Cn := RX12) (Tc := TX12) (N := 19) (j := 0) ly_X12_putName_12 rfl (hG _ (List.mem_of_getElem? (i := 0) rfl)) (of10_0 _) (ce10 T ad _ _) (by decide) (cx_ts C _ fl_X12_putName_13) (fun _ h => h) (v := .ref (ad 10 0 1)) rfl dX12_putName_1 ?_
  refine fw_iload_n C dX12_putName_4 rfl 1 rfl ?_
  refine fw_aload_n C dX12_putName_5 rfl 0 rfl ?_
  refine fw_get C (ci := 10) (Cn := RX12) (Tc := TX12) (N := 19) (j := 14) ly_X12_putName_12 rfl (hG _ (List.mem_of_getElem? (i := 0) rfl)) (of10_0 _) (ce10 T ad _ _) (by decide) (cx_ts C _ fl_X12_putName_54) (fun _ h => h) (v := .int (Y 10 0 0 14)) rfl dX12_putName_6 ?_
  refine fw_aload_n C dX12_putName_9 rfl 0 rfl ?_
  refine fw_get C (ci := 10) (Cn := RX12) (Tc := TX12) (N := 19) (j := 16) ly_X12_putName_12 rfl (hG _ (List.mem_of_getElem? (i := 0) rfl)) (of10_0 _) (ce10 T ad _ _) (by decide) (cx_ts C _ fl_X12_putName_60) (fun _ h => h) (v := .int (Y 10 0 0 16)) rfl dX12_putName_10 ?_
  refine fw_isub C dX12_putName_13 ?_
  obtain ⟨b1, h⟩ := gd_some h
  obtain ⟨Y2, e3, h⟩ := lt_some h
  refine fw_iast2 C (hG _ (List.mem_of_getElem? (i := 0) rfl)) (of10_1 _) (ca10_1 T ad _) b1 (Nat.le_of_ble_eq_true rfl) dX12_putName_14 ?_
  refine fw_mem e3 ?_
  refine fw_aload_n C dX12_putName_15 rfl 0 rfl ?_
  refine fw_get C (ci := 10) (Cn := RX12) (Tc := TX12) (N := 19) (j := 16) ly_X12_putName_12 rfl (hG _ (List.mem_of_getElem? (i := 0) rfl)) (of10_0 _) (ce10 T ad _ _) (by decide) (cx_ts C _ fl_X12_putName_60) (fun _ h => h) (v := .int (Y2 10 0 0 16)) rfl dX12_putName_16 ?_
  obtain ⟨v4, e5, h⟩ := lt_some h
  refine fw_top (v' := .int v4) (by rw [e5]) ?_
  refine fw_istore_n C dX12_putName_19 rfl (by decide) (L' := [(2, .int v4), (0, .ref (ad 10 0 0)), (1, .int a1)]) rfl ?_
  exact w_X12_putName_b20 C hrt hG   _ _ _ h
end
set_option maxRecDepth 100000 in
set_option maxHeartbeats 4000000 in
theorem c_X12_putName {l : Launch} {N0 : Nat} {T : Nat → ClassId} {D : va_G} {gr : List (Nat × Nat)} {ad : Nat → Nat → Nat → Nat} {Y : Mem} {a1 : Int32} {res : Mem} (hG : ∀ q ∈ [(10, 0)], q ∈ gr) (h : X12_putName Y a1 = some res) : CV l yX12_putName wsX12_putName (Rm 2) N0 T D gr ad Y [.ref (ad 10 0 0), .int a1] (fun Y1 => Y1 = res) :=
  fw_body (by decide +kernel) rfl (Nat.le_of_ble_eq_true rfl) (fun p e s m below meth c C hrt => w_X12_putName C hrt hG  h)
theorem ly_X12_parsePan_12 : ∀ w ∈ u_ws RX12 TX12 19, w ∈ wsX12_parsePan := by decide +kernel
theorem fl_X12_parsePan_13 : Cond.fieldLink RX12 13 "RecipeSchedulerModel" "m" "[I" ∈ wsX12_parsePan := by decide +kernel
theorem fl_X12_parsePan_60 : Cond.fieldLink RX12 60 "RecipeSchedulerModel" "from" "I" ∈ wsX12_parsePan := by decide +kernel
theorem fl_X12_parsePan_54 : Cond.fieldLink RX12 54 "RecipeSchedulerModel" "ahead" "I" ∈ wsX12_parsePan := by decide +kernel
noncomputable def X12_parsePan (Y : Mem) : Option (Int32 × Mem) :=
  gd (inb 12 4202) <| if (Y 10 0 1 (ix 12)) = 4 then (bd2 (X12_wrong Y 5) <| fun r32 Y34 => gd (decide (r32 = 0 ∨ r32 = 1)) <| some (r32, Y34)) else (bd1 (X12_token Y) <| fun Y5 => bd2 (X12_isShortWord Y5) <| fun r6 Y8 => if r6 = 0 then (some (0, Y8)) else (bd1 (X12_panNamed Y8 (Y8 10 0 0 16) ((Y8 10 0 0 14) - (Y8 10 0 0 16))) <| fun r10 => if r10 = ((-1)) then (lt_ (14 + ((Y8 10 0 1 (ix 12)) * 8)) <| fun v13 => bd1 (X12_putName Y8 v13) <| fun Y17 => bd2 (X12_parseRanged Y17 (v13 + 7) 1 5) <| fun r18 Y20 => if r18 = 0 then (some (0, Y20)) else (bd2 (X12_semicolon Y20) <| fun r22 Y24 => if r22 = 0 then (some (0, Y24)) else (lt_ (up Y24 10 0 1 (ix 12) ((Y24 10 0 1 (ix 12)) + 1)) <| fun Y26 => some (1, Y26)))) else (bd2 (X12_wrong Y8 3) <| fun r28 Y30 => gd (decide (r28 = 0 ∨ r28 = 1)) <| some (r28, Y30))))
section
variable {p : Program} {l : Launch} {e : Env} {s : State} {m : MethodId} {below : List Frame} {meth : Method} {c : Code} {N0 : Nat} {T : Nat → ClassId} {D : va_G} {gr : List (Nat × Nat)} {ad : Nat → Nat → Nat → Nat}
set_option maxRecDepth 100000 in
set_option maxHeartbeats 4000000 in
theorem w_X12_parsePan {Y : Mem} (C : Cx p s m [.ref (ad 10 0 0)].toArray meth c cX12_parsePan 2 wsX12_parsePan RX12 N0 T D gr ad) (hrt : meth.sig.returnType = (some .boolean)) (hG : ∀ q ∈ [(10, 0)], q ∈ gr) {res : Int32 × Mem} (h : X12_parsePan Y = some res) : FW p l e (Rm 3) s m [.ref (ad 10 0 0)].toArray below meth c 2 N0 T D gr ad 0 0 (MQ below (va_Qi (fun r Y1 => (r, Y1) = res) (WB T D gr ad) (fun q => N0 ≤ q)) [.ref (ad 10 0 0)].toArray s 0 0 (fun q => N0 ≤ q)) Y 0 [(0, .ref (ad 10 0 0))] [] := by
  unfold X12_parsePan at h
  refine fw_aload_n C dX12_parsePan_0 rfl 0 rfl ?_
  refine fw_get C (ci := 10) (Cn := RX12) (Tc := TX12) (N := 19) (j := 0) ly_X12_parsePan_12 rfl (hG _ (List.mem_of_getElem? (i := 0) rfl)) (of10_0 _) (ce10 T ad _ _) (by decide) (cx_ts C _ fl_X12_parsePan_13) (fun _ h => h) (v := .ref (ad 10 0 1)) rfl dX12_parsePan_1 ?_
  refine fw_bipush C dX12_parsePan_4 (v := 12) rfl ?_
  obtain ⟨b1, h⟩ := gd_some h
  refine fw_iald2 C (hG _ (List.mem_of_getElem? (i := 0) rfl)) (of10_1 _) (ca10_1 T ad _ _) b1 (Nat.le_of_ble_eq_true rfl) dX12_parsePan_6 ?_
  refine fw_iconst C dX12_parsePan_7 (v := 4) rfl ?_
  refine fw_icmp_ne C dX12_parsePan_8 (tgt := 17) rfl (fun c2 => ?_) (fun c2 => ?_)
  · have h := ite_f c2 h
    refine fw_aload_n C dX12_parsePan_17 rfl 0 rfl ?_
    obtain ⟨Y5, q4, h⟩ := bd1_some h
    refine fw_callVv C (ci := 10) (Cn := RX12) (Tc := TX12) (N := 19) (As := []) (c_X12_token (gac (hG _ (List.mem_of_getElem? (i := 0) rfl)) ga0) q4) (cwV 0 (cx_ts C) gX12_parsePan_X12_token rfl rfl rfl (by decide +kernel) ⟨Nat.le_of_ble_eq_true rfl, Nat.le_of_ble_eq_true rfl⟩) rfl (hG _ (List.mem_of_getElem? (i := 0) rfl)) (of10_0 _) (ce10 T ad _ _) rfl (st := []) rfl (Nat.le_of_ble_eq_true rfl) ⟨Nat.le_refl 0, Nat.le_refl 0⟩ dX12_parsePan_18 ?_
    rintro _ rfl
    refine fw_aload_n C dX12_parsePan_21 rfl 0 rfl ?_
    obtain ⟨r6, Y8, q7, h⟩ := bd2_some h
    refine fw_callVi C (ci := 10) (Cn := RX12) (Tc := TX12) (N := 19) (As := []) (c_X12_isShortWord (gac (hG _ (List.mem_of_getElem? (i := 0) rfl)) ga0) q7) (cwV 0 (cx_ts C) gX12_parsePan_X12_isShortWord rfl rfl rfl (by decide +kernel) ⟨Nat.le_of_ble_eq_true rfl, Nat.le_of_ble_eq_true rfl⟩) rfl (hG _ (List.mem_of_getElem? (i := 0) rfl)) (of10_0 _) (ce10 T ad _ _) rfl (st := []) rfl (Nat.le_of_ble_eq_true rfl) ⟨Nat.le_refl 0, Nat.le_refl 0⟩ dX12_parsePan_22 ?_
    intro r_ Y_ e_
    obtain ⟨rfl, rfl⟩ := Prod.mk.inj e_
    refine fw_if_ne C dX12_parsePan_25 (tgt := 30) rfl (fun c9 => ?_) (fun c9 => ?_)
    · have h := ite_f c9 h
      refine fw_aload_n C dX12_parsePan_30 rfl 0 rfl ?_
      refine fw_aload_n C dX12_parsePan_31 rfl 0 rfl ?_
      refine fw_get C (ci := 10) (Cn := RX12) (Tc := TX12) (N := 19) (j := 16) ly_X12_parsePan_12 rfl (hG _ (List.mem_of_getElem? (i := 0) rfl)) (of10_0 _) (ce10 T ad _ _) (by decide) (cx_ts C _ fl_X12_parsePan_60) (fun _ h => h) (v := .int (Y8 10 0 0 16)) rfl dX12_parsePan_32 ?_
      refine fw_aload_n C dX12_parsePan_35 rfl 0 rfl ?_
      refine fw_get C (ci := 10) (Cn := RX12) (Tc := TX12) (N := 19) (j := 14) ly_X12_parsePan_12 rfl (hG _ (List.mem_of_getElem? (i := 0) rfl)) (of10_0 _) (ce10 T ad _ _) (by decide) (cx_ts C _ fl_X12_parsePan_54) (fun _ h => h) (v := .int (Y8 10 0 0 14)) rfl dX12_parsePan_36 ?_
      refine fw_aload_n C dX12_parsePan_39 rfl 0 rfl ?_
      refine fw_get C (ci := 10) (Cn := RX12) (Tc := TX12) (N := 19) (j := 16) ly_X12_parsePan_12 rfl (hG _ (List.mem_of_getElem? (i := 0) rfl)) (of10_0 _) (ce10 T ad _ _) (by decide) (cx_ts C _ fl_X12_parsePan_60) (fun _ h => h) (v := .int (Y8 10 0 0 16)) rfl dX12_parsePan_40 ?_
      refine fw_isub C dX12_parsePan_43 ?_
      obtain ⟨r10, q11, h⟩ := bd1_some h
      refine fw_callVi C (ci := 10) (Cn := RX12) (Tc := TX12) (N := 19) (As := [.int (Y8 10 0 0 16), .int ((Y8 10 0 0 14) - (Y8 10 0 0 16))]) (c_X12_panNamed (gac (hG _ (List.mem_of_getElem? (i := 0) rfl)) ga0) q11) (cwV 2 (cx_ts C) gX12_parsePan_X12_panNamed rfl rfl rfl (by decide +kernel) ⟨Nat.le_of_ble_eq_true rfl, Nat.le_of_ble_eq_true rfl⟩) rfl (hG _ (List.mem_of_getElem? (i := 0) rfl)) (of10_0 _) (ce10 T ad _ _) rfl (st := []) rfl (Nat.le_of_ble_eq_true rfl) ⟨Nat.le_refl 0, Nat.le_refl 0⟩ dX12_parsePan_44 ?_
      rintro _ _ ⟨rfl, rfl⟩
      refine fw_iconst C dX12_parsePan_47 (v := (-1)) rfl ?_
      refine fw_icmp_eq C dX12_parsePan_48 (tgt := 57) rfl (fun c12 => ?_) (fun c12 => ?_)
      · have h := ite_t c12 h
        refine fw_bipush C dX12_parsePan_57 (v := 14) rfl ?_
        refine fw_aload_n C dX12_parsePan_59 rfl 0 rfl ?_
        refine fw_get C (ci := 10) (Cn := RX12) (Tc := TX12) (N := 19) (j := 0) ly_X12_parsePan_12 rfl (hG _ (List.mem_of_getElem? (i := 0) rfl)) (of10_0 _) (ce10 T ad _ _) (by decide) (cx_ts C _ fl_X12_parsePan_13) (fun _ h => h) (v := .ref (ad 10 0 1)) rfl dX12_parsePan_60 ?_
        refine fw_bipush C dX12_parsePan_63 (v := 12) rfl ?_
        refine fw_iald2 C (hG _ (List.mem_of_getElem? (i := 0) rfl)) (of10_1 _) (ca10_1 T ad _ _) b1 (Nat.le_of_ble_eq_true rfl) dX12_parsePan_65 ?_
        refine fw_bipush C dX12_parsePan_66 (v := 8) rfl ?_
        refine fw_imul C dX12_parsePan_68 ?_
        refine fw_iadd C dX12_parsePan_69 ?_
        obtain ⟨v13, e14, h⟩ := lt_some h
        refine fw_top (v' := .int v13) (by rw [e14]) ?_
        refine fw_istore_n C dX12_parsePan_70 rfl (by decide) (L' := [(1, .int v13), (0, .ref (ad 10 0 0))]) rfl ?_
        refine fw_aload_n C dX12_parsePan_71 rfl 1 rfl ?_
        refine fw_iload_n C dX12_parsePan_72 rfl 0 rfl ?_
        obtain ⟨Y17, q16, h⟩ := bd1_some h
        refine fw_callVv C (ci := 10) (Cn := RX12) (Tc := TX12) (N := 19) (As := [.int v13]) (c_X12_putName (gac (hG _ (List.mem_of_getElem? (i := 0) rfl)) ga0) q16) (cwV 1 (cx_ts C) gX12_parsePan_X12_putName rfl rfl rfl (by decide +kernel) ⟨Nat.le_of_ble_eq_true rfl, Nat.le_of_ble_eq_true rfl⟩) rfl (hG _ (List.mem_of_getElem? (i := 0) rfl)) (of10_0 _) (ce10 T ad _ _) rfl (st := []) rfl (Nat.le_of_ble_eq_true rfl) ⟨Nat.le_refl 0, Nat.le_refl 0⟩ dX12_parsePan_73 ?_
        rintro _ rfl
        refine fw_aload_n C dX12_parsePan_76 rfl 1 rfl ?_
        refine fw_iload_n C dX12_parsePan_77 rfl 0 rfl ?_
        refine fw_bipush C dX12_parsePan_78 (v := 7) rfl ?_
        refine fw_iadd C dX12_parsePan_80 ?_
        refine fw_iconst C dX12_parsePan_81 (v := 1) rfl ?_
        refine fw_iconst C dX12_parsePan_82 (v := 5) rfl ?_
        obtain ⟨r18, Y20, q19, h⟩ := bd2_some h
        refine fw_callVi C (ci := 10) (Cn := RX12) (Tc := TX12) (N := 19) (As := [.int (v13 + 7), .int 1, .int 5]) (c_X12_parseRanged (gac (hG _ (List.mem_of_getElem? (i := 0) rfl)) ga0) q19) (cwV 3 (cx_ts C) gX12_parsePan_X12_parseRanged rfl rfl rfl (by decide +kernel) ⟨Nat.le_of_ble_eq_true rfl, Nat.le_of_ble_eq_true rfl⟩) rfl (hG _ (List.mem_of_getElem? (i := 0) rfl)) (of10_0 _) (ce10 T ad _ _) rfl (st := []) rfl (Nat.le_of_ble_eq_true rfl) ⟨Nat.le_refl 0, Nat.le_refl 0⟩ dX12_parsePan_83 ?_
        intro r_ Y_ e_
        obtain ⟨rfl, rfl⟩ := Prod.mk.inj e_
        refine fw_if_eq C dX12_parsePan_86 (tgt := 96) rfl (fun c21 => ?_) (fun c21 => ?_)
        · have h := ite_t c21 h
          refine fw_iconst C dX12_parsePan_96 (v := 0) rfl ?_
          exact fw_zret C hrt (by decide) Y20 (Option.some.inj h) (fun t ht => ht) dX12_parsePan_97
        · have h := ite_f c21 h
          refine fw_aload_n C dX12_parsePan_89 rfl 1 rfl ?_
          obtain ⟨r22, Y24, q23, h⟩ := bd2_some h
          refine fw_callVi C (ci := 10) (Cn := RX12) (Tc := TX12) (N := 19) (As := []) (c_X12_semicolon (gac (hG _ (List.mem_of_getElem? (i := 0) rfl)) ga0) q23) (cwV 0 (cx_ts C) gX12_parsePan_X12_semicolon rfl rfl rfl (by decide +kernel) ⟨Nat.le_of_ble_eq_true rfl, Nat.le_of_ble_eq_true rfl⟩) rfl (hG _ (List.mem_of_getElem? (i := 0) rfl)) (of10_0 _) (ce10 T ad _ _) rfl (st := []) rfl (Nat.le_of_ble_eq_true rfl) ⟨Nat.le_refl 0, Nat.le_refl 0⟩ dX12_parsePan_90 ?_
          intro r_ Y_ e_
          obtain ⟨rfl, rfl⟩ := Prod.mk.inj e_
          refine fw_if_ne C dX12_parsePan_93 (tgt := 98) rfl (fun c25 => ?_) (fun c25 => ?_)
          · have h := ite_f c25 h
            refine fw_aload_n C dX12_parsePan_98 rfl 1 rfl ?_
            refine fw_get C (ci := 10) (Cn := RX12) (Tc := TX12) (N := 19) (j := 0) ly_X12_parsePan_12 rfl (hG _ (List.mem_of_getElem? (i := 0) rfl)) (of10_0 _) (ce10 T ad _ _) (by decide) (cx_ts C _ fl_X12_parsePan_13) (fun _ h => h) (v := .ref (ad 10 0 1)) rfl dX12_parsePan_99 ?_
            refine fw_bipush C dX12_parsePan_102 (v := 12) rfl ?_
            refine fw_dup2 C dX12_parsePan_104 rfl rfl ?_
            refine fw_iald2 C (hG _ (List.mem_of_getElem? (i := 0) rfl)) (of10_1 _) (ca10_1 T ad _ _) b1 (Nat.le_of_ble_eq_true rfl) dX12_parsePan_105 ?_
            refine fw_iconst C dX12_parsePan_106 (v := 1) rfl ?_
            refine fw_iadd C dX12_parsePan_107 ?_
            obtain ⟨Y26, e27, h⟩ := lt_some h
            refine fw_iast2 C (hG _ (List.mem_of_getElem? (i := 0) rfl)) (of10_1 _) (ca10_1 T ad _) b1 (Nat.le_of_ble_eq_true rfl) dX12_parsePan_108 ?_
            refine fw_mem e27 ?_
            refine fw_iconst C dX12_parsePan_109 (v := 1) rfl ?_
            exact fw_zret C hrt (by decide) Y26 (Option.some.inj h) (fun t ht => ht) dX12_parsePan_110
          · have h := ite_t c25 h
            refine fw_iconst C dX12_parsePan_96 (v := 0) rfl ?_
            exact fw_zret C hrt (by decide) Y24 (Option.some.inj h) (fun t ht => ht) dX12_parsePan_97
      · have h := ite_f c12 h
        refine fw_aload_n C dX12_parsePan_51 rfl 0 rfl ?_
        refine fw_iconst C dX12_parsePan_52 (v := 3) rfl ?_
        obtain ⟨r28, Y30, q29, h⟩ := bd2_some h
        refine fw_callVi C (ci := 10) (Cn := RX12) (Tc := TX12) (N := 19) (As := [.int 3]) (c_X12_wrong (gac (hG _ (List.mem_of_getElem? (i := 0) rfl)) ga0) q29) (cwV 1 (cx_ts C) gX12_parsePan_X12_wrong rfl rfl rfl (by decide +kernel) ⟨Nat.le_of_ble_eq_true rfl, Nat.le_of_ble_eq_true rfl⟩) rfl (hG _ (List.mem_of_getElem? (i := 0) rfl)) (of10_0 _) (ce10 T ad _ _) rfl (st := []) rfl (Nat.le_of_ble_eq_true rfl) ⟨Nat.le_refl 0, Nat.le_refl 0⟩ dX12_parsePan_53 ?_
        intro r_ Y_ e_
        obtain ⟨rfl, rfl⟩ := Prod.mk.inj e_
        obtain ⟨b31, h⟩ := gd_some h
        exact fw_zret C hrt (of_decide_eq_true b31) Y30 (Option.some.inj h) (fun t ht => ht) dX12_parsePan_56
    · have h := ite_t c9 h
      refine fw_iconst C dX12_parsePan_28 (v := 0) rfl ?_
      exact fw_zret C hrt (by decide) Y8 (Option.some.inj h) (fun t ht => ht) dX12_parsePan_29
  · have h := ite_t c2 h
    refine fw_aload_n C dX12_parsePan_11 rfl 0 rfl ?_
    refine fw_iconst C dX12_parsePan_12 (v := 5) rfl ?_
    obtain ⟨r32, Y34, q33, h⟩ := bd2_some h
    refine fw_callVi C (ci := 10) (Cn := RX12) (Tc := TX12) (N := 19) (As := [.int 5]) (c_X12_wrong (gac (hG _ (List.mem_of_getElem? (i := 0) rfl)) ga0) q33) (cwV 1 (cx_ts C) gX12_parsePan_X12_wrong rfl rfl rfl (by decide +kernel) ⟨Nat.le_of_ble_eq_true rfl, Nat.le_of_ble_eq_true rfl⟩) rfl (hG _ (List.mem_of_getElem? (i := 0) rfl)) (of10_0 _) (ce10 T ad _ _) rfl (st := []) rfl (Nat.le_of_ble_eq_true rfl) ⟨Nat.le_refl 0, Nat.le_refl 0⟩ dX12_parsePan_13 ?_
    intro r_ Y_ e_
    obtain ⟨rfl, rfl⟩ := Prod.mk.inj e_
    obtain ⟨b35, h⟩ := gd_some h
    exact fw_zret C hrt (of_decide_eq_true b35) Y34 (Option.some.inj h) (fun t ht => ht) dX12_parsePan_16
end
set_option maxRecDepth 100000 in
set_option maxHeartbeats 4000000 in
theorem c_X12_parsePan {l : Launch} {N0 : Nat} {T : Nat → ClassId} {D : va_G} {gr : List (Nat × Nat)} {ad : Nat → Nat → Nat → Nat} {Y : Mem} {res : Int32 × Mem} (hG : ∀ q ∈ [(10, 0)], q ∈ gr) (h : X12_parsePan Y = some res) : CI l yX12_parsePan wsX12_parsePan (Rm 3) N0 T D gr ad Y [.ref (ad 10 0 0)] (fun r Y1 => (r, Y1) = res) :=
  fw_body (by decide +kernel) rfl (Nat.le_of_ble_eq_true rfl) (fun p e s m below meth c C hrt => w_X12_parsePan C hrt hG  h)
noncomputable def X12_takes (Y : Mem) (w1 : Nat) : Option (Int32 × Mem) :=
  bd1 (X12_isWord Y w1) <| fun r1 => if r1 = 0 then (some (0, Y)) else (bd1 (X12_token Y) <| fun Y6 => some (1, Y6))
section
variable {p : Program} {l : Launch} {e : Env} {s : State} {m : MethodId} {below : List Frame} {meth : Method} {c : Code} {N0 : Nat} {T : Nat → ClassId} {D : va_G} {gr : List (Nat × Nat)} {ad : Nat → Nat → Nat → Nat}
set_option maxRecDepth 100000 in
set_option maxHeartbeats 4000000 in
theorem w_X12_takes {Y : Mem} {w1 : Nat} (C : Cx p s m [.ref (ad 10 0 0), .ref (ad 21 w1 0)].toArray meth c cX12_takes 2 wsX12_takes RX12 N0 T D gr ad) (hrt : meth.sig.returnType = (some .boolean)) (hG : ∀ q ∈ [(10, 0)], q ∈ gr) {res : Int32 × Mem} (h : X12_takes Y w1 = some res) : FW p l e (Rm 5) s m [.ref (ad 10 0 0), .ref (ad 21 w1 0)].toArray below meth c 2 N0 T D gr ad 0 0 (MQ below (va_Qi (fun r Y1 => (r, Y1) = res) (WB T D gr ad) (fun q => N0 ≤ q)) [.ref (ad 10 0 0), .ref (ad 21 w1 0)].toArray s 0 0 (fun q => N0 ≤ q)) Y 0 [(0, .ref (ad 10 0 0)), (1, .ref (ad 21 w1 0))] [] := by
  unfold X12_takes at h
  refine fw_aload_n C dX12_takes_0 rfl 0 rfl ?_
  refine fw_aload_n C dX12_takes_1 rfl 1 rfl ?_
  obtain ⟨r1, q2, h⟩ := bd1_some h
  refine fw_callVi C (ci := 10) (Cn := RX12) (Tc := TX12) (N := 19) (As := [.ref (ad 21 w1 0)]) (c_X12_isWord (gac (hG _ (List.mem_of_getElem? (i := 0) rfl)) ga0) q2) (cwV 1 (cx_ts C) gX12_takes_X12_isWord rfl rfl rfl (by decide +kernel) ⟨Nat.le_of_ble_eq_true rfl, Nat.le_of_ble_eq_true rfl⟩) rfl (hG _ (List.mem_of_getElem? (i := 0) rfl)) (of10_0 _) (ce10 T ad _ _) rfl (st := []) rfl (Nat.le_of_ble_eq_true rfl) ⟨Nat.le_refl 0, Nat.le_refl 0⟩ dX12_takes_2 ?_
  rintro _ _ ⟨rfl, rfl⟩
  refine fw_if_ne C dX12_takes_5 (tgt := 10) rfl (fun c3 => ?_) (fun c3 => ?_)
  · have h := ite_f c3 h
    refine fw_aload_n C dX12_takes_10 rfl 0 rfl ?_
    obtain ⟨Y6, q5, h⟩ := bd1_some h
    refine fw_callVv C (ci := 10) (Cn := RX12) (Tc := TX12) (N := 19) (As := []) (c_X12_token (gac (hG _ (List.mem_of_getElem? (i := 0) rfl)) ga0) q5) (cwV 0 (cx_ts C) gX12_takes_X12_token rfl rfl rfl (by decide +kernel) ⟨Nat.le_of_ble_eq_true rfl, Nat.le_of_ble_eq_true rfl⟩) rfl (hG _ (List.mem_of_getElem? (i := 0) rfl)) (of10_0 _) (ce10 T ad _ _) rfl (st := []) rfl (Nat.le_of_ble_eq_true rfl) ⟨Nat.le_refl 0, Nat.le_refl 0⟩ dX12_takes_11 ?_
    rintro _ rfl
    refine fw_iconst C dX12_takes_14 (v := 1) rfl ?_
    exact fw_zret C hrt (by decide) Y6 (Option.some.inj h) (fun t ht => ht) dX12_takes_15
  · have h := ite_t c3 h
    refine fw_iconst C dX12_takes_8 (v := 0) rfl ?_
    exact fw_zret C hrt (by decide) Y (Option.some.inj h) (fun t ht => ht) dX12_takes_9
end
set_option maxRecDepth 100000 in
set_option maxHeartbeats 4000000 in
theorem c_X12_takes {l : Launch} {N0 : Nat} {T : Nat → ClassId} {D : va_G} {gr : List (Nat × Nat)} {ad : Nat → Nat → Nat → Nat} {Y : Mem} {w1 : Nat} {res : Int32 × Mem} (hG : ∀ q ∈ [(10, 0)], q ∈ gr) (h : X12_takes Y w1 = some res) : CI l yX12_takes wsX12_takes (Rm 5) N0 T D gr ad Y [.ref (ad 10 0 0), .ref (ad 21 w1 0)] (fun r Y1 => (r, Y1) = res) :=
  fw_body (by decide +kernel) rfl (Nat.le_of_ble_eq_true rfl) (fun p e s m below meth c C hrt => w_X12_takes C hrt hG  h)
theorem ly_X12_parsePanType_12 : ∀ w ∈ u_ws RX12 TX12 19, w ∈ wsX12_parsePanType := by decide +kernel
theorem fl_X12_parsePanType_13 : Cond.fieldLink RX12 13 "RecipeSchedulerModel" "m" "[I" ∈ wsX12_parsePanType := by decide +kernel
theorem fl_X12_parsePanType_60 : Cond.fieldLink RX12 60 "RecipeSchedulerModel" "from" "I" ∈ wsX12_parsePanType := by decide +kernel
theorem fl_X12_parsePanType_54 : Cond.fieldLink RX12 54 "RecipeSchedulerModel" "ahead" "I" ∈ wsX12_parsePanType := by decide +kernel
noncomputable def X12_parsePanType (Y : Mem) (a1 : Int32) : Option (Int32 × Mem) :=
  gd (inb (a1 + 9) 4202) <| lt_ (up Y 10 0 1 (ix (a1 + 9)) ((-1))) <| fun Y2 => bd2 (X12_takes Y2 4) <| fun r4 Y6 => if r4 = 0 then (some (1, Y6)) else (bd2 (X12_isShortWord Y6) <| fun r8 Y10 => if r8 = 0 then (some (0, Y10)) else (bd1 (X12_panNamed Y10 (Y10 10 0 0 16) ((Y10 10 0 0 14) - (Y10 10 0 0 16))) <| fun r12 => lt_ (up Y10 10 0 1 (ix (a1 + 9)) r12) <| fun Y14 => if (Y14 10 0 1 (ix (a1 + 9))) = ((-1)) then (bd2 (X12_wrong Y14 3) <| fun r20 Y22 => gd (decide (r20 = 0 ∨ r20 = 1)) <| some (r20, Y22)) else (bd1 (X12_token Y14) <| fun Y19 => some (1, Y19))))
section
variable {p : Program} {l : Launch} {e : Env} {s : State} {m : MethodId} {below : List Frame} {meth : Method} {c : Code} {N0 : Nat} {T : Nat → ClassId} {D : va_G} {gr : List (Nat × Nat)} {ad : Nat → Nat → Nat → Nat}
set_option maxRecDepth 100000 in
set_option maxHeartbeats 4000000 in
theorem w_X12_parsePanType {Y : Mem} {a1 : Int32} (C : Cx p s m [.ref (ad 10 0 0), .int a1].toArray meth c cX12_parsePanType 2 wsX12_parsePanType RX12 N0 T D gr ad) (hrt : meth.sig.returnType = (some .boolean)) (hG : ∀ q ∈ [(10, 0)], q ∈ gr) {res : Int32 × Mem} (h : X12_parsePanType Y a1 = some res) : FW p l e (Rm 6) s m [.ref (ad 10 0 0), .int a1].toArray below meth c 2 N0 T D gr ad 0 0 (MQ below (va_Qi (fun r Y1 => (r, Y1) = res) (WB T D gr ad) (fun q => N0 ≤ q)) [.ref (ad 10 0 0), .int a1].toArray s 0 0 (fun q => N0 ≤ q)) Y 0 [(0, .ref (ad 10 0 0)), (1, .int a1)] [] := by
  unfold X12_parsePanType at h
  refine fw_aload_n C dX12_parsePanType_0 rfl 0 rfl ?_
  refine fw_get C (ci := 10) (Cn := RX12) (Tc := TX12) (N := 19) (j := 0) ly_X12_parsePanType_12 rfl (hG _ (List.mem_of_getElem? (i := 0) rfl)) (of10_0 _) (ce10 T ad _ _) (by decide) (cx_ts C _ fl_X12_parsePanType_13) (fun _ h => h) (v := .ref (ad 10 0 1)) rfl dX12_parsePanType_1 ?_
  refine fw_iload_n C dX12_parsePanType_4 rfl 1 rfl ?_
  refine fw_bipush C dX12_parsePanType_5 (v := 9) rfl ?_
  refine fw_iadd C dX12_parsePanType_7 ?_
  refine fw_iconst C dX12_parsePanType_8 (v := (-1)) rfl ?_
  obtain ⟨b1, h⟩ := gd_some h
  obtain ⟨Y2, e3, h⟩ := lt_some h
  refine fw_iast2 C (hG _ (List.mem_of_getElem? (i := 0) rfl)) (of10_1 _) (ca10_1 T ad _) b1 (Nat.le_of_ble_eq_true rfl) dX12_parsePanType_9 ?_
  refine fw_mem e3 ?_
  refine fw_aload_n C dX12_parsePanType_10 rfl 0 rfl ?_
  refine fw_ldcS C ((cx_st C).2.1 _ (List.mem_of_getElem? (i := 34) rfl)) dX12_parsePanType_11 ?_
  obtain ⟨r4, Y6, q5, h⟩ := bd2_some h
  refine fw_callVi C (ci := 10) (Cn := RX12) (Tc := TX12) (N := 19) (As := [.ref (ad 21 4 0)]) (c_X12_takes (gac (hG _ (List.mem_of_getElem? (i := 0) rfl)) ga0) q5) (cwV 1 (cx_ts C) gX12_parsePanType_X12_takes rfl rfl rfl (by decide +kernel) ⟨Nat.le_of_ble_eq_true rfl, Nat.le_of_ble_eq_true rfl⟩) rfl (hG _ (List.mem_of_getElem? (i := 0) rfl)) (of10_0 _) (ce10 T ad _ _) rfl (st := []) rfl (Nat.le_of_ble_eq_true rfl) ⟨Nat.le_refl 0, Nat.le_refl 0⟩ dX12_parsePanType_13 ?_
  intro r_ Y_ e_
  obtain ⟨rfl, rfl⟩ := Prod.mk.inj e_
  refine fw_if_ne C dX12_parsePanType_16 (tgt := 21) rfl (fun c7 => ?_) (fun c7 => ?_)
  · have h := ite_f c7 h
    refine fw_aload_n C dX12_parsePanType_21 rfl 0 rfl ?_
    obtain ⟨r8, Y10, q9, h⟩ := bd2_some h
    refine fw_callVi C (ci := 10) (Cn := RX12) (Tc := TX12) (N := 19) (As := []) (c_X12_isShortWord (gac (hG _ (List.mem_of_getElem? (i := 0) rfl)) ga0) q9) (cwV 0 (cx_ts C) gX12_parsePanType_X12_isShortWord rfl rfl rfl (by decide +kernel) ⟨Nat.le_of_ble_eq_true rfl, Nat.le_of_ble_eq_true rfl⟩) rfl (hG _ (List.mem_of_getElem? (i := 0) rfl)) (of10_0 _) (ce10 T ad _ _) rfl (st := []) rfl (Nat.le_of_ble_eq_true rfl) ⟨Nat.le_refl 0, Nat.le_refl 0⟩ dX12_parsePanType_22 ?_
    intro r_ Y_ e_
    obtain ⟨rfl, rfl⟩ := Prod.mk.inj e_
    refine fw_if_ne C dX12_parsePanType_25 (tgt := 30) rfl (fun c11 => ?_) (fun c11 => ?_)
    · have h := ite_f c11 h
      refine fw_aload_n C dX12_parsePanType_30 rfl 0 rfl ?_
      refine fw_get C (ci := 10) (Cn := RX12) (Tc := TX12) (N := 19) (j := 0) ly_X12_parsePanType_12 rfl (hG _ (List.mem_of_getElem? (i := 0) rfl)) (of10_0 _) (ce10 T ad _ _) (by decide) (cx_ts C _ fl_X12_parsePanType_13) (fun _ h => h) (v := .ref (ad 10 0 1)) rfl dX12_parsePanType_31 ?_
      refine fw_iload_n C dX12_parsePanType_34 rfl 1 rfl ?_
      refine fw_bipush C dX12_parsePanType_35 (v := 9) rfl ?_
      refine fw_iadd C dX12_parsePanType_37 ?_
      refine fw_aload_n C dX12_parsePanType_38 rfl 0 rfl ?_
      refine fw_aload_n C dX12_parsePanType_39 rfl 0 rfl ?_
      refine fw_get C (ci := 10) (Cn := RX12) (Tc := TX12) (N := 19) (j := 16) ly_X12_parsePanType_12 rfl (hG _ (List.mem_of_getElem? (i := 0) rfl)) (of10_0 _) (ce10 T ad _ _) (by decide) (cx_ts C _ fl_X12_parsePanType_60) (fun _ h => h) (v := .int (Y10 10 0 0 16)) rfl dX12_parsePanType_40 ?_
      refine fw_aload_n C dX12_parsePanType_43 rfl 0 rfl ?_
      refine fw_get C (ci := 10) (Cn := RX12) (Tc := TX12) (N := 19) (j := 14) ly_X12_parsePanType_12 rfl (hG _ (List.mem_of_getElem? (i := 0) rfl)) (of10_0 _) (ce10 T ad _ _) (by decide) (cx_ts C _ fl_X12_parsePanType_54) (fun _ h => h) (v := .int (Y10 10 0 0 14)) rfl dX12_parsePanType_44 ?_
      refine fw_aload_n C dX12_parsePanType_47 rfl 0 rfl ?_
      refine fw_get C (ci := 10) (Cn := RX12) (Tc := TX12) (N := 19) (j := 16) ly_X12_parsePanType_12 rfl (hG _ (List.mem_of_getElem? (i := 0) rfl)) (of10_0 _) (ce10 T ad _ _) (by decide) (cx_ts C _ fl_X12_parsePanType_60) (fun _ h => h) (v := .int (Y10 10 0 0 16)) rfl dX12_parsePanType_48 ?_
      refine fw_isub C dX12_parsePanType_51 ?_
      obtain ⟨r12, q13, h⟩ := bd1_some h
      refine fw_callVi C (ci := 10) (Cn := RX12) (Tc := TX12) (N := 19) (As := [.int (Y10 10 0 0 16), .int ((Y10 10 0 0 14) - (Y10 10 0 0 16))]) (c_X12_panNamed (gac (hG _ (List.mem_of_getElem? (i := 0) rfl)) ga0) q13) (cwV 2 (cx_ts C) gX12_parsePanType_X12_panNamed rfl rfl rfl (by decide +kernel) ⟨Nat.le_of_ble_eq_true rfl, Nat.le_of_ble_eq_true rfl⟩) rfl (hG _ (List.mem_of_getElem? (i := 0) rfl)) (of10_0 _) (ce10 T ad _ _) rfl (st := [.int (a1 + 9), .ref (ad 10 0 1)]) rfl (Nat.le_of_ble_eq_true rfl) ⟨Nat.le_refl 0, Nat.le_refl 0⟩ dX12_parsePanType_52 ?_
      rintro _ _ ⟨rfl, rfl⟩
      obtain ⟨Y14, e15, h⟩ := lt_some h
      refine fw_iast2 C (hG _ (List.mem_of_getElem? (i := 0) rfl)) (of10_1 _) (ca10_1 T ad _) b1 (Nat.le_of_ble_eq_true rfl) dX12_parsePanType_55 ?_
      refine fw_mem e15 ?_
      refine fw_aload_n C dX12_parsePanType_56 rfl 0 rfl ?_
      refine fw_get C (ci := 10) (Cn := RX12) (Tc := TX12) (N := 19) (j := 0) ly_X12_parsePanType_12 rfl (hG _ (List.mem_of_getElem? (i := 0) rfl)) (of10_0 _) (ce10 T ad _ _) (by decide) (cx_ts C _ fl_X12_parsePanType_13) (fun _ h => h) (v := .ref (ad 10 0 1)) rfl dX12_parsePanType_57 ?_
      refine fw_iload_n C dX12_parsePanType_60 rfl 1 rfl ?_
      refine fw_bipush C dX12_parsePanType_61 (v := 9) rfl ?_
      refine fw_iadd C dX12_parsePanType_63 ?_
      refine fw_iald2 C (hG _ (List.mem_of_getElem? (i := 0) rfl)) (of10_1 _) (ca10_1 T ad _ _) b1 (Nat.le_of_ble_eq_true rfl) dX12_parsePanType_64 ?_
      refine fw_iconst C dX12_parsePanType_65 (v := (-1)) rfl ?_
      refine fw_icmp_ne C dX12_parsePanType_66 (tgt := 75) rfl (fun c16 => ?_) (fun c16 => ?_)
      · have h := ite_f c16 h
        refine fw_aload_n C dX12_parsePanType_75 rfl 0 rfl ?_
        obtain ⟨Y19, q18, h⟩ := bd1_some h
        refine fw_callVv C (ci := 10) (Cn := RX12) (Tc := TX12) (N := 19) (As := []) (c_X12_token (gac (hG _ (List.mem_of_getElem? (i := 0) rfl)) ga0) q18) (cwV 0 (cx_ts C) gX12_parsePanType_X12_token rfl rfl rfl (by decide +kernel) ⟨Nat.le_of_ble_eq_true rfl, Nat.le_of_ble_eq_true rfl⟩) rfl (hG _ (List.mem_of_getElem? (i := 0) rfl)) (of10_0 _) (ce10 T ad _ _) rfl (st := []) rfl (Nat.le_of_ble_eq_true rfl) ⟨Nat.le_refl 0, Nat.le_refl 0⟩ dX12_parsePanType_76 ?_
        rintro _ rfl
        refine fw_iconst C dX12_parsePanType_79 (v := 1) rfl ?_
        exact fw_zret C hrt (by decide) Y19 (Option.some.inj h) (fun t ht => ht) dX12_parsePanType_80
      · have h := ite_t c16 h
        refine fw_aload_n C dX12_parsePanType_69 rfl 0 rfl ?_
        refine fw_iconst C dX12_parsePanType_70 (v := 3) rfl ?_
        obtain ⟨r20, Y22, q21, h⟩ := bd2_some h
        refine fw_callVi C (ci := 10) (Cn := RX12) (Tc := TX12) (N := 19) (As := [.int 3]) (c_X12_wrong (gac (hG _ (List.mem_of_getElem? (i := 0) rfl)) ga0) q21) (cwV 1 (cx_ts C) gX12_parsePanType_X12_wrong rfl rfl rfl (by decide +kernel) ⟨Nat.le_of_ble_eq_true rfl, Nat.le_of_ble_eq_true rfl⟩) rfl (hG _ (List.mem_of_getElem? (i := 0) rfl)) (of10_0 _) (ce10 T ad _ _) rfl (st := []) rfl (Nat.le_of_ble_eq_true rfl) ⟨Nat.le_refl 0, Nat.le_refl 0⟩ dX12_parsePanType_71 ?_
        intro r_ Y_ e_
        obtain ⟨rfl, rfl⟩ := Prod.mk.inj e_
        obtain ⟨b23, h⟩ := gd_some h
        exact fw_zret C hrt (of_decide_eq_true b23) Y22 (Option.some.inj h) (fun t ht => ht) dX12_parsePanType_74
    · have h := ite_t c11 h
      refine fw_iconst C dX12_parsePanType_28 (v := 0) rfl ?_
      exact fw_zret C hrt (by decide) Y10 (Option.some.inj h) (fun t ht => ht) dX12_parsePanType_29
  · have h := ite_t c7 h
    refine fw_iconst C dX12_parsePanType_19 (v := 1) rfl ?_
    exact fw_zret C hrt (by decide) Y6 (Option.some.inj h) (fun t ht => ht) dX12_parsePanType_20
end
set_option maxRecDepth 100000 in
set_option maxHeartbeats 4000000 in
theorem c_X12_parsePanType {l : Launch} {N0 : Nat} {T : Nat → ClassId} {D : va_G} {gr : List (Nat × Nat)} {ad : Nat → Nat → Nat → Nat} {Y : Mem} {a1 : Int32} {res : Int32 × Mem} (hG : ∀ q ∈ [(10, 0)], q ∈ gr) (h : X12_parsePanType Y a1 = some res) : CI l yX12_parsePanType wsX12_parsePanType (Rm 6) N0 T D gr ad Y [.ref (ad 10 0 0), .int a1] (fun r Y1 => (r, Y1) = res) :=
  fw_body (by decide +kernel) rfl (Nat.le_of_ble_eq_true rfl) (fun p e s m below meth c C hrt => w_X12_parsePanType C hrt hG  h)
theorem ly_X12_parsePredecessor_12 : ∀ w ∈ u_ws RX12 TX12 19, w ∈ wsX12_parsePredecessor := by decide +kernel
theorem fl_X12_parsePredecessor_60 : Cond.fieldLink RX12 60 "RecipeSchedulerModel" "from" "I" ∈ wsX12_parsePredecessor := by decide +kernel
theorem fl_X12_parsePredecessor_54 : Cond.fieldLink RX12 54 "RecipeSchedulerModel" "ahead" "I" ∈ wsX12_parsePredecessor := by decide +kernel
theorem fl_X12_parsePredecessor_13 : Cond.fieldLink RX12 13 "RecipeSchedulerModel" "m" "[I" ∈ wsX12_parsePredecessor := by decide +kernel
noncomputable def X12_parsePredecessor_b40 (a1 : Int32) : Nat → Mem → Int32 → Int32 → Option (Int32 × Mem)
  | 0, _, _, _ => none
  | n+1, Y, l3, l2 =>
  gd (inb (a1 + 12) 4202) <| if (Y 10 0 1 (ix (a1 + 12))) ≤ l3 then (if (Y 10 0 1 (ix (a1 + 12))) = 4 then (bd2 (X12_wrong Y 5) <| fun r19 Y21 => gd (decide (r19 = 0 ∨ r19 = 1)) <| some (r19, Y21)) else (gd (inb ((a1 + 13) + (Y 10 0 1 (ix (a1 + 12)))) 4202) <| lt_ (up Y 10 0 1 (ix ((a1 + 13) + (Y 10 0 1 (ix (a1 + 12))))) l2) <| fun Y12 => lt_ (up Y12 10 0 1 (ix (a1 + 12)) ((Y12 10 0 1 (ix (a1 + 12))) + 1)) <| fun Y14 => bd1 (X12_token Y14) <| fun Y18 => some (1, Y18))) else (gd (inb ((a1 + 13) + l3) 4202) <| if (Y 10 0 1 (ix ((a1 + 13) + l3))) = l2 then (bd2 (X12_wrong Y 4) <| fun r25 Y27 => gd (decide (r25 = 0 ∨ r25 = 1)) <| some (r25, Y27)) else (X12_parsePredecessor_b40 a1 n Y (l3 + 1) l2))
noncomputable def X12_parsePredecessor (Y : Mem) (a1 : Int32) : Option (Int32 × Mem) :=
  bd2 (X12_isShortWord Y) <| fun r1 Y3 => if r1 = 0 then (some (0, Y3)) else (bd1 (X12_stepNamed Y3 (Y3 10 0 0 16) ((Y3 10 0 0 14) - (Y3 10 0 0 16))) <| fun r5 => if r5 = ((-1)) then (bd2 (X12_wrong Y3 3) <| fun r29 Y31 => gd (decide (r29 = 0 ∨ r29 = 1)) <| some (r29, Y31)) else (X12_parsePredecessor_b40 a1 FU Y3 0 r5))
section
variable {p : Program} {l : Launch} {e : Env} {s : State} {m : MethodId} {below : List Frame} {meth : Method} {c : Code} {N0 : Nat} {T : Nat → ClassId} {D : va_G} {gr : List (Nat × Nat)} {ad : Nat → Nat → Nat → Nat}
set_option maxRecDepth 100000 in
set_option maxHeartbeats 4000000 in
theorem w_X12_parsePredecessor_b40 {a1 : Int32} (C : Cx p s m [.ref (ad 10 0 0), .int a1].toArray meth c cX12_parsePredecessor 4 wsX12_parsePredecessor RX12 N0 T D gr ad) (hrt : meth.sig.returnType = (some .boolean)) (hG : ∀ q ∈ [(10, 0)], q ∈ gr) {res : Int32 × Mem} : ∀ (n : Nat) (Y : Mem) (l3 : Int32) (l2 : Int32), X12_parsePredecessor_b40 a1  n Y l3 l2 = some res → FW p l e (Rm 2) s m [.ref (ad 10 0 0), .int a1].toArray below meth c 4 N0 T D gr ad 0 0 (MQ below (va_Qi (fun r Y1 => (r, Y1) = res) (WB T D gr ad) (fun q => N0 ≤ q)) [.ref (ad 10 0 0), .int a1].toArray s 0 0 (fun q => N0 ≤ q)) Y 40 [(3, .int l3), (2, .int l2), (0, .ref (ad 10 0 0)), (1, .int a1)] [] := by
  intro n
  induction n with
  | zero =>
    intro Y l3 l2 h
    unfold X12_parsePredecessor_b40 at h
    cases h
  | succ n ih =>
    intro Y l3 l2 h
    unfold X12_parsePredecessor_b40 at h
    refine fw_iload_n C dX12_parsePredecessor_40 rfl 0 rfl ?_
    refine fw_aload_n C dX12_parsePredecessor_41 rfl 2 rfl ?_
    refine fw_get C (ci := 10) (Cn := RX12) (Tc := TX12) (N := 19) (j := 0) ly_X12_parsePredecessor_12 rfl (hG _ (List.mem_of_getElem? (i := 0) rfl)) (of10_0 _) (ce10 T ad _ _) (by decide) (cx_ts C _ fl_X12_parsePredecessor_13) (fun _ h => h) (v := .ref (ad 10 0 1)) rfl dX12_parsePredecessor_42 ?_
    refine fw_iload_n C dX12_parsePredecessor_45 rfl 3 rfl ?_
    refine fw_bipush C dX12_parsePredecessor_46 (v := 12) rfl ?_
    refine fw_iadd C dX12_parsePredecessor_48 ?_
    obtain ⟨b8, h⟩ := gd_some h
    refine fw_iald2 C (hG _ (List.mem_of_getElem? (i := 0) rfl)) (of10_1 _) (ca10_1 T ad _ _) b8 (Nat.le_of_ble_eq_true rfl) dX12_parsePredecessor_49 ?_
    refine fw_icmp_ge C dX12_parsePredecessor_50 (tgt := 80) rfl (fun c9 => ?_) (fun c9 => ?_)
    · have h := ite_t c9 h
      refine fw_aload_n C dX12_parsePredecessor_80 rfl 2 rfl ?_
      refine fw_get C (ci := 10) (Cn := RX12) (Tc := TX12) (N := 19) (j := 0) ly_X12_parsePredecessor_12 rfl (hG _ (List.mem_of_getElem? (i := 0) rfl)) (of10_0 _) (ce10 T ad _ _) (by decide) (cx_ts C _ fl_X12_parsePredecessor_13) (fun _ h => h) (v := .ref (ad 10 0 1)) rfl dX12_parsePredecessor_81 ?_
      refine fw_iload_n C dX12_parsePredecessor_84 rfl 3 rfl ?_
      refine fw_bipush C dX12_parsePredecessor_85 (v := 12) rfl ?_
      refine fw_iadd C dX12_parsePredecessor_87 ?_
      refine fw_iald2 C (hG _ (List.mem_of_getElem? (i := 0) rfl)) (of10_1 _) (ca10_1 T ad _ _) b8 (Nat.le_of_ble_eq_true rfl) dX12_parsePredecessor_88 ?_
      refine fw_iconst C dX12_parsePredecessor_89 (v := 4) rfl ?_
      refine fw_icmp_ne C dX12_parsePredecessor_90 (tgt := 99) rfl (fun c10 => ?_) (fun c10 => ?_)
      · have h := ite_f c10 h
        refine fw_aload_n C dX12_parsePredecessor_99 rfl 2 rfl ?_
        refine fw_get C (ci := 10) (Cn := RX12) (Tc := TX12) (N := 19) (j := 0) ly_X12_parsePredecessor_12 rfl (hG _ (List.mem_of_getElem? (i := 0) rfl)) (of10_0 _) (ce10 T ad _ _) (by decide) (cx_ts C _ fl_X12_parsePredecessor_13) (fun _ h => h) (v := .ref (ad 10 0 1)) rfl dX12_parsePredecessor_100 ?_
        refine fw_iload_n C dX12_parsePredecessor_103 rfl 3 rfl ?_
        refine fw_bipush C dX12_parsePredecessor_104 (v := 13) rfl ?_
        refine fw_iadd C dX12_parsePredecessor_106 ?_
        refine fw_aload_n C dX12_parsePredecessor_107 rfl 2 rfl ?_
        refine fw_get C (ci := 10) (Cn := RX12) (Tc := TX12) (N := 19) (j := 0) ly_X12_parsePredecessor_12 rfl (hG _ (List.mem_of_getElem? (i := 0) rfl)) (of10_0 _) (ce10 T ad _ _) (by decide) (cx_ts C _ fl_X12_parsePredecessor_13) (fun _ h => h) (v := .ref (ad 10 0 1)) rfl dX12_parsePredecessor_108 ?_
        refine fw_iload_n C dX12_parsePredecessor_111 rfl 3 rfl ?_
        refine fw_bipush C dX12_parsePredecessor_112 (v := 12) rfl ?_
        refine fw_iadd C dX12_parsePredecessor_114 ?_
        refine fw_iald2 C (hG _ (List.mem_of_getElem? (i := 0) rfl)) (of10_1 _) (ca10_1 T ad _ _) b8 (Nat.le_of_ble_eq_true rfl) dX12_parsePredecessor_115 ?_
        refine fw_iadd C dX12_parsePredecessor_116 ?_
        refine fw_iload_n C dX12_parsePredecessor_117 rfl 1 rfl ?_
        obtain ⟨b11, h⟩ := gd_some h
        obtain ⟨Y12, e13, h⟩ := lt_some h
        refine fw_iast2 C (hG _ (List.mem_of_getElem? (i := 0) rfl)) (of10_1 _) (ca10_1 T ad _) b11 (Nat.le_of_ble_eq_true rfl) dX12_parsePredecessor_118 ?_
        refine fw_mem e13 ?_
        refine fw_aload_n C dX12_parsePredecessor_119 rfl 2 rfl ?_
        refine fw_get C (ci := 10) (Cn := RX12) (Tc := TX12) (N := 19) (j := 0) ly_X12_parsePredecessor_12 rfl (hG _ (List.mem_of_getElem? (i := 0) rfl)) (of10_0 _) (ce10 T ad _ _) (by decide) (cx_ts C _ fl_X12_parsePredecessor_13) (fun _ h => h) (v := .ref (ad 10 0 1)) rfl dX12_parsePredecessor_120 ?_
        refine fw_iload_n C dX12_parsePredecessor_123 rfl 3 rfl ?_
        refine fw_bipush C dX12_parsePredecessor_124 (v := 12) rfl ?_
        refine fw_iadd C dX12_parsePredecessor_126 ?_
        refine fw_dup2 C dX12_parsePredecessor_127 rfl rfl ?_
        refine fw_iald2 C (hG _ (List.mem_of_getElem? (i := 0) rfl)) (of10_1 _) (ca10_1 T ad _ _) b8 (Nat.le_of_ble_eq_true rfl) dX12_parsePredecessor_128 ?_
        refine fw_iconst C dX12_parsePredecessor_129 (v := 1) rfl ?_
        refine fw_iadd C dX12_parsePredecessor_130 ?_
        obtain ⟨Y14, e15, h⟩ := lt_some h
        refine fw_iast2 C (hG _ (List.mem_of_getElem? (i := 0) rfl)) (of10_1 _) (ca10_1 T ad _) b8 (Nat.le_of_ble_eq_true rfl) dX12_parsePredecessor_131 ?_
        refine fw_mem e15 ?_
        refine fw_aload_n C dX12_parsePredecessor_132 rfl 2 rfl ?_
        obtain ⟨Y18, q17, h⟩ := bd1_some h
        refine fw_callVv C (ci := 10) (Cn := RX12) (Tc := TX12) (N := 19) (As := []) (c_X12_token (gac (hG _ (List.mem_of_getElem? (i := 0) rfl)) ga0) q17) (cwV 0 (cx_ts C) gX12_parsePredecessor_X12_token rfl rfl rfl (by decide +kernel) ⟨Nat.le_of_ble_eq_true rfl, Nat.le_of_ble_eq_true rfl⟩) rfl (hG _ (List.mem_of_getElem? (i := 0) rfl)) (of10_0 _) (ce10 T ad _ _) rfl (st := []) rfl (Nat.le_of_ble_eq_true rfl) ⟨Nat.le_refl 0, Nat.le_refl 0⟩ dX12_parsePredecessor_133 ?_
        rintro _ rfl
        refine fw_iconst C dX12_parsePredecessor_136 (v := 1) rfl ?_
        exact fw_zret C hrt (by decide) Y18 (Option.some.inj h) (fun t ht => ht) dX12_parsePredecessor_137
      · have h := ite_t c10 h
        refine fw_aload_n C dX12_parsePredecessor_93 rfl 2 rfl ?_
        refine fw_iconst C dX12_parsePredecessor_94 (v := 5) rfl ?_
        obtain ⟨r19, Y21, q20, h⟩ := bd2_some h
        refine fw_callVi C (ci := 10) (Cn := RX12) (Tc := TX12) (N := 19) (As := [.int 5]) (c_X12_wrong (gac (hG _ (List.mem_of_getElem? (i := 0) rfl)) ga0) q20) (cwV 1 (cx_ts C) gX12_parsePredecessor_X12_wrong rfl rfl rfl (by decide +kernel) ⟨Nat.le_of_ble_eq_true rfl, Nat.le_of_ble_eq_true rfl⟩) rfl (hG _ (List.mem_of_getElem? (i := 0) rfl)) (of10_0 _) (ce10 T ad _ _) rfl (st := []) rfl (Nat.le_of_ble_eq_true rfl) ⟨Nat.le_refl 0, Nat.le_refl 0⟩ dX12_parsePredecessor_95 ?_
        intro r_ Y_ e_
        obtain ⟨rfl, rfl⟩ := Prod.mk.inj e_
        obtain ⟨b22, h⟩ := gd_some h
        exact fw_zret C hrt (of_decide_eq_true b22) Y21 (Option.some.inj h) (fun t ht => ht) dX12_parsePredecessor_98
    · have h := ite_f c9 h
      refine fw_aload_n C dX12_parsePredecessor_53 rfl 2 rfl ?_
      refine fw_get C (ci := 10) (Cn := RX12) (Tc := TX12) (N := 19) (j := 0) ly_X12_parsePredecessor_12 rfl (hG _ (List.mem_of_getElem? (i := 0) rfl)) (of10_0 _) (ce10 T ad _ _) (by decide) (cx_ts C _ fl_X12_parsePredecessor_13) (fun _ h => h) (v := .ref (ad 10 0 1)) rfl dX12_parsePredecessor_54 ?_
      refine fw_iload_n C dX12_parsePredecessor_57 rfl 3 rfl ?_
      refine fw_bipush C dX12_parsePredecessor_58 (v := 13) rfl ?_
      refine fw_iadd C dX12_parsePredecessor_60 ?_
      refine fw_iload_n C dX12_parsePredecessor_61 rfl 0 rfl ?_
      refine fw_iadd C dX12_parsePredecessor_62 ?_
      obtain ⟨b23, h⟩ := gd_some h
      refine fw_iald2 C (hG _ (List.mem_of_getElem? (i := 0) rfl)) (of10_1 _) (ca10_1 T ad _ _) b23 (Nat.le_of_ble_eq_true rfl) dX12_parsePredecessor_63 ?_
      refine fw_iload_n C dX12_parsePredecessor_64 rfl 1 rfl ?_
      refine fw_icmp_ne C dX12_parsePredecessor_65 (tgt := 74) rfl (fun c24 => ?_) (fun c24 => ?_)
      · have h := ite_f c24 h
        refine fw_iinc C dX12_parsePredecessor_74 (kk := 0) (v := l3 + 1) rfl rfl (by decide) (L' := [(3, .int (l3 + 1)), (2, .int l2), (0, .ref (ad 10 0 0)), (1, .int a1)]) rfl ?_
        refine fw_goto C dX12_parsePredecessor_77 (tgt := 40) rfl ?_
        exact ih _ _ _ h
      · have h := ite_t c24 h
        refine fw_aload_n C dX12_parsePredecessor_68 rfl 2 rfl ?_
        refine fw_iconst C dX12_parsePredecessor_69 (v := 4) rfl ?_
        obtain ⟨r25, Y27, q26, h⟩ := bd2_some h
        refine fw_callVi C (ci := 10) (Cn := RX12) (Tc := TX12) (N := 19) (As := [.int 4]) (c_X12_wrong (gac (hG _ (List.mem_of_getElem? (i := 0) rfl)) ga0) q26) (cwV 1 (cx_ts C) gX12_parsePredecessor_X12_wrong rfl rfl rfl (by decide +kernel) ⟨Nat.le_of_ble_eq_true rfl, Nat.le_of_ble_eq_true rfl⟩) rfl (hG _ (List.mem_of_getElem? (i := 0) rfl)) (of10_0 _) (ce10 T ad _ _) rfl (st := []) rfl (Nat.le_of_ble_eq_true rfl) ⟨Nat.le_refl 0, Nat.le_refl 0⟩ dX12_parsePredecessor_70 ?_
        intro r_ Y_ e_
        obtain ⟨rfl, rfl⟩ := Prod.mk.inj e_
        obtain ⟨b28, h⟩ := gd_some h
        exact fw_zret C hrt (of_decide_eq_true b28) Y27 (Option.some.inj h) (fun t ht => ht) dX12_parsePredecessor_73
set_option maxRecDepth 100000 in
set_option maxHeartbeats 4000000 in
theorem w_X12_parsePredecessor {Y : Mem} {a1 : Int32} (C : Cx p s m [.ref (ad 10 0 0), .int a1].toArray meth c cX12_parsePredecessor 4 wsX12_parsePredecessor RX12 N0 T D gr ad) (hrt : meth.sig.returnType = (some .boolean)) (hG : ∀ q ∈ [(10, 0)], q ∈ gr) {res : Int32 × Mem} (h : X12_parsePredecessor Y a1 = some res) : FW p l e (Rm 2) s m [.ref (ad 10 0 0), .int a1].toArray below meth c 4 N0 T D gr ad 0 0 (MQ below (va_Qi (fun r Y1 => (r, Y1) = res) (WB T D gr ad) (fun q => N0 ≤ q)) [.ref (ad 10 0 0), .int a1].toArray s 0 0 (fun q => N0 ≤ q)) Y 0 [(0, .ref (ad 10 0 0)), (1, .int a1)] [] := by
  unfold X12_parsePredecessor at h
  refine fw_aload_n C dX12_parsePredecessor_0 rfl 0 rfl ?_
  obtain ⟨r1, Y3, q2, h⟩ := bd2_some h
  refine fw_callVi C (ci := 10) (Cn := RX12) (Tc := TX12) (N := 19) (As := []) (c_X12_isShortWord (gac (hG _ (List.mem_of_getElem? (i := 0) rfl)) ga0) q2) (cwV 0 (cx_ts C) gX12_parsePredecessor_X12_isShortWord rfl rfl rfl (by decide +kernel) ⟨Nat.le_of_ble_eq_true rfl, Nat.le_of_ble_eq_true rfl⟩) rfl (hG _ (List.mem_of_getElem? (i := 0) rfl)) (of10_0 _) (ce10 T ad _ _) rfl (st := []) rfl (Nat.le_of_ble_eq_true rfl) ⟨Nat.le_refl 0, Nat.le_refl 0⟩ dX12_parsePredecessor_1 ?_
  intro r_ Y_ e_
  obtain ⟨rfl, rfl⟩ := Prod.mk.inj e_
  refine fw_if_ne C dX12_parsePredecessor_4 (tgt := 9) rfl (fun c4 => ?_) (fun c4 => ?_)
  · have h := ite_f c4 h
    refine fw_aload_n C dX12_parsePredecessor_9 rfl 0 rfl ?_
    refine fw_aload_n C dX12_parsePredecessor_10 rfl 0 rfl ?_
    refine fw_get C (ci := 10) (Cn := RX12) (Tc := TX12) (N := 19) (j := 16) ly_X12_parsePredecessor_12 rfl (hG _ (List.mem_of_getElem? (i := 0) rfl)) (of10_0 _) (ce10 T ad _ _) (by decide) (cx_ts C _ fl_X12_parsePredecessor_60) (fun _ h => h) (v := .int (Y3 10 0 0 16)) rfl dX12_parsePredecessor_11 ?_
    refine fw_aload_n C dX12_parsePredecessor_14 rfl 0 rfl ?_
    refine fw_get C (ci := 10) (Cn := RX12) (Tc := TX12) (N := 19) (j := 14) ly_X12_parsePredecessor_12 rfl (hG _ (List.mem_of_getElem? (i := 0) rfl)) (of10_0 _) (ce10 T ad _ _) (by decide) (cx_ts C _ fl_X12_parsePredecessor_54) (fun _ h => h) (v := .int (Y3 10 0 0 14)) rfl dX12_parsePredecessor_15 ?_
    refine fw_aload_n C dX12_parsePredecessor_18 rfl 0 rfl ?_
    refine fw_get C (ci := 10) (Cn := RX12) (Tc := TX12) (N := 19) (j := 16) ly_X12_parsePredecessor_12 rfl (hG _ (List.mem_of_getElem? (i := 0) rfl)) (of10_0 _) (ce10 T ad _ _) (by decide) (cx_ts C _ fl_X12_parsePredecessor_60) (fun _ h => h) (v := .int (Y3 10 0 0 16)) rfl dX12_parsePredecessor_19 ?_
    refine fw_isub C dX12_parsePredecessor_22 ?_
    obtain ⟨r5, q6, h⟩ := bd1_some h
    refine fw_callVi C (ci := 10) (Cn := RX12) (Tc := TX12) (N := 19) (As := [.int (Y3 10 0 0 16), .int ((Y3 10 0 0 14) - (Y3 10 0 0 16))]) (c_X12_stepNamed (gac (hG _ (List.mem_of_getElem? (i := 0) rfl)) ga0) q6) (cwV 2 (cx_ts C) gX12_parsePredecessor_X12_stepNamed rfl rfl rfl (by decide +kernel) ⟨Nat.le_of_ble_eq_true rfl, Nat.le_of_ble_eq_true rfl⟩) rfl (hG _ (List.mem_of_getElem? (i := 0) rfl)) (of10_0 _) (ce10 T ad _ _) rfl (st := []) rfl (Nat.le_of_ble_eq_true rfl) ⟨Nat.le_refl 0, Nat.le_refl 0⟩ dX12_parsePredecessor_23 ?_
    rintro _ _ ⟨rfl, rfl⟩
    refine fw_istore_n C dX12_parsePredecessor_26 rfl (by decide) (L' := [(2, .int r5), (0, .ref (ad 10 0 0)), (1, .int a1)]) rfl ?_
    refine fw_iload_n C dX12_parsePredecessor_27 rfl 0 rfl ?_
    refine fw_iconst C dX12_parsePredecessor_28 (v := (-1)) rfl ?_
    refine fw_icmp_ne C dX12_parsePredecessor_29 (tgt := 38) rfl (fun c7 => ?_) (fun c7 => ?_)
    · have h := ite_f c7 h
      refine fw_iconst C dX12_parsePredecessor_38 (v := 0) rfl ?_
      refine fw_istore_n C dX12_parsePredecessor_39 rfl (by decide) (L' := [(3, .int 0), (2, .int r5), (0, .ref (ad 10 0 0)), (1, .int a1)]) rfl ?_
      exact w_X12_parsePredecessor_b40 C hrt hG   _ _ _ _ h
    · have h := ite_t c7 h
      refine fw_aload_n C dX12_parsePredecessor_32 rfl 1 rfl ?_
      refine fw_iconst C dX12_parsePredecessor_33 (v := 3) rfl ?_
      obtain ⟨r29, Y31, q30, h⟩ := bd2_some h
      refine fw_callVi C (ci := 10) (Cn := RX12) (Tc := TX12) (N := 19) (As := [.int 3]) (c_X12_wrong (gac (hG _ (List.mem_of_getElem? (i := 0) rfl)) ga0) q30) (cwV 1 (cx_ts C) gX12_parsePredecessor_X12_wrong rfl rfl rfl (by decide +kernel) ⟨Nat.le_of_ble_eq_true rfl, Nat.le_of_ble_eq_true rfl⟩) rfl (hG _ (List.mem_of_getElem? (i := 0) rfl)) (of10_0 _) (ce10 T ad _ _) rfl (st := []) rfl (Nat.le_of_ble_eq_true rfl) ⟨Nat.le_refl 0, Nat.le_refl 0⟩ dX12_parsePredecessor_34 ?_
      intro r_ Y_ e_
      obtain ⟨rfl, rfl⟩ := Prod.mk.inj e_
      obtain ⟨b32, h⟩ := gd_some h
      exact fw_zret C hrt (of_decide_eq_true b32) Y31 (Option.some.inj h) (fun t ht => ht) dX12_parsePredecessor_37
  · have h := ite_t c4 h
    refine fw_iconst C dX12_parsePredecessor_7 (v := 0) rfl ?_
    exact fw_zret C hrt (by decide) Y3 (Option.some.inj h) (fun t ht => ht) dX12_parsePredecessor_8
end
set_option maxRecDepth 100000 in
set_option maxHeartbeats 4000000 in
theorem c_X12_parsePredecessor {l : Launch} {N0 : Nat} {T : Nat → ClassId} {D : va_G} {gr : List (Nat × Nat)} {ad : Nat → Nat → Nat → Nat} {Y : Mem} {a1 : Int32} {res : Int32 × Mem} (hG : ∀ q ∈ [(10, 0)], q ∈ gr) (h : X12_parsePredecessor Y a1 = some res) : CI l yX12_parsePredecessor wsX12_parsePredecessor (Rm 2) N0 T D gr ad Y [.ref (ad 10 0 0), .int a1] (fun r Y1 => (r, Y1) = res) :=
  fw_body (by decide +kernel) rfl (Nat.le_of_ble_eq_true rfl) (fun p e s m below meth c C hrt => w_X12_parsePredecessor C hrt hG  h)
theorem ly_X12_parseStep_12 : ∀ w ∈ u_ws RX12 TX12 19, w ∈ wsX12_parseStep := by decide +kernel
theorem fl_X12_parseStep_13 : Cond.fieldLink RX12 13 "RecipeSchedulerModel" "m" "[I" ∈ wsX12_parseStep := by decide +kernel
theorem fl_X12_parseStep_60 : Cond.fieldLink RX12 60 "RecipeSchedulerModel" "from" "I" ∈ wsX12_parseStep := by decide +kernel
theorem fl_X12_parseStep_54 : Cond.fieldLink RX12 54 "RecipeSchedulerModel" "ahead" "I" ∈ wsX12_parseStep := by decide +kernel
theorem fl_X12_parseStep_57 : Cond.fieldLink RX12 57 "RecipeSchedulerModel" "type" "I" ∈ wsX12_parseStep := by decide +kernel
noncomputable def X12_parseStep_b221  (Y : Mem) : Option (Int32 × Mem) :=
  bd2 (X12_semicolon Y) <| fun r49 Y51 => if r49 = 0 then (some (0, Y51)) else (gd (inb 13 4202) <| lt_ (up Y51 10 0 1 (ix 13) ((Y51 10 0 1 (ix 13)) + 1)) <| fun Y54 => some (1, Y54))
noncomputable def X12_parseStep_b203  : Nat → Mem → Int32 → Option (Int32 × Mem)
  | 0, _, _ => none
  | n+1, Y, l1 =>
  if (Y 10 0 0 15) = 1 then (bd2 (X12_parsePredecessor Y l1) <| fun r61 Y63 => if r61 = 0 then (some (0, Y63)) else (X12_parseStep_b203 n Y63 l1)) else (X12_parseStep_b221 Y)
noncomputable def X12_parseStep_b183  (Y : Mem) (l1 : Int32) (s0 : Int32) (s1 : Int32) : Option (Int32 × Mem) :=
  gd (inb s1 4202) <| lt_ (up Y 10 0 1 (ix s1) s0) <| fun Y43 => bd2 (X12_takes Y43 7) <| fun r45 Y47 => if r45 = 0 then (X12_parseStep_b221 Y47) else (bd2 (X12_parsePredecessor Y47 l1) <| fun r56 Y58 => if r56 = 0 then (some (0, Y58)) else (X12_parseStep_b203 FU Y58 l1))
noncomputable def X12_parseStep_b160  (Y : Mem) (l1 : Int32) (s0 : Int32) (s1 : Int32) : Option (Int32 × Mem) :=
  gd (inb s1 4202) <| lt_ (up Y 10 0 1 (ix s1) s0) <| fun Y36 => bd2 (X12_takes Y36 6) <| fun r38 Y40 => if r38 = 0 then (X12_parseStep_b183 Y40 l1 0 (l1 + 11)) else (X12_parseStep_b183 Y40 l1 1 (l1 + 11))
noncomputable def X12_parseStep_b74  : Nat → Mem → Int32 → Int32 → Option (Int32 × Mem)
  | 0, _, _, _ => none
  | n+1, Y, l2, l1 =>
  if 24 ≤ l2 then (bd1 (X12_putName Y l1) <| fun Y18 => bd2 (X12_parseRanged Y18 (l1 + 7) 1 60) <| fun r19 Y21 => if r19 = 0 then (some (0, Y21)) else (bd2 (X12_parseRanged Y21 (l1 + 8) 0 9) <| fun r23 Y25 => if r23 = 0 then (some (0, Y25)) else (bd2 (X12_parsePanType Y25 l1) <| fun r27 Y29 => if r27 = 0 then (some (0, Y29)) else (bd2 (X12_takes Y29 5) <| fun r31 Y33 => if r31 = 0 then (X12_parseStep_b160 Y33 l1 0 (l1 + 10)) else (X12_parseStep_b160 Y33 l1 1 (l1 + 10)))))) else (gd (inb (l1 + l2) 4202) <| lt_ (up Y 10 0 1 (ix (l1 + l2)) 0) <| fun Y66 => X12_parseStep_b74 n Y66 (l2 + 1) l1)
noncomputable def X12_parseStep (Y : Mem) : Option (Int32 × Mem) :=
  gd (inb 13 4202) <| if (Y 10 0 1 (ix 13)) = 14 then (bd2 (X12_wrong Y 5) <| fun r72 Y74 => gd (decide (r72 = 0 ∨ r72 = 1)) <| some (r72, Y74)) else (bd1 (X12_token Y) <| fun Y5 => bd2 (X12_isShortWord Y5) <| fun r6 Y8 => if r6 = 0 then (some (0, Y8)) else (bd1 (X12_stepNamed Y8 (Y8 10 0 0 16) ((Y8 10 0 0 14) - (Y8 10 0 0 16))) <| fun r10 => if r10 = ((-1)) then (lt_ (46 + ((Y8 10 0 1 (ix 13)) * 24)) <| fun v13 => X12_parseStep_b74 FU Y8 0 v13) else (bd2 (X12_wrong Y8 3) <| fun r68 Y70 => gd (decide (r68 = 0 ∨ r68 = 1)) <| some (r68, Y70))))
section
variable {p : Program} {l : Launch} {e : Env} {s : State} {m : MethodId} {below : List Frame} {meth : Method} {c : Code} {N0 : Nat} {T : Nat → ClassId} {D : va_G} {gr : List (Nat × Nat)} {ad : Nat → Nat → Nat → Nat}
set_option maxRecDepth 100000 in
set_option maxHeartbeats 4000000 in
theorem w_X12_parseStep_b221  (C : Cx p s m [.ref (ad 10 0 0)].toArray meth c cX12_parseStep 3 wsX12_parseStep RX12 N0 T D gr ad) (hrt : meth.sig.returnType = (some .boolean)) (hG : ∀ q ∈ [(10, 0)], q ∈ gr) {res : Int32 × Mem} (Y : Mem) (h : X12_parseStep_b221   Y = some res) : FW p l e (Rm 7) s m [.ref (ad 10 0 0)].toArray below meth c 3 N0 T D gr ad 0 0 (MQ below (va_Qi (fun r Y1 => (r, Y1) = res) (WB T D gr ad) (fun q => N0 ≤ q)) [.ref (ad 10 0 0)].toArray s 0 0 (fun q => N0 ≤ q)) Y 221 [(0, .ref (ad 10 0 0))] [] := by
  unfold X12_parseStep_b221 at h
  refine fw_aload_n C dX12_parseStep_221 rfl 0 rfl ?_
  obtain ⟨r49, Y51, q50, h⟩ := bd2_some h
  refine fw_callVi C (ci := 10) (Cn := RX12) (Tc := TX12) (N := 19) (As := []) (c_X12_semicolon (gac (hG _ (List.mem_of_getElem? (i := 0) rfl)) ga0) q50) (cwV 0 (cx_ts C) gX12_parseStep_X12_semicolon rfl rfl rfl (by decide +kernel) ⟨Nat.le_of_ble_eq_true rfl, Nat.le_of_ble_eq_true rfl⟩) rfl (hG _ (List.mem_of_getElem? (i := 0) rfl)) (of10_0 _) (ce10 T ad _ _) rfl (st := []) rfl (Nat.le_of_ble_eq_true rfl) ⟨Nat.le_refl 0, Nat.le_refl 0⟩ dX12_parseStep_222 ?_
  intro r_ Y_ e_
  obtain ⟨rfl, rfl⟩ := Prod.mk.inj e_
  refine fw_if_ne C dX12_parseStep_225 (tgt := 230) rfl (fun c52 => ?_) (fun c52 => ?_)
  · have h := ite_f c52 h
    refine fw_aload_n C dX12_parseStep_230 rfl 0 rfl ?_
    refine fw_get C (ci := 10) (Cn := RX12) (Tc := TX12) (N := 19) (j := 0) ly_X12_parseStep_12 rfl (hG _ (List.mem_of_getElem? (i := 0) rfl)) (of10_0 _) (ce10 T ad _ _) (by decide) (cx_ts C _ fl_X12_parseStep_13) (fun _ h => h) (v := .ref (ad 10 0 1)) rfl dX12_parseStep_231 ?_
    refine fw_bipush C dX12_parseStep_234 (v := 13) rfl ?_
    refine fw_dup2 C dX12_parseStep_236 rfl rfl ?_
    obtain ⟨b53, h⟩ := gd_some h
    refine fw_iald2 C (hG _ (List.mem_of_getElem? (i := 0) rfl)) (of10_1 _) (ca10_1 T ad _ _) b53 (Nat.le_of_ble_eq_true rfl) dX12_parseStep_237 ?_
    refine fw_iconst C dX12_parseStep_238 (v := 1) rfl ?_
    refine fw_iadd C dX12_parseStep_239 ?_
    obtain ⟨Y54, e55, h⟩ := lt_some h
    refine fw_iast2 C (hG _ (List.mem_of_getElem? (i := 0) rfl)) (of10_1 _) (ca10_1 T ad _) b53 (Nat.le_of_ble_eq_true rfl) dX12_parseStep_240 ?_
    refine fw_mem e55 ?_
    refine fw_iconst C dX12_parseStep_241 (v := 1) rfl ?_
    exact fw_zret C hrt (by decide) Y54 (Option.some.inj h) (fun t ht => ht) dX12_parseStep_242
  · have h := ite_t c52 h
    refine fw_iconst C dX12_parseStep_228 (v := 0) rfl ?_
    exact fw_zret C hrt (by decide) Y51 (Option.some.inj h) (fun t ht => ht) dX12_parseStep_229
set_option maxRecDepth 100000 in
set_option maxHeartbeats 4000000 in
theorem w_X12_parseStep_b203  (C : Cx p s m [.ref (ad 10 0 0)].toArray meth c cX12_parseStep 3 wsX12_parseStep RX12 N0 T D gr ad) (hrt : meth.sig.returnType = (some .boolean)) (hG : ∀ q ∈ [(10, 0)], q ∈ gr) {res : Int32 × Mem} : ∀ (n : Nat) (Y : Mem) (l1 : Int32), X12_parseStep_b203   n Y l1 = some res → FW p l e (Rm 7) s m [.ref (ad 10 0 0)].toArray below meth c 3 N0 T D gr ad 0 0 (MQ below (va_Qi (fun r Y1 => (r, Y1) = res) (WB T D gr ad) (fun q => N0 ≤ q)) [.ref (ad 10 0 0)].toArray s 0 0 (fun q => N0 ≤ q)) Y 203 [(1, .int l1), (0, .ref (ad 10 0 0))] [] := by
  intro n
  induction n with
  | zero =>
    intro Y l1 h
    unfold X12_parseStep_b203 at h
    cases h
  | succ n ih =>
    intro Y l1 h
    unfold X12_parseStep_b203 at h
    refine fw_aload_n C dX12_parseStep_203 rfl 1 rfl ?_
    refine fw_get C (ci := 10) (Cn := RX12) (Tc := TX12) (N := 19) (j := 15) ly_X12_parseStep_12 rfl (hG _ (List.mem_of_getElem? (i := 0) rfl)) (of10_0 _) (ce10 T ad _ _) (by decide) (cx_ts C _ fl_X12_parseStep_57) (fun _ h => h) (v := .int (Y 10 0 0 15)) rfl dX12_parseStep_204 ?_
    refine fw_iconst C dX12_parseStep_207 (v := 1) rfl ?_
    refine fw_icmp_ne C dX12_parseStep_208 (tgt := 221) rfl (fun c60 => ?_) (fun c60 => ?_)
    · have h := ite_f c60 h
      refine fw_sub [1] (L' := [(0, .ref (ad 10 0 0))]) rfl ?_
      exact w_X12_parseStep_b221 C hrt hG   _ h
    · have h := ite_t c60 h
      refine fw_aload_n C dX12_parseStep_211 rfl 1 rfl ?_
      refine fw_iload_n C dX12_parseStep_212 rfl 0 rfl ?_
      obtain ⟨r61, Y63, q62, h⟩ := bd2_some h
      refine fw_callVi C (ci := 10) (Cn := RX12) (Tc := TX12) (N := 19) (As := [.int l1]) (c_X12_parsePredecessor (gac (hG _ (List.mem_of_getElem? (i := 0) rfl)) ga0) q62) (cwV 1 (cx_ts C) gX12_parseStep_X12_parsePredecessor rfl rfl rfl (by decide +kernel) ⟨Nat.le_of_ble_eq_true rfl, Nat.le_of_ble_eq_true rfl⟩) rfl (hG _ (List.mem_of_getElem? (i := 0) rfl)) (of10_0 _) (ce10 T ad _ _) rfl (st := []) rfl (Nat.le_of_ble_eq_true rfl) ⟨Nat.le_refl 0, Nat.le_refl 0⟩ dX12_parseStep_213 ?_
      intro r_ Y_ e_
      obtain ⟨rfl, rfl⟩ := Prod.mk.inj e_
      refine fw_if_ne C dX12_parseStep_216 (tgt := 203) rfl (fun c64 => ?_) (fun c64 => ?_)
      · have h := ite_f c64 h
        exact ih _ _ h
      · have h := ite_t c64 h
        refine fw_iconst C dX12_parseStep_219 (v := 0) rfl ?_
        exact fw_zret C hrt (by decide) Y63 (Option.some.inj h) (fun t ht => ht) dX12_parseStep_220
set_option maxRecDepth 100000 in
set_option maxHeartbeats 4000000 in
theorem w_X12_parseStep_b183  (C : Cx p s m [.ref (ad 10 0 0)].toArray meth c cX12_parseStep 3 wsX12_parseStep RX12 N0 T D gr ad) (hrt : meth.sig.returnType = (some .boolean)) (hG : ∀ q ∈ [(10, 0)], q ∈ gr) {res : Int32 × Mem} (Y : Mem) (l1 : Int32) (s0 : Int32) (s1 : Int32) (h : X12_parseStep_b183   Y l1 s0 s1 = some res) : FW p l e (Rm 7) s m [.ref (ad 10 0 0)].toArray below meth c 3 N0 T D gr ad 0 0 (MQ below (va_Qi (fun r Y1 => (r, Y1) = res) (WB T D gr ad) (fun q => N0 ≤ q)) [.ref (ad 10 0 0)].toArray s 0 0 (fun q => N0 ≤ q)) Y 183 [(1, .int l1), (0, .ref (ad 10 0 0))] [.int s0, .int s1, .ref (ad 10 0 1)] := by
  unfold X12_parseStep_b183 at h
  obtain ⟨b42, h⟩ := gd_some h
  obtain ⟨Y43, e44, h⟩ := lt_some h
  refine fw_iast2 C (hG _ (List.mem_of_getElem? (i := 0) rfl)) (of10_1 _) (ca10_1 T ad _) b42 (Nat.le_of_ble_eq_true rfl) dX12_parseStep_183 ?_
  refine fw_mem e44 ?_
  refine fw_aload_n C dX12_parseStep_184 rfl 1 rfl ?_
  refine fw_ldcS C ((cx_st C).2.1 _ (List.mem_of_getElem? (i := 37) rfl)) dX12_parseStep_185 ?_
  obtain ⟨r45, Y47, q46, h⟩ := bd2_some h
  refine fw_callVi C (ci := 10) (Cn := RX12) (Tc := TX12) (N := 19) (As := [.ref (ad 21 7 0)]) (c_X12_takes (gac (hG _ (List.mem_of_getElem? (i := 0) rfl)) ga0) q46) (cwV 1 (cx_ts C) gX12_parseStep_X12_takes rfl rfl rfl (by decide +kernel) ⟨Nat.le_of_ble_eq_true rfl, Nat.le_of_ble_eq_true rfl⟩) rfl (hG _ (List.mem_of_getElem? (i := 0) rfl)) (of10_0 _) (ce10 T ad _ _) rfl (st := []) rfl (Nat.le_of_ble_eq_true rfl) ⟨Nat.le_refl 0, Nat.le_refl 0⟩ dX12_parseStep_187 ?_
  intro r_ Y_ e_
  obtain ⟨rfl, rfl⟩ := Prod.mk.inj e_
  refine fw_if_eq C dX12_parseStep_190 (tgt := 221) rfl (fun c48 => ?_) (fun c48 => ?_)
  · have h := ite_t c48 h
    refine fw_sub [1] (L' := [(0, .ref (ad 10 0 0))]) rfl ?_
    exact w_X12_parseStep_b221 C hrt hG   _ h
  · have h := ite_f c48 h
    refine fw_aload_n C dX12_parseStep_193 rfl 1 rfl ?_
    refine fw_iload_n C dX12_parseStep_194 rfl 0 rfl ?_
    obtain ⟨r56, Y58, q57, h⟩ := bd2_some h
    refine fw_callVi C (ci := 10) (Cn := RX12) (Tc := TX12) (N := 19) (As := [.int l1]) (c_X12_parsePredecessor (gac (hG _ (List.mem_of_getElem? (i := 0) rfl)) ga0) q57) (cwV 1 (cx_ts C) gX12_parseStep_X12_parsePredecessor rfl rfl rfl (by decide +kernel) ⟨Nat.le_of_ble_eq_true rfl, Nat.le_of_ble_eq_true rfl⟩) rfl (hG _ (List.mem_of_getElem? (i := 0) rfl)) (of10_0 _) (ce10 T ad _ _) rfl (st := []) rfl (Nat.le_of_ble_eq_true rfl) ⟨Nat.le_refl 0, Nat.le_refl 0⟩ dX12_parseStep_195 ?_
    intro r_ Y_ e_
    obtain ⟨rfl, rfl⟩ := Prod.mk.inj e_
    refine fw_if_ne C dX12_parseStep_198 (tgt := 203) rfl (fun c59 => ?_) (fun c59 => ?_)
    · have h := ite_f c59 h
      exact w_X12_parseStep_b203 C hrt hG   _ _ _ h
    · have h := ite_t c59 h
      refine fw_iconst C dX12_parseStep_201 (v := 0) rfl ?_
      exact fw_zret C hrt (by decide) Y58 (Option.some.inj h) (fun t ht => ht) dX12_parseStep_202
set_option maxRecDepth 100000 in
set_option maxHeartbeats 4000000 in
theorem w_X12_parseStep_b160  (C : Cx p s m [.ref (ad 10 0 0)].toArray meth c cX12_parseStep 3 wsX12_parseStep RX12 N0 T D gr ad) (hrt : meth.sig.returnType = (some .boolean)) (hG : ∀ q ∈ [(10, 0)], q ∈ gr) {res : Int32 × Mem} (Y : Mem) (l1 : Int32) (s0 : Int32) (s1 : Int32) (h : X12_parseStep_b160   Y l1 s0 s1 = some res) : FW p l e (Rm 7) s m [.ref (ad 10 0 0)].toArray below meth c 3 N0 T D gr ad 0 0 (MQ below (va_Qi (fun r Y1 => (r, Y1) = res) (WB T D gr ad) (fun q => N0 ≤ q)) [.ref (ad 10 0 0)].toArray s 0 0 (fun q => N0 ≤ q)) Y 160 [(1, .int l1), (0, .ref (ad 10 0 0))] [.int s0, .int s1, .ref (ad 10 0 1)] := by
  unfold X12_parseStep_b160 at h
  obtain ⟨b35, h⟩ := gd_some h
  obtain ⟨Y36, e37, h⟩ := lt_some h
  refine fw_iast2 C (hG _ (List.mem_of_getElem? (i := 0) rfl)) (of10_1 _) (ca10_1 T ad _) b35 (Nat.le_of_ble_eq_true rfl) dX12_parseStep_160 ?_
  refine fw_mem e37 ?_
  refine fw_aload_n C dX12_parseStep_161 rfl 1 rfl ?_
  refine fw_get C (ci := 10) (Cn := RX12) (Tc := TX12) (N := 19) (j := 0) ly_X12_parseStep_12 rfl (hG _ (List.mem_of_getElem? (i := 0) rfl)) (of10_0 _) (ce10 T ad _ _) (by decide) (cx_ts C _ fl_X12_parseStep_13) (fun _ h => h) (v := .ref (ad 10 0 1)) rfl dX12_parseStep_162 ?_
  refine fw_iload_n C dX12_parseStep_165 rfl 0 rfl ?_
  refine fw_bipush C dX12_parseStep_166 (v := 11) rfl ?_
  refine fw_iadd C dX12_parseStep_168 ?_
  refine fw_aload_n C dX12_parseStep_169 rfl 1 rfl ?_
  refine fw_ldcS C ((cx_st C).2.1 _ (List.mem_of_getElem? (i := 36) rfl)) dX12_parseStep_170 ?_
  obtain ⟨r38, Y40, q39, h⟩ := bd2_some h
  refine fw_callVi C (ci := 10) (Cn := RX12) (Tc := TX12) (N := 19) (As := [.ref (ad 21 6 0)]) (c_X12_takes (gac (hG _ (List.mem_of_getElem? (i := 0) rfl)) ga0) q39) (cwV 1 (cx_ts C) gX12_parseStep_X12_takes rfl rfl rfl (by decide +kernel) ⟨Nat.le_of_ble_eq_true rfl, Nat.le_of_ble_eq_true rfl⟩) rfl (hG _ (List.mem_of_getElem? (i := 0) rfl)) (of10_0 _) (ce10 T ad _ _) rfl (st := [.int (l1 + 11), .ref (ad 10 0 1)]) rfl (Nat.le_of_ble_eq_true rfl) ⟨Nat.le_refl 0, Nat.le_refl 0⟩ dX12_parseStep_172 ?_
  intro r_ Y_ e_
  obtain ⟨rfl, rfl⟩ := Prod.mk.inj e_
  refine fw_if_eq C dX12_parseStep_175 (tgt := 182) rfl (fun c41 => ?_) (fun c41 => ?_)
  · have h := ite_t c41 h
    refine fw_iconst C dX12_parseStep_182 (v := 0) rfl ?_
    exact w_X12_parseStep_b183 C hrt hG   _ _ _ _ h
  · have h := ite_f c41 h
    refine fw_iconst C dX12_parseStep_178 (v := 1) rfl ?_
    refine fw_goto C dX12_parseStep_179 (tgt := 183) rfl ?_
    exact w_X12_parseStep_b183 C hrt hG   _ _ _ _ h
set_option maxRecDepth 100000 in
set_option maxHeartbeats 4000000 in
theorem w_X12_parseStep_b74  (C : Cx p s m [.ref (ad 10 0 0)].toArray meth c cX12_parseStep 3 wsX12_parseStep RX12 N0 T D gr ad) (hrt : meth.sig.returnType = (some .boolean)) (hG : ∀ q ∈ [(10, 0)], q ∈ gr) {res : Int32 × Mem} : ∀ (n : Nat) (Y : Mem) (l2 : Int32) (l1 : Int32), X12_parseStep_b74   n Y l2 l1 = some res → FW p l e (Rm 7) s m [.ref (ad 10 0 0)].toArray below meth c 3 N0 T D gr ad 0 0 (MQ below (va_Qi (fun r Y1 => (r, Y1) = res) (WB T D gr ad) (fun q => N0 ≤ q)) [.ref (ad 10 0 0)].toArray s 0 0 (fun q => N0 ≤ q)) Y 74 [(2, .int l2), (1, .int l1), (0, .ref (ad 10 0 0))] [] := by
  intro n
  induction n with
  | zero =>
    intro Y l2 l1 h
    unfold X12_parseStep_b74 at h
    cases h
  | succ n ih =>
    intro Y l2 l1 h
    unfold X12_parseStep_b74 at h
    refine fw_iload_n C dX12_parseStep_74 rfl 0 rfl ?_
    refine fw_bipush C dX12_parseStep_75 (v := 24) rfl ?_
    refine fw_icmp_ge C dX12_parseStep_77 (tgt := 95) rfl (fun c15 => ?_) (fun c15 => ?_)
    · have h := ite_t c15 h
      refine fw_aload_n C dX12_parseStep_95 rfl 2 rfl ?_
      refine fw_iload_n C dX12_parseStep_96 rfl 1 rfl ?_
      obtain ⟨Y18, q17, h⟩ := bd1_some h
      refine fw_callVv C (ci := 10) (Cn := RX12) (Tc := TX12) (N := 19) (As := [.int l1]) (c_X12_putName (gac (hG _ (List.mem_of_getElem? (i := 0) rfl)) ga0) q17) (cwV 1 (cx_ts C) gX12_parseStep_X12_putName rfl rfl rfl (by decide +kernel) ⟨Nat.le_of_ble_eq_true rfl, Nat.le_of_ble_eq_true rfl⟩) rfl (hG _ (List.mem_of_getElem? (i := 0) rfl)) (of10_0 _) (ce10 T ad _ _) rfl (st := []) rfl (Nat.le_of_ble_eq_true rfl) ⟨Nat.le_refl 0, Nat.le_refl 0⟩ dX12_parseStep_97 ?_
      rintro _ rfl
      refine fw_aload_n C dX12_parseStep_100 rfl 2 rfl ?_
      refine fw_iload_n C dX12_parseStep_101 rfl 1 rfl ?_
      refine fw_bipush C dX12_parseStep_102 (v := 7) rfl ?_
      refine fw_iadd C dX12_parseStep_104 ?_
      refine fw_iconst C dX12_parseStep_105 (v := 1) rfl ?_
      refine fw_bipush C dX12_parseStep_106 (v := 60) rfl ?_
      obtain ⟨r19, Y21, q20, h⟩ := bd2_some h
      refine fw_callVi C (ci := 10) (Cn := RX12) (Tc := TX12) (N := 19) (As := [.int (l1 + 7), .int 1, .int 60]) (c_X12_parseRanged (gac (hG _ (List.mem_of_getElem? (i := 0) rfl)) ga0) q20) (cwV 3 (cx_ts C) gX12_parseStep_X12_parseRanged rfl rfl rfl (by decide +kernel) ⟨Nat.le_of_ble_eq_true rfl, Nat.le_of_ble_eq_true rfl⟩) rfl (hG _ (List.mem_of_getElem? (i := 0) rfl)) (of10_0 _) (ce10 T ad _ _) rfl (st := []) rfl (Nat.le_of_ble_eq_true rfl) ⟨Nat.le_refl 0, Nat.le_refl 0⟩ dX12_parseStep_108 ?_
      intro r_ Y_ e_
      obtain ⟨rfl, rfl⟩ := Prod.mk.inj e_
      refine fw_if_eq C dX12_parseStep_111 (tgt := 136) rfl (fun c22 => ?_) (fun c22 => ?_)
      · have h := ite_t c22 h
        refine fw_iconst C dX12_parseStep_136 (v := 0) rfl ?_
        exact fw_zret C hrt (by decide) Y21 (Option.some.inj h) (fun t ht => ht) dX12_parseStep_137
      · have h := ite_f c22 h
        refine fw_aload_n C dX12_parseStep_114 rfl 2 rfl ?_
        refine fw_iload_n C dX12_parseStep_115 rfl 1 rfl ?_
        refine fw_bipush C dX12_parseStep_116 (v := 8) rfl ?_
        refine fw_iadd C dX12_parseStep_118 ?_
        refine fw_iconst C dX12_parseStep_119 (v := 0) rfl ?_
        refine fw_bipush C dX12_parseStep_120 (v := 9) rfl ?_
        obtain ⟨r23, Y25, q24, h⟩ := bd2_some h
        refine fw_callVi C (ci := 10) (Cn := RX12) (Tc := TX12) (N := 19) (As := [.int (l1 + 8), .int 0, .int 9]) (c_X12_parseRanged (gac (hG _ (List.mem_of_getElem? (i := 0) rfl)) ga0) q24) (cwV 3 (cx_ts C) gX12_parseStep_X12_parseRanged rfl rfl rfl (by decide +kernel) ⟨Nat.le_of_ble_eq_true rfl, Nat.le_of_ble_eq_true rfl⟩) rfl (hG _ (List.mem_of_getElem? (i := 0) rfl)) (of10_0 _) (ce10 T ad _ _) rfl (st := []) rfl (Nat.le_of_ble_eq_true rfl) ⟨Nat.le_refl 0, Nat.le_refl 0⟩ dX12_parseStep_122 ?_
        intro r_ Y_ e_
        obtain ⟨rfl, rfl⟩ := Prod.mk.inj e_
        refine fw_if_eq C dX12_parseStep_125 (tgt := 136) rfl (fun c26 => ?_) (fun c26 => ?_)
        · have h := ite_t c26 h
          refine fw_iconst C dX12_parseStep_136 (v := 0) rfl ?_
          exact fw_zret C hrt (by decide) Y25 (Option.some.inj h) (fun t ht => ht) dX12_parseStep_137
        · have h := ite_f c26 h
          refine fw_aload_n C dX12_parseStep_128 rfl 2 rfl ?_
          refine fw_iload_n C dX12_parseStep_129 rfl 1 rfl ?_
          obtain ⟨r27, Y29, q28, h⟩ := bd2_some h
          refine fw_callVi C (ci := 10) (Cn := RX12) (Tc := TX12) (N := 19) (As := [.int l1]) (c_X12_parsePanType (gac (hG _ (List.mem_of_getElem? (i := 0) rfl)) ga0) q28) (cwV 1 (cx_ts C) gX12_parseStep_X12_parsePanType rfl rfl rfl (by decide +kernel) ⟨Nat.le_of_ble_eq_true rfl, Nat.le_of_ble_eq_true rfl⟩) rfl (hG _ (List.mem_of_getElem? (i := 0) rfl)) (of10_0 _) (ce10 T ad _ _) rfl (st := []) rfl (Nat.le_of_ble_eq_true rfl) ⟨Nat.le_refl 0, Nat.le_refl 0⟩ dX12_parseStep_130 ?_
          intro r_ Y_ e_
          obtain ⟨rfl, rfl⟩ := Prod.mk.inj e_
          refine fw_if_ne C dX12_parseStep_133 (tgt := 138) rfl (fun c30 => ?_) (fun c30 => ?_)
          · have h := ite_f c30 h
            refine fw_aload_n C dX12_parseStep_138 rfl 2 rfl ?_
            refine fw_get C (ci := 10) (Cn := RX12) (Tc := TX12) (N := 19) (j := 0) ly_X12_parseStep_12 rfl (hG _ (List.mem_of_getElem? (i := 0) rfl)) (of10_0 _) (ce10 T ad _ _) (by decide) (cx_ts C _ fl_X12_parseStep_13) (fun _ h => h) (v := .ref (ad 10 0 1)) rfl dX12_parseStep_139 ?_
            refine fw_iload_n C dX12_parseStep_142 rfl 1 rfl ?_
            refine fw_bipush C dX12_parseStep_143 (v := 10) rfl ?_
            refine fw_iadd C dX12_parseStep_145 ?_
            refine fw_aload_n C dX12_parseStep_146 rfl 2 rfl ?_
            refine fw_ldcS C ((cx_st C).2.1 _ (List.mem_of_getElem? (i := 35) rfl)) dX12_parseStep_147 ?_
            obtain ⟨r31, Y33, q32, h⟩ := bd2_some h
            refine fw_callVi C (ci := 10) (Cn := RX12) (Tc := TX12) (N := 19) (As := [.ref (ad 21 5 0)]) (c_X12_takes (gac (hG _ (List.mem_of_getElem? (i := 0) rfl)) ga0) q32) (cwV 1 (cx_ts C) gX12_parseStep_X12_takes rfl rfl rfl (by decide +kernel) ⟨Nat.le_of_ble_eq_true rfl, Nat.le_of_ble_eq_true rfl⟩) rfl (hG _ (List.mem_of_getElem? (i := 0) rfl)) (of10_0 _) (ce10 T ad _ _) rfl (st := [.int (l1 + 10), .ref (ad 10 0 1)]) rfl (Nat.le_of_ble_eq_true rfl) ⟨Nat.le_refl 0, Nat.le_refl 0⟩ dX12_parseStep_149 ?_
            intro r_ Y_ e_
            obtain ⟨rfl, rfl⟩ := Prod.mk.inj e_
            refine fw_if_eq C dX12_parseStep_152 (tgt := 159) rfl (fun c34 => ?_) (fun c34 => ?_)
            · have h := ite_t c34 h
              refine fw_iconst C dX12_parseStep_159 (v := 0) rfl ?_
              refine fw_sub [1, 2] (L' := [(1, .int l1), (0, .ref (ad 10 0 0))]) rfl ?_
              exact w_X12_parseStep_b160 C hrt hG   _ _ _ _ h
            · have h := ite_f c34 h
              refine fw_iconst C dX12_parseStep_155 (v := 1) rfl ?_
              refine fw_goto C dX12_parseStep_156 (tgt := 160) rfl ?_
              refine fw_sub [1, 2] (L' := [(1, .int l1), (0, .ref (ad 10 0 0))]) rfl ?_
              exact w_X12_parseStep_b160 C hrt hG   _ _ _ _ h
          · have h := ite_t c30 h
            refine fw_iconst C dX12_parseStep_136 (v := 0) rfl ?_
            exact fw_zret C hrt (by decide) Y29 (Option.some.inj h) (fun t ht => ht) dX12_parseStep_137
    · have h := ite_f c15 h
      refine fw_aload_n C dX12_parseStep_80 rfl 2 rfl ?_
      refine fw_get C (ci := 10) (Cn := RX12) (Tc := TX12) (N := 19) (j := 0) ly_X12_parseStep_12 rfl (hG _ (List.mem_of_getElem? (i := 0) rfl)) (of10_0 _) (ce10 T ad _ _) (by decide) (cx_ts C _ fl_X12_parseStep_13) (fun _ h => h) (v := .ref (ad 10 0 1)) rfl dX12_parseStep_81 ?_
      refine fw_iload_n C dX12_parseStep_84 rfl 1 rfl ?_
      refine fw_iload_n C dX12_parseStep_85 rfl 0 rfl ?_
      refine fw_iadd C dX12_parseStep_86 ?_
      refine fw_iconst C dX12_parseStep_87 (v := 0) rfl ?_
      obtain ⟨b65, h⟩ := gd_some h
      obtain ⟨Y66, e67, h⟩ := lt_some h
      refine fw_iast2 C (hG _ (List.mem_of_getElem? (i := 0) rfl)) (of10_1 _) (ca10_1 T ad _) b65 (Nat.le_of_ble_eq_true rfl) dX12_parseStep_88 ?_
      refine fw_mem e67 ?_
      refine fw_iinc C dX12_parseStep_89 (kk := 0) (v := l2 + 1) rfl rfl (by decide) (L' := [(2, .int (l2 + 1)), (1, .int l1), (0, .ref (ad 10 0 0))]) rfl ?_
      refine fw_goto C dX12_parseStep_92 (tgt := 74) rfl ?_
      exact ih _ _ _ h
set_option maxRecDepth 100000 in
set_option maxHeartbeats 4000000 in
theorem w_X12_parseStep {Y : Mem} (C : Cx p s m [.ref (ad 10 0 0)].toArray meth c cX12_parseStep 3 wsX12_parseStep RX12 N0 T D gr ad) (hrt : meth.sig.returnType = (some .boolean)) (hG : ∀ q ∈ [(10, 0)], q ∈ gr) {res : Int32 × Mem} (h : X12_parseStep Y = some res) : FW p l e (Rm 7) s m [.ref (ad 10 0 0)].toArray below meth c 3 N0 T D gr ad 0 0 (MQ below (va_Qi (fun r Y1 => (r, Y1) = res) (WB T D gr ad) (fun q => N0 ≤ q)) [.ref (ad 10 0 0)].toArray s 0 0 (fun q => N0 ≤ q)) Y 0 [(0, .ref (ad 10 0 0))] [] := by
  unfold X12_parseStep at h
  refine fw_aload_n C dX12_parseStep_0 rfl 0 rfl ?_
  refine fw_get C (ci := 10) (Cn := RX12) (Tc := TX12) (N := 19) (j := 0) ly_X12_parseStep_12 rfl (hG _ (List.mem_of_getElem? (i := 0) rfl)) (of10_0 _) (ce10 T ad _ _) (by decide) (cx_ts C _ fl_X12_parseStep_13) (fun _ h => h) (v := .ref (ad 10 0 1)) rfl dX12_parseStep_1 ?_
  refine fw_bipush C dX12_parseStep_4 (v := 13) rfl ?_
  obtain ⟨b1, h⟩ := gd_some h
  refine fw_iald2 C (hG _ (List.mem_of_getElem? (i := 0) rfl)) (of10_1 _) (ca10_1 T ad _ _) b1 (Nat.le_of_ble_eq_true rfl) dX12_parseStep_6 ?_
  refine fw_bipush C dX12_parseStep_7 (v := 14) rfl ?_
  refine fw_icmp_ne C dX12_parseStep_9 (tgt := 18) rfl (fun c2 => ?_) (fun c2 => ?_)
  · have h := ite_f c2 h
    refine fw_aload_n C dX12_parseStep_18 rfl 0 rfl ?_
    obtain ⟨Y5, q4, h⟩ := bd1_some h
    refine fw_callVv C (ci := 10) (Cn := RX12) (Tc := TX12) (N := 19) (As := []) (c_X12_token (gac (hG _ (List.mem_of_getElem? (i := 0) rfl)) ga0) q4) (cwV 0 (cx_ts C) gX12_parseStep_X12_token rfl rfl rfl (by decide +kernel) ⟨Nat.le_of_ble_eq_true rfl, Nat.le_of_ble_eq_true rfl⟩) rfl (hG _ (List.mem_of_getElem? (i := 0) rfl)) (of10_0 _) (ce10 T ad _ _) rfl (st := []) rfl (Nat.le_of_ble_eq_true rfl) ⟨Nat.le_refl 0, Nat.le_refl 0⟩ dX12_parseStep_19 ?_
    rintro _ rfl
    refine fw_aload_n C dX12_parseStep_22 rfl 0 rfl ?_
    obtain ⟨r6, Y8, q7, h⟩ := bd2_some h
    refine fw_callVi C (ci := 10) (Cn := RX12) (Tc := TX12) (N := 19) (As := []) (c_X12_isShortWord (gac (hG _ (List.mem_of_getElem? (i := 0) rfl)) ga0) q7) (cwV 0 (cx_ts C) gX12_parseStep_X12_isShortWord rfl rfl rfl (by decide +kernel) ⟨Nat.le_of_ble_eq_true rfl, Nat.le_of_ble_eq_true rfl⟩) rfl (hG _ (List.mem_of_getElem? (i := 0) rfl)) (of10_0 _) (ce10 T ad _ _) rfl (st := []) rfl (Nat.le_of_ble_eq_true rfl) ⟨Nat.le_refl 0, Nat.le_refl 0⟩ dX12_parseStep_23 ?_
    intro r_ Y_ e_
    obtain ⟨rfl, rfl⟩ := Prod.mk.inj e_
    refine fw_if_ne C dX12_parseStep_26 (tgt := 31) rfl (fun c9 => ?_) (fun c9 => ?_)
    · have h := ite_f c9 h
      refine fw_aload_n C dX12_parseStep_31 rfl 0 rfl ?_
      refine fw_aload_n C dX12_parseStep_32 rfl 0 rfl ?_
      refine fw_get C (ci := 10) (Cn := RX12) (Tc := TX12) (N := 19) (j := 16) ly_X12_parseStep_12 rfl (hG _ (List.mem_of_getElem? (i := 0) rfl)) (of10_0 _) (ce10 T ad _ _) (by decide) (cx_ts C _ fl_X12_parseStep_60) (fun _ h => h) (v := .int (Y8 10 0 0 16)) rfl dX12_parseStep_33 ?_
      refine fw_aload_n C dX12_parseStep_36 rfl 0 rfl ?_
      refine fw_get C (ci := 10) (Cn := RX12) (Tc := TX12) (N := 19) (j := 14) ly_X12_parseStep_12 rfl (hG _ (List.mem_of_getElem? (i := 0) rfl)) (of10_0 _) (ce10 T ad _ _) (by decide) (cx_ts C _ fl_X12_parseStep_54) (fun _ h => h) (v := .int (Y8 10 0 0 14)) rfl dX12_parseStep_37 ?_
      refine fw_aload_n C dX12_parseStep_40 rfl 0 rfl ?_
      refine fw_get C (ci := 10) (Cn := RX12) (Tc := TX12) (N := 19) (j := 16) ly_X12_parseStep_12 rfl (hG _ (List.mem_of_getElem? (i := 0) rfl)) (of10_0 _) (ce10 T ad _ _) (by decide) (cx_ts C _ fl_X12_parseStep_60) (fun _ h => h) (v := .int (Y8 10 0 0 16)) rfl dX12_parseStep_41 ?_
      refine fw_isub C dX12_parseStep_44 ?_
      obtain ⟨r10, q11, h⟩ := bd1_some h
      refine fw_callVi C (ci := 10) (Cn := RX12) (Tc := TX12) (N := 19) (As := [.int (Y8 10 0 0 16), .int ((Y8 10 0 0 14) - (Y8 10 0 0 16))]) (c_X12_stepNamed (gac (hG _ (List.mem_of_getElem? (i := 0) rfl)) ga0) q11) (cwV 2 (cx_ts C) gX12_parseStep_X12_stepNamed rfl rfl rfl (by decide +kernel) ⟨Nat.le_of_ble_eq_true rfl, Nat.le_of_ble_eq_true rfl⟩) rfl (hG _ (List.mem_of_getElem? (i := 0) rfl)) (of10_0 _) (ce10 T ad _ _) rfl (st := []) rfl (Nat.le_of_ble_eq_true rfl) ⟨Nat.le_refl 0, Nat.le_refl 0⟩ dX12_parseStep_45 ?_
      rintro _ _ ⟨rfl, rfl⟩
      refine fw_iconst C dX12_parseStep_48 (v := (-1)) rfl ?_
      refine fw_icmp_eq C dX12_parseStep_49 (tgt := 58) rfl (fun c12 => ?_) (fun c12 => ?_)
      · have h := ite_t c12 h
        refine fw_bipush C dX12_parseStep_58 (v := 46) rfl ?_
        refine fw_aload_n C dX12_parseStep_60 rfl 0 rfl ?_
        refine fw_get C (ci := 10) (Cn := RX12) (Tc := TX12) (N := 19) (j := 0) ly_X12_parseStep_12 rfl (hG _ (List.mem_of_getElem? (i := 0) rfl)) (of10_0 _) (ce10 T ad _ _) (by decide) (cx_ts C _ fl_X12_parseStep_13) (fun _ h => h) (v := .ref (ad 10 0 1)) rfl dX12_parseStep_61 ?_
        refine fw_bipush C dX12_parseStep_64 (v := 13) rfl ?_
        refine fw_iald2 C (hG _ (List.mem_of_getElem? (i := 0) rfl)) (of10_1 _) (ca10_1 T ad _ _) b1 (Nat.le_of_ble_eq_true rfl) dX12_parseStep_66 ?_
        refine fw_bipush C dX12_parseStep_67 (v := 24) rfl ?_
        refine fw_imul C dX12_parseStep_69 ?_
        refine fw_iadd C dX12_parseStep_70 ?_
        obtain ⟨v13, e14, h⟩ := lt_some h
        refine fw_top (v' := .int v13) (by rw [e14]) ?_
        refine fw_istore_n C dX12_parseStep_71 rfl (by decide) (L' := [(1, .int v13), (0, .ref (ad 10 0 0))]) rfl ?_
        refine fw_iconst C dX12_parseStep_72 (v := 0) rfl ?_
        refine fw_istore_n C dX12_parseStep_73 rfl (by decide) (L' := [(2, .int 0), (1, .int v13), (0, .ref (ad 10 0 0))]) rfl ?_
        exact w_X12_parseStep_b74 C hrt hG   _ _ _ _ h
      · have h := ite_f c12 h
        refine fw_aload_n C dX12_parseStep_52 rfl 0 rfl ?_
        refine fw_iconst C dX12_parseStep_53 (v := 3) rfl ?_
        obtain ⟨r68, Y70, q69, h⟩ := bd2_some h
        refine fw_callVi C (ci := 10) (Cn := RX12) (Tc := TX12) (N := 19) (As := [.int 3]) (c_X12_wrong (gac (hG _ (List.mem_of_getElem? (i := 0) rfl)) ga0) q69) (cwV 1 (cx_ts C) gX12_parseStep_X12_wrong rfl rfl rfl (by decide +kernel) ⟨Nat.le_of_ble_eq_true rfl, Nat.le_of_ble_eq_true rfl⟩) rfl (hG _ (List.mem_of_getElem? (i := 0) rfl)) (of10_0 _) (ce10 T ad _ _) rfl (st := []) rfl (Nat.le_of_ble_eq_true rfl) ⟨Nat.le_refl 0, Nat.le_refl 0⟩ dX12_parseStep_54 ?_
        intro r_ Y_ e_
        obtain ⟨rfl, rfl⟩ := Prod.mk.inj e_
        obtain ⟨b71, h⟩ := gd_some h
        exact fw_zret C hrt (of_decide_eq_true b71) Y70 (Option.some.inj h) (fun t ht => ht) dX12_parseStep_57
    · have h := ite_t c9 h
      refine fw_iconst C dX12_parseStep_29 (v := 0) rfl ?_
      exact fw_zret C hrt (by decide) Y8 (Option.some.inj h) (fun t ht => ht) dX12_parseStep_30
  · have h := ite_t c2 h
    refine fw_aload_n C dX12_parseStep_12 rfl 0 rfl ?_
    refine fw_iconst C dX12_parseStep_13 (v := 5) rfl ?_
    obtain ⟨r72, Y74, q73, h⟩ := bd2_some h
    refine fw_callVi C (ci := 10) (Cn := RX12) (Tc := TX12) (N := 19) (As := [.int 5]) (c_X12_wrong (gac (hG _ (List.mem_of_getElem? (i := 0) rfl)) ga0) q73) (cwV 1 (cx_ts C) gX12_parseStep_X12_wrong rfl rfl rfl (by decide +kernel) ⟨Nat.le_of_ble_eq_true rfl, Nat.le_of_ble_eq_true rfl⟩) rfl (hG _ (List.mem_of_getElem? (i := 0) rfl)) (of10_0 _) (ce10 T ad _ _) rfl (st := []) rfl (Nat.le_of_ble_eq_true rfl) ⟨Nat.le_refl 0, Nat.le_refl 0⟩ dX12_parseStep_14 ?_
    intro r_ Y_ e_
    obtain ⟨rfl, rfl⟩ := Prod.mk.inj e_
    obtain ⟨b75, h⟩ := gd_some h
    exact fw_zret C hrt (of_decide_eq_true b75) Y74 (Option.some.inj h) (fun t ht => ht) dX12_parseStep_17
end
set_option maxRecDepth 100000 in
set_option maxHeartbeats 4000000 in
theorem c_X12_parseStep {l : Launch} {N0 : Nat} {T : Nat → ClassId} {D : va_G} {gr : List (Nat × Nat)} {ad : Nat → Nat → Nat → Nat} {Y : Mem} {res : Int32 × Mem} (hG : ∀ q ∈ [(10, 0)], q ∈ gr) (h : X12_parseStep Y = some res) : CI l yX12_parseStep wsX12_parseStep (Rm 7) N0 T D gr ad Y [.ref (ad 10 0 0)] (fun r Y1 => (r, Y1) = res) :=
  fw_body (by decide +kernel) rfl (Nat.le_of_ble_eq_true rfl) (fun p e s m below meth c C hrt => w_X12_parseStep C hrt hG  h)
