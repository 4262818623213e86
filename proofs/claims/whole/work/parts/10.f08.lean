theorem ly_X12_salt_12 : ∀ w ∈ u_ws RX12 TX12 19, w ∈ wsX12_salt := by decide +kernel
theorem fl_X12_salt_13 : Cond.fieldLink RX12 13 "RecipeSchedulerModel" "m" "[I" ∈ wsX12_salt := by decide +kernel
noncomputable def X12_salt (Y : Mem) : Option (Int32 × Mem) :=
  gd (inb 5 4202) <| bd2 (X12_plain Y (Y 10 0 1 (ix 5))) <| fun r2 Y4 => some (r2, Y4)
section
variable {p : Program} {l : Launch} {e : Env} {s : State} {m : MethodId} {below : List Frame} {meth : Method} {c : Code} {N0 : Nat} {T : Nat → ClassId} {D : va_G} {gr : List (Nat × Nat)} {ad : Nat → Nat → Nat → Nat}
set_option maxRecDepth 100000 in
set_option maxHeartbeats 4000000 in
theorem w_X12_salt {Y : Mem} (C : Cx p s m [.ref (ad 10 0 0)].toArray meth c cX12_salt 1 wsX12_salt RX12 N0 T D gr ad) (hrt : meth.sig.returnType = (some .int)) (hG : ∀ q ∈ [(10, 0)], q ∈ gr) {res : Int32 × Mem} (h : X12_salt Y = some res) : FW p l e (Rm 1) s m [.ref (ad 10 0 0)].toArray below meth c 1 N0 T D gr ad 0 0 (MQ below (va_Qi (fun r Y1 => (r, Y1) = res) (WB T D gr ad) (fun q => N0 ≤ q)) [.ref (ad 10 0 0)].toArray s 0 0 (fun q => N0 ≤ q)) Y 0 [(0, .ref (ad 10 0 0))] [] := by
  unfold X12_salt at h
  refine fw_aload_n C dX12_salt_0 rfl 0 rfl ?_
  refine fw_aload_n C dX12_salt_1 rfl 0 rfl ?_
  refine fw_get C (ci := 10) (Cn := RX12) (Tc := TX12) (N := 19) (j := 0) ly_X12_salt_12 rfl (hG _ (List.mem_of_getElem? (i := 0) rfl)) (of10_0 _) (ce10 T ad _ _) (by decide) (cx_ts C _ fl_X12_salt_13) (fun _ h => h) (v := .ref (ad 10 0 1)) rfl dX12_salt_2 ?_
  refine fw_iconst C dX12_salt_5 (v := 5) rfl ?_
  obtain ⟨b1, h⟩ := gd_some h
  refine fw_iald2 C (hG _ (List.mem_of_getElem? (i := 0) rfl)) (of10_1 _) (ca10_1 T ad _ _) b1 (Nat.le_of_ble_eq_true rfl) dX12_salt_6 ?_
  obtain ⟨r2, Y4, q3, h⟩ := bd2_some h
  refine fw_callVi C (ci := 10) (Cn := RX12) (Tc := TX12) (N := 19) (As := [.int (Y 10 0 1 (ix 5))]) (c_X12_plain (gac (hG _ (List.mem_of_getElem? (i := 0) rfl)) ga0) q3) (cwV 1 (cx_ts C) gX12_salt_X12_plain rfl rfl rfl (by decide +kernel) ⟨Nat.le_of_ble_eq_true rfl, Nat.le_of_ble_eq_true rfl⟩) rfl (hG _ (List.mem_of_getElem? (i := 0) rfl)) (of10_0 _) (ce10 T ad _ _) rfl (st := []) rfl (Nat.le_of_ble_eq_true rfl) ⟨Nat.le_refl 0, Nat.le_refl 0⟩ dX12_salt_7 ?_
  intro r_ Y_ e_
  obtain ⟨rfl, rfl⟩ := Prod.mk.inj e_
  exact fw_iret C hrt Y4 (Option.some.inj h) (fun t ht => ht) dX12_salt_10
end
set_option maxRecDepth 100000 in
set_option maxHeartbeats 4000000 in
theorem c_X12_salt {l : Launch} {N0 : Nat} {T : Nat → ClassId} {D : va_G} {gr : List (Nat × Nat)} {ad : Nat → Nat → Nat → Nat} {Y : Mem} {res : Int32 × Mem} (hG : ∀ q ∈ [(10, 0)], q ∈ gr) (h : X12_salt Y = some res) : CI l yX12_salt wsX12_salt (Rm 1) N0 T D gr ad Y [.ref (ad 10 0 0)] (fun r Y1 => (r, Y1) = res) :=
  fw_body (by decide +kernel) rfl (Nat.le_of_ble_eq_true rfl) (fun p e s m below meth c C hrt => w_X12_salt C hrt hG  h)
theorem ly_X12_saltNeeded_12 : ∀ w ∈ u_ws RX12 TX12 19, w ∈ wsX12_saltNeeded := by decide +kernel
theorem fl_X12_saltNeeded_1 : Cond.fieldLink RX12 1 "RecipeSchedulerModel" "thrown" "I" ∈ wsX12_saltNeeded := by decide +kernel
theorem fl_X12_saltNeeded_13 : Cond.fieldLink RX12 13 "RecipeSchedulerModel" "m" "[I" ∈ wsX12_saltNeeded := by decide +kernel
noncomputable def X12_saltNeeded_b14  : Nat → Mem → Int32 → Int32 → Option (Int32 × Mem)
  | 0, _, _, _ => none
  | n+1, Y, l2, l1 =>
  gd (inb 13 4202) <| if (Y 10 0 1 (ix 13)) ≤ l2 then (gd (inb 2 4202) <| if (Y 10 0 1 (ix 2)) ≤ l1 then (gd (inb 3 4202) <| if l1 ≤ (Y 10 0 1 (ix 3)) then (some (0, Y)) else (some ((Y 10 0 1 (ix 3)) - l1, Y))) else (some ((Y 10 0 1 (ix 2)) - l1, Y))) else (bd1 (X12_of Y l2 8) <| fun r12 => lt_ (l1 + r12) <| fun v14 => X12_saltNeeded_b14 n Y (l2 + 1) v14)
noncomputable def X12_saltNeeded (Y : Mem) : Option (Int32 × Mem) :=
  lt_ (up Y 10 0 0 9 0) <| fun Y1 => gd (inb 5 4202) <| lt_ (Y1 10 0 1 (ix 5)) <| fun v4 => X12_saltNeeded_b14 FU Y1 0 v4
section
variable {p : Program} {l : Launch} {e : Env} {s : State} {m : MethodId} {below : List Frame} {meth : Method} {c : Code} {N0 : Nat} {T : Nat → ClassId} {D : va_G} {gr : List (Nat × Nat)} {ad : Nat → Nat → Nat → Nat}
set_option maxRecDepth 100000 in
set_option maxHeartbeats 4000000 in
theorem w_X12_saltNeeded_b14  (C : Cx p s m [.ref (ad 10 0 0)].toArray meth c cX12_saltNeeded 3 wsX12_saltNeeded RX12 N0 T D gr ad) (hrt : meth.sig.returnType = (some .int)) (hG : ∀ q ∈ [(10, 0)], q ∈ gr) {res : Int32 × Mem} : ∀ (n : Nat) (Y : Mem) (l2 : Int32) (l1 : Int32), X12_saltNeeded_b14   n Y l2 l1 = some res → FW p l e (Rm 1) s m [.ref (ad 10 0 0)].toArray below meth c 3 N0 T D gr ad 0 0 (MQ below (va_Qi (fun r Y1 => (r, Y1) = res) (WB T D gr ad) (fun q => N0 ≤ q)) [.ref (ad 10 0 0)].toArray s 0 0 (fun q => N0 ≤ q)) Y 14 [(2, .int l2), (1, .int l1), (0, .ref (ad 10 0 0))] [] := by
  intro n
  induction n with
  | zero =>
    intro Y l2 l1 h
    unfold X12_saltNeeded_b14 at h
    cases h
  | succ n ih =>
    intro Y l2 l1 h
    unfold X12_saltNeeded_b14 at h
    refine fw_iload_n C dX12_saltNeeded_14 rfl 0 rfl ?_
    refine fw_aload_n C dX12_saltNeeded_15 rfl 2 rfl ?_
    refine fw_get C (ci := 10) (Cn := RX12) (Tc := TX12) (N := 19) (j := 0) ly_X12_saltNeeded_12 rfl (hG _ (List.mem_of_getElem? (i := 0) rfl)) (of10_0 _) (ce10 T ad _ _) (by decide) (cx_ts C _ fl_X12_saltNeeded_13) (fun _ h => h) (v := .ref (ad 10 0 1)) rfl dX12_saltNeeded_16 ?_
    refine fw_bipush C dX12_saltNeeded_19 (v := 13) rfl ?_
    obtain ⟨b6, h⟩ := gd_some h
    refine fw_iald2 C (hG _ (List.mem_of_getElem? (i := 0) rfl)) (of10_1 _) (ca10_1 T ad _ _) b6 (Nat.le_of_ble_eq_true rfl) dX12_saltNeeded_21 ?_
    refine fw_icmp_ge C dX12_saltNeeded_22 (tgt := 41) rfl (fun c7 => ?_) (fun c7 => ?_)
    · have h := ite_t c7 h
      refine fw_iload_n C dX12_saltNeeded_41 rfl 1 rfl ?_
      refine fw_aload_n C dX12_saltNeeded_42 rfl 2 rfl ?_
      refine fw_get C (ci := 10) (Cn := RX12) (Tc := TX12) (N := 19) (j := 0) ly_X12_saltNeeded_12 rfl (hG _ (List.mem_of_getElem? (i := 0) rfl)) (of10_0 _) (ce10 T ad _ _) (by decide) (cx_ts C _ fl_X12_saltNeeded_13) (fun _ h => h) (v := .ref (ad 10 0 1)) rfl dX12_saltNeeded_43 ?_
      refine fw_iconst C dX12_saltNeeded_46 (v := 2) rfl ?_
      obtain ⟨b8, h⟩ := gd_some h
      refine fw_iald2 C (hG _ (List.mem_of_getElem? (i := 0) rfl)) (of10_1 _) (ca10_1 T ad _ _) b8 (Nat.le_of_ble_eq_true rfl) dX12_saltNeeded_47 ?_
      refine fw_icmp_ge C dX12_saltNeeded_48 (tgt := 60) rfl (fun c9 => ?_) (fun c9 => ?_)
      · have h := ite_t c9 h
        refine fw_iload_n C dX12_saltNeeded_60 rfl 1 rfl ?_
        refine fw_aload_n C dX12_saltNeeded_61 rfl 2 rfl ?_
        refine fw_get C (ci := 10) (Cn := RX12) (Tc := TX12) (N := 19) (j := 0) ly_X12_saltNeeded_12 rfl (hG _ (List.mem_of_getElem? (i := 0) rfl)) (of10_0 _) (ce10 T ad _ _) (by decide) (cx_ts C _ fl_X12_saltNeeded_13) (fun _ h => h) (v := .ref (ad 10 0 1)) rfl dX12_saltNeeded_62 ?_
        refine fw_iconst C dX12_saltNeeded_65 (v := 3) rfl ?_
        obtain ⟨b10, h⟩ := gd_some h
        refine fw_iald2 C (hG _ (List.mem_of_getElem? (i := 0) rfl)) (of10_1 _) (ca10_1 T ad _ _) b10 (Nat.le_of_ble_eq_true rfl) dX12_saltNeeded_66 ?_
        refine fw_icmp_le C dX12_saltNeeded_67 (tgt := 81) rfl (fun c11 => ?_) (fun c11 => ?_)
        · have h := ite_t c11 h
          refine fw_iconst C dX12_saltNeeded_81 (v := 0) rfl ?_
          exact fw_iret C hrt Y (Option.some.inj h) (fun t ht => ht) dX12_saltNeeded_82
        · have h := ite_f c11 h
          refine fw_aload_n C dX12_saltNeeded_70 rfl 2 rfl ?_
          refine fw_get C (ci := 10) (Cn := RX12) (Tc := TX12) (N := 19) (j := 0) ly_X12_saltNeeded_12 rfl (hG _ (List.mem_of_getElem? (i := 0) rfl)) (of10_0 _) (ce10 T ad _ _) (by decide) (cx_ts C _ fl_X12_saltNeeded_13) (fun _ h => h) (v := .ref (ad 10 0 1)) rfl dX12_saltNeeded_71 ?_
          refine fw_iconst C dX12_saltNeeded_74 (v := 3) rfl ?_
          refine fw_iald2 C (hG _ (List.mem_of_getElem? (i := 0) rfl)) (of10_1 _) (ca10_1 T ad _ _) b10 (Nat.le_of_ble_eq_true rfl) dX12_saltNeeded_75 ?_
          refine fw_iload_n C dX12_saltNeeded_76 rfl 1 rfl ?_
          refine fw_isub C dX12_saltNeeded_77 ?_
          refine fw_goto C dX12_saltNeeded_78 (tgt := 82) rfl ?_
          exact fw_iret C hrt Y (Option.some.inj h) (fun t ht => ht) dX12_saltNeeded_82
      · have h := ite_f c9 h
        refine fw_aload_n C dX12_saltNeeded_51 rfl 2 rfl ?_
        refine fw_get C (ci := 10) (Cn := RX12) (Tc := TX12) (N := 19) (j := 0) ly_X12_saltNeeded_12 rfl (hG _ (List.mem_of_getElem? (i := 0) rfl)) (of10_0 _) (ce10 T ad _ _) (by decide) (cx_ts C _ fl_X12_saltNeeded_13) (fun _ h => h) (v := .ref (ad 10 0 1)) rfl dX12_saltNeeded_52 ?_
        refine fw_iconst C dX12_saltNeeded_55 (v := 2) rfl ?_
        refine fw_iald2 C (hG _ (List.mem_of_getElem? (i := 0) rfl)) (of10_1 _) (ca10_1 T ad _ _) b8 (Nat.le_of_ble_eq_true rfl) dX12_saltNeeded_56 ?_
        refine fw_iload_n C dX12_saltNeeded_57 rfl 1 rfl ?_
        refine fw_isub C dX12_saltNeeded_58 ?_
        exact fw_iret C hrt Y (Option.some.inj h) (fun t ht => ht) dX12_saltNeeded_59
    · have h := ite_f c7 h
      refine fw_iload_n C dX12_saltNeeded_25 rfl 1 rfl ?_
      refine fw_aload_n C dX12_saltNeeded_26 rfl 2 rfl ?_
      refine fw_iload_n C dX12_saltNeeded_27 rfl 0 rfl ?_
      refine fw_bipush C dX12_saltNeeded_28 (v := 8) rfl ?_
      obtain ⟨r12, q13, h⟩ := bd1_some h
      refine fw_callVi C (ci := 10) (Cn := RX12) (Tc := TX12) (N := 19) (As := [.int l2, .int 8]) (c_X12_of (gac (hG _ (List.mem_of_getElem? (i := 0) rfl)) ga0) q13) (cwV 2 (cx_ts C) gX12_saltNeeded_X12_of rfl rfl rfl (by decide +kernel) ⟨Nat.le_of_ble_eq_true rfl, Nat.le_of_ble_eq_true rfl⟩) rfl (hG _ (List.mem_of_getElem? (i := 0) rfl)) (of10_0 _) (ce10 T ad _ _) rfl (st := [.int l1]) rfl (Nat.le_of_ble_eq_true rfl) ⟨Nat.le_refl 0, Nat.le_refl 0⟩ dX12_saltNeeded_30 ?_
      rintro _ _ ⟨rfl, rfl⟩
      refine fw_iadd C dX12_saltNeeded_33 ?_
      obtain ⟨v14, e15, h⟩ := lt_some h
      refine fw_top (v' := .int v14) (by rw [e15]) ?_
      refine fw_istore_n C dX12_saltNeeded_34 rfl (by decide) (L' := [(1, .int v14), (2, .int l2), (0, .ref (ad 10 0 0))]) rfl ?_
      refine fw_iinc C dX12_saltNeeded_35 (kk := 1) (v := l2 + 1) rfl rfl (by decide) (L' := [(2, .int (l2 + 1)), (1, .int v14), (0, .ref (ad 10 0 0))]) rfl ?_
      refine fw_goto C dX12_saltNeeded_38 (tgt := 14) rfl ?_
      exact ih _ _ _ h
set_option maxRecDepth 100000 in
set_option maxHeartbeats 4000000 in
theorem w_X12_saltNeeded {Y : Mem} (C : Cx p s m [.ref (ad 10 0 0)].toArray meth c cX12_saltNeeded 3 wsX12_saltNeeded RX12 N0 T D gr ad) (hrt : meth.sig.returnType = (some .int)) (hG : ∀ q ∈ [(10, 0)], q ∈ gr) {res : Int32 × Mem} (h : X12_saltNeeded Y = some res) : FW p l e (Rm 1) s m [.ref (ad 10 0 0)].toArray below meth c 3 N0 T D gr ad 0 0 (MQ below (va_Qi (fun r Y1 => (r, Y1) = res) (WB T D gr ad) (fun q => N0 ≤ q)) [.ref (ad 10 0 0)].toArray s 0 0 (fun q => N0 ≤ q)) Y 0 [(0, .ref (ad 10 0 0))] [] := by
  unfold X12_saltNeeded at h
  refine fw_aload_n C dX12_saltNeeded_0 rfl 0 rfl ?_
  refine fw_iconst C dX12_saltNeeded_1 (v := 0) rfl ?_
  obtain ⟨Y1, e2, h⟩ := lt_some h
  refine fw_put C (ci := 10) (Cn := RX12) (Tc := TX12) (N := 19) (j := 9) (ty := .int) (upd (Y 10 0 0) 9 0) ly_X12_saltNeeded_12 rfl tyX12_ok nmX12 (hG _ (List.mem_of_getElem? (i := 0) rfl)) (of10_0 _) (ce10 T ad _ _) (by decide) (cx_ts C _ fl_X12_saltNeeded_1) (fun _ h => h) rfl (by decide +kernel) rfl rfl (by decide) (ce10_put9 T ad _ _ _) dX12_saltNeeded_2 ?_
  refine fw_mem ((up_eq _ _ _ _ _ _).symm.trans e2) ?_
  refine fw_aload_n C dX12_saltNeeded_5 rfl 0 rfl ?_
  refine fw_get C (ci := 10) (Cn := RX12) (Tc := TX12) (N := 19) (j := 0) ly_X12_saltNeeded_12 rfl (hG _ (List.mem_of_getElem? (i := 0) rfl)) (of10_0 _) (ce10 T ad _ _) (by decide) (cx_ts C _ fl_X12_saltNeeded_13) (fun _ h => h) (v := .ref (ad 10 0 1)) rfl dX12_saltNeeded_6 ?_
  refine fw_iconst C dX12_saltNeeded_9 (v := 5) rfl ?_
  obtain ⟨b3, h⟩ := gd_some h
  refine fw_iald2 C (hG _ (List.mem_of_getElem? (i := 0) rfl)) (of10_1 _) (ca10_1 T ad _ _) b3 (Nat.le_of_ble_eq_true rfl) dX12_saltNeeded_10 ?_
  obtain ⟨v4, e5, h⟩ := lt_some h
  refine fw_top (v' := .int v4) (by rw [e5]) ?_
  refine fw_istore_n C dX12_saltNeeded_11 rfl (by decide) (L' := [(1, .int v4), (0, .ref (ad 10 0 0))]) rfl ?_
  refine fw_iconst C dX12_saltNeeded_12 (v := 0) rfl ?_
  refine fw_istore_n C dX12_saltNeeded_13 rfl (by decide) (L' := [(2, .int 0), (1, .int v4), (0, .ref (ad 10 0 0))]) rfl ?_
  exact w_X12_saltNeeded_b14 C hrt hG   _ _ _ _ h
end
set_option maxRecDepth 100000 in
set_option maxHeartbeats 4000000 in
theorem c_X12_saltNeeded {l : Launch} {N0 : Nat} {T : Nat → ClassId} {D : va_G} {gr : List (Nat × Nat)} {ad : Nat → Nat → Nat → Nat} {Y : Mem} {res : Int32 × Mem} (hG : ∀ q ∈ [(10, 0)], q ∈ gr) (h : X12_saltNeeded Y = some res) : CI l yX12_saltNeeded wsX12_saltNeeded (Rm 1) N0 T D gr ad Y [.ref (ad 10 0 0)] (fun r Y1 => (r, Y1) = res) :=
  fw_body (by decide +kernel) rfl (Nat.le_of_ble_eq_true rfl) (fun p e s m below meth c C hrt => w_X12_saltNeeded C hrt hG  h)
theorem ly_X12_save_12 : ∀ w ∈ u_ws RX12 TX12 19, w ∈ wsX12_save := by decide +kernel
theorem fl_X12_save_17 : Cond.fieldLink RX12 17 "RecipeSchedulerModel" "isSaved" "[Z" ∈ wsX12_save := by decide +kernel
theorem fl_X12_save_13 : Cond.fieldLink RX12 13 "RecipeSchedulerModel" "m" "[I" ∈ wsX12_save := by decide +kernel
noncomputable def X12_save_b15 (a1 : Int32) (Y : Mem) (s0 : Int32) : Option (Int32 × Mem) :=
  bd2 (X12_fails Y s0 0 0) <| fun r4 Y6 => if r4 = 0 then (bd1 (X12_copyBlock Y6 0 (7 + a1)) <| fun Y10 => gd (inb a1 2) <| lt_ (up Y10 10 0 2 (ix a1) (vp_nar .boolean 1)) <| fun Y12 => gd (inb 4 4202) <| some (Y12 10 0 1 (ix 4), Y12)) else (some (0, Y6))
noncomputable def X12_save (Y : Mem) (a1 : Int32) : Option (Int32 × Mem) :=
  bd1 (X12_in Y a1 0 1) <| fun r1 => if r1 = 0 then (X12_save_b15 a1 Y 1) else (X12_save_b15 a1 Y 0)
section
variable {p : Program} {l : Launch} {e : Env} {s : State} {m : MethodId} {below : List Frame} {meth : Method} {c : Code} {N0 : Nat} {T : Nat → ClassId} {D : va_G} {gr : List (Nat × Nat)} {ad : Nat → Nat → Nat → Nat}
set_option maxRecDepth 100000 in
set_option maxHeartbeats 4000000 in
theorem w_X12_save_b15 {a1 : Int32} (C : Cx p s m [.ref (ad 10 0 0), .int a1].toArray meth c cX12_save 2 wsX12_save RX12 N0 T D gr ad) (hrt : meth.sig.returnType = (some .int)) (hG : ∀ q ∈ [(10, 0)], q ∈ gr) {res : Int32 × Mem} (Y : Mem) (s0 : Int32) (h : X12_save_b15 a1  Y s0 = some res) : FW p l e (Rm 1) s m [.ref (ad 10 0 0), .int a1].toArray below meth c 2 N0 T D gr ad 0 0 (MQ below (va_Qi (fun r Y1 => (r, Y1) = res) (WB T D gr ad) (fun q => N0 ≤ q)) [.ref (ad 10 0 0), .int a1].toArray s 0 0 (fun q => N0 ≤ q)) Y 15 [(0, .ref (ad 10 0 0)), (1, .int a1)] [.int s0, .ref (ad 10 0 0)] := by
  unfold X12_save_b15 at h
  refine fw_iconst C dX12_save_15 (v := 0) rfl ?_
  refine fw_iconst C dX12_save_16 (v := 0) rfl ?_
  obtain ⟨r4, Y6, q5, h⟩ := bd2_some h
  refine fw_callVi C (ci := 10) (Cn := RX12) (Tc := TX12) (N := 19) (As := [.int s0, .int 0, .int 0]) (c_X12_fails (gac (hG _ (List.mem_of_getElem? (i := 0) rfl)) ga0) q5) (cwV 3 (cx_ts C) gX12_save_X12_fails rfl rfl rfl (by decide +kernel) ⟨Nat.le_of_ble_eq_true rfl, Nat.le_of_ble_eq_true rfl⟩) rfl (hG _ (List.mem_of_getElem? (i := 0) rfl)) (of10_0 _) (ce10 T ad _ _) rfl (st := []) rfl (Nat.le_of_ble_eq_true rfl) ⟨Nat.le_refl 0, Nat.le_refl 0⟩ dX12_save_17 ?_
  intro r_ Y_ e_
  obtain ⟨rfl, rfl⟩ := Prod.mk.inj e_
  refine fw_if_eq C dX12_save_20 (tgt := 25) rfl (fun c7 => ?_) (fun c7 => ?_)
  · have h := ite_t c7 h
    refine fw_aload_n C dX12_save_25 rfl 0 rfl ?_
    refine fw_iconst C dX12_save_26 (v := 0) rfl ?_
    refine fw_bipush C dX12_save_27 (v := 7) rfl ?_
    refine fw_iload_n C dX12_save_29 rfl 1 rfl ?_
    refine fw_iadd C dX12_save_30 ?_
    obtain ⟨Y10, q9, h⟩ := bd1_some h
    refine fw_callVv C (ci := 10) (Cn := RX12) (Tc := TX12) (N := 19) (As := [.int 0, .int (7 + a1)]) (c_X12_copyBlock (gac (hG _ (List.mem_of_getElem? (i := 0) rfl)) ga0) q9) (cwV 2 (cx_ts C) gX12_save_X12_copyBlock rfl rfl rfl (by decide +kernel) ⟨Nat.le_of_ble_eq_true rfl, Nat.le_of_ble_eq_true rfl⟩) rfl (hG _ (List.mem_of_getElem? (i := 0) rfl)) (of10_0 _) (ce10 T ad _ _) rfl (st := []) rfl (Nat.le_of_ble_eq_true rfl) ⟨Nat.le_refl 0, Nat.le_refl 0⟩ dX12_save_31 ?_
    rintro _ rfl
    refine fw_aload_n C dX12_save_34 rfl 0 rfl ?_
    refine fw_get C (ci := 10) (Cn := RX12) (Tc := TX12) (N := 19) (j := 1) ly_X12_save_12 rfl (hG _ (List.mem_of_getElem? (i := 0) rfl)) (of10_0 _) (ce10 T ad _ _) (by decide) (cx_ts C _ fl_X12_save_17) (fun _ h => h) (v := .ref (ad 10 0 2)) rfl dX12_save_35 ?_
    refine fw_iload_n C dX12_save_38 rfl 1 rfl ?_
    refine fw_iconst C dX12_save_39 (v := 1) rfl ?_
    obtain ⟨b11, h⟩ := gd_some h
    obtain ⟨Y12, e13, h⟩ := lt_some h
    refine fw_zast2 C (hG _ (List.mem_of_getElem? (i := 0) rfl)) (of10_2 _) (ca10_2 T ad _) b11 (Nat.le_of_ble_eq_true rfl) dX12_save_40 ?_
    refine fw_mem e13 ?_
    refine fw_aload_n C dX12_save_41 rfl 0 rfl ?_
    refine fw_get C (ci := 10) (Cn := RX12) (Tc := TX12) (N := 19) (j := 0) ly_X12_save_12 rfl (hG _ (List.mem_of_getElem? (i := 0) rfl)) (of10_0 _) (ce10 T ad _ _) (by decide) (cx_ts C _ fl_X12_save_13) (fun _ h => h) (v := .ref (ad 10 0 1)) rfl dX12_save_42 ?_
    refine fw_iconst C dX12_save_45 (v := 4) rfl ?_
    obtain ⟨b14, h⟩ := gd_some h
    refine fw_iald2 C (hG _ (List.mem_of_getElem? (i := 0) rfl)) (of10_1 _) (ca10_1 T ad _ _) b14 (Nat.le_of_ble_eq_true rfl) dX12_save_46 ?_
    exact fw_iret C hrt Y12 (Option.some.inj h) (fun t ht => ht) dX12_save_47
  · have h := ite_f c7 h
    refine fw_iconst C dX12_save_23 (v := 0) rfl ?_
    exact fw_iret C hrt Y6 (Option.some.inj h) (fun t ht => ht) dX12_save_24
set_option maxRecDepth 100000 in
set_option maxHeartbeats 4000000 in
theorem w_X12_save {Y : Mem} {a1 : Int32} (C : Cx p s m [.ref (ad 10 0 0), .int a1].toArray meth c cX12_save 2 wsX12_save RX12 N0 T D gr ad) (hrt : meth.sig.returnType = (some .int)) (hG : ∀ q ∈ [(10, 0)], q ∈ gr) {res : Int32 × Mem} (h : X12_save Y a1 = some res) : FW p l e (Rm 1) s m [.ref (ad 10 0 0), .int a1].toArray below meth c 2 N0 T D gr ad 0 0 (MQ below (va_Qi (fun r Y1 => (r, Y1) = res) (WB T D gr ad) (fun q => N0 ≤ q)) [.ref (ad 10 0 0), .int a1].toArray s 0 0 (fun q => N0 ≤ q)) Y 0 [(0, .ref (ad 10 0 0)), (1, .int a1)] [] := by
  unfold X12_save at h
  refine fw_aload_n C dX12_save_0 rfl 0 rfl ?_
  refine fw_iload_n C dX12_save_1 rfl 1 rfl ?_
  refine fw_iconst C dX12_save_2 (v := 0) rfl ?_
  refine fw_iconst C dX12_save_3 (v := 1) rfl ?_
  obtain ⟨r1, q2, h⟩ := bd1_some h
  refine fw_callSi C (As := [.int a1, .int 0, .int 1]) (c_X12_in ga0 q2) (va_cwS 3 (cx_ts C) gX12_save_X12_in rfl rfl rfl (by decide +kernel) ⟨Nat.le_of_ble_eq_true rfl, Nat.le_of_ble_eq_true rfl⟩) rfl (st := [.ref (ad 10 0 0)]) rfl (Nat.le_of_ble_eq_true rfl) ⟨Nat.le_refl 0, Nat.le_refl 0⟩ dX12_save_4 ?_
  rintro _ _ ⟨rfl, rfl⟩
  refine fw_if_ne C dX12_save_7 (tgt := 14) rfl (fun c3 => ?_) (fun c3 => ?_)
  · have h := ite_f c3 h
    refine fw_iconst C dX12_save_14 (v := 0) rfl ?_
    exact w_X12_save_b15 C hrt hG   _ _ h
  · have h := ite_t c3 h
    refine fw_iconst C dX12_save_10 (v := 1) rfl ?_
    refine fw_goto C dX12_save_11 (tgt := 15) rfl ?_
    exact w_X12_save_b15 C hrt hG   _ _ h
end
set_option maxRecDepth 100000 in
set_option maxHeartbeats 4000000 in
theorem c_X12_save {l : Launch} {N0 : Nat} {T : Nat → ClassId} {D : va_G} {gr : List (Nat × Nat)} {ad : Nat → Nat → Nat → Nat} {Y : Mem} {a1 : Int32} {res : Int32 × Mem} (hG : ∀ q ∈ [(10, 0)], q ∈ gr) (h : X12_save Y a1 = some res) : CI l yX12_save wsX12_save (Rm 1) N0 T D gr ad Y [.ref (ad 10 0 0), .int a1] (fun r Y1 => (r, Y1) = res) :=
  fw_body (by decide +kernel) rfl (Nat.le_of_ble_eq_true rfl) (fun p e s m below meth c C hrt => w_X12_save C hrt hG  h)
theorem ly_X12_serve_12 : ∀ w ∈ u_ws RX12 TX12 19, w ∈ wsX12_serve := by decide +kernel
theorem fl_X12_serve_13 : Cond.fieldLink RX12 13 "RecipeSchedulerModel" "m" "[I" ∈ wsX12_serve := by decide +kernel
noncomputable def X12_serve_b13  (Y : Mem) (s0 : Int32) : Option (Int32 × Mem) :=
  bd2 (X12_fails Y s0 0 0) <| fun r4 Y6 => if r4 = 0 then (bd1 (X12_remember Y6 0) <| fun Y10 => gd (inb 6 4202) <| lt_ (up Y10 10 0 1 (ix 6) 1) <| fun Y12 => bd1 (X12_tasteNow Y12) <| fun r14 => some (r14, Y12)) else (some (0, Y6))
noncomputable def X12_serve (Y : Mem) : Option (Int32 × Mem) :=
  bd1 (X12_servingReason Y) <| fun r1 => if r1 = 0 then (X12_serve_b13 Y 0) else (X12_serve_b13 Y 1)
section
variable {p : Program} {l : Launch} {e : Env} {s : State} {m : MethodId} {below : List Frame} {meth : Method} {c : Code} {N0 : Nat} {T : Nat → ClassId} {D : va_G} {gr : List (Nat × Nat)} {ad : Nat → Nat → Nat → Nat}
set_option maxRecDepth 100000 in
set_option maxHeartbeats 4000000 in
theorem w_X12_serve_b13  (C : Cx p s m [.ref (ad 10 0 0)].toArray meth c cX12_serve 1 wsX12_serve RX12 N0 T D gr ad) (hrt : meth.sig.returnType = (some .int)) (hG : ∀ q ∈ [(10, 0)], q ∈ gr) {res : Int32 × Mem} (Y : Mem) (s0 : Int32) (h : X12_serve_b13   Y s0 = some res) : FW p l e (Rm 4) s m [.ref (ad 10 0 0)].toArray below meth c 1 N0 T D gr ad 0 0 (MQ below (va_Qi (fun r Y1 => (r, Y1) = res) (WB T D gr ad) (fun q => N0 ≤ q)) [.ref (ad 10 0 0)].toArray s 0 0 (fun q => N0 ≤ q)) Y 13 [(0, .ref (ad 10 0 0))] [.int s0, .ref (ad 10 0 0)] := by
  unfold X12_serve_b13 at h
  refine fw_iconst C dX12_serve_13 (v := 0) rfl ?_
  refine fw_iconst C dX12_serve_14 (v := 0) rfl ?_
  obtain ⟨r4, Y6, q5, h⟩ := bd2_some h
  refine fw_callVi C (ci := 10) (Cn := RX12) (Tc := TX12) (N := 19) (As := [.int s0, .int 0, .int 0]) (c_X12_fails (gac (hG _ (List.mem_of_getElem? (i := 0) rfl)) ga0) q5) (cwV 3 (cx_ts C) gX12_serve_X12_fails rfl rfl rfl (by decide +kernel) ⟨Nat.le_of_ble_eq_true rfl, Nat.le_of_ble_eq_true rfl⟩) rfl (hG _ (List.mem_of_getElem? (i := 0) rfl)) (of10_0 _) (ce10 T ad _ _) rfl (st := []) rfl (Nat.le_of_ble_eq_true rfl) ⟨Nat.le_refl 0, Nat.le_refl 0⟩ dX12_serve_15 ?_
  intro r_ Y_ e_
  obtain ⟨rfl, rfl⟩ := Prod.mk.inj e_
  refine fw_if_eq C dX12_serve_18 (tgt := 23) rfl (fun c7 => ?_) (fun c7 => ?_)
  · have h := ite_t c7 h
    refine fw_aload_n C dX12_serve_23 rfl 0 rfl ?_
    refine fw_iconst C dX12_serve_24 (v := 0) rfl ?_
    obtain ⟨Y10, q9, h⟩ := bd1_some h
    refine fw_callVv C (ci := 10) (Cn := RX12) (Tc := TX12) (N := 19) (As := [.int 0]) (c_X12_remember (gac (hG _ (List.mem_of_getElem? (i := 0) rfl)) ga0) q9) (cwV 1 (cx_ts C) gX12_serve_X12_remember rfl rfl rfl (by decide +kernel) ⟨Nat.le_of_ble_eq_true rfl, Nat.le_of_ble_eq_true rfl⟩) rfl (hG _ (List.mem_of_getElem? (i := 0) rfl)) (of10_0 _) (ce10 T ad _ _) rfl (st := []) rfl (Nat.le_of_ble_eq_true rfl) ⟨Nat.le_refl 0, Nat.le_refl 0⟩ dX12_serve_25 ?_
    rintro _ rfl
    refine fw_aload_n C dX12_serve_28 rfl 0 rfl ?_
    refine fw_get C (ci := 10) (Cn := RX12) (Tc := TX12) (N := 19) (j := 0) ly_X12_serve_12 rfl (hG _ (List.mem_of_getElem? (i := 0) rfl)) (of10_0 _) (ce10 T ad _ _) (by decide) (cx_ts C _ fl_X12_serve_13) (fun _ h => h) (v := .ref (ad 10 0 1)) rfl dX12_serve_29 ?_
    refine fw_bipush C dX12_serve_32 (v := 6) rfl ?_
    refine fw_iconst C dX12_serve_34 (v := 1) rfl ?_
    obtain ⟨b11, h⟩ := gd_some h
    obtain ⟨Y12, e13, h⟩ := lt_some h
    refine fw_iast2 C (hG _ (List.mem_of_getElem? (i := 0) rfl)) (of10_1 _) (ca10_1 T ad _) b11 (Nat.le_of_ble_eq_true rfl) dX12_serve_35 ?_
    refine fw_mem e13 ?_
    refine fw_aload_n C dX12_serve_36 rfl 0 rfl ?_
    obtain ⟨r14, q15, h⟩ := bd1_some h
    refine fw_callVi C (ci := 10) (Cn := RX12) (Tc := TX12) (N := 19) (As := []) (c_X12_tasteNow (gac (hG _ (List.mem_of_getElem? (i := 0) rfl)) ga0) q15) (cwV 0 (cx_ts C) gX12_serve_X12_tasteNow rfl rfl rfl (by decide +kernel) ⟨Nat.le_of_ble_eq_true rfl, Nat.le_of_ble_eq_true rfl⟩) rfl (hG _ (List.mem_of_getElem? (i := 0) rfl)) (of10_0 _) (ce10 T ad _ _) rfl (st := []) rfl (Nat.le_of_ble_eq_true rfl) ⟨Nat.le_refl 0, Nat.le_refl 0⟩ dX12_serve_37 ?_
    rintro _ _ ⟨rfl, rfl⟩
    exact fw_iret C hrt Y12 (Option.some.inj h) (fun t ht => ht) dX12_serve_40
  · have h := ite_f c7 h
    refine fw_iconst C dX12_serve_21 (v := 0) rfl ?_
    exact fw_iret C hrt Y6 (Option.some.inj h) (fun t ht => ht) dX12_serve_22
set_option maxRecDepth 100000 in
set_option maxHeartbeats 4000000 in
theorem w_X12_serve {Y : Mem} (C : Cx p s m [.ref (ad 10 0 0)].toArray meth c cX12_serve 1 wsX12_serve RX12 N0 T D gr ad) (hrt : meth.sig.returnType = (some .int)) (hG : ∀ q ∈ [(10, 0)], q ∈ gr) {res : Int32 × Mem} (h : X12_serve Y = some res) : FW p l e (Rm 4) s m [.ref (ad 10 0 0)].toArray below meth c 1 N0 T D gr ad 0 0 (MQ below (va_Qi (fun r Y1 => (r, Y1) = res) (WB T D gr ad) (fun q => N0 ≤ q)) [.ref (ad 10 0 0)].toArray s 0 0 (fun q => N0 ≤ q)) Y 0 [(0, .ref (ad 10 0 0))] [] := by
  unfold X12_serve at h
  refine fw_aload_n C dX12_serve_0 rfl 0 rfl ?_
  refine fw_aload_n C dX12_serve_1 rfl 0 rfl ?_
  obtain ⟨r1, q2, h⟩ := bd1_some h
  refine fw_callVi C (ci := 10) (Cn := RX12) (Tc := TX12) (N := 19) (As := []) (c_X12_servingReason (gac (hG _ (List.mem_of_getElem? (i := 0) rfl)) ga0) q2) (cwV 0 (cx_ts C) gX12_serve_X12_servingReason rfl rfl rfl (by decide +kernel) ⟨Nat.le_of_ble_eq_true rfl, Nat.le_of_ble_eq_true rfl⟩) rfl (hG _ (List.mem_of_getElem? (i := 0) rfl)) (of10_0 _) (ce10 T ad _ _) rfl (st := [.ref (ad 10 0 0)]) rfl (Nat.le_of_ble_eq_true rfl) ⟨Nat.le_refl 0, Nat.le_refl 0⟩ dX12_serve_2 ?_
  rintro _ _ ⟨rfl, rfl⟩
  refine fw_if_eq C dX12_serve_5 (tgt := 12) rfl (fun c3 => ?_) (fun c3 => ?_)
  · have h := ite_t c3 h
    refine fw_iconst C dX12_serve_12 (v := 0) rfl ?_
    exact w_X12_serve_b13 C hrt hG   _ _ h
  · have h := ite_f c3 h
    refine fw_iconst C dX12_serve_8 (v := 1) rfl ?_
    refine fw_goto C dX12_serve_9 (tgt := 13) rfl ?_
    exact w_X12_serve_b13 C hrt hG   _ _ h
end
set_option maxRecDepth 100000 in
set_option maxHeartbeats 4000000 in
theorem c_X12_serve {l : Launch} {N0 : Nat} {T : Nat → ClassId} {D : va_G} {gr : List (Nat × Nat)} {ad : Nat → Nat → Nat → Nat} {Y : Mem} {res : Int32 × Mem} (hG : ∀ q ∈ [(10, 0)], q ∈ gr) (h : X12_serve Y = some res) : CI l yX12_serve wsX12_serve (Rm 4) N0 T D gr ad Y [.ref (ad 10 0 0)] (fun r Y1 => (r, Y1) = res) :=
  fw_body (by decide +kernel) rfl (Nat.le_of_ble_eq_true rfl) (fun p e s m below meth c C hrt => w_X12_serve C hrt hG  h)
theorem ly_X12_setCooks_12 : ∀ w ∈ u_ws RX12 TX12 19, w ∈ wsX12_setCooks := by decide +kernel
theorem fl_X12_setCooks_13 : Cond.fieldLink RX12 13 "RecipeSchedulerModel" "m" "[I" ∈ wsX12_setCooks := by decide +kernel
noncomputable def X12_setCooks_b15 (a1 : Int32) (Y : Mem) (s0 : Int32) : Option (Int32 × Mem) :=
  bd2 (X12_fails Y s0 0 0) <| fun r4 Y6 => if r4 = 0 then (bd1 (X12_remember Y6 0) <| fun Y10 => gd (inb 0 4202) <| lt_ (Y10 10 0 1 (ix 0)) <| fun v12 => lt_ (up Y10 10 0 1 (ix 0) a1) <| fun Y14 => some (v12, Y14)) else (some (0, Y6))
noncomputable def X12_setCooks (Y : Mem) (a1 : Int32) : Option (Int32 × Mem) :=
  bd1 (X12_in Y a1 1 4) <| fun r1 => if r1 = 0 then (X12_setCooks_b15 a1 Y 1) else (X12_setCooks_b15 a1 Y 0)
section
variable {p : Program} {l : Launch} {e : Env} {s : State} {m : MethodId} {below : List Frame} {meth : Method} {c : Code} {N0 : Nat} {T : Nat → ClassId} {D : va_G} {gr : List (Nat × Nat)} {ad : Nat → Nat → Nat → Nat}
set_option maxRecDepth 100000 in
set_option maxHeartbeats 4000000 in
theorem w_X12_setCooks_b15 {a1 : Int32} (C : Cx p s m [.ref (ad 10 0 0), .int a1].toArray meth c cX12_setCooks 3 wsX12_setCooks RX12 N0 T D gr ad) (hrt : meth.sig.returnType = (some .int)) (hG : ∀ q ∈ [(10, 0)], q ∈ gr) {res : Int32 × Mem} (Y : Mem) (s0 : Int32) (h : X12_setCooks_b15 a1  Y s0 = some res) : FW p l e (Rm 2) s m [.ref (ad 10 0 0), .int a1].toArray below meth c 3 N0 T D gr ad 0 0 (MQ below (va_Qi (fun r Y1 => (r, Y1) = res) (WB T D gr ad) (fun q => N0 ≤ q)) [.ref (ad 10 0 0), .int a1].toArray s 0 0 (fun q => N0 ≤ q)) Y 15 [(0, .ref (ad 10 0 0)), (1, .int a1)] [.int s0, .ref (ad 10 0 0)] := by
  unfold X12_setCooks_b15 at h
  refine fw_iconst C dX12_setCooks_15 (v := 0) rfl ?_
  refine fw_iconst C dX12_setCooks_16 (v := 0) rfl ?_
  obtain ⟨r4, Y6, q5, h⟩ := bd2_some h
  refine fw_callVi C (ci := 10) (Cn := RX12) (Tc := TX12) (N := 19) (As := [.int s0, .int 0, .int 0]) (c_X12_fails (gac (hG _ (List.mem_of_getElem? (i := 0) rfl)) ga0) q5) (cwV 3 (cx_ts C) gX12_setCooks_X12_fails rfl rfl rfl (by decide +kernel) ⟨Nat.le_of_ble_eq_true rfl, Nat.le_of_ble_eq_true rfl⟩) rfl (hG _ (List.mem_of_getElem? (i := 0) rfl)) (of10_0 _) (ce10 T ad _ _) rfl (st := []) rfl (Nat.le_of_ble_eq_true rfl) ⟨Nat.le_refl 0, Nat.le_refl 0⟩ dX12_setCooks_17 ?_
  intro r_ Y_ e_
  obtain ⟨rfl, rfl⟩ := Prod.mk.inj e_
  refine fw_if_eq C dX12_setCooks_20 (tgt := 25) rfl (fun c7 => ?_) (fun c7 => ?_)
  · have h := ite_t c7 h
    refine fw_aload_n C dX12_setCooks_25 rfl 0 rfl ?_
    refine fw_iconst C dX12_setCooks_26 (v := 0) rfl ?_
    obtain ⟨Y10, q9, h⟩ := bd1_some h
    refine fw_callVv C (ci := 10) (Cn := RX12) (Tc := TX12) (N := 19) (As := [.int 0]) (c_X12_remember (gac (hG _ (List.mem_of_getElem? (i := 0) rfl)) ga0) q9) (cwV 1 (cx_ts C) gX12_setCooks_X12_remember rfl rfl rfl (by decide +kernel) ⟨Nat.le_of_ble_eq_true rfl, Nat.le_of_ble_eq_true rfl⟩) rfl (hG _ (List.mem_of_getElem? (i := 0) rfl)) (of10_0 _) (ce10 T ad _ _) rfl (st := []) rfl (Nat.le_of_ble_eq_true rfl) ⟨Nat.le_refl 0, Nat.le_refl 0⟩ dX12_setCooks_27 ?_
    rintro _ rfl
    refine fw_aload_n C dX12_setCooks_30 rfl 0 rfl ?_
    refine fw_get C (ci := 10) (Cn := RX12) (Tc := TX12) (N := 19) (j := 0) ly_X12_setCooks_12 rfl (hG _ (List.mem_of_getElem? (i := 0) rfl)) (of10_0 _) (ce10 T ad _ _) (by decide) (cx_ts C _ fl_X12_setCooks_13) (fun _ h => h) (v := .ref (ad 10 0 1)) rfl dX12_setCooks_31 ?_
    refine fw_iconst C dX12_setCooks_34 (v := 0) rfl ?_
    obtain ⟨b11, h⟩ := gd_some h
    refine fw_iald2 C (hG _ (List.mem_of_getElem? (i := 0) rfl)) (of10_1 _) (ca10_1 T ad _ _) b11 (Nat.le_of_ble_eq_true rfl) dX12_setCooks_35 ?_
    obtain ⟨v12, e13, h⟩ := lt_some h
    refine fw_top (v' := .int v12) (by rw [e13]) ?_
    refine fw_istore_n C dX12_setCooks_36 rfl (by decide) (L' := [(2, .int v12), (0, .ref (ad 10 0 0)), (1, .int a1)]) rfl ?_
    refine fw_aload_n C dX12_setCooks_37 rfl 1 rfl ?_
    refine fw_get C (ci := 10) (Cn := RX12) (Tc := TX12) (N := 19) (j := 0) ly_X12_setCooks_12 rfl (hG _ (List.mem_of_getElem? (i := 0) rfl)) (of10_0 _) (ce10 T ad _ _) (by decide) (cx_ts C _ fl_X12_setCooks_13) (fun _ h => h) (v := .ref (ad 10 0 1)) rfl dX12_setCooks_38 ?_
    refine fw_iconst C dX12_setCooks_41 (v := 0) rfl ?_
    refine fw_iload_n C dX12_setCooks_42 rfl 2 rfl ?_
    obtain ⟨Y14, e15, h⟩ := lt_some h
    refine fw_iast2 C (hG _ (List.mem_of_getElem? (i := 0) rfl)) (of10_1 _) (ca10_1 T ad _) b11 (Nat.le_of_ble_eq_true rfl) dX12_setCooks_43 ?_
    refine fw_mem e15 ?_
    refine fw_iload_n C dX12_setCooks_44 rfl 0 rfl ?_
    exact fw_iret C hrt Y14 (Option.some.inj h) (fun t ht => ht) dX12_setCooks_45
  · have h := ite_f c7 h
    refine fw_iconst C dX12_setCooks_23 (v := 0) rfl ?_
    exact fw_iret C hrt Y6 (Option.some.inj h) (fun t ht => ht) dX12_setCooks_24
set_option maxRecDepth 100000 in
set_option maxHeartbeats 4000000 in
theorem w_X12_setCooks {Y : Mem} {a1 : Int32} (C : Cx p s m [.ref (ad 10 0 0), .int a1].toArray meth c cX12_setCooks 3 wsX12_setCooks RX12 N0 T D gr ad) (hrt : meth.sig.returnType = (some .int)) (hG : ∀ q ∈ [(10, 0)], q ∈ gr) {res : Int32 × Mem} (h : X12_setCooks Y a1 = some res) : FW p l e (Rm 2) s m [.ref (ad 10 0 0), .int a1].toArray below meth c 3 N0 T D gr ad 0 0 (MQ below (va_Qi (fun r Y1 => (r, Y1) = res) (WB T D gr ad) (fun q => N0 ≤ q)) [.ref (ad 10 0 0), .int a1].toArray s 0 0 (fun q => N0 ≤ q)) Y 0 [(0, .ref (ad 10 0 0)), (1, .int a1)] [] := by
  unfold X12_setCooks at h
  refine fw_aload_n C dX12_setCooks_0 rfl 0 rfl ?_
  refine fw_iload_n C dX12_setCooks_1 rfl 1 rfl ?_
  refine fw_iconst C dX12_setCooks_2 (v := 1) rfl ?_
  refine fw_iconst C dX12_setCooks_3 (v := 4) rfl ?_
  obtain ⟨r1, q2, h⟩ := bd1_some h
  refine fw_callSi C (As := [.int a1, .int 1, .int 4]) (c_X12_in ga0 q2) (va_cwS 3 (cx_ts C) gX12_setCooks_X12_in rfl rfl rfl (by decide +kernel) ⟨Nat.le_of_ble_eq_true rfl, Nat.le_of_ble_eq_true rfl⟩) rfl (st := [.ref (ad 10 0 0)]) rfl (Nat.le_of_ble_eq_true rfl) ⟨Nat.le_refl 0, Nat.le_refl 0⟩ dX12_setCooks_4 ?_
  rintro _ _ ⟨rfl, rfl⟩
  refine fw_if_ne C dX12_setCooks_7 (tgt := 14) rfl (fun c3 => ?_) (fun c3 => ?_)
  · have h := ite_f c3 h
    refine fw_iconst C dX12_setCooks_14 (v := 0) rfl ?_
    exact w_X12_setCooks_b15 C hrt hG   _ _ h
  · have h := ite_t c3 h
    refine fw_iconst C dX12_setCooks_10 (v := 1) rfl ?_
    refine fw_goto C dX12_setCooks_11 (tgt := 15) rfl ?_
    exact w_X12_setCooks_b15 C hrt hG   _ _ h
end
set_option maxRecDepth 100000 in
set_option maxHeartbeats 4000000 in
theorem c_X12_setCooks {l : Launch} {N0 : Nat} {T : Nat → ClassId} {D : va_G} {gr : List (Nat × Nat)} {ad : Nat → Nat → Nat → Nat} {Y : Mem} {a1 : Int32} {res : Int32 × Mem} (hG : ∀ q ∈ [(10, 0)], q ∈ gr) (h : X12_setCooks Y a1 = some res) : CI l yX12_setCooks wsX12_setCooks (Rm 2) N0 T D gr ad Y [.ref (ad 10 0 0), .int a1] (fun r Y1 => (r, Y1) = res) :=
  fw_body (by decide +kernel) rfl (Nat.le_of_ble_eq_true rfl) (fun p e s m below meth c C hrt => w_X12_setCooks C hrt hG  h)
noncomputable def X12_setDuration_b29 (a1 : Int32) (a2 : Int32) (Y : Mem) (s0 : Int32) (s1 : Int32) : Option (Int32 × Mem) :=
  bd2 (X12_fails Y s1 s0 0) <| fun r7 Y9 => if r7 = 0 then (bd1 (X12_remember Y9 0) <| fun Y13 => bd1 (X12_of Y13 a1 7) <| fun r14 => bd1 (X12_set Y13 a1 7 a2) <| fun Y18 => some (r14, Y18)) else (some (0, Y9))
noncomputable def X12_setDuration_b14 (a1 : Int32) (a2 : Int32) (Y : Mem) (s0 : Int32) : Option (Int32 × Mem) :=
  bd1 (X12_in Y a2 1 60) <| fun r4 => if r4 = 0 then (X12_setDuration_b29 a1 a2 Y 1 s0) else (X12_setDuration_b29 a1 a2 Y 0 s0)
noncomputable def X12_setDuration (Y : Mem) (a1 : Int32) (a2 : Int32) : Option (Int32 × Mem) :=
  bd1 (X12_isStep Y a1) <| fun r1 => if r1 = 0 then (X12_setDuration_b14 a1 a2 Y 1) else (X12_setDuration_b14 a1 a2 Y 0)
section
variable {p : Program} {l : Launch} {e : Env} {s : State} {m : MethodId} {below : List Frame} {meth : Method} {c : Code} {N0 : Nat} {T : Nat → ClassId} {D : va_G} {gr : List (Nat × Nat)} {ad : Nat → Nat → Nat → Nat}
set_option maxRecDepth 100000 in
set_option maxHeartbeats 4000000 in
theorem w_X12_setDuration_b29 {a1 : Int32} {a2 : Int32} (C : Cx p s m [.ref (ad 10 0 0), .int a1, .int a2].toArray meth c cX12_setDuration 4 wsX12_setDuration RX12 N0 T D gr ad) (hrt : meth.sig.returnType = (some .int)) (hG : ∀ q ∈ [(10, 0)], q ∈ gr) {res : Int32 × Mem} (Y : Mem) (s0 : Int32) (s1 : Int32) (h : X12_setDuration_b29 a1 a2  Y s0 s1 = some res) : FW p l e (Rm 2) s m [.ref (ad 10 0 0), .int a1, .int a2].toArray below meth c 4 N0 T D gr ad 0 0 (MQ below (va_Qi (fun r Y1 => (r, Y1) = res) (WB T D gr ad) (fun q => N0 ≤ q)) [.ref (ad 10 0 0), .int a1, .int a2].toArray s 0 0 (fun q => N0 ≤ q)) Y 29 [(0, .ref (ad 10 0 0)), (1, .int a1), (2, .int a2)] [.int s0, .int s1, .ref (ad 10 0 0)] := by
  unfold X12_setDuration_b29 at h
  refine fw_iconst C dX12_setDuration_29 (v := 0) rfl ?_
  obtain ⟨r7, Y9, q8, h⟩ := bd2_some h
  refine fw_callVi C (ci := 10) (Cn := RX12) (Tc := TX12) (N := 19) (As := [.int s1, .int s0, .int 0]) (c_X12_fails (gac (hG _ (List.mem_of_getElem? (i := 0) rfl)) ga0) q8) (cwV 3 (cx_ts C) gX12_setDuration_X12_fails rfl rfl rfl (by decide +kernel) ⟨Nat.le_of_ble_eq_true rfl, Nat.le_of_ble_eq_true rfl⟩) rfl (hG _ (List.mem_of_getElem? (i := 0) rfl)) (of10_0 _) (ce10 T ad _ _) rfl (st := []) rfl (Nat.le_of_ble_eq_true rfl) ⟨Nat.le_refl 0, Nat.le_refl 0⟩ dX12_setDuration_30 ?_
  intro r_ Y_ e_
  obtain ⟨rfl, rfl⟩ := Prod.mk.inj e_
  refine fw_if_eq C dX12_setDuration_33 (tgt := 38) rfl (fun c10 => ?_) (fun c10 => ?_)
  · have h := ite_t c10 h
    refine fw_aload_n C dX12_setDuration_38 rfl 0 rfl ?_
    refine fw_iconst C dX12_setDuration_39 (v := 0) rfl ?_
    obtain ⟨Y13, q12, h⟩ := bd1_some h
    refine fw_callVv C (ci := 10) (Cn := RX12) (Tc := TX12) (N := 19) (As := [.int 0]) (c_X12_remember (gac (hG _ (List.mem_of_getElem? (i := 0) rfl)) ga0) q12) (cwV 1 (cx_ts C) gX12_setDuration_X12_remember rfl rfl rfl (by decide +kernel) ⟨Nat.le_of_ble_eq_true rfl, Nat.le_of_ble_eq_true rfl⟩) rfl (hG _ (List.mem_of_getElem? (i := 0) rfl)) (of10_0 _) (ce10 T ad _ _) rfl (st := []) rfl (Nat.le_of_ble_eq_true rfl) ⟨Nat.le_refl 0, Nat.le_refl 0⟩ dX12_setDuration_40 ?_
    rintro _ rfl
    refine fw_aload_n C dX12_setDuration_43 rfl 0 rfl ?_
    refine fw_iload_n C dX12_setDuration_44 rfl 1 rfl ?_
    refine fw_bipush C dX12_setDuration_45 (v := 7) rfl ?_
    obtain ⟨r14, q15, h⟩ := bd1_some h
    refine fw_callVi C (ci := 10) (Cn := RX12) (Tc := TX12) (N := 19) (As := [.int a1, .int 7]) (c_X12_of (gac (hG _ (List.mem_of_getElem? (i := 0) rfl)) ga0) q15) (cwV 2 (cx_ts C) gX12_setDuration_X12_of rfl rfl rfl (by decide +kernel) ⟨Nat.le_of_ble_eq_true rfl, Nat.le_of_ble_eq_true rfl⟩) rfl (hG _ (List.mem_of_getElem? (i := 0) rfl)) (of10_0 _) (ce10 T ad _ _) rfl (st := []) rfl (Nat.le_of_ble_eq_true rfl) ⟨Nat.le_refl 0, Nat.le_refl 0⟩ dX12_setDuration_47 ?_
    rintro _ _ ⟨rfl, rfl⟩
    refine fw_istore_n C dX12_setDuration_50 rfl (by decide) (L' := [(3, .int r14), (0, .ref (ad 10 0 0)), (1, .int a1), (2, .int a2)]) rfl ?_
    refine fw_aload_n C dX12_setDuration_51 rfl 1 rfl ?_
    refine fw_iload_n C dX12_setDuration_52 rfl 2 rfl ?_
    refine fw_bipush C dX12_setDuration_53 (v := 7) rfl ?_
    refine fw_iload_n C dX12_setDuration_55 rfl 3 rfl ?_
    obtain ⟨Y18, q17, h⟩ := bd1_some h
    refine fw_callVv C (ci := 10) (Cn := RX12) (Tc := TX12) (N := 19) (As := [.int a1, .int 7, .int a2]) (c_X12_set (gac (hG _ (List.mem_of_getElem? (i := 0) rfl)) ga0) q17) (cwV 3 (cx_ts C) gX12_setDuration_X12_set rfl rfl rfl (by decide +kernel) ⟨Nat.le_of_ble_eq_true rfl, Nat.le_of_ble_eq_true rfl⟩) rfl (hG _ (List.mem_of_getElem? (i := 0) rfl)) (of10_0 _) (ce10 T ad _ _) rfl (st := []) rfl (Nat.le_of_ble_eq_true rfl) ⟨Nat.le_refl 0, Nat.le_refl 0⟩ dX12_setDuration_56 ?_
    rintro _ rfl
    refine fw_iload_n C dX12_setDuration_59 rfl 0 rfl ?_
    exact fw_iret C hrt Y18 (Option.some.inj h) (fun t ht => ht) dX12_setDuration_60
  · have h := ite_f c10 h
    refine fw_iconst C dX12_setDuration_36 (v := 0) rfl ?_
    exact fw_iret C hrt Y9 (Option.some.inj h) (fun t ht => ht) dX12_setDuration_37
set_option maxRecDepth 100000 in
set_option maxHeartbeats 4000000 in
theorem w_X12_setDuration_b14 {a1 : Int32} {a2 : Int32} (C : Cx p s m [.ref (ad 10 0 0), .int a1, .int a2].toArray meth c cX12_setDuration 4 wsX12_setDuration RX12 N0 T D gr ad) (hrt : meth.sig.returnType = (some .int)) (hG : ∀ q ∈ [(10, 0)], q ∈ gr) {res : Int32 × Mem} (Y : Mem) (s0 : Int32) (h : X12_setDuration_b14 a1 a2  Y s0 = some res) : FW p l e (Rm 2) s m [.ref (ad 10 0 0), .int a1, .int a2].toArray below meth c 4 N0 T D gr ad 0 0 (MQ below (va_Qi (fun r Y1 => (r, Y1) = res) (WB T D gr ad) (fun q => N0 ≤ q)) [.ref (ad 10 0 0), .int a1, .int a2].toArray s 0 0 (fun q => N0 ≤ q)) Y 14 [(0, .ref (ad 10 0 0)), (1, .int a1), (2, .int a2)] [.int s0, .ref (ad 10 0 0)] := by
  unfold X12_setDuration_b14 at h
  refine fw_iload_n C dX12_setDuration_14 rfl 2 rfl ?_
  refine fw_iconst C dX12_setDuration_15 (v := 1) rfl ?_
  refine fw_bipush C dX12_setDuration_16 (v := 60) rfl ?_
  obtain ⟨r4, q5, h⟩ := bd1_some h
  refine fw_callSi C (As := [.int a2, .int 1, .int 60]) (c_X12_in ga0 q5) (va_cwS 3 (cx_ts C) gX12_setDuration_X12_in rfl rfl rfl (by decide +kernel) ⟨Nat.le_of_ble_eq_true rfl, Nat.le_of_ble_eq_true rfl⟩) rfl (st := [.int s0, .ref (ad 10 0 0)]) rfl (Nat.le_of_ble_eq_true rfl) ⟨Nat.le_refl 0, Nat.le_refl 0⟩ dX12_setDuration_18 ?_
  rintro _ _ ⟨rfl, rfl⟩
  refine fw_if_ne C dX12_setDuration_21 (tgt := 28) rfl (fun c6 => ?_) (fun c6 => ?_)
  · have h := ite_f c6 h
    refine fw_iconst C dX12_setDuration_28 (v := 0) rfl ?_
    exact w_X12_setDuration_b29 C hrt hG   _ _ _ h
  · have h := ite_t c6 h
    refine fw_iconst C dX12_setDuration_24 (v := 1) rfl ?_
    refine fw_goto C dX12_setDuration_25 (tgt := 29) rfl ?_
    exact w_X12_setDuration_b29 C hrt hG   _ _ _ h
set_option maxRecDepth 100000 in
set_option maxHeartbeats 4000000 in
theorem w_X12_setDuration {Y : Mem} {a1 : Int32} {a2 : Int32} (C : Cx p s m [.ref (ad 10 0 0), .int a1, .int a2].toArray meth c cX12_setDuration 4 wsX12_setDuration RX12 N0 T D gr ad) (hrt : meth.sig.returnType = (some .int)) (hG : ∀ q ∈ [(10, 0)], q ∈ gr) {res : Int32 × Mem} (h : X12_setDuration Y a1 a2 = some res) : FW p l e (Rm 2) s m [.ref (ad 10 0 0), .int a1, .int a2].toArray below meth c 4 N0 T D gr ad 0 0 (MQ below (va_Qi (fun r Y1 => (r, Y1) = res) (WB T D gr ad) (fun q => N0 ≤ q)) [.ref (ad 10 0 0), .int a1, .int a2].toArray s 0 0 (fun q => N0 ≤ q)) Y 0 [(0, .ref (ad 10 0 0)), (1, .int a1), (2, .int a2)] [] := by
  unfold X12_setDuration at h
  refine fw_aload_n C dX12_setDuration_0 rfl 0 rfl ?_
  refine fw_aload_n C dX12_setDuration_1 rfl 0 rfl ?_
  refine fw_iload_n C dX12_setDuration_2 rfl 1 rfl ?_
  obtain ⟨r1, q2, h⟩ := bd1_some h
  refine fw_callVi C (ci := 10) (Cn := RX12) (Tc := TX12) (N := 19) (As := [.int a1]) (c_X12_isStep (gac (hG _ (List.mem_of_getElem? (i := 0) rfl)) ga0) q2) (cwV 1 (cx_ts C) gX12_setDuration_X12_isStep rfl rfl rfl (by decide +kernel) ⟨Nat.le_of_ble_eq_true rfl, Nat.le_of_ble_eq_true rfl⟩) rfl (hG _ (List.mem_of_getElem? (i := 0) rfl)) (of10_0 _) (ce10 T ad _ _) rfl (st := [.ref (ad 10 0 0)]) rfl (Nat.le_of_ble_eq_true rfl) ⟨Nat.le_refl 0, Nat.le_refl 0⟩ dX12_setDuration_3 ?_
  rintro _ _ ⟨rfl, rfl⟩
  refine fw_if_ne C dX12_setDuration_6 (tgt := 13) rfl (fun c3 => ?_) (fun c3 => ?_)
  · have h := ite_f c3 h
    refine fw_iconst C dX12_setDuration_13 (v := 0) rfl ?_
    exact w_X12_setDuration_b14 C hrt hG   _ _ h
  · have h := ite_t c3 h
    refine fw_iconst C dX12_setDuration_9 (v := 1) rfl ?_
    refine fw_goto C dX12_setDuration_10 (tgt := 14) rfl ?_
    exact w_X12_setDuration_b14 C hrt hG   _ _ h
end
set_option maxRecDepth 100000 in
set_option maxHeartbeats 4000000 in
theorem c_X12_setDuration {l : Launch} {N0 : Nat} {T : Nat → ClassId} {D : va_G} {gr : List (Nat × Nat)} {ad : Nat → Nat → Nat → Nat} {Y : Mem} {a1 : Int32} {a2 : Int32} {res : Int32 × Mem} (hG : ∀ q ∈ [(10, 0)], q ∈ gr) (h : X12_setDuration Y a1 a2 = some res) : CI l yX12_setDuration wsX12_setDuration (Rm 2) N0 T D gr ad Y [.ref (ad 10 0 0), .int a1, .int a2] (fun r Y1 => (r, Y1) = res) :=
  fw_body (by decide +kernel) rfl (Nat.le_of_ble_eq_true rfl) (fun p e s m below meth c C hrt => w_X12_setDuration C hrt hG  h)
theorem ly_X12_slack_12 : ∀ w ∈ u_ws RX12 TX12 19, w ∈ wsX12_slack := by decide +kernel
theorem fl_X12_slack_42 : Cond.fieldLink RX12 42 "RecipeSchedulerModel" "paths" "[I" ∈ wsX12_slack := by decide +kernel
theorem fl_X12_slack_45 : Cond.fieldLink RX12 45 "RecipeSchedulerModel" "heads" "[I" ∈ wsX12_slack := by decide +kernel
noncomputable def X12_slack_b14 (a1 : Int32) (Y : Mem) (s0 : Int32) : Option (Int32 × Mem) :=
  bd2 (X12_fails Y s0 0 0) <| fun r4 Y6 => if r4 = 0 then (bd1 (X12_computePaths Y6) <| fun Y10 => bd1 (X12_computeHeads Y10) <| fun Y13 => bd1 (X12_longestPath Y13) <| fun r14 => gd (inb a1 14) <| some ((r14 - (Y13 10 0 5 (ix a1))) - (Y13 10 0 6 (ix a1)), Y13)) else (some (0, Y6))
noncomputable def X12_slack (Y : Mem) (a1 : Int32) : Option (Int32 × Mem) :=
  bd1 (X12_isStep Y a1) <| fun r1 => if r1 = 0 then (X12_slack_b14 a1 Y 1) else (X12_slack_b14 a1 Y 0)
section
variable {p : Program} {l : Launch} {e : Env} {s : State} {m : MethodId} {below : List Frame} {meth : Method} {c : Code} {N0 : Nat} {T : Nat → ClassId} {D : va_G} {gr : List (Nat × Nat)} {ad : Nat → Nat → Nat → Nat}
set_option maxRecDepth 100000 in
set_option maxHeartbeats 4000000 in
theorem w_X12_slack_b14 {a1 : Int32} (C : Cx p s m [.ref (ad 10 0 0), .int a1].toArray meth c cX12_slack 2 wsX12_slack RX12 N0 T D gr ad) (hrt : meth.sig.returnType = (some .int)) (hG : ∀ q ∈ [(10, 0)], q ∈ gr) {res : Int32 × Mem} (Y : Mem) (s0 : Int32) (h : X12_slack_b14 a1  Y s0 = some res) : FW p l e (Rm 3) s m [.ref (ad 10 0 0), .int a1].toArray below meth c 2 N0 T D gr ad 0 0 (MQ below (va_Qi (fun r Y1 => (r, Y1) = res) (WB T D gr ad) (fun q => N0 ≤ q)) [.ref (ad 10 0 0), .int a1].toArray s 0 0 (fun q => N0 ≤ q)) Y 14 [(0, .ref (ad 10 0 0)), (1, .int a1)] [.int s0, .ref (ad 10 0 0)] := by
  unfold X12_slack_b14 at h
  refine fw_iconst C dX12_slack_14 (v := 0) rfl ?_
  refine fw_iconst C dX12_slack_15 (v := 0) rfl ?_
  obtain ⟨r4, Y6, q5, h⟩ := bd2_some h
  refine fw_callVi C (ci := 10) (Cn := RX12) (Tc := TX12) (N := 19) (As := [.int s0, .int 0, .int 0]) (c_X12_fails (gac (hG _ (List.mem_of_getElem? (i := 0) rfl)) ga0) q5) (cwV 3 (cx_ts C) gX12_slack_X12_fails rfl rfl rfl (by decide +kernel) ⟨Nat.le_of_ble_eq_true rfl, Nat.le_of_ble_eq_true rfl⟩) rfl (hG _ (List.mem_of_getElem? (i := 0) rfl)) (of10_0 _) (ce10 T ad _ _) rfl (st := []) rfl (Nat.le_of_ble_eq_true rfl) ⟨Nat.le_refl 0, Nat.le_refl 0⟩ dX12_slack_16 ?_
  intro r_ Y_ e_
  obtain ⟨rfl, rfl⟩ := Prod.mk.inj e_
  refine fw_if_eq C dX12_slack_19 (tgt := 24) rfl (fun c7 => ?_) (fun c7 => ?_)
  · have h := ite_t c7 h
    refine fw_aload_n C dX12_slack_24 rfl 0 rfl ?_
    obtain ⟨Y10, q9, h⟩ := bd1_some h
    refine fw_callVv C (ci := 10) (Cn := RX12) (Tc := TX12) (N := 19) (As := []) (c_X12_computePaths (gac (hG _ (List.mem_of_getElem? (i := 0) rfl)) ga0) q9) (cwV 0 (cx_ts C) gX12_slack_X12_computePaths rfl rfl rfl (by decide +kernel) ⟨Nat.le_of_ble_eq_true rfl, Nat.le_of_ble_eq_true rfl⟩) rfl (hG _ (List.mem_of_getElem? (i := 0) rfl)) (of10_0 _) (ce10 T ad _ _) rfl (st := []) rfl (Nat.le_of_ble_eq_true rfl) ⟨Nat.le_refl 0, Nat.le_refl 0⟩ dX12_slack_25 ?_
    rintro _ rfl
    refine fw_aload_n C dX12_slack_28 rfl 0 rfl ?_
    obtain ⟨Y13, q12, h⟩ := bd1_some h
    refine fw_callVv C (ci := 10) (Cn := RX12) (Tc := TX12) (N := 19) (As := []) (c_X12_computeHeads (gac (hG _ (List.mem_of_getElem? (i := 0) rfl)) ga0) q12) (cwV 0 (cx_ts C) gX12_slack_X12_computeHeads rfl rfl rfl (by decide +kernel) ⟨Nat.le_of_ble_eq_true rfl, Nat.le_of_ble_eq_true rfl⟩) rfl (hG _ (List.mem_of_getElem? (i := 0) rfl)) (of10_0 _) (ce10 T ad _ _) rfl (st := []) rfl (Nat.le_of_ble_eq_true rfl) ⟨Nat.le_refl 0, Nat.le_refl 0⟩ dX12_slack_29 ?_
    rintro _ rfl
    refine fw_aload_n C dX12_slack_32 rfl 0 rfl ?_
    obtain ⟨r14, q15, h⟩ := bd1_some h
    refine fw_callVi C (ci := 10) (Cn := RX12) (Tc := TX12) (N := 19) (As := []) (c_X12_longestPath (gac (hG _ (List.mem_of_getElem? (i := 0) rfl)) ga0) q15) (cwV 0 (cx_ts C) gX12_slack_X12_longestPath rfl rfl rfl (by decide +kernel) ⟨Nat.le_of_ble_eq_true rfl, Nat.le_of_ble_eq_true rfl⟩) rfl (hG _ (List.mem_of_getElem? (i := 0) rfl)) (of10_0 _) (ce10 T ad _ _) rfl (st := []) rfl (Nat.le_of_ble_eq_true rfl) ⟨Nat.le_refl 0, Nat.le_refl 0⟩ dX12_slack_33 ?_
    rintro _ _ ⟨rfl, rfl⟩
    refine fw_aload_n C dX12_slack_36 rfl 0 rfl ?_
    refine fw_get C (ci := 10) (Cn := RX12) (Tc := TX12) (N := 19) (j := 10) ly_X12_slack_12 rfl (hG _ (List.mem_of_getElem? (i := 0) rfl)) (of10_0 _) (ce10 T ad _ _) (by decide) (cx_ts C _ fl_X12_slack_42) (fun _ h => h) (v := .ref (ad 10 0 5)) rfl dX12_slack_37 ?_
    refine fw_iload_n C dX12_slack_40 rfl 1 rfl ?_
    obtain ⟨b16, h⟩ := gd_some h
    refine fw_iald2 C (hG _ (List.mem_of_getElem? (i := 0) rfl)) (of10_5 _) (ca10_5 T ad _ _) b16 (Nat.le_of_ble_eq_true rfl) dX12_slack_41 ?_
    refine fw_isub C dX12_slack_42 ?_
    refine fw_aload_n C dX12_slack_43 rfl 0 rfl ?_
    refine fw_get C (ci := 10) (Cn := RX12) (Tc := TX12) (N := 19) (j := 11) ly_X12_slack_12 rfl (hG _ (List.mem_of_getElem? (i := 0) rfl)) (of10_0 _) (ce10 T ad _ _) (by decide) (cx_ts C _ fl_X12_slack_45) (fun _ h => h) (v := .ref (ad 10 0 6)) rfl dX12_slack_44 ?_
    refine fw_iload_n C dX12_slack_47 rfl 1 rfl ?_
    refine fw_iald2 C (hG _ (List.mem_of_getElem? (i := 0) rfl)) (of10_6 _) (ca10_6 T ad _ _) b16 (Nat.le_of_ble_eq_true rfl) dX12_slack_48 ?_
    refine fw_isub C dX12_slack_49 ?_
    exact fw_iret C hrt Y13 (Option.some.inj h) (fun t ht => ht) dX12_slack_50
  · have h := ite_f c7 h
    refine fw_iconst C dX12_slack_22 (v := 0) rfl ?_
    exact fw_iret C hrt Y6 (Option.some.inj h) (fun t ht => ht) dX12_slack_23
set_option maxRecDepth 100000 in
set_option maxHeartbeats 4000000 in
theorem w_X12_slack {Y : Mem} {a1 : Int32} (C : Cx p s m [.ref (ad 10 0 0), .int a1].toArray meth c cX12_slack 2 wsX12_slack RX12 N0 T D gr ad) (hrt : meth.sig.returnType = (some .int)) (hG : ∀ q ∈ [(10, 0)], q ∈ gr) {res : Int32 × Mem} (h : X12_slack Y a1 = some res) : FW p l e (Rm 3) s m [.ref (ad 10 0 0), .int a1].toArray below meth c 2 N0 T D gr ad 0 0 (MQ below (va_Qi (fun r Y1 => (r, Y1) = res) (WB T D gr ad) (fun q => N0 ≤ q)) [.ref (ad 10 0 0), .int a1].toArray s 0 0 (fun q => N0 ≤ q)) Y 0 [(0, .ref (ad 10 0 0)), (1, .int a1)] [] := by
  unfold X12_slack at h
  refine fw_aload_n C dX12_slack_0 rfl 0 rfl ?_
  refine fw_aload_n C dX12_slack_1 rfl 0 rfl ?_
  refine fw_iload_n C dX12_slack_2 rfl 1 rfl ?_
  obtain ⟨r1, q2, h⟩ := bd1_some h
  refine fw_callVi C (ci := 10) (Cn := RX12) (Tc := TX12) (N := 19) (As := [.int a1]) (c_X12_isStep (gac (hG _ (List.mem_of_getElem? (i := 0) rfl)) ga0) q2) (cwV 1 (cx_ts C) gX12_slack_X12_isStep rfl rfl rfl (by decide +kernel) ⟨Nat.le_of_ble_eq_true rfl, Nat.le_of_ble_eq_true rfl⟩) rfl (hG _ (List.mem_of_getElem? (i := 0) rfl)) (of10_0 _) (ce10 T ad _ _) rfl (st := [.ref (ad 10 0 0)]) rfl (Nat.le_of_ble_eq_true rfl) ⟨Nat.le_refl 0, Nat.le_refl 0⟩ dX12_slack_3 ?_
  rintro _ _ ⟨rfl, rfl⟩
  refine fw_if_ne C dX12_slack_6 (tgt := 13) rfl (fun c3 => ?_) (fun c3 => ?_)
  · have h := ite_f c3 h
    refine fw_iconst C dX12_slack_13 (v := 0) rfl ?_
    exact w_X12_slack_b14 C hrt hG   _ _ h
  · have h := ite_t c3 h
    refine fw_iconst C dX12_slack_9 (v := 1) rfl ?_
    refine fw_goto C dX12_slack_10 (tgt := 14) rfl ?_
    exact w_X12_slack_b14 C hrt hG   _ _ h
end
set_option maxRecDepth 100000 in
set_option maxHeartbeats 4000000 in
theorem c_X12_slack {l : Launch} {N0 : Nat} {T : Nat → ClassId} {D : va_G} {gr : List (Nat × Nat)} {ad : Nat → Nat → Nat → Nat} {Y : Mem} {a1 : Int32} {res : Int32 × Mem} (hG : ∀ q ∈ [(10, 0)], q ∈ gr) (h : X12_slack Y a1 = some res) : CI l yX12_slack wsX12_slack (Rm 3) N0 T D gr ad Y [.ref (ad 10 0 0), .int a1] (fun r Y1 => (r, Y1) = res) :=
  fw_body (by decide +kernel) rfl (Nat.le_of_ble_eq_true rfl) (fun p e s m below meth c C hrt => w_X12_slack C hrt hG  h)
theorem ly_X12_starts_12 : ∀ w ∈ u_ws RX12 TX12 19, w ∈ wsX12_starts := by decide +kernel
theorem fl_X12_starts_13 : Cond.fieldLink RX12 13 "RecipeSchedulerModel" "m" "[I" ∈ wsX12_starts := by decide +kernel
noncomputable def X12_starts (Y : Mem) : Option (Int32 × Mem) :=
  gd (inb 7 4202) <| bd2 (X12_plain Y (Y 10 0 1 (ix 7))) <| fun r2 Y4 => some (r2, Y4)
section
variable {p : Program} {l : Launch} {e : Env} {s : State} {m : MethodId} {below : List Frame} {meth : Method} {c : Code} {N0 : Nat} {T : Nat → ClassId} {D : va_G} {gr : List (Nat × Nat)} {ad : Nat → Nat → Nat → Nat}
set_option maxRecDepth 100000 in
set_option maxHeartbeats 4000000 in
theorem w_X12_starts {Y : Mem} (C : Cx p s m [.ref (ad 10 0 0)].toArray meth c cX12_starts 1 wsX12_starts RX12 N0 T D gr ad) (hrt : meth.sig.returnType = (some .int)) (hG : ∀ q ∈ [(10, 0)], q ∈ gr) {res : Int32 × Mem} (h : X12_starts Y = some res) : FW p l e (Rm 1) s m [.ref (ad 10 0 0)].toArray below meth c 1 N0 T D gr ad 0 0 (MQ below (va_Qi (fun r Y1 => (r, Y1) = res) (WB T D gr ad) (fun q => N0 ≤ q)) [.ref (ad 10 0 0)].toArray s 0 0 (fun q => N0 ≤ q)) Y 0 [(0, .ref (ad 10 0 0))] [] := by
  unfold X12_starts at h
  refine fw_aload_n C dX12_starts_0 rfl 0 rfl ?_
  refine fw_aload_n C dX12_starts_1 rfl 0 rfl ?_
  refine fw_get C (ci := 10) (Cn := RX12) (Tc := TX12) (N := 19) (j := 0) ly_X12_starts_12 rfl (hG _ (List.mem_of_getElem? (i := 0) rfl)) (of10_0 _) (ce10 T ad _ _) (by decide) (cx_ts C _ fl_X12_starts_13) (fun _ h => h) (v := .ref (ad 10 0 1)) rfl dX12_starts_2 ?_
  refine fw_bipush C dX12_starts_5 (v := 7) rfl ?_
  obtain ⟨b1, h⟩ := gd_some h
  refine fw_iald2 C (hG _ (List.mem_of_getElem? (i := 0) rfl)) (of10_1 _) (ca10_1 T ad _ _) b1 (Nat.le_of_ble_eq_true rfl) dX12_starts_7 ?_
  obtain ⟨r2, Y4, q3, h⟩ := bd2_some h
  refine fw_callVi C (ci := 10) (Cn := RX12) (Tc := TX12) (N := 19) (As := [.int (Y 10 0 1 (ix 7))]) (c_X12_plain (gac (hG _ (List.mem_of_getElem? (i := 0) rfl)) ga0) q3) (cwV 1 (cx_ts C) gX12_starts_X12_plain rfl rfl rfl (by decide +kernel) ⟨Nat.le_of_ble_eq_true rfl, Nat.le_of_ble_eq_true rfl⟩) rfl (hG _ (List.mem_of_getElem? (i := 0) rfl)) (of10_0 _) (ce10 T ad _ _) rfl (st := []) rfl (Nat.le_of_ble_eq_true rfl) ⟨Nat.le_refl 0, Nat.le_refl 0⟩ dX12_starts_8 ?_
  intro r_ Y_ e_
  obtain ⟨rfl, rfl⟩ := Prod.mk.inj e_
  exact fw_iret C hrt Y4 (Option.some.inj h) (fun t ht => ht) dX12_starts_11
end
set_option maxRecDepth 100000 in
set_option maxHeartbeats 4000000 in
theorem c_X12_starts {l : Launch} {N0 : Nat} {T : Nat → ClassId} {D : va_G} {gr : List (Nat × Nat)} {ad : Nat → Nat → Nat → Nat} {Y : Mem} {res : Int32 × Mem} (hG : ∀ q ∈ [(10, 0)], q ∈ gr) (h : X12_starts Y = some res) : CI l yX12_starts wsX12_starts (Rm 1) N0 T D gr ad Y [.ref (ad 10 0 0)] (fun r Y1 => (r, Y1) = res) :=
  fw_body (by decide +kernel) rfl (Nat.le_of_ble_eq_true rfl) (fun p e s m below meth c C hrt => w_X12_starts C hrt hG  h)
noncomputable def X12_startsOf (Y : Mem) (a1 : Int32) : Option (Int32 × Mem) :=
  bd2 (X12_field Y a1 20) <| fun r1 Y3 => some (r1, Y3)
section
variable {p : Program} {l : Launch} {e : Env} {s : State} {m : MethodId} {below : List Frame} {meth : Method} {c : Code} {N0 : Nat} {T : Nat → ClassId} {D : va_G} {gr : List (Nat × Nat)} {ad : Nat → Nat → Nat → Nat}
set_option maxRecDepth 100000 in
set_option maxHeartbeats 4000000 in
theorem w_X12_startsOf {Y : Mem} {a1 : Int32} (C : Cx p s m [.ref (ad 10 0 0), .int a1].toArray meth c cX12_startsOf 2 wsX12_startsOf RX12 N0 T D gr ad) (hrt : meth.sig.returnType = (some .int)) (hG : ∀ q ∈ [(10, 0)], q ∈ gr) {res : Int32 × Mem} (h : X12_startsOf Y a1 = some res) : FW p l e (Rm 3) s m [.ref (ad 10 0 0), .int a1].toArray below meth c 2 N0 T D gr ad 0 0 (MQ below (va_Qi (fun r Y1 => (r, Y1) = res) (WB T D gr ad) (fun q => N0 ≤ q)) [.ref (ad 10 0 0), .int a1].toArray s 0 0 (fun q => N0 ≤ q)) Y 0 [(0, .ref (ad 10 0 0)), (1, .int a1)] [] := by
  unfold X12_startsOf at h
  refine fw_aload_n C dX12_startsOf_0 rfl 0 rfl ?_
  refine fw_iload_n C dX12_startsOf_1 rfl 1 rfl ?_
  refine fw_bipush C dX12_startsOf_2 (v := 20) rfl ?_
  obtain ⟨r1, Y3, q2, h⟩ := bd2_some h
  refine fw_callVi C (ci := 10) (Cn := RX12) (Tc := TX12) (N := 19) (As := [.int a1, .int 20]) (c_X12_field (gac (hG _ (List.mem_of_getElem? (i := 0) rfl)) ga0) q2) (cwV 2 (cx_ts C) gX12_startsOf_X12_field rfl rfl rfl (by decide +kernel) ⟨Nat.le_of_ble_eq_true rfl, Nat.le_of_ble_eq_true rfl⟩) rfl (hG _ (List.mem_of_getElem? (i := 0) rfl)) (of10_0 _) (ce10 T ad _ _) rfl (st := []) rfl (Nat.le_of_ble_eq_true rfl) ⟨Nat.le_refl 0, Nat.le_refl 0⟩ dX12_startsOf_4 ?_
  intro r_ Y_ e_
  obtain ⟨rfl, rfl⟩ := Prod.mk.inj e_
  exact fw_iret C hrt Y3 (Option.some.inj h) (fun t ht => ht) dX12_startsOf_7
end
set_option maxRecDepth 100000 in
set_option maxHeartbeats 4000000 in
theorem c_X12_startsOf {l : Launch} {N0 : Nat} {T : Nat → ClassId} {D : va_G} {gr : List (Nat × Nat)} {ad : Nat → Nat → Nat → Nat} {Y : Mem} {a1 : Int32} {res : Int32 × Mem} (hG : ∀ q ∈ [(10, 0)], q ∈ gr) (h : X12_startsOf Y a1 = some res) : CI l yX12_startsOf wsX12_startsOf (Rm 3) N0 T D gr ad Y [.ref (ad 10 0 0), .int a1] (fun r Y1 => (r, Y1) = res) :=
  fw_body (by decide +kernel) rfl (Nat.le_of_ble_eq_true rfl) (fun p e s m below meth c C hrt => w_X12_startsOf C hrt hG  h)
noncomputable def X12_status (Y : Mem) (a1 : Int32) : Option (Int32 × Mem) :=
  bd2 (X12_field Y a1 17) <| fun r1 Y3 => some (r1, Y3)
section
variable {p : Program} {l : Launch} {e : Env} {s : State} {m : MethodId} {below : List Frame} {meth : Method} {c : Code} {N0 : Nat} {T : Nat → ClassId} {D : va_G} {gr : List (Nat × Nat)} {ad : Nat → Nat → Nat → Nat}
set_option maxRecDepth 100000 in
set_option maxHeartbeats 4000000 in
theorem w_X12_status {Y : Mem} {a1 : Int32} (C : Cx p s m [.ref (ad 10 0 0), .int a1].toArray meth c cX12_status 2 wsX12_status RX12 N0 T D gr ad) (hrt : meth.sig.returnType = (some .int)) (hG : ∀ q ∈ [(10, 0)], q ∈ gr) {res : Int32 × Mem} (h : X12_status Y a1 = some res) : FW p l e (Rm 3) s m [.ref (ad 10 0 0), .int a1].toArray below meth c 2 N0 T D gr ad 0 0 (MQ below (va_Qi (fun r Y1 => (r, Y1) = res) (WB T D gr ad) (fun q => N0 ≤ q)) [.ref (ad 10 0 0), .int a1].toArray s 0 0 (fun q => N0 ≤ q)) Y 0 [(0, .ref (ad 10 0 0)), (1, .int a1)] [] := by
  unfold X12_status at h
  refine fw_aload_n C dX12_status_0 rfl 0 rfl ?_
  refine fw_iload_n C dX12_status_1 rfl 1 rfl ?_
  refine fw_bipush C dX12_status_2 (v := 17) rfl ?_
  obtain ⟨r1, Y3, q2, h⟩ := bd2_some h
  refine fw_callVi C (ci := 10) (Cn := RX12) (Tc := TX12) (N := 19) (As := [.int a1, .int 17]) (c_X12_field (gac (hG _ (List.mem_of_getElem? (i := 0) rfl)) ga0) q2) (cwV 2 (cx_ts C) gX12_status_X12_field rfl rfl rfl (by decide +kernel) ⟨Nat.le_of_ble_eq_true rfl, Nat.le_of_ble_eq_true rfl⟩) rfl (hG _ (List.mem_of_getElem? (i := 0) rfl)) (of10_0 _) (ce10 T ad _ _) rfl (st := []) rfl (Nat.le_of_ble_eq_true rfl) ⟨Nat.le_refl 0, Nat.le_refl 0⟩ dX12_status_4 ?_
  intro r_ Y_ e_
  obtain ⟨rfl, rfl⟩ := Prod.mk.inj e_
  exact fw_iret C hrt Y3 (Option.some.inj h) (fun t ht => ht) dX12_status_7
end
set_option maxRecDepth 100000 in
set_option maxHeartbeats 4000000 in
theorem c_X12_status {l : Launch} {N0 : Nat} {T : Nat → ClassId} {D : va_G} {gr : List (Nat × Nat)} {ad : Nat → Nat → Nat → Nat} {Y : Mem} {a1 : Int32} {res : Int32 × Mem} (hG : ∀ q ∈ [(10, 0)], q ∈ gr) (h : X12_status Y a1 = some res) : CI l yX12_status wsX12_status (Rm 3) N0 T D gr ad Y [.ref (ad 10 0 0), .int a1] (fun r Y1 => (r, Y1) = res) :=
  fw_body (by decide +kernel) rfl (Nat.le_of_ble_eq_true rfl) (fun p e s m below meth c C hrt => w_X12_status C hrt hG  h)
noncomputable def X12_statusAfter_b30 (a1 : Int32) (a2 : Int32) (Y : Mem) (s0 : Int32) (s1 : Int32) : Option (Int32 × Mem) :=
  bd2 (X12_fails Y s1 s0 0) <| fun r7 Y9 => if r7 = 0 then (bd1 (X12_copyBlock Y9 0 9) <| fun Y13 => bd2 (X12_passMinutes Y13 a2) <| fun r14 Y16 => bd1 (X12_of Y16 a1 17) <| fun r17 => bd1 (X12_copyBlock Y16 9 0) <| fun Y21 => some (r17, Y21)) else (some (0, Y9))
noncomputable def X12_statusAfter_b14 (a1 : Int32) (a2 : Int32) (Y : Mem) (s0 : Int32) : Option (Int32 × Mem) :=
  bd1 (X12_in Y a2 0 500) <| fun r4 => if r4 = 0 then (X12_statusAfter_b30 a1 a2 Y 1 s0) else (X12_statusAfter_b30 a1 a2 Y 0 s0)
noncomputable def X12_statusAfter (Y : Mem) (a1 : Int32) (a2 : Int32) : Option (Int32 × Mem) :=
  bd1 (X12_isStep Y a1) <| fun r1 => if r1 = 0 then (X12_statusAfter_b14 a1 a2 Y 1) else (X12_statusAfter_b14 a1 a2 Y 0)
section
variable {p : Program} {l : Launch} {e : Env} {s : State} {m : MethodId} {below : List Frame} {meth : Method} {c : Code} {N0 : Nat} {T : Nat → ClassId} {D : va_G} {gr : List (Nat × Nat)} {ad : Nat → Nat → Nat → Nat}
set_option maxRecDepth 100000 in
set_option maxHeartbeats 4000000 in
theorem w_X12_statusAfter_b30 {a1 : Int32} {a2 : Int32} (C : Cx p s m [.ref (ad 10 0 0), .int a1, .int a2].toArray meth c cX12_statusAfter 4 wsX12_statusAfter RX12 N0 T D gr ad) (hrt : meth.sig.returnType = (some .int)) (hG : ∀ q ∈ [(10, 0)], q ∈ gr) {res : Int32 × Mem} (Y : Mem) (s0 : Int32) (s1 : Int32) (h : X12_statusAfter_b30 a1 a2  Y s0 s1 = some res) : FW p l e (Rm 9) s m [.ref (ad 10 0 0), .int a1, .int a2].toArray below meth c 4 N0 T D gr ad 0 0 (MQ below (va_Qi (fun r Y1 => (r, Y1) = res) (WB T D gr ad) (fun q => N0 ≤ q)) [.ref (ad 10 0 0), .int a1, .int a2].toArray s 0 0 (fun q => N0 ≤ q)) Y 30 [(0, .ref (ad 10 0 0)), (1, .int a1), (2, .int a2)] [.int s0, .int s1, .ref (ad 10 0 0)] := by
  unfold X12_statusAfter_b30 at h
  refine fw_iconst C dX12_statusAfter_30 (v := 0) rfl ?_
  obtain ⟨r7, Y9, q8, h⟩ := bd2_some h
  refine fw_callVi C (ci := 10) (Cn := RX12) (Tc := TX12) (N := 19) (As := [.int s1, .int s0, .int 0]) (c_X12_fails (gac (hG _ (List.mem_of_getElem? (i := 0) rfl)) ga0) q8) (cwV 3 (cx_ts C) gX12_statusAfter_X12_fails rfl rfl rfl (by decide +kernel) ⟨Nat.le_of_ble_eq_true rfl, Nat.le_of_ble_eq_true rfl⟩) rfl (hG _ (List.mem_of_getElem? (i := 0) rfl)) (of10_0 _) (ce10 T ad _ _) rfl (st := []) rfl (Nat.le_of_ble_eq_true rfl) ⟨Nat.le_refl 0, Nat.le_refl 0⟩ dX12_statusAfter_31 ?_
  intro r_ Y_ e_
  obtain ⟨rfl, rfl⟩ := Prod.mk.inj e_
  refine fw_if_eq C dX12_statusAfter_34 (tgt := 39) rfl (fun c10 => ?_) (fun c10 => ?_)
  · have h := ite_t c10 h
    refine fw_aload_n C dX12_statusAfter_39 rfl 0 rfl ?_
    refine fw_iconst C dX12_statusAfter_40 (v := 0) rfl ?_
    refine fw_bipush C dX12_statusAfter_41 (v := 9) rfl ?_
    obtain ⟨Y13, q12, h⟩ := bd1_some h
    refine fw_callVv C (ci := 10) (Cn := RX12) (Tc := TX12) (N := 19) (As := [.int 0, .int 9]) (c_X12_copyBlock (gac (hG _ (List.mem_of_getElem? (i := 0) rfl)) ga0) q12) (cwV 2 (cx_ts C) gX12_statusAfter_X12_copyBlock rfl rfl rfl (by decide +kernel) ⟨Nat.le_of_ble_eq_true rfl, Nat.le_of_ble_eq_true rfl⟩) rfl (hG _ (List.mem_of_getElem? (i := 0) rfl)) (of10_0 _) (ce10 T ad _ _) rfl (st := []) rfl (Nat.le_of_ble_eq_true rfl) ⟨Nat.le_refl 0, Nat.le_refl 0⟩ dX12_statusAfter_43 ?_
    rintro _ rfl
    refine fw_aload_n C dX12_statusAfter_46 rfl 0 rfl ?_
    refine fw_iload_n C dX12_statusAfter_47 rfl 2 rfl ?_
    obtain ⟨r14, Y16, q15, h⟩ := bd2_some h
    refine fw_callVi C (ci := 10) (Cn := RX12) (Tc := TX12) (N := 19) (As := [.int a2]) (c_X12_passMinutes (gac (hG _ (List.mem_of_getElem? (i := 0) rfl)) ga0) q15) (cwV 1 (cx_ts C) gX12_statusAfter_X12_passMinutes rfl rfl rfl (by decide +kernel) ⟨Nat.le_of_ble_eq_true rfl, Nat.le_of_ble_eq_true rfl⟩) rfl (hG _ (List.mem_of_getElem? (i := 0) rfl)) (of10_0 _) (ce10 T ad _ _) rfl (st := []) rfl (Nat.le_of_ble_eq_true rfl) ⟨Nat.le_refl 0, Nat.le_refl 0⟩ dX12_statusAfter_48 ?_
    intro r_ Y_ e_
    obtain ⟨rfl, rfl⟩ := Prod.mk.inj e_
    refine fw_pop C dX12_statusAfter_51 rfl ?_
    refine fw_aload_n C dX12_statusAfter_52 rfl 0 rfl ?_
    refine fw_iload_n C dX12_statusAfter_53 rfl 1 rfl ?_
    refine fw_bipush C dX12_statusAfter_54 (v := 17) rfl ?_
    obtain ⟨r17, q18, h⟩ := bd1_some h
    refine fw_callVi C (ci := 10) (Cn := RX12) (Tc := TX12) (N := 19) (As := [.int a1, .int 17]) (c_X12_of (gac (hG _ (List.mem_of_getElem? (i := 0) rfl)) ga0) q18) (cwV 2 (cx_ts C) gX12_statusAfter_X12_of rfl rfl rfl (by decide +kernel) ⟨Nat.le_of_ble_eq_true rfl, Nat.le_of_ble_eq_true rfl⟩) rfl (hG _ (List.mem_of_getElem? (i := 0) rfl)) (of10_0 _) (ce10 T ad _ _) rfl (st := []) rfl (Nat.le_of_ble_eq_true rfl) ⟨Nat.le_refl 0, Nat.le_refl 0⟩ dX12_statusAfter_56 ?_
    rintro _ _ ⟨rfl, rfl⟩
    refine fw_istore_n C dX12_statusAfter_59 rfl (by decide) (L' := [(3, .int r17), (0, .ref (ad 10 0 0)), (1, .int a1), (2, .int a2)]) rfl ?_
    refine fw_aload_n C dX12_statusAfter_60 rfl 1 rfl ?_
    refine fw_bipush C dX12_statusAfter_61 (v := 9) rfl ?_
    refine fw_iconst C dX12_statusAfter_63 (v := 0) rfl ?_
    obtain ⟨Y21, q20, h⟩ := bd1_some h
    refine fw_callVv C (ci := 10) (Cn := RX12) (Tc := TX12) (N := 19) (As := [.int 9, .int 0]) (c_X12_copyBlock (gac (hG _ (List.mem_of_getElem? (i := 0) rfl)) ga0) q20) (cwV 2 (cx_ts C) gX12_statusAfter_X12_copyBlock rfl rfl rfl (by decide +kernel) ⟨Nat.le_of_ble_eq_true rfl, Nat.le_of_ble_eq_true rfl⟩) rfl (hG _ (List.mem_of_getElem? (i := 0) rfl)) (of10_0 _) (ce10 T ad _ _) rfl (st := []) rfl (Nat.le_of_ble_eq_true rfl) ⟨Nat.le_refl 0, Nat.le_refl 0⟩ dX12_statusAfter_64 ?_
    rintro _ rfl
    refine fw_iload_n C dX12_statusAfter_67 rfl 0 rfl ?_
    exact fw_iret C hrt Y21 (Option.some.inj h) (fun t ht => ht) dX12_statusAfter_68
  · have h := ite_f c10 h
    refine fw_iconst C dX12_statusAfter_37 (v := 0) rfl ?_
    exact fw_iret C hrt Y9 (Option.some.inj h) (fun t ht => ht) dX12_statusAfter_38
set_option maxRecDepth 100000 in
set_option maxHeartbeats 4000000 in
theorem w_X12_statusAfter_b14 {a1 : Int32} {a2 : Int32} (C : Cx p s m [.ref (ad 10 0 0), .int a1, .int a2].toArray meth c cX12_statusAfter 4 wsX12_statusAfter RX12 N0 T D gr ad) (hrt : meth.sig.returnType = (some .int)) (hG : ∀ q ∈ [(10, 0)], q ∈ gr) {res : Int32 × Mem} (Y : Mem) (s0 : Int32) (h : X12_statusAfter_b14 a1 a2  Y s0 = some res) : FW p l e (Rm 9) s m [.ref (ad 10 0 0), .int a1, .int a2].toArray below meth c 4 N0 T D gr ad 0 0 (MQ below (va_Qi (fun r Y1 => (r, Y1) = res) (WB T D gr ad) (fun q => N0 ≤ q)) [.ref (ad 10 0 0), .int a1, .int a2].toArray s 0 0 (fun q => N0 ≤ q)) Y 14 [(0, .ref (ad 10 0 0)), (1, .int a1), (2, .int a2)] [.int s0, .ref (ad 10 0 0)] := by
  unfold X12_statusAfter_b14 at h
  refine fw_iload_n C dX12_statusAfter_14 rfl 2 rfl ?_
  refine fw_iconst C dX12_statusAfter_15 (v := 0) rfl ?_
  refine fw_sipush C dX12_statusAfter_16 (v := 500) rfl ?_
  obtain ⟨r4, q5, h⟩ := bd1_some h
  refine fw_callSi C (As := [.int a2, .int 0, .int 500]) (c_X12_in ga0 q5) (va_cwS 3 (cx_ts C) gX12_statusAfter_X12_in rfl rfl rfl (by decide +kernel) ⟨Nat.le_of_ble_eq_true rfl, Nat.le_of_ble_eq_true rfl⟩) rfl (st := [.int s0, .ref (ad 10 0 0)]) rfl (Nat.le_of_ble_eq_true rfl) ⟨Nat.le_refl 0, Nat.le_refl 0⟩ dX12_statusAfter_19 ?_
  rintro _ _ ⟨rfl, rfl⟩
  refine fw_if_ne C dX12_statusAfter_22 (tgt := 29) rfl (fun c6 => ?_) (fun c6 => ?_)
  · have h := ite_f c6 h
    refine fw_iconst C dX12_statusAfter_29 (v := 0) rfl ?_
    exact w_X12_statusAfter_b30 C hrt hG   _ _ _ h
  · have h := ite_t c6 h
    refine fw_iconst C dX12_statusAfter_25 (v := 1) rfl ?_
    refine fw_goto C dX12_statusAfter_26 (tgt := 30) rfl ?_
    exact w_X12_statusAfter_b30 C hrt hG   _ _ _ h
set_option maxRecDepth 100000 in
set_option maxHeartbeats 4000000 in
theorem w_X12_statusAfter {Y : Mem} {a1 : Int32} {a2 : Int32} (C : Cx p s m [.ref (ad 10 0 0), .int a1, .int a2].toArray meth c cX12_statusAfter 4 wsX12_statusAfter RX12 N0 T D gr ad) (hrt : meth.sig.returnType = (some .int)) (hG : ∀ q ∈ [(10, 0)], q ∈ gr) {res : Int32 × Mem} (h : X12_statusAfter Y a1 a2 = some res) : FW p l e (Rm 9) s m [.ref (ad 10 0 0), .int a1, .int a2].toArray below meth c 4 N0 T D gr ad 0 0 (MQ below (va_Qi (fun r Y1 => (r, Y1) = res) (WB T D gr ad) (fun q => N0 ≤ q)) [.ref (ad 10 0 0), .int a1, .int a2].toArray s 0 0 (fun q => N0 ≤ q)) Y 0 [(0, .ref (ad 10 0 0)), (1, .int a1), (2, .int a2)] [] := by
  unfold X12_statusAfter at h
  refine fw_aload_n C dX12_statusAfter_0 rfl 0 rfl ?_
  refine fw_aload_n C dX12_statusAfter_1 rfl 0 rfl ?_
  refine fw_iload_n C dX12_statusAfter_2 rfl 1 rfl ?_
  obtain ⟨r1, q2, h⟩ := bd1_some h
  refine fw_callVi C (ci := 10) (Cn := RX12) (Tc := TX12) (N := 19) (As := [.int a1]) (c_X12_isStep (gac (hG _ (List.mem_of_getElem? (i := 0) rfl)) ga0) q2) (cwV 1 (cx_ts C) gX12_statusAfter_X12_isStep rfl rfl rfl (by decide +kernel) ⟨Nat.le_of_ble_eq_true rfl, Nat.le_of_ble_eq_true rfl⟩) rfl (hG _ (List.mem_of_getElem? (i := 0) rfl)) (of10_0 _) (ce10 T ad _ _) rfl (st := [.ref (ad 10 0 0)]) rfl (Nat.le_of_ble_eq_true rfl) ⟨Nat.le_refl 0, Nat.le_refl 0⟩ dX12_statusAfter_3 ?_
  rintro _ _ ⟨rfl, rfl⟩
  refine fw_if_ne C dX12_statusAfter_6 (tgt := 13) rfl (fun c3 => ?_) (fun c3 => ?_)
  · have h := ite_f c3 h
    refine fw_iconst C dX12_statusAfter_13 (v := 0) rfl ?_
    exact w_X12_statusAfter_b14 C hrt hG   _ _ h
  · have h := ite_t c3 h
    refine fw_iconst C dX12_statusAfter_9 (v := 1) rfl ?_
    refine fw_goto C dX12_statusAfter_10 (tgt := 14) rfl ?_
    exact w_X12_statusAfter_b14 C hrt hG   _ _ h
end
set_option maxRecDepth 100000 in
set_option maxHeartbeats 4000000 in
theorem c_X12_statusAfter {l : Launch} {N0 : Nat} {T : Nat → ClassId} {D : va_G} {gr : List (Nat × Nat)} {ad : Nat → Nat → Nat → Nat} {Y : Mem} {a1 : Int32} {a2 : Int32} {res : Int32 × Mem} (hG : ∀ q ∈ [(10, 0)], q ∈ gr) (h : X12_statusAfter Y a1 a2 = some res) : CI l yX12_statusAfter wsX12_statusAfter (Rm 9) N0 T D gr ad Y [.ref (ad 10 0 0), .int a1, .int a2] (fun r Y1 => (r, Y1) = res) :=
  fw_body (by decide +kernel) rfl (Nat.le_of_ble_eq_true rfl) (fun p e s m below meth c C hrt => w_X12_statusAfter C hrt hG  h)
theorem ly_X12_stepCount_12 : ∀ w ∈ u_ws RX12 TX12 19, w ∈ wsX12_stepCount := by decide +kernel
theorem fl_X12_stepCount_13 : Cond.fieldLink RX12 13 "RecipeSchedulerModel" "m" "[I" ∈ wsX12_stepCount := by decide +kernel
noncomputable def X12_stepCount (Y : Mem) : Option (Int32 × Mem) :=
  gd (inb 13 4202) <| bd2 (X12_plain Y (Y 10 0 1 (ix 13))) <| fun r2 Y4 => some (r2, Y4)
section
variable {p : Program} {l : Launch} {e : Env} {s : State} {m : MethodId} {below : List Frame} {meth : Method} {c : Code} {N0 : Nat} {T : Nat → ClassId} {D : va_G} {gr : List (Nat × Nat)} {ad : Nat → Nat → Nat → Nat}
set_option maxRecDepth 100000 in
set_option maxHeartbeats 4000000 in
theorem w_X12_stepCount {Y : Mem} (C : Cx p s m [.ref (ad 10 0 0)].toArray meth c cX12_stepCount 1 wsX12_stepCount RX12 N0 T D gr ad) (hrt : meth.sig.returnType = (some .int)) (hG : ∀ q ∈ [(10, 0)], q ∈ gr) {res : Int32 × Mem} (h : X12_stepCount Y = some res) : FW p l e (Rm 1) s m [.ref (ad 10 0 0)].toArray below meth c 1 N0 T D gr ad 0 0 (MQ below (va_Qi (fun r Y1 => (r, Y1) = res) (WB T D gr ad) (fun q => N0 ≤ q)) [.ref (ad 10 0 0)].toArray s 0 0 (fun q => N0 ≤ q)) Y 0 [(0, .ref (ad 10 0 0))] [] := by
  unfold X12_stepCount at h
  refine fw_aload_n C dX12_stepCount_0 rfl 0 rfl ?_
  refine fw_aload_n C dX12_stepCount_1 rfl 0 rfl ?_
  refine fw_get C (ci := 10) (Cn := RX12) (Tc := TX12) (N := 19) (j := 0) ly_X12_stepCount_12 rfl (hG _ (List.mem_of_getElem? (i := 0) rfl)) (of10_0 _) (ce10 T ad _ _) (by decide) (cx_ts C _ fl_X12_stepCount_13) (fun _ h => h) (v := .ref (ad 10 0 1)) rfl dX12_stepCount_2 ?_
  refine fw_bipush C dX12_stepCount_5 (v := 13) rfl ?_
  obtain ⟨b1, h⟩ := gd_some h
  refine fw_iald2 C (hG _ (List.mem_of_getElem? (i := 0) rfl)) (of10_1 _) (ca10_1 T ad _ _) b1 (Nat.le_of_ble_eq_true rfl) dX12_stepCount_7 ?_
  obtain ⟨r2, Y4, q3, h⟩ := bd2_some h
  refine fw_callVi C (ci := 10) (Cn := RX12) (Tc := TX12) (N := 19) (As := [.int (Y 10 0 1 (ix 13))]) (c_X12_plain (gac (hG _ (List.mem_of_getElem? (i := 0) rfl)) ga0) q3) (cwV 1 (cx_ts C) gX12_stepCount_X12_plain rfl rfl rfl (by decide +kernel) ⟨Nat.le_of_ble_eq_true rfl, Nat.le_of_ble_eq_true rfl⟩) rfl (hG _ (List.mem_of_getElem? (i := 0) rfl)) (of10_0 _) (ce10 T ad _ _) rfl (st := []) rfl (Nat.le_of_ble_eq_true rfl) ⟨Nat.le_refl 0, Nat.le_refl 0⟩ dX12_stepCount_8 ?_
  intro r_ Y_ e_
  obtain ⟨rfl, rfl⟩ := Prod.mk.inj e_
  exact fw_iret C hrt Y4 (Option.some.inj h) (fun t ht => ht) dX12_stepCount_11
end
set_option maxRecDepth 100000 in
set_option maxHeartbeats 4000000 in
theorem c_X12_stepCount {l : Launch} {N0 : Nat} {T : Nat → ClassId} {D : va_G} {gr : List (Nat × Nat)} {ad : Nat → Nat → Nat → Nat} {Y : Mem} {res : Int32 × Mem} (hG : ∀ q ∈ [(10, 0)], q ∈ gr) (h : X12_stepCount Y = some res) : CI l yX12_stepCount wsX12_stepCount (Rm 1) N0 T D gr ad Y [.ref (ad 10 0 0)] (fun r Y1 => (r, Y1) = res) :=
  fw_body (by decide +kernel) rfl (Nat.le_of_ble_eq_true rfl) (fun p e s m below meth c C hrt => w_X12_stepCount C hrt hG  h)
noncomputable def X12_stepTaste (Y : Mem) (a1 : Int32) : Option (Int32 × Mem) :=
  bd2 (X12_field Y a1 8) <| fun r1 Y3 => some (r1, Y3)
section
variable {p : Program} {l : Launch} {e : Env} {s : State} {m : MethodId} {below : List Frame} {meth : Method} {c : Code} {N0 : Nat} {T : Nat → ClassId} {D : va_G} {gr : List (Nat × Nat)} {ad : Nat → Nat → Nat → Nat}
set_option maxRecDepth 100000 in
set_option maxHeartbeats 4000000 in
theorem w_X12_stepTaste {Y : Mem} {a1 : Int32} (C : Cx p s m [.ref (ad 10 0 0), .int a1].toArray meth c cX12_stepTaste 2 wsX12_stepTaste RX12 N0 T D gr ad) (hrt : meth.sig.returnType = (some .int)) (hG : ∀ q ∈ [(10, 0)], q ∈ gr) {res : Int32 × Mem} (h : X12_stepTaste Y a1 = some res) : FW p l e (Rm 3) s m [.ref (ad 10 0 0), .int a1].toArray below meth c 2 N0 T D gr ad 0 0 (MQ below (va_Qi (fun r Y1 => (r, Y1) = res) (WB T D gr ad) (fun q => N0 ≤ q)) [.ref (ad 10 0 0), .int a1].toArray s 0 0 (fun q => N0 ≤ q)) Y 0 [(0, .ref (ad 10 0 0)), (1, .int a1)] [] := by
  unfold X12_stepTaste at h
  refine fw_aload_n C dX12_stepTaste_0 rfl 0 rfl ?_
  refine fw_iload_n C dX12_stepTaste_1 rfl 1 rfl ?_
  refine fw_bipush C dX12_stepTaste_2 (v := 8) rfl ?_
  obtain ⟨r1, Y3, q2, h⟩ := bd2_some h
  refine fw_callVi C (ci := 10) (Cn := RX12) (Tc := TX12) (N := 19) (As := [.int a1, .int 8]) (c_X12_field (gac (hG _ (List.mem_of_getElem? (i := 0) rfl)) ga0) q2) (cwV 2 (cx_ts C) gX12_stepTaste_X12_field rfl rfl rfl (by decide +kernel) ⟨Nat.le_of_ble_eq_true rfl, Nat.le_of_ble_eq_true rfl⟩) rfl (hG _ (List.mem_of_getElem? (i := 0) rfl)) (of10_0 _) (ce10 T ad _ _) rfl (st := []) rfl (Nat.le_of_ble_eq_true rfl) ⟨Nat.le_refl 0, Nat.le_refl 0⟩ dX12_stepTaste_4 ?_
  intro r_ Y_ e_
  obtain ⟨rfl, rfl⟩ := Prod.mk.inj e_
  exact fw_iret C hrt Y3 (Option.some.inj h) (fun t ht => ht) dX12_stepTaste_7
end
set_option maxRecDepth 100000 in
set_option maxHeartbeats 4000000 in
theorem c_X12_stepTaste {l : Launch} {N0 : Nat} {T : Nat → ClassId} {D : va_G} {gr : List (Nat × Nat)} {ad : Nat → Nat → Nat → Nat} {Y : Mem} {a1 : Int32} {res : Int32 × Mem} (hG : ∀ q ∈ [(10, 0)], q ∈ gr) (h : X12_stepTaste Y a1 = some res) : CI l yX12_stepTaste wsX12_stepTaste (Rm 3) N0 T D gr ad Y [.ref (ad 10 0 0), .int a1] (fun r Y1 => (r, Y1) = res) :=
  fw_body (by decide +kernel) rfl (Nat.le_of_ble_eq_true rfl) (fun p e s m below meth c C hrt => w_X12_stepTaste C hrt hG  h)
noncomputable def X12_stop_b36 (a1 : Int32) (Y : Mem) (s0 : Int32) (s1 : Int32) : Option (Int32 × Mem) :=
  bd2 (X12_fails Y s1 s0 0) <| fun r5 Y7 => if r5 = 0 then (bd1 (X12_remember Y7 0) <| fun Y11 => bd2 (X12_stopIt Y11 a1) <| fun r12 Y14 => some (r12, Y14)) else (some (0, Y7))
noncomputable def X12_stop_b35 (a1 : Int32) (Y : Mem) (s0 : Int32) : Option (Int32 × Mem) :=
  X12_stop_b36 a1 Y 0 s0
noncomputable def X12_stop_b16 (a1 : Int32) (Y : Mem) (l2 : Int32) (s0 : Int32) : Option (Int32 × Mem) :=
  if l2 = 0 then (X12_stop_b35 a1 Y s0) else (bd1 (X12_of Y a1 17) <| fun r15 => if r15 = 1 then (X12_stop_b35 a1 Y s0) else (X12_stop_b36 a1 Y 1 s0))
noncomputable def X12_stop (Y : Mem) (a1 : Int32) : Option (Int32 × Mem) :=
  bd1 (X12_isStep Y a1) <| fun r1 => if r1 = 0 then (X12_stop_b16 a1 Y r1 1) else (X12_stop_b16 a1 Y r1 0)
section
variable {p : Program} {l : Launch} {e : Env} {s : State} {m : MethodId} {below : List Frame} {meth : Method} {c : Code} {N0 : Nat} {T : Nat → ClassId} {D : va_G} {gr : List (Nat × Nat)} {ad : Nat → Nat → Nat → Nat}
set_option maxRecDepth 100000 in
set_option maxHeartbeats 4000000 in
theorem w_X12_stop_b36 {a1 : Int32} (C : Cx p s m [.ref (ad 10 0 0), .int a1].toArray meth c cX12_stop 3 wsX12_stop RX12 N0 T D gr ad) (hrt : meth.sig.returnType = (some .int)) (hG : ∀ q ∈ [(10, 0)], q ∈ gr) {res : Int32 × Mem} (Y : Mem) (s0 : Int32) (s1 : Int32) (h : X12_stop_b36 a1  Y s0 s1 = some res) : FW p l e (Rm 2) s m [.ref (ad 10 0 0), .int a1].toArray below meth c 3 N0 T D gr ad 0 0 (MQ below (va_Qi (fun r Y1 => (r, Y1) = res) (WB T D gr ad) (fun q => N0 ≤ q)) [.ref (ad 10 0 0), .int a1].toArray s 0 0 (fun q => N0 ≤ q)) Y 36 [(0, .ref (ad 10 0 0)), (1, .int a1)] [.int s0, .int s1, .ref (ad 10 0 0)] := by
  unfold X12_stop_b36 at h
  refine fw_iconst C dX12_stop_36 (v := 0) rfl ?_
  obtain ⟨r5, Y7, q6, h⟩ := bd2_some h
  refine fw_callVi C (ci := 10) (Cn := RX12) (Tc := TX12) (N := 19) (As := [.int s1, .int s0, .int 0]) (c_X12_fails (gac (hG _ (List.mem_of_getElem? (i := 0) rfl)) ga0) q6) (cwV 3 (cx_ts C) gX12_stop_X12_fails rfl rfl rfl (by decide +kernel) ⟨Nat.le_of_ble_eq_true rfl, Nat.le_of_ble_eq_true rfl⟩) rfl (hG _ (List.mem_of_getElem? (i := 0) rfl)) (of10_0 _) (ce10 T ad _ _) rfl (st := []) rfl (Nat.le_of_ble_eq_true rfl) ⟨Nat.le_refl 0, Nat.le_refl 0⟩ dX12_stop_37 ?_
  intro r_ Y_ e_
  obtain ⟨rfl, rfl⟩ := Prod.mk.inj e_
  refine fw_if_eq C dX12_stop_40 (tgt := 45) rfl (fun c8 => ?_) (fun c8 => ?_)
  · have h := ite_t c8 h
    refine fw_aload_n C dX12_stop_45 rfl 0 rfl ?_
    refine fw_iconst C dX12_stop_46 (v := 0) rfl ?_
    obtain ⟨Y11, q10, h⟩ := bd1_some h
    refine fw_callVv C (ci := 10) (Cn := RX12) (Tc := TX12) (N := 19) (As := [.int 0]) (c_X12_remember (gac (hG _ (List.mem_of_getElem? (i := 0) rfl)) ga0) q10) (cwV 1 (cx_ts C) gX12_stop_X12_remember rfl rfl rfl (by decide +kernel) ⟨Nat.le_of_ble_eq_true rfl, Nat.le_of_ble_eq_true rfl⟩) rfl (hG _ (List.mem_of_getElem? (i := 0) rfl)) (of10_0 _) (ce10 T ad _ _) rfl (st := []) rfl (Nat.le_of_ble_eq_true rfl) ⟨Nat.le_refl 0, Nat.le_refl 0⟩ dX12_stop_47 ?_
    rintro _ rfl
    refine fw_aload_n C dX12_stop_50 rfl 0 rfl ?_
    refine fw_iload_n C dX12_stop_51 rfl 1 rfl ?_
    obtain ⟨r12, Y14, q13, h⟩ := bd2_some h
    refine fw_callVi C (ci := 10) (Cn := RX12) (Tc := TX12) (N := 19) (As := [.int a1]) (c_X12_stopIt (gac (hG _ (List.mem_of_getElem? (i := 0) rfl)) ga0) q13) (cwV 1 (cx_ts C) gX12_stop_X12_stopIt rfl rfl rfl (by decide +kernel) ⟨Nat.le_of_ble_eq_true rfl, Nat.le_of_ble_eq_true rfl⟩) rfl (hG _ (List.mem_of_getElem? (i := 0) rfl)) (of10_0 _) (ce10 T ad _ _) rfl (st := []) rfl (Nat.le_of_ble_eq_true rfl) ⟨Nat.le_refl 0, Nat.le_refl 0⟩ dX12_stop_52 ?_
    intro r_ Y_ e_
    obtain ⟨rfl, rfl⟩ := Prod.mk.inj e_
    exact fw_iret C hrt Y14 (Option.some.inj h) (fun t ht => ht) dX12_stop_55
  · have h := ite_f c8 h
    refine fw_iconst C dX12_stop_43 (v := 0) rfl ?_
    exact fw_iret C hrt Y7 (Option.some.inj h) (fun t ht => ht) dX12_stop_44
set_option maxRecDepth 100000 in
set_option maxHeartbeats 4000000 in
theorem w_X12_stop_b35 {a1 : Int32} (C : Cx p s m [.ref (ad 10 0 0), .int a1].toArray meth c cX12_stop 3 wsX12_stop RX12 N0 T D gr ad) (hrt : meth.sig.returnType = (some .int)) (hG : ∀ q ∈ [(10, 0)], q ∈ gr) {res : Int32 × Mem} (Y : Mem) (s0 : Int32) (h : X12_stop_b35 a1  Y s0 = some res) : FW p l e (Rm 2) s m [.ref (ad 10 0 0), .int a1].toArray below meth c 3 N0 T D gr ad 0 0 (MQ below (va_Qi (fun r Y1 => (r, Y1) = res) (WB T D gr ad) (fun q => N0 ≤ q)) [.ref (ad 10 0 0), .int a1].toArray s 0 0 (fun q => N0 ≤ q)) Y 35 [(0, .ref (ad 10 0 0)), (1, .int a1)] [.int s0, .ref (ad 10 0 0)] := by
  unfold X12_stop_b35 at h
  refine fw_iconst C dX12_stop_35 (v := 0) rfl ?_
  exact w_X12_stop_b36 C hrt hG   _ _ _ h
set_option maxRecDepth 100000 in
set_option maxHeartbeats 4000000 in
theorem w_X12_stop_b16 {a1 : Int32} (C : Cx p s m [.ref (ad 10 0 0), .int a1].toArray meth c cX12_stop 3 wsX12_stop RX12 N0 T D gr ad) (hrt : meth.sig.returnType = (some .int)) (hG : ∀ q ∈ [(10, 0)], q ∈ gr) {res : Int32 × Mem} (Y : Mem) (l2 : Int32) (s0 : Int32) (h : X12_stop_b16 a1  Y l2 s0 = some res) : FW p l e (Rm 2) s m [.ref (ad 10 0 0), .int a1].toArray below meth c 3 N0 T D gr ad 0 0 (MQ below (va_Qi (fun r Y1 => (r, Y1) = res) (WB T D gr ad) (fun q => N0 ≤ q)) [.ref (ad 10 0 0), .int a1].toArray s 0 0 (fun q => N0 ≤ q)) Y 16 [(2, .int l2), (0, .ref (ad 10 0 0)), (1, .int a1)] [.int s0, .ref (ad 10 0 0)] := by
  unfold X12_stop_b16 at h
  refine fw_iload_n C dX12_stop_16 rfl 0 rfl ?_
  refine fw_if_eq C dX12_stop_17 (tgt := 35) rfl (fun c4 => ?_) (fun c4 => ?_)
  · have h := ite_t c4 h
    refine fw_sub [1, 2] (L' := [(0, .ref (ad 10 0 0)), (1, .int a1)]) rfl ?_
    exact w_X12_stop_b35 C hrt hG   _ _ h
  · have h := ite_f c4 h
    refine fw_aload_n C dX12_stop_20 rfl 1 rfl ?_
    refine fw_iload_n C dX12_stop_21 rfl 2 rfl ?_
    refine fw_bipush C dX12_stop_22 (v := 17) rfl ?_
    obtain ⟨r15, q16, h⟩ := bd1_some h
    refine fw_callVi C (ci := 10) (Cn := RX12) (Tc := TX12) (N := 19) (As := [.int a1, .int 17]) (c_X12_of (gac (hG _ (List.mem_of_getElem? (i := 0) rfl)) ga0) q16) (cwV 2 (cx_ts C) gX12_stop_X12_of rfl rfl rfl (by decide +kernel) ⟨Nat.le_of_ble_eq_true rfl, Nat.le_of_ble_eq_true rfl⟩) rfl (hG _ (List.mem_of_getElem? (i := 0) rfl)) (of10_0 _) (ce10 T ad _ _) rfl (st := [.int s0, .ref (ad 10 0 0)]) rfl (Nat.le_of_ble_eq_true rfl) ⟨Nat.le_refl 0, Nat.le_refl 0⟩ dX12_stop_24 ?_
    rintro _ _ ⟨rfl, rfl⟩
    refine fw_iconst C dX12_stop_27 (v := 1) rfl ?_
    refine fw_icmp_eq C dX12_stop_28 (tgt := 35) rfl (fun c17 => ?_) (fun c17 => ?_)
    · have h := ite_t c17 h
      refine fw_sub [1, 2] (L' := [(0, .ref (ad 10 0 0)), (1, .int a1)]) rfl ?_
      exact w_X12_stop_b35 C hrt hG   _ _ h
    · have h := ite_f c17 h
      refine fw_iconst C dX12_stop_31 (v := 1) rfl ?_
      refine fw_goto C dX12_stop_32 (tgt := 36) rfl ?_
      refine fw_sub [1, 2] (L' := [(0, .ref (ad 10 0 0)), (1, .int a1)]) rfl ?_
      exact w_X12_stop_b36 C hrt hG   _ _ _ h
set_option maxRecDepth 100000 in
set_option maxHeartbeats 4000000 in
theorem w_X12_stop {Y : Mem} {a1 : Int32} (C : Cx p s m [.ref (ad 10 0 0), .int a1].toArray meth c cX12_stop 3 wsX12_stop RX12 N0 T D gr ad) (hrt : meth.sig.returnType = (some .int)) (hG : ∀ q ∈ [(10, 0)], q ∈ gr) {res : Int32 × Mem} (h : X12_stop Y a1 = some res) : FW p l e (Rm 2) s m [.ref (ad 10 0 0), .int a1].toArray below meth c 3 N0 T D gr ad 0 0 (MQ below (va_Qi (fun r Y1 => (r, Y1) = res) (WB T D gr ad) (fun q => N0 ≤ q)) [.ref (ad 10 0 0), .int a1].toArray s 0 0 (fun q => N0 ≤ q)) Y 0 [(0, .ref (ad 10 0 0)), (1, .int a1)] [] := by
  unfold X12_stop at h
  refine fw_aload_n C dX12_stop_0 rfl 0 rfl ?_
  refine fw_iload_n C dX12_stop_1 rfl 1 rfl ?_
  obtain ⟨r1, q2, h⟩ := bd1_some h
  refine fw_callVi C (ci := 10) (Cn := RX12) (Tc := TX12) (N := 19) (As := [.int a1]) (c_X12_isStep (gac (hG _ (List.mem_of_getElem? (i := 0) rfl)) ga0) q2) (cwV 1 (cx_ts C) gX12_stop_X12_isStep rfl rfl rfl (by decide +kernel) ⟨Nat.le_of_ble_eq_true rfl, Nat.le_of_ble_eq_true rfl⟩) rfl (hG _ (List.mem_of_getElem? (i := 0) rfl)) (of10_0 _) (ce10 T ad _ _) rfl (st := []) rfl (Nat.le_of_ble_eq_true rfl) ⟨Nat.le_refl 0, Nat.le_refl 0⟩ dX12_stop_2 ?_
  rintro _ _ ⟨rfl, rfl⟩
  refine fw_istore_n C dX12_stop_5 rfl (by decide) (L' := [(2, .int r1), (0, .ref (ad 10 0 0)), (1, .int a1)]) rfl ?_
  refine fw_aload_n C dX12_stop_6 rfl 1 rfl ?_
  refine fw_iload_n C dX12_stop_7 rfl 0 rfl ?_
  refine fw_if_ne C dX12_stop_8 (tgt := 15) rfl (fun c3 => ?_) (fun c3 => ?_)
  · have h := ite_f c3 h
    refine fw_iconst C dX12_stop_15 (v := 0) rfl ?_
    exact w_X12_stop_b16 C hrt hG   _ _ _ h
  · have h := ite_t c3 h
    refine fw_iconst C dX12_stop_11 (v := 1) rfl ?_
    refine fw_goto C dX12_stop_12 (tgt := 16) rfl ?_
    exact w_X12_stop_b16 C hrt hG   _ _ _ h
end
set_option maxRecDepth 100000 in
set_option maxHeartbeats 4000000 in
theorem c_X12_stop {l : Launch} {N0 : Nat} {T : Nat → ClassId} {D : va_G} {gr : List (Nat × Nat)} {ad : Nat → Nat → Nat → Nat} {Y : Mem} {a1 : Int32} {res : Int32 × Mem} (hG : ∀ q ∈ [(10, 0)], q ∈ gr) (h : X12_stop Y a1 = some res) : CI l yX12_stop wsX12_stop (Rm 2) N0 T D gr ad Y [.ref (ad 10 0 0), .int a1] (fun r Y1 => (r, Y1) = res) :=
  fw_body (by decide +kernel) rfl (Nat.le_of_ble_eq_true rfl) (fun p e s m below meth c C hrt => w_X12_stop C hrt hG  h)
theorem ly_X12_successors_12 : ∀ w ∈ u_ws RX12 TX12 19, w ∈ wsX12_successors := by decide +kernel
theorem fl_X12_successors_13 : Cond.fieldLink RX12 13 "RecipeSchedulerModel" "m" "[I" ∈ wsX12_successors := by decide +kernel
noncomputable def X12_successors_b32 (Y : Mem) (a1 : Int32) (k6 : Int32 → Int32 → Option (Int32)) (l3 : Int32) (s0 : Int32) (s1 : Int32) : Option (Int32) :=
  lt_ (s1 + s0) <| fun v8 => k6 (l3 + 1) v8
noncomputable def X12_successors_b6 (Y : Mem) (a1 : Int32) : Nat → Int32 → Int32 → Option (Int32)
  | 0, _, _ => none
  | n+1, l3, l2 =>
  gd (inb 13 4202) <| if (Y 10 0 1 (ix 13)) ≤ l3 then (some l2) else (bd1 (X12_isPredecessor Y a1 l3) <| fun r5 => if r5 = 0 then (X12_successors_b32 Y a1 (X12_successors_b6 Y a1 n) l3 0 l2) else (X12_successors_b32 Y a1 (X12_successors_b6 Y a1 n) l3 1 l2))
noncomputable def X12_successors (Y : Mem) (a1 : Int32) : Option (Int32) :=
  lt_ (a1 + 1) <| fun v1 => X12_successors_b6 Y a1 FU v1 0
section
variable {p : Program} {l : Launch} {e : Env} {s : State} {m : MethodId} {below : List Frame} {meth : Method} {c : Code} {N0 : Nat} {T : Nat → ClassId} {D : va_G} {gr : List (Nat × Nat)} {ad : Nat → Nat → Nat → Nat}
set_option maxRecDepth 100000 in
set_option maxHeartbeats 4000000 in
theorem w_X12_successors_b32 {Y : Mem} {a1 : Int32} (C : Cx p s m [.ref (ad 10 0 0), .int a1].toArray meth c cX12_successors 4 wsX12_successors RX12 N0 T D gr ad) (hrt : meth.sig.returnType = (some .int)) (hG : ∀ q ∈ [(10, 0)], q ∈ gr) {res : Int32} {k6 : Int32 → Int32 → Option (Int32)} (hk6 : ∀ (l3 : Int32) (l2 : Int32), k6 l3 l2 = some res → FW p l e (Rm 2) s m [.ref (ad 10 0 0), .int a1].toArray below meth c 4 N0 T D gr ad 0 0 (MQ below (va_Qi (fun r Y1 => r = res ∧ Y1 = Y) (WB T D gr ad) (fun q => N0 ≤ q)) [.ref (ad 10 0 0), .int a1].toArray s 0 0 (fun q => N0 ≤ q)) Y 6 [(3, .int l3), (2, .int l2), (0, .ref (ad 10 0 0)), (1, .int a1)] []) (l3 : Int32) (s0 : Int32) (s1 : Int32) (h : X12_successors_b32 Y a1 k6 l3 s0 s1 = some res) : FW p l e (Rm 2) s m [.ref (ad 10 0 0), .int a1].toArray below meth c 4 N0 T D gr ad 0 0 (MQ below (va_Qi (fun r Y1 => r = res ∧ Y1 = Y) (WB T D gr ad) (fun q => N0 ≤ q)) [.ref (ad 10 0 0), .int a1].toArray s 0 0 (fun q => N0 ≤ q)) Y 32 [(3, .int l3), (0, .ref (ad 10 0 0)), (1, .int a1)] [.int s0, .int s1] := by
  unfold X12_successors_b32 at h
  refine fw_iadd C dX12_successors_32 ?_
  obtain ⟨v8, e9, h⟩ := lt_some h
  refine fw_top (v' := .int v8) (by rw [e9]) ?_
  refine fw_istore_n C dX12_successors_33 rfl (by decide) (L' := [(2, .int v8), (3, .int l3), (0, .ref (ad 10 0 0)), (1, .int a1)]) rfl ?_
  refine fw_iinc C dX12_successors_34 (kk := 1) (v := l3 + 1) rfl rfl (by decide) (L' := [(3, .int (l3 + 1)), (2, .int v8), (0, .ref (ad 10 0 0)), (1, .int a1)]) rfl ?_
  refine fw_goto C dX12_successors_37 (tgt := 6) rfl ?_
  exact hk6 _ _ h
set_option maxRecDepth 100000 in
set_option maxHeartbeats 4000000 in
theorem w_X12_successors_b6 {Y : Mem} {a1 : Int32} (C : Cx p s m [.ref (ad 10 0 0), .int a1].toArray meth c cX12_successors 4 wsX12_successors RX12 N0 T D gr ad) (hrt : meth.sig.returnType = (some .int)) (hG : ∀ q ∈ [(10, 0)], q ∈ gr) {res : Int32} : ∀ (n : Nat) (l3 : Int32) (l2 : Int32), X12_successors_b6 Y a1  n l3 l2 = some res → FW p l e (Rm 2) s m [.ref (ad 10 0 0), .int a1].toArray below meth c 4 N0 T D gr ad 0 0 (MQ below (va_Qi (fun r Y1 => r = res ∧ Y1 = Y) (WB T D gr ad) (fun q => N0 ≤ q)) [.ref (ad 10 0 0), .int a1].toArray s 0 0 (fun q => N0 ≤ q)) Y 6 [(3, .int l3), (2, .int l2), (0, .ref (ad 10 0 0)), (1, .int a1)] [] := by
  intro n
  induction n with
  | zero =>
    intro l3 l2 h
    unfold X12_successors_b6 at h
    cases h
  | succ n ih =>
    intro l3 l2 h
    unfold X12_successors_b6 at h
    refine fw_iload_n C dX12_successors_6 rfl 0 rfl ?_
    refine fw_aload_n C dX12_successors_7 rfl 2 rfl ?_
    refine fw_get C (ci := 10) (Cn := RX12) (Tc := TX12) (N := 19) (j := 0) ly_X12_successors_12 rfl (hG _ (List.mem_of_getElem? (i := 0) rfl)) (of10_0 _) (ce10 T ad _ _) (by decide) (cx_ts C _ fl_X12_successors_13) (fun _ h => h) (v := .ref (ad 10 0 1)) rfl dX12_successors_8 ?_
    refine fw_bipush C dX12_successors_11 (v := 13) rfl ?_
    obtain ⟨b3, h⟩ := gd_some h
    refine fw_iald2 C (hG _ (List.mem_of_getElem? (i := 0) rfl)) (of10_1 _) (ca10_1 T ad _ _) b3 (Nat.le_of_ble_eq_true rfl) dX12_successors_13 ?_
    refine fw_icmp_ge C dX12_successors_14 (tgt := 40) rfl (fun c4 => ?_) (fun c4 => ?_)
    · have h := ite_t c4 h
      refine fw_iload_n C dX12_successors_40 rfl 1 rfl ?_
      exact fw_iret C hrt Y ⟨Option.some.inj h, rfl⟩ (fun t ht => ht) dX12_successors_41
    · have h := ite_f c4 h
      refine fw_iload_n C dX12_successors_17 rfl 1 rfl ?_
      refine fw_aload_n C dX12_successors_18 rfl 2 rfl ?_
      refine fw_iload_n C dX12_successors_19 rfl 3 rfl ?_
      refine fw_iload_n C dX12_successors_20 rfl 0 rfl ?_
      obtain ⟨r5, q6, h⟩ := bd1_some h
      refine fw_callVi C (ci := 10) (Cn := RX12) (Tc := TX12) (N := 19) (As := [.int a1, .int l3]) (c_X12_isPredecessor (gac (hG _ (List.mem_of_getElem? (i := 0) rfl)) ga0) q6) (cwV 2 (cx_ts C) gX12_successors_X12_isPredecessor rfl rfl rfl (by decide +kernel) ⟨Nat.le_of_ble_eq_true rfl, Nat.le_of_ble_eq_true rfl⟩) rfl (hG _ (List.mem_of_getElem? (i := 0) rfl)) (of10_0 _) (ce10 T ad _ _) rfl (st := [.int l2]) rfl (Nat.le_of_ble_eq_true rfl) ⟨Nat.le_refl 0, Nat.le_refl 0⟩ dX12_successors_21 ?_
      rintro _ _ ⟨rfl, rfl⟩
      refine fw_if_eq C dX12_successors_24 (tgt := 31) rfl (fun c7 => ?_) (fun c7 => ?_)
      · have h := ite_t c7 h
        refine fw_iconst C dX12_successors_31 (v := 0) rfl ?_
        refine fw_sub [0, 2, 3] (L' := [(3, .int l3), (0, .ref (ad 10 0 0)), (1, .int a1)]) rfl ?_
        exact w_X12_successors_b32 C hrt hG  ih _ _ _ h
      · have h := ite_f c7 h
        refine fw_iconst C dX12_successors_27 (v := 1) rfl ?_
        refine fw_goto C dX12_successors_28 (tgt := 32) rfl ?_
        refine fw_sub [0, 2, 3] (L' := [(3, .int l3), (0, .ref (ad 10 0 0)), (1, .int a1)]) rfl ?_
        exact w_X12_successors_b32 C hrt hG  ih _ _ _ h
set_option maxRecDepth 100000 in
set_option maxHeartbeats 4000000 in
theorem w_X12_successors {Y : Mem} {a1 : Int32} (C : Cx p s m [.ref (ad 10 0 0), .int a1].toArray meth c cX12_successors 4 wsX12_successors RX12 N0 T D gr ad) (hrt : meth.sig.returnType = (some .int)) (hG : ∀ q ∈ [(10, 0)], q ∈ gr) {res : Int32} (h : X12_successors Y a1 = some res) : FW p l e (Rm 2) s m [.ref (ad 10 0 0), .int a1].toArray below meth c 4 N0 T D gr ad 0 0 (MQ below (va_Qi (fun r Y1 => r = res ∧ Y1 = Y) (WB T D gr ad) (fun q => N0 ≤ q)) [.ref (ad 10 0 0), .int a1].toArray s 0 0 (fun q => N0 ≤ q)) Y 0 [(0, .ref (ad 10 0 0)), (1, .int a1)] [] := by
  unfold X12_successors at h
  refine fw_iconst C dX12_successors_0 (v := 0) rfl ?_
  refine fw_istore_n C dX12_successors_1 rfl (by decide) (L' := [(2, .int 0), (0, .ref (ad 10 0 0)), (1, .int a1)]) rfl ?_
  refine fw_iload_n C dX12_successors_2 rfl 2 rfl ?_
  refine fw_iconst C dX12_successors_3 (v := 1) rfl ?_
  refine fw_iadd C dX12_successors_4 ?_
  obtain ⟨v1, e2, h⟩ := lt_some h
  refine fw_top (v' := .int v1) (by rw [e2]) ?_
  refine fw_istore_n C dX12_successors_5 rfl (by decide) (L' := [(3, .int v1), (2, .int 0), (0, .ref (ad 10 0 0)), (1, .int a1)]) rfl ?_
  exact w_X12_successors_b6 C hrt hG   _ _ _ h
end
set_option maxRecDepth 100000 in
set_option maxHeartbeats 4000000 in
theorem c_X12_successors {l : Launch} {N0 : Nat} {T : Nat → ClassId} {D : va_G} {gr : List (Nat × Nat)} {ad : Nat → Nat → Nat → Nat} {Y : Mem} {a1 : Int32} {res : Int32} (hG : ∀ q ∈ [(10, 0)], q ∈ gr) (h : X12_successors Y a1 = some res) : CI l yX12_successors wsX12_successors (Rm 2) N0 T D gr ad Y [.ref (ad 10 0 0), .int a1] (fun r Y1 => r = res ∧ Y1 = Y) :=
  fw_body (by decide +kernel) rfl (Nat.le_of_ble_eq_true rfl) (fun p e s m below meth c C hrt => w_X12_successors C hrt hG  h)
noncomputable def X12_successorCount_b14 (a1 : Int32) (Y : Mem) (s0 : Int32) : Option (Int32 × Mem) :=
  bd2 (X12_fails Y s0 0 0) <| fun r4 Y6 => if r4 = 0 then (bd1 (X12_successors Y6 a1) <| fun r8 => some (r8, Y6)) else (some (0, Y6))
noncomputable def X12_successorCount (Y : Mem) (a1 : Int32) : Option (Int32 × Mem) :=
  bd1 (X12_isStep Y a1) <| fun r1 => if r1 = 0 then (X12_successorCount_b14 a1 Y 1) else (X12_successorCount_b14 a1 Y 0)
section
variable {p : Program} {l : Launch} {e : Env} {s : State} {m : MethodId} {below : List Frame} {meth : Method} {c : Code} {N0 : Nat} {T : Nat → ClassId} {D : va_G} {gr : List (Nat × Nat)} {ad : Nat → Nat → Nat → Nat}
set_option maxRecDepth 100000 in
set_option maxHeartbeats 4000000 in
theorem w_X12_successorCount_b14 {a1 : Int32} (C : Cx p s m [.ref (ad 10 0 0), .int a1].toArray meth c cX12_successorCount 2 wsX12_successorCount RX12 N0 T D gr ad) (hrt : meth.sig.returnType = (some .int)) (hG : ∀ q ∈ [(10, 0)], q ∈ gr) {res : Int32 × Mem} (Y : Mem) (s0 : Int32) (h : X12_successorCount_b14 a1  Y s0 = some res) : FW p l e (Rm 3) s m [.ref (ad 10 0 0), .int a1].toArray below meth c 2 N0 T D gr ad 0 0 (MQ below (va_Qi (fun r Y1 => (r, Y1) = res) (WB T D gr ad) (fun q => N0 ≤ q)) [.ref (ad 10 0 0), .int a1].toArray s 0 0 (fun q => N0 ≤ q)) Y 14 [(0, .ref (ad 10 0 0)), (1, .int a1)] [.int s0, .ref (ad 10 0 0)] := by
  unfold X12_successorCount_b14 at h
  refine fw_iconst C dX12_successorCount_14 (v := 0) rfl ?_
  refine fw_iconst C dX12_successorCount_15 (v := 0) rfl ?_
  obtain ⟨r4, Y6, q5, h⟩ := bd2_some h
  refine fw_callVi C (ci := 10) (Cn := RX12) (Tc := TX12) (N := 19) (As := [.int s0, .int 0, .int 0]) (c_X12_fails (gac (hG _ (List.mem_of_getElem? (i := 0) rfl)) ga0) q5) (cwV 3 (cx_ts C) gX12_successorCount_X12_fails rfl rfl rfl (by decide +kernel) ⟨Nat.le_of_ble_eq_true rfl, Nat.le_of_ble_eq_true rfl⟩) rfl (hG _ (List.mem_of_getElem? (i := 0) rfl)) (of10_0 _) (ce10 T ad _ _) rfl (st := []) rfl (Nat.le_of_ble_eq_true rfl) ⟨Nat.le_refl 0, Nat.le_refl 0⟩ dX12_successorCount_16 ?_
  intro r_ Y_ e_
  obtain ⟨rfl, rfl⟩ := Prod.mk.inj e_
  refine fw_if_eq C dX12_successorCount_19 (tgt := 24) rfl (fun c7 => ?_) (fun c7 => ?_)
  · have h := ite_t c7 h
    refine fw_aload_n C dX12_successorCount_24 rfl 0 rfl ?_
    refine fw_iload_n C dX12_successorCount_25 rfl 1 rfl ?_
    obtain ⟨r8, q9, h⟩ := bd1_some h
    refine fw_callVi C (ci := 10) (Cn := RX12) (Tc := TX12) (N := 19) (As := [.int a1]) (c_X12_successors (gac (hG _ (List.mem_of_getElem? (i := 0) rfl)) ga0) q9) (cwV 1 (cx_ts C) gX12_successorCount_X12_successors rfl rfl rfl (by decide +kernel) ⟨Nat.le_of_ble_eq_true rfl, Nat.le_of_ble_eq_true rfl⟩) rfl (hG _ (List.mem_of_getElem? (i := 0) rfl)) (of10_0 _) (ce10 T ad _ _) rfl (st := []) rfl (Nat.le_of_ble_eq_true rfl) ⟨Nat.le_refl 0, Nat.le_refl 0⟩ dX12_successorCount_26 ?_
    rintro _ _ ⟨rfl, rfl⟩
    exact fw_iret C hrt Y6 (Option.some.inj h) (fun t ht => ht) dX12_successorCount_29
  · have h := ite_f c7 h
    refine fw_iconst C dX12_successorCount_22 (v := 0) rfl ?_
    exact fw_iret C hrt Y6 (Option.some.inj h) (fun t ht => ht) dX12_successorCount_23
set_option maxRecDepth 100000 in
set_option maxHeartbeats 4000000 in
theorem w_X12_successorCount {Y : Mem} {a1 : Int32} (C : Cx p s m [.ref (ad 10 0 0), .int a1].toArray meth c cX12_successorCount 2 wsX12_successorCount RX12 N0 T D gr ad) (hrt : meth.sig.returnType = (some .int)) (hG : ∀ q ∈ [(10, 0)], q ∈ gr) {res : Int32 × Mem} (h : X12_successorCount Y a1 = some res) : FW p l e (Rm 3) s m [.ref (ad 10 0 0), .int a1].toArray below meth c 2 N0 T D gr ad 0 0 (MQ below (va_Qi (fun r Y1 => (r, Y1) = res) (WB T D gr ad) (fun q => N0 ≤ q)) [.ref (ad 10 0 0), .int a1].toArray s 0 0 (fun q => N0 ≤ q)) Y 0 [(0, .ref (ad 10 0 0)), (1, .int a1)] [] := by
  unfold X12_successorCount at h
  refine fw_aload_n C dX12_successorCount_0 rfl 0 rfl ?_
  refine fw_aload_n C dX12_successorCount_1 rfl 0 rfl ?_
  refine fw_iload_n C dX12_successorCount_2 rfl 1 rfl ?_
  obtain ⟨r1, q2, h⟩ := bd1_some h
  refine fw_callVi C (ci := 10) (Cn := RX12) (Tc := TX12) (N := 19) (As := [.int a1]) (c_X12_isStep (gac (hG _ (List.mem_of_getElem? (i := 0) rfl)) ga0) q2) (cwV 1 (cx_ts C) gX12_successorCount_X12_isStep rfl rfl rfl (by decide +kernel) ⟨Nat.le_of_ble_eq_true rfl, Nat.le_of_ble_eq_true rfl⟩) rfl (hG _ (List.mem_of_getElem? (i := 0) rfl)) (of10_0 _) (ce10 T ad _ _) rfl (st := [.ref (ad 10 0 0)]) rfl (Nat.le_of_ble_eq_true rfl) ⟨Nat.le_refl 0, Nat.le_refl 0⟩ dX12_successorCount_3 ?_
  rintro _ _ ⟨rfl, rfl⟩
  refine fw_if_ne C dX12_successorCount_6 (tgt := 13) rfl (fun c3 => ?_) (fun c3 => ?_)
  · have h := ite_f c3 h
    refine fw_iconst C dX12_successorCount_13 (v := 0) rfl ?_
    exact w_X12_successorCount_b14 C hrt hG   _ _ h
  · have h := ite_t c3 h
    refine fw_iconst C dX12_successorCount_9 (v := 1) rfl ?_
    refine fw_goto C dX12_successorCount_10 (tgt := 14) rfl ?_
    exact w_X12_successorCount_b14 C hrt hG   _ _ h
end
set_option maxRecDepth 100000 in
set_option maxHeartbeats 4000000 in
theorem c_X12_successorCount {l : Launch} {N0 : Nat} {T : Nat → ClassId} {D : va_G} {gr : List (Nat × Nat)} {ad : Nat → Nat → Nat → Nat} {Y : Mem} {a1 : Int32} {res : Int32 × Mem} (hG : ∀ q ∈ [(10, 0)], q ∈ gr) (h : X12_successorCount Y a1 = some res) : CI l yX12_successorCount wsX12_successorCount (Rm 3) N0 T D gr ad Y [.ref (ad 10 0 0), .int a1] (fun r Y1 => (r, Y1) = res) :=
  fw_body (by decide +kernel) rfl (Nat.le_of_ble_eq_true rfl) (fun p e s m below meth c C hrt => w_X12_successorCount C hrt hG  h)
noncomputable def X12_taste (Y : Mem) : Option (Int32 × Mem) :=
  bd1 (X12_tasteNow Y) <| fun r1 => bd2 (X12_plain Y r1) <| fun r3 Y5 => some (r3, Y5)
section
variable {p : Program} {l : Launch} {e : Env} {s : State} {m : MethodId} {below : List Frame} {meth : Method} {c : Code} {N0 : Nat} {T : Nat → ClassId} {D : va_G} {gr : List (Nat × Nat)} {ad : Nat → Nat → Nat → Nat}
set_option maxRecDepth 100000 in
set_option maxHeartbeats 4000000 in
theorem w_X12_taste {Y : Mem} (C : Cx p s m [.ref (ad 10 0 0)].toArray meth c cX12_taste 1 wsX12_taste RX12 N0 T D gr ad) (hrt : meth.sig.returnType = (some .int)) (hG : ∀ q ∈ [(10, 0)], q ∈ gr) {res : Int32 × Mem} (h : X12_taste Y = some res) : FW p l e (Rm 2) s m [.ref (ad 10 0 0)].toArray below meth c 1 N0 T D gr ad 0 0 (MQ below (va_Qi (fun r Y1 => (r, Y1) = res) (WB T D gr ad) (fun q => N0 ≤ q)) [.ref (ad 10 0 0)].toArray s 0 0 (fun q => N0 ≤ q)) Y 0 [(0, .ref (ad 10 0 0))] [] := by
  unfold X12_taste at h
  refine fw_aload_n C dX12_taste_0 rfl 0 rfl ?_
  refine fw_aload_n C dX12_taste_1 rfl 0 rfl ?_
  obtain ⟨r1, q2, h⟩ := bd1_some h
  refine fw_callVi C (ci := 10) (Cn := RX12) (Tc := TX12) (N := 19) (As := []) (c_X12_tasteNow (gac (hG _ (List.mem_of_getElem? (i := 0) rfl)) ga0) q2) (cwV 0 (cx_ts C) gX12_taste_X12_tasteNow rfl rfl rfl (by decide +kernel) ⟨Nat.le_of_ble_eq_true rfl, Nat.le_of_ble_eq_true rfl⟩) rfl (hG _ (List.mem_of_getElem? (i := 0) rfl)) (of10_0 _) (ce10 T ad _ _) rfl (st := [.ref (ad 10 0 0)]) rfl (Nat.le_of_ble_eq_true rfl) ⟨Nat.le_refl 0, Nat.le_refl 0⟩ dX12_taste_2 ?_
  rintro _ _ ⟨rfl, rfl⟩
  obtain ⟨r3, Y5, q4, h⟩ := bd2_some h
  refine fw_callVi C (ci := 10) (Cn := RX12) (Tc := TX12) (N := 19) (As := [.int r1]) (c_X12_plain (gac (hG _ (List.mem_of_getElem? (i := 0) rfl)) ga0) q4) (cwV 1 (cx_ts C) gX12_taste_X12_plain rfl rfl rfl (by decide +kernel) ⟨Nat.le_of_ble_eq_true rfl, Nat.le_of_ble_eq_true rfl⟩) rfl (hG _ (List.mem_of_getElem? (i := 0) rfl)) (of10_0 _) (ce10 T ad _ _) rfl (st := []) rfl (Nat.le_of_ble_eq_true rfl) ⟨Nat.le_refl 0, Nat.le_refl 0⟩ dX12_taste_5 ?_
  intro r_ Y_ e_
  obtain ⟨rfl, rfl⟩ := Prod.mk.inj e_
  exact fw_iret C hrt Y5 (Option.some.inj h) (fun t ht => ht) dX12_taste_8
end
set_option maxRecDepth 100000 in
set_option maxHeartbeats 4000000 in
theorem c_X12_taste {l : Launch} {N0 : Nat} {T : Nat → ClassId} {D : va_G} {gr : List (Nat × Nat)} {ad : Nat → Nat → Nat → Nat} {Y : Mem} {res : Int32 × Mem} (hG : ∀ q ∈ [(10, 0)], q ∈ gr) (h : X12_taste Y = some res) : CI l yX12_taste wsX12_taste (Rm 2) N0 T D gr ad Y [.ref (ad 10 0 0)] (fun r Y1 => (r, Y1) = res) :=
  fw_body (by decide +kernel) rfl (Nat.le_of_ble_eq_true rfl) (fun p e s m below meth c C hrt => w_X12_taste C hrt hG  h)
theorem ly_X12_thrown_12 : ∀ w ∈ u_ws RX12 TX12 19, w ∈ wsX12_thrown := by decide +kernel
theorem fl_X12_thrown_1 : Cond.fieldLink RX12 1 "RecipeSchedulerModel" "thrown" "I" ∈ wsX12_thrown := by decide +kernel
noncomputable def X12_thrown (Y : Mem) : Option (Int32) :=
  some (Y 10 0 0 9)
section
variable {p : Program} {l : Launch} {e : Env} {s : State} {m : MethodId} {below : List Frame} {meth : Method} {c : Code} {N0 : Nat} {T : Nat → ClassId} {D : va_G} {gr : List (Nat × Nat)} {ad : Nat → Nat → Nat → Nat}
set_option maxRecDepth 100000 in
set_option maxHeartbeats 4000000 in
theorem w_X12_thrown {Y : Mem} (C : Cx p s m [.ref (ad 10 0 0)].toArray meth c cX12_thrown 1 wsX12_thrown RX12 N0 T D gr ad) (hrt : meth.sig.returnType = (some .int)) (hG : ∀ q ∈ [(10, 0)], q ∈ gr) {res : Int32} (h : X12_thrown Y = some res) : FW p l e (Rm 0) s m [.ref (ad 10 0 0)].toArray below meth c 1 N0 T D gr ad 0 0 (MQ below (va_Qi (fun r Y1 => r = res ∧ Y1 = Y) (WB T D gr ad) (fun q => N0 ≤ q)) [.ref (ad 10 0 0)].toArray s 0 0 (fun q => N0 ≤ q)) Y 0 [(0, .ref (ad 10 0 0))] [] := by
  unfold X12_thrown at h
  refine fw_aload_n C dX12_thrown_0 rfl 0 rfl ?_
  refine fw_get C (ci := 10) (Cn := RX12) (Tc := TX12) (N := 19) (j := 9) ly_X12_thrown_12 rfl (hG _ (List.mem_of_getElem? (i := 0) rfl)) (of10_0 _) (ce10 T ad _ _) (by decide) (cx_ts C _ fl_X12_thrown_1) (fun _ h => h) (v := .int (Y 10 0 0 9)) rfl dX12_thrown_1 ?_
  exact fw_iret C hrt Y ⟨Option.some.inj h, rfl⟩ (fun t ht => ht) dX12_thrown_4
end
set_option maxRecDepth 100000 in
set_option maxHeartbeats 4000000 in
theorem c_X12_thrown {l : Launch} {N0 : Nat} {T : Nat → ClassId} {D : va_G} {gr : List (Nat × Nat)} {ad : Nat → Nat → Nat → Nat} {Y : Mem} {res : Int32} (hG : ∀ q ∈ [(10, 0)], q ∈ gr) (h : X12_thrown Y = some res) : CI l yX12_thrown wsX12_thrown (Rm 0) N0 T D gr ad Y [.ref (ad 10 0 0)] (fun r Y1 => r = res ∧ Y1 = Y) :=
  fw_body (by decide +kernel) rfl (Nat.le_of_ble_eq_true rfl) (fun p e s m below meth c C hrt => w_X12_thrown C hrt hG  h)
theorem ly_X12_truncate_12 : ∀ w ∈ u_ws RX12 TX12 19, w ∈ wsX12_truncate := by decide +kernel
theorem fl_X12_truncate_27 : Cond.fieldLink RX12 27 "RecipeSchedulerModel" "length" "I" ∈ wsX12_truncate := by decide +kernel
noncomputable def X12_truncate_b18 (a1 : Int32) (Y : Mem) (s0 : Int32) : Option (Int32 × Mem) :=
  bd2 (X12_fails Y s0 0 0) <| fun r4 Y6 => if r4 = 0 then (lt_ (up Y6 10 0 0 4 a1) <| fun Y8 => some (a1, Y8)) else (some (0, Y6))
noncomputable def X12_truncate (Y : Mem) (a1 : Int32) : Option (Int32 × Mem) :=
  bd1 (X12_in Y a1 0 (Y 10 0 0 4)) <| fun r1 => if r1 = 0 then (X12_truncate_b18 a1 Y 1) else (X12_truncate_b18 a1 Y 0)
section
variable {p : Program} {l : Launch} {e : Env} {s : State} {m : MethodId} {below : List Frame} {meth : Method} {c : Code} {N0 : Nat} {T : Nat → ClassId} {D : va_G} {gr : List (Nat × Nat)} {ad : Nat → Nat → Nat → Nat}
set_option maxRecDepth 100000 in
set_option maxHeartbeats 4000000 in
theorem w_X12_truncate_b18 {a1 : Int32} (C : Cx p s m [.ref (ad 10 0 0), .int a1].toArray meth c cX12_truncate 2 wsX12_truncate RX12 N0 T D gr ad) (hrt : meth.sig.returnType = (some .int)) (hG : ∀ q ∈ [(10, 0)], q ∈ gr) {res : Int32 × Mem} (Y : Mem) (s0 : Int32) (h : X12_truncate_b18 a1  Y s0 = some res) : FW p l e (Rm 1) s m [.ref (ad 10 0 0), .int a1].toArray below meth c 2 N0 T D gr ad 0 0 (MQ below (va_Qi (fun r Y1 => (r, Y1) = res) (WB T D gr ad) (fun q => N0 ≤ q)) [.ref (ad 10 0 0), .int a1].toArray s 0 0 (fun q => N0 ≤ q)) Y 18 [(0, .ref (ad 10 0 0)), (1, .int a1)] [.int s0, .ref (ad 10 0 0)] := by
  unfold X12_truncate_b18 at h
  refine fw_iconst C dX12_truncate_18 (v := 0) rfl ?_
  refine fw_iconst C dX12_truncate_19 (v := 0) rfl ?_
  obtain ⟨r4, Y6, q5, h⟩ := bd2_some h
  refine fw_callVi C (ci := 10) (Cn := RX12) (Tc := TX12) (N := 19) (As := [.int s0, .int 0, .int 0]) (c_X12_fails (gac (hG _ (List.mem_of_getElem? (i := 0) rfl)) ga0) q5) (cwV 3 (cx_ts C) gX12_truncate_X12_fails rfl rfl rfl (by decide +kernel) ⟨Nat.le_of_ble_eq_true rfl, Nat.le_of_ble_eq_true rfl⟩) rfl (hG _ (List.mem_of_getElem? (i := 0) rfl)) (of10_0 _) (ce10 T ad _ _) rfl (st := []) rfl (Nat.le_of_ble_eq_true rfl) ⟨Nat.le_refl 0, Nat.le_refl 0⟩ dX12_truncate_20 ?_
  intro r_ Y_ e_
  obtain ⟨rfl, rfl⟩ := Prod.mk.inj e_
  refine fw_if_eq C dX12_truncate_23 (tgt := 28) rfl (fun c7 => ?_) (fun c7 => ?_)
  · have h := ite_t c7 h
    refine fw_aload_n C dX12_truncate_28 rfl 0 rfl ?_
    refine fw_iload_n C dX12_truncate_29 rfl 1 rfl ?_
    obtain ⟨Y8, e9, h⟩ := lt_some h
    refine fw_put C (ci := 10) (Cn := RX12) (Tc := TX12) (N := 19) (j := 4) (ty := .int) (upd (Y6 10 0 0) 4 a1) ly_X12_truncate_12 rfl tyX12_ok nmX12 (hG _ (List.mem_of_getElem? (i := 0) rfl)) (of10_0 _) (ce10 T ad _ _) (by decide) (cx_ts C _ fl_X12_truncate_27) (fun _ h => h) rfl (by decide +kernel) rfl rfl (by decide) (ce10_put4 T ad _ _ _) dX12_truncate_30 ?_
    refine fw_mem ((up_eq _ _ _ _ _ _).symm.trans e9) ?_
    refine fw_iload_n C dX12_truncate_33 rfl 1 rfl ?_
    exact fw_iret C hrt Y8 (Option.some.inj h) (fun t ht => ht) dX12_truncate_34
  · have h := ite_f c7 h
    refine fw_iconst C dX12_truncate_26 (v := 0) rfl ?_
    exact fw_iret C hrt Y6 (Option.some.inj h) (fun t ht => ht) dX12_truncate_27
set_option maxRecDepth 100000 in
set_option maxHeartbeats 4000000 in
theorem w_X12_truncate {Y : Mem} {a1 : Int32} (C : Cx p s m [.ref (ad 10 0 0), .int a1].toArray meth c cX12_truncate 2 wsX12_truncate RX12 N0 T D gr ad) (hrt : meth.sig.returnType = (some .int)) (hG : ∀ q ∈ [(10, 0)], q ∈ gr) {res : Int32 × Mem} (h : X12_truncate Y a1 = some res) : FW p l e (Rm 1) s m [.ref (ad 10 0 0), .int a1].toArray below meth c 2 N0 T D gr ad 0 0 (MQ below (va_Qi (fun r Y1 => (r, Y1) = res) (WB T D gr ad) (fun q => N0 ≤ q)) [.ref (ad 10 0 0), .int a1].toArray s 0 0 (fun q => N0 ≤ q)) Y 0 [(0, .ref (ad 10 0 0)), (1, .int a1)] [] := by
  unfold X12_truncate at h
  refine fw_aload_n C dX12_truncate_0 rfl 0 rfl ?_
  refine fw_iload_n C dX12_truncate_1 rfl 1 rfl ?_
  refine fw_iconst C dX12_truncate_2 (v := 0) rfl ?_
  refine fw_aload_n C dX12_truncate_3 rfl 0 rfl ?_
  refine fw_get C (ci := 10) (Cn := RX12) (Tc := TX12) (N := 19) (j := 4) ly_X12_truncate_12 rfl (hG _ (List.mem_of_getElem? (i := 0) rfl)) (of10_0 _) (ce10 T ad _ _) (by decide) (cx_ts C _ fl_X12_truncate_27) (fun _ h => h) (v := .int (Y 10 0 0 4)) rfl dX12_truncate_4 ?_
  obtain ⟨r1, q2, h⟩ := bd1_some h
  refine fw_callSi C (As := [.int a1, .int 0, .int (Y 10 0 0 4)]) (c_X12_in ga0 q2) (va_cwS 3 (cx_ts C) gX12_truncate_X12_in rfl rfl rfl (by decide +kernel) ⟨Nat.le_of_ble_eq_true rfl, Nat.le_of_ble_eq_true rfl⟩) rfl (st := [.ref (ad 10 0 0)]) rfl (Nat.le_of_ble_eq_true rfl) ⟨Nat.le_refl 0, Nat.le_refl 0⟩ dX12_truncate_7 ?_
  rintro _ _ ⟨rfl, rfl⟩
  refine fw_if_ne C dX12_truncate_10 (tgt := 17) rfl (fun c3 => ?_) (fun c3 => ?_)
  · have h := ite_f c3 h
    refine fw_iconst C dX12_truncate_17 (v := 0) rfl ?_
    exact w_X12_truncate_b18 C hrt hG   _ _ h
  · have h := ite_t c3 h
    refine fw_iconst C dX12_truncate_13 (v := 1) rfl ?_
    refine fw_goto C dX12_truncate_14 (tgt := 18) rfl ?_
    exact w_X12_truncate_b18 C hrt hG   _ _ h
end
set_option maxRecDepth 100000 in
set_option maxHeartbeats 4000000 in
theorem c_X12_truncate {l : Launch} {N0 : Nat} {T : Nat → ClassId} {D : va_G} {gr : List (Nat × Nat)} {ad : Nat → Nat → Nat → Nat} {Y : Mem} {a1 : Int32} {res : Int32 × Mem} (hG : ∀ q ∈ [(10, 0)], q ∈ gr) (h : X12_truncate Y a1 = some res) : CI l yX12_truncate wsX12_truncate (Rm 1) N0 T D gr ad Y [.ref (ad 10 0 0), .int a1] (fun r Y1 => (r, Y1) = res) :=
  fw_body (by decide +kernel) rfl (Nat.le_of_ble_eq_true rfl) (fun p e s m below meth c C hrt => w_X12_truncate C hrt hG  h)
theorem ly_X12_undo_12 : ∀ w ∈ u_ws RX12 TX12 19, w ∈ wsX12_undo := by decide +kernel
theorem fl_X12_undo_21 : Cond.fieldLink RX12 21 "RecipeSchedulerModel" "undoable" "I" ∈ wsX12_undo := by decide +kernel
noncomputable def X12_undo_b13  (Y : Mem) (s0 : Int32) : Option (Int32 × Mem) :=
  bd2 (X12_fails Y s0 0 0) <| fun r2 Y4 => if r2 = 0 then (bd1 (X12_copyBlock Y4 (Y4 10 0 0 2) 0) <| fun Y8 => lt_ (up Y8 10 0 0 2 ((Y8 10 0 0 2) - 1)) <| fun Y9 => some (Y9 10 0 0 2, Y9)) else (some (0, Y4))
noncomputable def X12_undo (Y : Mem) : Option (Int32 × Mem) :=
  if (Y 10 0 0 2) = 0 then (X12_undo_b13 Y 1) else (X12_undo_b13 Y 0)
section
variable {p : Program} {l : Launch} {e : Env} {s : State} {m : MethodId} {below : List Frame} {meth : Method} {c : Code} {N0 : Nat} {T : Nat → ClassId} {D : va_G} {gr : List (Nat × Nat)} {ad : Nat → Nat → Nat → Nat}
set_option maxRecDepth 100000 in
set_option maxHeartbeats 4000000 in
theorem w_X12_undo_b13  (C : Cx p s m [.ref (ad 10 0 0)].toArray meth c cX12_undo 1 wsX12_undo RX12 N0 T D gr ad) (hrt : meth.sig.returnType = (some .int)) (hG : ∀ q ∈ [(10, 0)], q ∈ gr) {res : Int32 × Mem} (Y : Mem) (s0 : Int32) (h : X12_undo_b13   Y s0 = some res) : FW p l e (Rm 1) s m [.ref (ad 10 0 0)].toArray below meth c 1 N0 T D gr ad 0 0 (MQ below (va_Qi (fun r Y1 => (r, Y1) = res) (WB T D gr ad) (fun q => N0 ≤ q)) [.ref (ad 10 0 0)].toArray s 0 0 (fun q => N0 ≤ q)) Y 13 [(0, .ref (ad 10 0 0))] [.int s0, .ref (ad 10 0 0)] := by
  unfold X12_undo_b13 at h
  refine fw_iconst C dX12_undo_13 (v := 0) rfl ?_
  refine fw_iconst C dX12_undo_14 (v := 0) rfl ?_
  obtain ⟨r2, Y4, q3, h⟩ := bd2_some h
  refine fw_callVi C (ci := 10) (Cn := RX12) (Tc := TX12) (N := 19) (As := [.int s0, .int 0, .int 0]) (c_X12_fails (gac (hG _ (List.mem_of_getElem? (i := 0) rfl)) ga0) q3) (cwV 3 (cx_ts C) gX12_undo_X12_fails rfl rfl rfl (by decide +kernel) ⟨Nat.le_of_ble_eq_true rfl, Nat.le_of_ble_eq_true rfl⟩) rfl (hG _ (List.mem_of_getElem? (i := 0) rfl)) (of10_0 _) (ce10 T ad _ _) rfl (st := []) rfl (Nat.le_of_ble_eq_true rfl) ⟨Nat.le_refl 0, Nat.le_refl 0⟩ dX12_undo_15 ?_
  intro r_ Y_ e_
  obtain ⟨rfl, rfl⟩ := Prod.mk.inj e_
  refine fw_if_eq C dX12_undo_18 (tgt := 23) rfl (fun c5 => ?_) (fun c5 => ?_)
  · have h := ite_t c5 h
    refine fw_aload_n C dX12_undo_23 rfl 0 rfl ?_
    refine fw_aload_n C dX12_undo_24 rfl 0 rfl ?_
    refine fw_get C (ci := 10) (Cn := RX12) (Tc := TX12) (N := 19) (j := 2) ly_X12_undo_12 rfl (hG _ (List.mem_of_getElem? (i := 0) rfl)) (of10_0 _) (ce10 T ad _ _) (by decide) (cx_ts C _ fl_X12_undo_21) (fun _ h => h) (v := .int (Y4 10 0 0 2)) rfl dX12_undo_25 ?_
    refine fw_iconst C dX12_undo_28 (v := 0) rfl ?_
    obtain ⟨Y8, q7, h⟩ := bd1_some h
    refine fw_callVv C (ci := 10) (Cn := RX12) (Tc := TX12) (N := 19) (As := [.int (Y4 10 0 0 2), .int 0]) (c_X12_copyBlock (gac (hG _ (List.mem_of_getElem? (i := 0) rfl)) ga0) q7) (cwV 2 (cx_ts C) gX12_undo_X12_copyBlock rfl rfl rfl (by decide +kernel) ⟨Nat.le_of_ble_eq_true rfl, Nat.le_of_ble_eq_true rfl⟩) rfl (hG _ (List.mem_of_getElem? (i := 0) rfl)) (of10_0 _) (ce10 T ad _ _) rfl (st := []) rfl (Nat.le_of_ble_eq_true rfl) ⟨Nat.le_refl 0, Nat.le_refl 0⟩ dX12_undo_29 ?_
    rintro _ rfl
    refine fw_aload_n C dX12_undo_32 rfl 0 rfl ?_
    refine fw_dup C dX12_undo_33 rfl ?_
    refine fw_get C (ci := 10) (Cn := RX12) (Tc := TX12) (N := 19) (j := 2) ly_X12_undo_12 rfl (hG _ (List.mem_of_getElem? (i := 0) rfl)) (of10_0 _) (ce10 T ad _ _) (by decide) (cx_ts C _ fl_X12_undo_21) (fun _ h => h) (v := .int (Y8 10 0 0 2)) rfl dX12_undo_34 ?_
    refine fw_iconst C dX12_undo_37 (v := 1) rfl ?_
    refine fw_isub C dX12_undo_38 ?_
    obtain ⟨Y9, e10, h⟩ := lt_some h
    refine fw_put C (ci := 10) (Cn := RX12) (Tc := TX12) (N := 19) (j := 2) (ty := .int) (upd (Y8 10 0 0) 2 ((Y8 10 0 0 2) - 1)) ly_X12_undo_12 rfl tyX12_ok nmX12 (hG _ (List.mem_of_getElem? (i := 0) rfl)) (of10_0 _) (ce10 T ad _ _) (by decide) (cx_ts C _ fl_X12_undo_21) (fun _ h => h) rfl (by decide +kernel) rfl rfl (by decide) (ce10_put2 T ad _ _ _) dX12_undo_39 ?_
    refine fw_mem ((up_eq _ _ _ _ _ _).symm.trans e10) ?_
    refine fw_aload_n C dX12_undo_42 rfl 0 rfl ?_
    refine fw_get C (ci := 10) (Cn := RX12) (Tc := TX12) (N := 19) (j := 2) ly_X12_undo_12 rfl (hG _ (List.mem_of_getElem? (i := 0) rfl)) (of10_0 _) (ce10 T ad _ _) (by decide) (cx_ts C _ fl_X12_undo_21) (fun _ h => h) (v := .int (Y9 10 0 0 2)) rfl dX12_undo_43 ?_
    exact fw_iret C hrt Y9 (Option.some.inj h) (fun t ht => ht) dX12_undo_46
  · have h := ite_f c5 h
    refine fw_iconst C dX12_undo_21 (v := 0) rfl ?_
    exact fw_iret C hrt Y4 (Option.some.inj h) (fun t ht => ht) dX12_undo_22
set_option maxRecDepth 100000 in
set_option maxHeartbeats 4000000 in
theorem w_X12_undo {Y : Mem} (C : Cx p s m [.ref (ad 10 0 0)].toArray meth c cX12_undo 1 wsX12_undo RX12 N0 T D gr ad) (hrt : meth.sig.returnType = (some .int)) (hG : ∀ q ∈ [(10, 0)], q ∈ gr) {res : Int32 × Mem} (h : X12_undo Y = some res) : FW p l e (Rm 1) s m [.ref (ad 10 0 0)].toArray below meth c 1 N0 T D gr ad 0 0 (MQ below (va_Qi (fun r Y1 => (r, Y1) = res) (WB T D gr ad) (fun q => N0 ≤ q)) [.ref (ad 10 0 0)].toArray s 0 0 (fun q => N0 ≤ q)) Y 0 [(0, .ref (ad 10 0 0))] [] := by
  unfold X12_undo at h
  refine fw_aload_n C dX12_undo_0 rfl 0 rfl ?_
  refine fw_aload_n C dX12_undo_1 rfl 0 rfl ?_
  refine fw_get C (ci := 10) (Cn := RX12) (Tc := TX12) (N := 19) (j := 2) ly_X12_undo_12 rfl (hG _ (List.mem_of_getElem? (i := 0) rfl)) (of10_0 _) (ce10 T ad _ _) (by decide) (cx_ts C _ fl_X12_undo_21) (fun _ h => h) (v := .int (Y 10 0 0 2)) rfl dX12_undo_2 ?_
  refine fw_if_ne C dX12_undo_5 (tgt := 12) rfl (fun c1 => ?_) (fun c1 => ?_)
  · have h := ite_f c1 h
    refine fw_iconst C dX12_undo_12 (v := 0) rfl ?_
    exact w_X12_undo_b13 C hrt hG   _ _ h
  · have h := ite_t c1 h
    refine fw_iconst C dX12_undo_8 (v := 1) rfl ?_
    refine fw_goto C dX12_undo_9 (tgt := 13) rfl ?_
    exact w_X12_undo_b13 C hrt hG   _ _ h
end
set_option maxRecDepth 100000 in
set_option maxHeartbeats 4000000 in
theorem c_X12_undo {l : Launch} {N0 : Nat} {T : Nat → ClassId} {D : va_G} {gr : List (Nat × Nat)} {ad : Nat → Nat → Nat → Nat} {Y : Mem} {res : Int32 × Mem} (hG : ∀ q ∈ [(10, 0)], q ∈ gr) (h : X12_undo Y = some res) : CI l yX12_undo wsX12_undo (Rm 1) N0 T D gr ad Y [.ref (ad 10 0 0)] (fun r Y1 => (r, Y1) = res) :=
  fw_body (by decide +kernel) rfl (Nat.le_of_ble_eq_true rfl) (fun p e s m below meth c C hrt => w_X12_undo C hrt hG  h)
noncomputable def X12_whyNotRunning_b14 (a1 : Int32) (Y : Mem) (s0 : Int32) : Option (Int32 × Mem) :=
  bd2 (X12_fails Y s0 0 0) <| fun r4 Y6 => if r4 = 0 then (bd1 (X12_reasonFor Y6 a1) <| fun r8 => some (r8, Y6)) else (some (0, Y6))
noncomputable def X12_whyNotRunning (Y : Mem) (a1 : Int32) : Option (Int32 × Mem) :=
  bd1 (X12_isStep Y a1) <| fun r1 => if r1 = 0 then (X12_whyNotRunning_b14 a1 Y 1) else (X12_whyNotRunning_b14 a1 Y 0)
section
variable {p : Program} {l : Launch} {e : Env} {s : State} {m : MethodId} {below : List Frame} {meth : Method} {c : Code} {N0 : Nat} {T : Nat → ClassId} {D : va_G} {gr : List (Nat × Nat)} {ad : Nat → Nat → Nat → Nat}
set_option maxRecDepth 100000 in
set_option maxHeartbeats 4000000 in
theorem w_X12_whyNotRunning_b14 {a1 : Int32} (C : Cx p s m [.ref (ad 10 0 0), .int a1].toArray meth c cX12_whyNotRunning 2 wsX12_whyNotRunning RX12 N0 T D gr ad) (hrt : meth.sig.returnType = (some .int)) (hG : ∀ q ∈ [(10, 0)], q ∈ gr) {res : Int32 × Mem} (Y : Mem) (s0 : Int32) (h : X12_whyNotRunning_b14 a1  Y s0 = some res) : FW p l e (Rm 7) s m [.ref (ad 10 0 0), .int a1].toArray below meth c 2 N0 T D gr ad 0 0 (MQ below (va_Qi (fun r Y1 => (r, Y1) = res) (WB T D gr ad) (fun q => N0 ≤ q)) [.ref (ad 10 0 0), .int a1].toArray s 0 0 (fun q => N0 ≤ q)) Y 14 [(0, .ref (ad 10 0 0)), (1, .int a1)] [.int s0, .ref (ad 10 0 0)] := by
  unfold X12_whyNotRunning_b14 at h
  refine fw_iconst C dX12_whyNotRunning_14 (v := 0) rfl ?_
  refine fw_iconst C dX12_whyNotRunning_15 (v := 0) rfl ?_
  obtain ⟨r4, Y6, q5, h⟩ := bd2_some h
  refine fw_callVi C (ci := 10) (Cn := RX12) (Tc := TX12) (N := 19) (As := [.int s0, .int 0, .int 0]) (c_X12_fails (gac (hG _ (List.mem_of_getElem? (i := 0) rfl)) ga0) q5) (cwV 3 (cx_ts C) gX12_whyNotRunning_X12_fails rfl rfl rfl (by decide +kernel) ⟨Nat.le_of_ble_eq_true rfl, Nat.le_of_ble_eq_true rfl⟩) rfl (hG _ (List.mem_of_getElem? (i := 0) rfl)) (of10_0 _) (ce10 T ad _ _) rfl (st := []) rfl (Nat.le_of_ble_eq_true rfl) ⟨Nat.le_refl 0, Nat.le_refl 0⟩ dX12_whyNotRunning_16 ?_
  intro r_ Y_ e_
  obtain ⟨rfl, rfl⟩ := Prod.mk.inj e_
  refine fw_if_eq C dX12_whyNotRunning_19 (tgt := 24) rfl (fun c7 => ?_) (fun c7 => ?_)
  · have h := ite_t c7 h
    refine fw_aload_n C dX12_whyNotRunning_24 rfl 0 rfl ?_
    refine fw_iload_n C dX12_whyNotRunning_25 rfl 1 rfl ?_
    obtain ⟨r8, q9, h⟩ := bd1_some h
    refine fw_callVi C (ci := 10) (Cn := RX12) (Tc := TX12) (N := 19) (As := [.int a1]) (c_X12_reasonFor (gac (hG _ (List.mem_of_getElem? (i := 0) rfl)) ga0) q9) (cwV 1 (cx_ts C) gX12_whyNotRunning_X12_reasonFor rfl rfl rfl (by decide +kernel) ⟨Nat.le_of_ble_eq_true rfl, Nat.le_of_ble_eq_true rfl⟩) rfl (hG _ (List.mem_of_getElem? (i := 0) rfl)) (of10_0 _) (ce10 T ad _ _) rfl (st := []) rfl (Nat.le_of_ble_eq_true rfl) ⟨Nat.le_refl 0, Nat.le_refl 0⟩ dX12_whyNotRunning_26 ?_
    rintro _ _ ⟨rfl, rfl⟩
    exact fw_iret C hrt Y6 (Option.some.inj h) (fun t ht => ht) dX12_whyNotRunning_29
  · have h := ite_f c7 h
    refine fw_iconst C dX12_whyNotRunning_22 (v := 0) rfl ?_
    exact fw_iret C hrt Y6 (Option.some.inj h) (fun t ht => ht) dX12_whyNotRunning_23
set_option maxRecDepth 100000 in
set_option maxHeartbeats 4000000 in
theorem w_X12_whyNotRunning {Y : Mem} {a1 : Int32} (C : Cx p s m [.ref (ad 10 0 0), .int a1].toArray meth c cX12_whyNotRunning 2 wsX12_whyNotRunning RX12 N0 T D gr ad) (hrt : meth.sig.returnType = (some .int)) (hG : ∀ q ∈ [(10, 0)], q ∈ gr) {res : Int32 × Mem} (h : X12_whyNotRunning Y a1 = some res) : FW p l e (Rm 7) s m [.ref (ad 10 0 0), .int a1].toArray below meth c 2 N0 T D gr ad 0 0 (MQ below (va_Qi (fun r Y1 => (r, Y1) = res) (WB T D gr ad) (fun q => N0 ≤ q)) [.ref (ad 10 0 0), .int a1].toArray s 0 0 (fun q => N0 ≤ q)) Y 0 [(0, .ref (ad 10 0 0)), (1, .int a1)] [] := by
  unfold X12_whyNotRunning at h
  refine fw_aload_n C dX12_whyNotRunning_0 rfl 0 rfl ?_
  refine fw_aload_n C dX12_whyNotRunning_1 rfl 0 rfl ?_
  refine fw_iload_n C dX12_whyNotRunning_2 rfl 1 rfl ?_
  obtain ⟨r1, q2, h⟩ := bd1_some h
  refine fw_callVi C (ci := 10) (Cn := RX12) (Tc := TX12) (N := 19) (As := [.int a1]) (c_X12_isStep (gac (hG _ (List.mem_of_getElem? (i := 0) rfl)) ga0) q2) (cwV 1 (cx_ts C) gX12_whyNotRunning_X12_isStep rfl rfl rfl (by decide +kernel) ⟨Nat.le_of_ble_eq_true rfl, Nat.le_of_ble_eq_true rfl⟩) rfl (hG _ (List.mem_of_getElem? (i := 0) rfl)) (of10_0 _) (ce10 T ad _ _) rfl (st := [.ref (ad 10 0 0)]) rfl (Nat.le_of_ble_eq_true rfl) ⟨Nat.le_refl 0, Nat.le_refl 0⟩ dX12_whyNotRunning_3 ?_
  rintro _ _ ⟨rfl, rfl⟩
  refine fw_if_ne C dX12_whyNotRunning_6 (tgt := 13) rfl (fun c3 => ?_) (fun c3 => ?_)
  · have h := ite_f c3 h
    refine fw_iconst C dX12_whyNotRunning_13 (v := 0) rfl ?_
    exact w_X12_whyNotRunning_b14 C hrt hG   _ _ h
  · have h := ite_t c3 h
    refine fw_iconst C dX12_whyNotRunning_9 (v := 1) rfl ?_
    refine fw_goto C dX12_whyNotRunning_10 (tgt := 14) rfl ?_
    exact w_X12_whyNotRunning_b14 C hrt hG   _ _ h
end
set_option maxRecDepth 100000 in
set_option maxHeartbeats 4000000 in
theorem c_X12_whyNotRunning {l : Launch} {N0 : Nat} {T : Nat → ClassId} {D : va_G} {gr : List (Nat × Nat)} {ad : Nat → Nat → Nat → Nat} {Y : Mem} {a1 : Int32} {res : Int32 × Mem} (hG : ∀ q ∈ [(10, 0)], q ∈ gr) (h : X12_whyNotRunning Y a1 = some res) : CI l yX12_whyNotRunning wsX12_whyNotRunning (Rm 7) N0 T D gr ad Y [.ref (ad 10 0 0), .int a1] (fun r Y1 => (r, Y1) = res) :=
  fw_body (by decide +kernel) rfl (Nat.le_of_ble_eq_true rfl) (fun p e s m below meth c C hrt => w_X12_whyNotRunning C hrt hG  h)
