theorem ly_X12_parseSetup_12 : ∀ w ∈ u_ws RX12 TX12 19, w ∈ wsX12_parseSetup := by decide +kernel
theorem fl_X12_parseSetup_13 : Cond.fieldLink RX12 13 "RecipeSchedulerModel" "m" "[I" ∈ wsX12_parseSetup := by decide +kernel
theorem fl_X12_parseSetup_57 : Cond.fieldLink RX12 57 "RecipeSchedulerModel" "type" "I" ∈ wsX12_parseSetup := by decide +kernel
section
variable {p : Program} {l : Launch} {e : Env} {s : State} {m : MethodId} {below : List Frame} {meth : Method} {c : Code} {N0 : Nat} {T : Nat → ClassId} {D : va_G} {gr : List (Nat × Nat)} {ad : Nat → Nat → Nat → Nat}
set_option maxRecDepth 100000 in
set_option maxHeartbeats 4000000 in
theorem w_X12_parseSetup_b164  (C : Cx p s m [.ref (ad 10 0 0)].toArray meth c cX12_parseSetup 2 wsX12_parseSetup RX12 N0 T D gr ad) (hrt : meth.sig.returnType = (some .boolean)) (hG : ∀ q ∈ [(10, 0)], q ∈ gr) {res : Int32 × Mem} (Y : Mem) (h : X12_parseSetup_b164   Y = some res) : FW p l e (Rm 8) s m [.ref (ad 10 0 0)].toArray below meth c 2 N0 T D gr ad 0 0 (MQ below (va_Qi (fun r Y1 => (r, Y1) = res) (WB T D gr ad) (fun q => N0 ≤ q)) [.ref (ad 10 0 0)].toArray s 0 0 (fun q => N0 ≤ q)) Y 164 [] [] := by
  unfold X12_parseSetup_b164 at h
  refine fw_iconst C dX12_parseSetup_164 (v := 1) rfl ?_
  refine fw_goto C dX12_parseSetup_165 (tgt := 169) rfl ?_
  exact fw_zret C hrt (by decide) Y (Option.some.inj h) (fun t ht => ht) dX12_parseSetup_169
set_option maxRecDepth 100000 in
set_option maxHeartbeats 4000000 in
theorem w_X12_parseSetup_b131  (C : Cx p s m [.ref (ad 10 0 0)].toArray meth c cX12_parseSetup 2 wsX12_parseSetup RX12 N0 T D gr ad) (hrt : meth.sig.returnType = (some .boolean)) (hG : ∀ q ∈ [(10, 0)], q ∈ gr) {res : Int32 × Mem} : ∀ (n : Nat) (Y : Mem), X12_parseSetup_b131   n Y = some res → FW p l e (Rm 8) s m [.ref (ad 10 0 0)].toArray below meth c 2 N0 T D gr ad 0 0 (MQ below (va_Qi (fun r Y1 => (r, Y1) = res) (WB T D gr ad) (fun q => N0 ≤ q)) [.ref (ad 10 0 0)].toArray s 0 0 (fun q => N0 ≤ q)) Y 131 [(0, .ref (ad 10 0 0))] [] := by
  intro n
  induction n with
  | zero =>
    intro Y h
    unfold X12_parseSetup_b131 at h
    cases h
  | succ n ih =>
    intro Y h
    unfold X12_parseSetup_b131 at h
    refine fw_aload_n C dX12_parseSetup_131 rfl 0 rfl ?_
    refine fw_ldcS C (sr_33 (cx_st C)) dX12_parseSetup_132 ?_
    obtain ⟨r35, q36, h⟩ := bd1_some h
    refine fw_callVi C (ci := 10) (Cn := RX12) (Tc := TX12) (N := 19) (As := [.ref (ad 21 3 0)]) (c_X12_isWord (gac (hG _ (List.mem_of_getElem? (i := 0) rfl)) ga0) q36) (cwV 1 (cx_ts C) gX12_parseSetup_X12_isWord rfl rfl rfl (by decide +kernel) ⟨Nat.le_of_ble_eq_true rfl, Nat.le_of_ble_eq_true rfl⟩) rfl (hG _ (List.mem_of_getElem? (i := 0) rfl)) (of10_0 _) (ce10 T ad _ _) rfl (st := []) rfl (Nat.le_of_ble_eq_true rfl) ⟨Nat.le_refl 0, Nat.le_refl 0⟩ dX12_parseSetup_134 (pp2 ?_)
    refine fw_if_eq C dX12_parseSetup_137 (tgt := 149) rfl (fun c37 => ?_) (fun c37 => ?_)
    · have h := ite_t c37 h
      refine fw_aload_n C dX12_parseSetup_149 rfl 0 rfl ?_
      refine fw_get C (ci := 10) (Cn := RX12) (Tc := TX12) (N := 19) (j := 15) ly_X12_parseSetup_12 rfl (hG _ (List.mem_of_getElem? (i := 0) rfl)) (of10_0 _) (ce10 T ad _ _) (by decide) (cx_ts C _ fl_X12_parseSetup_57) (fun _ h => h) (v := .int (Y 10 0 0 15)) rfl dX12_parseSetup_150 ?_
      refine fw_if_eq C dX12_parseSetup_153 (tgt := 164) rfl (fun c38 => ?_) (fun c38 => ?_)
      · have h := ite_t c38 h
        refine fw_sub [] (L' := []) rfl ?_
        exact w_X12_parseSetup_b164 C hrt hG   _ h
      · have h := ite_f c38 h
        refine fw_aload_n C dX12_parseSetup_156 rfl 0 rfl ?_
        refine fw_iconst C dX12_parseSetup_157 (v := 1) rfl ?_
        obtain ⟨r39, Y41, q40, h⟩ := bd2_some h
        refine fw_callVi C (ci := 10) (Cn := RX12) (Tc := TX12) (N := 19) (As := [.int 1]) (c_X12_wrong (gac (hG _ (List.mem_of_getElem? (i := 0) rfl)) ga0) q40) (cwV 1 (cx_ts C) gX12_parseSetup_X12_wrong rfl rfl rfl (by decide +kernel) ⟨Nat.le_of_ble_eq_true rfl, Nat.le_of_ble_eq_true rfl⟩) rfl (hG _ (List.mem_of_getElem? (i := 0) rfl)) (of10_0 _) (ce10 T ad _ _) rfl (st := []) rfl (Nat.le_of_ble_eq_true rfl) ⟨Nat.le_refl 0, Nat.le_refl 0⟩ dX12_parseSetup_158 (ppw ?_)
        refine fw_if_eq C dX12_parseSetup_161 (tgt := 168) rfl (fun c42 => ?_) (fun c42 => ?_)
        · have h := ite_t c42 h
          refine fw_iconst C dX12_parseSetup_168 (v := 0) rfl ?_
          exact fw_zret C hrt (by decide) Y41 (Option.some.inj h) (fun t ht => ht) dX12_parseSetup_169
        · have h := ite_f c42 h
          refine fw_sub [] (L' := []) rfl ?_
          exact w_X12_parseSetup_b164 C hrt hG   _ h
    · have h := ite_f c37 h
      refine fw_aload_n C dX12_parseSetup_140 rfl 0 rfl ?_
      obtain ⟨r43, Y45, q44, h⟩ := bd2_some h
      refine fw_callVi C (ci := 10) (Cn := RX12) (Tc := TX12) (N := 19) (As := []) (c_X12_parseStep (gac (hG _ (List.mem_of_getElem? (i := 0) rfl)) ga0) q44) (cwV 0 (cx_ts C) gX12_parseSetup_X12_parseStep rfl rfl rfl (by decide +kernel) ⟨Nat.le_of_ble_eq_true rfl, Nat.le_of_ble_eq_true rfl⟩) rfl (hG _ (List.mem_of_getElem? (i := 0) rfl)) (of10_0 _) (ce10 T ad _ _) rfl (st := []) rfl (Nat.le_of_ble_eq_true rfl) ⟨Nat.le_refl 0, Nat.le_refl 0⟩ dX12_parseSetup_141 (ppw ?_)
      refine fw_if_ne C dX12_parseSetup_144 (tgt := 131) rfl (fun c46 => ?_) (fun c46 => ?_)
      · have h := ite_f c46 h
        exact ih _ h
      · have h := ite_t c46 h
        refine fw_iconst C dX12_parseSetup_147 (v := 0) rfl ?_
        exact fw_zret C hrt (by decide) Y45 (Option.some.inj h) (fun t ht => ht) dX12_parseSetup_148
set_option maxRecDepth 100000 in
set_option maxHeartbeats 4000000 in
theorem w_X12_parseSetup_b98  (C : Cx p s m [.ref (ad 10 0 0)].toArray meth c cX12_parseSetup 2 wsX12_parseSetup RX12 N0 T D gr ad) (hrt : meth.sig.returnType = (some .boolean)) (hG : ∀ q ∈ [(10, 0)], q ∈ gr) {res : Int32 × Mem} : ∀ (n : Nat) (Y : Mem), X12_parseSetup_b98   n Y = some res → FW p l e (Rm 8) s m [.ref (ad 10 0 0)].toArray below meth c 2 N0 T D gr ad 0 0 (MQ below (va_Qi (fun r Y1 => (r, Y1) = res) (WB T D gr ad) (fun q => N0 ≤ q)) [.ref (ad 10 0 0)].toArray s 0 0 (fun q => N0 ≤ q)) Y 98 [(0, .ref (ad 10 0 0))] [] := by
  intro n
  induction n with
  | zero =>
    intro Y h
    unfold X12_parseSetup_b98 at h
    cases h
  | succ n ih =>
    intro Y h
    unfold X12_parseSetup_b98 at h
    refine fw_aload_n C dX12_parseSetup_98 rfl 0 rfl ?_
    refine fw_ldcS C (sr_32 (cx_st C)) dX12_parseSetup_99 ?_
    obtain ⟨r29, q30, h⟩ := bd1_some h
    refine fw_callVi C (ci := 10) (Cn := RX12) (Tc := TX12) (N := 19) (As := [.ref (ad 21 2 0)]) (c_X12_isWord (gac (hG _ (List.mem_of_getElem? (i := 0) rfl)) ga0) q30) (cwV 1 (cx_ts C) gX12_parseSetup_X12_isWord rfl rfl rfl (by decide +kernel) ⟨Nat.le_of_ble_eq_true rfl, Nat.le_of_ble_eq_true rfl⟩) rfl (hG _ (List.mem_of_getElem? (i := 0) rfl)) (of10_0 _) (ce10 T ad _ _) rfl (st := []) rfl (Nat.le_of_ble_eq_true rfl) ⟨Nat.le_refl 0, Nat.le_refl 0⟩ dX12_parseSetup_101 (pp2 ?_)
    refine fw_if_eq C dX12_parseSetup_104 (tgt := 116) rfl (fun c31 => ?_) (fun c31 => ?_)
    · have h := ite_t c31 h
      refine fw_aload_n C dX12_parseSetup_116 rfl 0 rfl ?_
      refine fw_ldcS C (sr_33 (cx_st C)) dX12_parseSetup_117 ?_
      obtain ⟨r32, q33, h⟩ := bd1_some h
      refine fw_callVi C (ci := 10) (Cn := RX12) (Tc := TX12) (N := 19) (As := [.ref (ad 21 3 0)]) (c_X12_isWord (gac (hG _ (List.mem_of_getElem? (i := 0) rfl)) ga0) q33) (cwV 1 (cx_ts C) gX12_parseSetup_X12_isWord rfl rfl rfl (by decide +kernel) ⟨Nat.le_of_ble_eq_true rfl, Nat.le_of_ble_eq_true rfl⟩) rfl (hG _ (List.mem_of_getElem? (i := 0) rfl)) (of10_0 _) (ce10 T ad _ _) rfl (st := []) rfl (Nat.le_of_ble_eq_true rfl) ⟨Nat.le_refl 0, Nat.le_refl 0⟩ dX12_parseSetup_119 (pp2 ?_)
      refine fw_if_ne C dX12_parseSetup_122 (tgt := 131) rfl (fun c34 => ?_) (fun c34 => ?_)
      · have h := ite_f c34 h
        exact w_X12_parseSetup_b131 C hrt hG   _ _ h
      · have h := ite_t c34 h
        refine fw_aload_n C dX12_parseSetup_125 rfl 0 rfl ?_
        refine fw_iconst C dX12_parseSetup_126 (v := 1) rfl ?_
        obtain ⟨r47, Y49, q48, h⟩ := bd2_some h
        refine fw_callVi C (ci := 10) (Cn := RX12) (Tc := TX12) (N := 19) (As := [.int 1]) (c_X12_wrong (gac (hG _ (List.mem_of_getElem? (i := 0) rfl)) ga0) q48) (cwV 1 (cx_ts C) gX12_parseSetup_X12_wrong rfl rfl rfl (by decide +kernel) ⟨Nat.le_of_ble_eq_true rfl, Nat.le_of_ble_eq_true rfl⟩) rfl (hG _ (List.mem_of_getElem? (i := 0) rfl)) (of10_0 _) (ce10 T ad _ _) rfl (st := []) rfl (Nat.le_of_ble_eq_true rfl) ⟨Nat.le_refl 0, Nat.le_refl 0⟩ dX12_parseSetup_127 (ppw ?_)
        obtain ⟨b50, h⟩ := gd_some h
        exact fw_zret C hrt (of_decide_eq_true b50) Y49 (Option.some.inj h) (fun t ht => ht) dX12_parseSetup_130
    · have h := ite_f c31 h
      refine fw_aload_n C dX12_parseSetup_107 rfl 0 rfl ?_
      obtain ⟨r51, Y53, q52, h⟩ := bd2_some h
      refine fw_callVi C (ci := 10) (Cn := RX12) (Tc := TX12) (N := 19) (As := []) (c_X12_parsePan (gac (hG _ (List.mem_of_getElem? (i := 0) rfl)) ga0) q52) (cwV 0 (cx_ts C) gX12_parseSetup_X12_parsePan rfl rfl rfl (by decide +kernel) ⟨Nat.le_of_ble_eq_true rfl, Nat.le_of_ble_eq_true rfl⟩) rfl (hG _ (List.mem_of_getElem? (i := 0) rfl)) (of10_0 _) (ce10 T ad _ _) rfl (st := []) rfl (Nat.le_of_ble_eq_true rfl) ⟨Nat.le_refl 0, Nat.le_refl 0⟩ dX12_parseSetup_108 (ppw ?_)
      refine fw_if_ne C dX12_parseSetup_111 (tgt := 98) rfl (fun c54 => ?_) (fun c54 => ?_)
      · have h := ite_f c54 h
        exact ih _ h
      · have h := ite_t c54 h
        refine fw_iconst C dX12_parseSetup_114 (v := 0) rfl ?_
        exact fw_zret C hrt (by decide) Y53 (Option.some.inj h) (fun t ht => ht) dX12_parseSetup_115
set_option maxRecDepth 100000 in
set_option maxHeartbeats 4000000 in
theorem w_X12_parseSetup_b2  (C : Cx p s m [.ref (ad 10 0 0)].toArray meth c cX12_parseSetup 2 wsX12_parseSetup RX12 N0 T D gr ad) (hrt : meth.sig.returnType = (some .boolean)) (hG : ∀ q ∈ [(10, 0)], q ∈ gr) {res : Int32 × Mem} : ∀ (n : Nat) (Y : Mem) (l1 : Int32), X12_parseSetup_b2   n Y l1 = some res → FW p l e (Rm 8) s m [.ref (ad 10 0 0)].toArray below meth c 2 N0 T D gr ad 0 0 (MQ below (va_Qi (fun r Y1 => (r, Y1) = res) (WB T D gr ad) (fun q => N0 ≤ q)) [.ref (ad 10 0 0)].toArray s 0 0 (fun q => N0 ≤ q)) Y 2 [(1, .int l1), (0, .ref (ad 10 0 0))] [] := by
  intro n
  induction n with
  | zero =>
    intro Y l1 h
    unfold X12_parseSetup_b2 at h
    cases h
  | succ n ih =>
    intro Y l1 h
    unfold X12_parseSetup_b2 at h
    refine fw_iload_n C dX12_parseSetup_2 rfl 0 rfl ?_
    refine fw_sipush C dX12_parseSetup_3 (v := 382) rfl ?_
    refine fw_icmp_ge C dX12_parseSetup_6 (tgt := 22) rfl (fun c1 => ?_) (fun c1 => ?_)
    · have h := ite_t c1 h
      refine fw_aload_n C dX12_parseSetup_22 rfl 1 rfl ?_
      refine fw_ldcS C (sr_31 (cx_st C)) dX12_parseSetup_23 ?_
      obtain ⟨r2, q3, h⟩ := bd1_some h
      refine fw_callVi C (ci := 10) (Cn := RX12) (Tc := TX12) (N := 19) (As := [.ref (ad 21 1 0)]) (c_X12_isWord (gac (hG _ (List.mem_of_getElem? (i := 0) rfl)) ga0) q3) (cwV 1 (cx_ts C) gX12_parseSetup_X12_isWord rfl rfl rfl (by decide +kernel) ⟨Nat.le_of_ble_eq_true rfl, Nat.le_of_ble_eq_true rfl⟩) rfl (hG _ (List.mem_of_getElem? (i := 0) rfl)) (of10_0 _) (ce10 T ad _ _) rfl (st := []) rfl (Nat.le_of_ble_eq_true rfl) ⟨Nat.le_refl 0, Nat.le_refl 0⟩ dX12_parseSetup_25 (pp2 ?_)
      refine fw_if_ne C dX12_parseSetup_28 (tgt := 37) rfl (fun c4 => ?_) (fun c4 => ?_)
      · have h := ite_f c4 h
        refine fw_aload_n C dX12_parseSetup_37 rfl 1 rfl ?_
        obtain ⟨Y7, q6, h⟩ := bd1_some h
        refine fw_callVv C (ci := 10) (Cn := RX12) (Tc := TX12) (N := 19) (As := []) (c_X12_token (gac (hG _ (List.mem_of_getElem? (i := 0) rfl)) ga0) q6) (cwV 0 (cx_ts C) gX12_parseSetup_X12_token rfl rfl rfl (by decide +kernel) ⟨Nat.le_of_ble_eq_true rfl, Nat.le_of_ble_eq_true rfl⟩) rfl (hG _ (List.mem_of_getElem? (i := 0) rfl)) (of10_0 _) (ce10 T ad _ _) rfl (st := []) rfl (Nat.le_of_ble_eq_true rfl) ⟨Nat.le_refl 0, Nat.le_refl 0⟩ dX12_parseSetup_38 (ppv ?_)
        refine fw_aload_n C dX12_parseSetup_41 rfl 1 rfl ?_
        refine fw_iconst C dX12_parseSetup_42 (v := 0) rfl ?_
        refine fw_iconst C dX12_parseSetup_43 (v := 1) rfl ?_
        refine fw_iconst C dX12_parseSetup_44 (v := 4) rfl ?_
        obtain ⟨r8, Y10, q9, h⟩ := bd2_some h
        refine fw_callVi C (ci := 10) (Cn := RX12) (Tc := TX12) (N := 19) (As := [.int 0, .int 1, .int 4]) (c_X12_parseRanged (gac (hG _ (List.mem_of_getElem? (i := 0) rfl)) ga0) q9) (cwV 3 (cx_ts C) gX12_parseSetup_X12_parseRanged rfl rfl rfl (by decide +kernel) ⟨Nat.le_of_ble_eq_true rfl, Nat.le_of_ble_eq_true rfl⟩) rfl (hG _ (List.mem_of_getElem? (i := 0) rfl)) (of10_0 _) (ce10 T ad _ _) rfl (st := []) rfl (Nat.le_of_ble_eq_true rfl) ⟨Nat.le_refl 0, Nat.le_refl 0⟩ dX12_parseSetup_45 (ppw ?_)
        refine fw_if_eq C dX12_parseSetup_48 (tgt := 96) rfl (fun c11 => ?_) (fun c11 => ?_)
        · have h := ite_t c11 h
          refine fw_iconst C dX12_parseSetup_96 (v := 0) rfl ?_
          exact fw_zret C hrt (by decide) Y10 (Option.some.inj h) (fun t ht => ht) dX12_parseSetup_97
        · have h := ite_f c11 h
          refine fw_aload_n C dX12_parseSetup_51 rfl 1 rfl ?_
          refine fw_iconst C dX12_parseSetup_52 (v := 1) rfl ?_
          refine fw_iconst C dX12_parseSetup_53 (v := 0) rfl ?_
          refine fw_bipush C dX12_parseSetup_54 (v := 30) rfl ?_
          obtain ⟨r12, Y14, q13, h⟩ := bd2_some h
          refine fw_callVi C (ci := 10) (Cn := RX12) (Tc := TX12) (N := 19) (As := [.int 1, .int 0, .int 30]) (c_X12_parseRanged (gac (hG _ (List.mem_of_getElem? (i := 0) rfl)) ga0) q13) (cwV 3 (cx_ts C) gX12_parseSetup_X12_parseRanged rfl rfl rfl (by decide +kernel) ⟨Nat.le_of_ble_eq_true rfl, Nat.le_of_ble_eq_true rfl⟩) rfl (hG _ (List.mem_of_getElem? (i := 0) rfl)) (of10_0 _) (ce10 T ad _ _) rfl (st := []) rfl (Nat.le_of_ble_eq_true rfl) ⟨Nat.le_refl 0, Nat.le_refl 0⟩ dX12_parseSetup_56 (ppw ?_)
          refine fw_if_eq C dX12_parseSetup_59 (tgt := 96) rfl (fun c15 => ?_) (fun c15 => ?_)
          · have h := ite_t c15 h
            refine fw_iconst C dX12_parseSetup_96 (v := 0) rfl ?_
            exact fw_zret C hrt (by decide) Y14 (Option.some.inj h) (fun t ht => ht) dX12_parseSetup_97
          · have h := ite_f c15 h
            refine fw_aload_n C dX12_parseSetup_62 rfl 1 rfl ?_
            refine fw_iconst C dX12_parseSetup_63 (v := 2) rfl ?_
            refine fw_iconst C dX12_parseSetup_64 (v := 0) rfl ?_
            refine fw_bipush C dX12_parseSetup_65 (v := 99) rfl ?_
            obtain ⟨r16, Y18, q17, h⟩ := bd2_some h
            refine fw_callVi C (ci := 10) (Cn := RX12) (Tc := TX12) (N := 19) (As := [.int 2, .int 0, .int 99]) (c_X12_parseRanged (gac (hG _ (List.mem_of_getElem? (i := 0) rfl)) ga0) q17) (cwV 3 (cx_ts C) gX12_parseSetup_X12_parseRanged rfl rfl rfl (by decide +kernel) ⟨Nat.le_of_ble_eq_true rfl, Nat.le_of_ble_eq_true rfl⟩) rfl (hG _ (List.mem_of_getElem? (i := 0) rfl)) (of10_0 _) (ce10 T ad _ _) rfl (st := []) rfl (Nat.le_of_ble_eq_true rfl) ⟨Nat.le_refl 0, Nat.le_refl 0⟩ dX12_parseSetup_67 (ppw ?_)
            refine fw_if_eq C dX12_parseSetup_70 (tgt := 96) rfl (fun c19 => ?_) (fun c19 => ?_)
            · have h := ite_t c19 h
              refine fw_iconst C dX12_parseSetup_96 (v := 0) rfl ?_
              exact fw_zret C hrt (by decide) Y18 (Option.some.inj h) (fun t ht => ht) dX12_parseSetup_97
            · have h := ite_f c19 h
              refine fw_aload_n C dX12_parseSetup_73 rfl 1 rfl ?_
              refine fw_iconst C dX12_parseSetup_74 (v := 3) rfl ?_
              refine fw_aload_n C dX12_parseSetup_75 rfl 1 rfl ?_
              refine fw_get C (ci := 10) (Cn := RX12) (Tc := TX12) (N := 19) (j := 0) ly_X12_parseSetup_12 rfl (hG _ (List.mem_of_getElem? (i := 0) rfl)) (of10_0 _) (ce10 T ad _ _) (by decide) (cx_ts C _ fl_X12_parseSetup_13) (fun _ h => h) (v := .ref (ad 10 0 1)) rfl dX12_parseSetup_76 ?_
              refine fw_iconst C dX12_parseSetup_79 (v := 2) rfl ?_
              obtain ⟨b20, h⟩ := gd_some h
              refine fw_iald2 C (hG _ (List.mem_of_getElem? (i := 0) rfl)) (of10_1 _) (ca10_1 T ad _ _) b20 (Nat.le_of_ble_eq_true rfl) dX12_parseSetup_80 ?_
              refine fw_bipush C dX12_parseSetup_81 (v := 99) rfl ?_
              obtain ⟨r21, Y23, q22, h⟩ := bd2_some h
              refine fw_callVi C (ci := 10) (Cn := RX12) (Tc := TX12) (N := 19) (As := [.int 3, .int (Y18 10 0 1 (ix 2)), .int 99]) (c_X12_parseRanged (gac (hG _ (List.mem_of_getElem? (i := 0) rfl)) ga0) q22) (cwV 3 (cx_ts C) gX12_parseSetup_X12_parseRanged rfl rfl rfl (by decide +kernel) ⟨Nat.le_of_ble_eq_true rfl, Nat.le_of_ble_eq_true rfl⟩) rfl (hG _ (List.mem_of_getElem? (i := 0) rfl)) (of10_0 _) (ce10 T ad _ _) rfl (st := []) rfl (Nat.le_of_ble_eq_true rfl) ⟨Nat.le_refl 0, Nat.le_refl 0⟩ dX12_parseSetup_83 (ppw ?_)
              refine fw_if_eq C dX12_parseSetup_86 (tgt := 96) rfl (fun c24 => ?_) (fun c24 => ?_)
              · have h := ite_t c24 h
                refine fw_iconst C dX12_parseSetup_96 (v := 0) rfl ?_
                exact fw_zret C hrt (by decide) Y23 (Option.some.inj h) (fun t ht => ht) dX12_parseSetup_97
              · have h := ite_f c24 h
                refine fw_aload_n C dX12_parseSetup_89 rfl 1 rfl ?_
                obtain ⟨r25, Y27, q26, h⟩ := bd2_some h
                refine fw_callVi C (ci := 10) (Cn := RX12) (Tc := TX12) (N := 19) (As := []) (c_X12_semicolon (gac (hG _ (List.mem_of_getElem? (i := 0) rfl)) ga0) q26) (cwV 0 (cx_ts C) gX12_parseSetup_X12_semicolon rfl rfl rfl (by decide +kernel) ⟨Nat.le_of_ble_eq_true rfl, Nat.le_of_ble_eq_true rfl⟩) rfl (hG _ (List.mem_of_getElem? (i := 0) rfl)) (of10_0 _) (ce10 T ad _ _) rfl (st := []) rfl (Nat.le_of_ble_eq_true rfl) ⟨Nat.le_refl 0, Nat.le_refl 0⟩ dX12_parseSetup_90 (ppw ?_)
                refine fw_if_ne C dX12_parseSetup_93 (tgt := 98) rfl (fun c28 => ?_) (fun c28 => ?_)
                · have h := ite_f c28 h
                  refine fw_sub [1] (L' := [(0, .ref (ad 10 0 0))]) rfl ?_
                  exact w_X12_parseSetup_b98 C hrt hG   _ _ h
                · have h := ite_t c28 h
                  refine fw_iconst C dX12_parseSetup_96 (v := 0) rfl ?_
                  exact fw_zret C hrt (by decide) Y27 (Option.some.inj h) (fun t ht => ht) dX12_parseSetup_97
      · have h := ite_t c4 h
        refine fw_aload_n C dX12_parseSetup_31 rfl 1 rfl ?_
        refine fw_iconst C dX12_parseSetup_32 (v := 1) rfl ?_
        obtain ⟨r55, Y57, q56, h⟩ := bd2_some h
        refine fw_callVi C (ci := 10) (Cn := RX12) (Tc := TX12) (N := 19) (As := [.int 1]) (c_X12_wrong (gac (hG _ (List.mem_of_getElem? (i := 0) rfl)) ga0) q56) (cwV 1 (cx_ts C) gX12_parseSetup_X12_wrong rfl rfl rfl (by decide +kernel) ⟨Nat.le_of_ble_eq_true rfl, Nat.le_of_ble_eq_true rfl⟩) rfl (hG _ (List.mem_of_getElem? (i := 0) rfl)) (of10_0 _) (ce10 T ad _ _) rfl (st := []) rfl (Nat.le_of_ble_eq_true rfl) ⟨Nat.le_refl 0, Nat.le_refl 0⟩ dX12_parseSetup_33 (ppw ?_)
        obtain ⟨b58, h⟩ := gd_some h
        exact fw_zret C hrt (of_decide_eq_true b58) Y57 (Option.some.inj h) (fun t ht => ht) dX12_parseSetup_36
    · have h := ite_f c1 h
      refine fw_aload_n C dX12_parseSetup_9 rfl 1 rfl ?_
      refine fw_get C (ci := 10) (Cn := RX12) (Tc := TX12) (N := 19) (j := 0) ly_X12_parseSetup_12 rfl (hG _ (List.mem_of_getElem? (i := 0) rfl)) (of10_0 _) (ce10 T ad _ _) (by decide) (cx_ts C _ fl_X12_parseSetup_13) (fun _ h => h) (v := .ref (ad 10 0 1)) rfl dX12_parseSetup_10 ?_
      refine fw_iload_n C dX12_parseSetup_13 rfl 0 rfl ?_
      refine fw_iconst C dX12_parseSetup_14 (v := 0) rfl ?_
      obtain ⟨b59, h⟩ := gd_some h
      obtain ⟨Y60, e61, h⟩ := lt_some h
      refine fw_iast2 C (hG _ (List.mem_of_getElem? (i := 0) rfl)) (of10_1 _) (ca10_1 T ad _) b59 (Nat.le_of_ble_eq_true rfl) dX12_parseSetup_15 ?_
      refine fw_mem e61 ?_
      refine fw_iinc C dX12_parseSetup_16 (kk := 0) (v := l1 + 1) rfl rfl (by decide) (L' := [(1, .int (l1 + 1)), (0, .ref (ad 10 0 0))]) rfl ?_
      refine fw_goto C dX12_parseSetup_19 (tgt := 2) rfl ?_
      exact ih _ _ h
set_option maxRecDepth 100000 in
set_option maxHeartbeats 4000000 in
theorem w_X12_parseSetup {Y : Mem} (C : Cx p s m [.ref (ad 10 0 0)].toArray meth c cX12_parseSetup 2 wsX12_parseSetup RX12 N0 T D gr ad) (hrt : meth.sig.returnType = (some .boolean)) (hG : ∀ q ∈ [(10, 0)], q ∈ gr) {res : Int32 × Mem} (h : X12_parseSetup Y = some res) : FW p l e (Rm 8) s m [.ref (ad 10 0 0)].toArray below meth c 2 N0 T D gr ad 0 0 (MQ below (va_Qi (fun r Y1 => (r, Y1) = res) (WB T D gr ad) (fun q => N0 ≤ q)) [.ref (ad 10 0 0)].toArray s 0 0 (fun q => N0 ≤ q)) Y 0 [(0, .ref (ad 10 0 0))] [] := by
  unfold X12_parseSetup at h
  refine fw_iconst C dX12_parseSetup_0 (v := 0) rfl ?_
  refine fw_istore_n C dX12_parseSetup_1 rfl (by decide) (L' := [(1, .int 0), (0, .ref (ad 10 0 0))]) rfl ?_
  exact w_X12_parseSetup_b2 C hrt hG   _ _ _ h
end
set_option maxRecDepth 100000 in
set_option maxHeartbeats 4000000 in
theorem c_X12_parseSetup {l : Launch} {N0 : Nat} {T : Nat → ClassId} {D : va_G} {gr : List (Nat × Nat)} {ad : Nat → Nat → Nat → Nat} {Y : Mem} {res : Int32 × Mem} (hG : ∀ q ∈ [(10, 0)], q ∈ gr) (h : X12_parseSetup Y = some res) : CI l yX12_parseSetup wsX12_parseSetup (Rm 8) N0 T D gr ad Y [.ref (ad 10 0 0)] (fun r Y1 => (r, Y1) = res) :=
  fw_body (by decide +kernel) rfl (Nat.le_of_ble_eq_true rfl) (fun p e s m below meth c C hrt => w_X12_parseSetup C hrt hG  h)
theorem ly_X12_load_12 : ∀ w ∈ u_ws RX12 TX12 19, w ∈ wsX12_load := by decide +kernel
theorem fl_X12_load_27 : Cond.fieldLink RX12 27 "RecipeSchedulerModel" "length" "I" ∈ wsX12_load := by decide +kernel
theorem fl_X12_load_21 : Cond.fieldLink RX12 21 "RecipeSchedulerModel" "undoable" "I" ∈ wsX12_load := by decide +kernel
theorem fl_X12_load_17 : Cond.fieldLink RX12 17 "RecipeSchedulerModel" "isSaved" "[Z" ∈ wsX12_load := by decide +kernel
theorem fl_X12_load_13 : Cond.fieldLink RX12 13 "RecipeSchedulerModel" "m" "[I" ∈ wsX12_load := by decide +kernel
section
variable {p : Program} {l : Launch} {e : Env} {s : State} {m : MethodId} {below : List Frame} {meth : Method} {c : Code} {N0 : Nat} {T : Nat → ClassId} {D : va_G} {gr : List (Nat × Nat)} {ad : Nat → Nat → Nat → Nat}
set_option maxRecDepth 100000 in
set_option maxHeartbeats 4000000 in
theorem w_X12_load_b42  (C : Cx p s m [.ref (ad 10 0 0)].toArray meth c cX12_load 2 wsX12_load RX12 N0 T D gr ad) (hrt : meth.sig.returnType = (some .int)) (hG : ∀ q ∈ [(10, 0)], q ∈ gr) {res : Int32 × Mem} (Y : Mem) (s0 : Int32) (h : X12_load_b42   Y s0 = some res) : FW p l e (Rm 9) s m [.ref (ad 10 0 0)].toArray below meth c 2 N0 T D gr ad 0 0 (MQ below (va_Qi (fun r Y1 => (r, Y1) = res) (WB T D gr ad) (fun q => N0 ≤ q)) [.ref (ad 10 0 0)].toArray s 0 0 (fun q => N0 ≤ q)) Y 42 [(0, .ref (ad 10 0 0))] [.int s0, .ref (ad 10 0 0)] := by
  unfold X12_load_b42 at h
  refine fw_iconst C dX12_load_42 (v := 0) rfl ?_
  refine fw_iconst C dX12_load_43 (v := 0) rfl ?_
  obtain ⟨r14, Y16, q15, h⟩ := bd2_some h
  refine fw_callVi C (ci := 10) (Cn := RX12) (Tc := TX12) (N := 19) (As := [.int s0, .int 0, .int 0]) (c_X12_fails (gac (hG _ (List.mem_of_getElem? (i := 0) rfl)) ga0) q15) (cwV 3 (cx_ts C) gX12_load_X12_fails rfl rfl rfl (by decide +kernel) ⟨Nat.le_of_ble_eq_true rfl, Nat.le_of_ble_eq_true rfl⟩) rfl (hG _ (List.mem_of_getElem? (i := 0) rfl)) (of10_0 _) (ce10 T ad _ _) rfl (st := []) rfl (Nat.le_of_ble_eq_true rfl) ⟨Nat.le_refl 0, Nat.le_refl 0⟩ dX12_load_44 (ppw ?_)
  refine fw_if_eq C dX12_load_47 (tgt := 52) rfl (fun c17 => ?_) (fun c17 => ?_)
  · have h := ite_t c17 h
    refine fw_aload_n C dX12_load_52 rfl 0 rfl ?_
    refine fw_iconst C dX12_load_53 (v := 0) rfl ?_
    obtain ⟨Y18, e19, h⟩ := lt_some h
    refine fw_put C (ci := 10) (Cn := RX12) (Tc := TX12) (N := 19) (j := 2) (ty := .int) (upd (Y16 10 0 0) 2 0) ly_X12_load_12 rfl tyX12_ok nmX12 (hG _ (List.mem_of_getElem? (i := 0) rfl)) (of10_0 _) (ce10 T ad _ _) (by decide) (cx_ts C _ fl_X12_load_21) (fun _ h => h) rfl (by decide +kernel) rfl rfl (Nat.le_of_ble_eq_true rfl) (ce10_put2 T ad _ _ _) dX12_load_54 ?_
    refine fw_mem ((up_eq _ _ _ _ _ _).symm.trans e19) ?_
    refine fw_aload_n C dX12_load_57 rfl 0 rfl ?_
    refine fw_get C (ci := 10) (Cn := RX12) (Tc := TX12) (N := 19) (j := 1) ly_X12_load_12 rfl (hG _ (List.mem_of_getElem? (i := 0) rfl)) (of10_0 _) (ce10 T ad _ _) (by decide) (cx_ts C _ fl_X12_load_17) (fun _ h => h) (v := .ref (ad 10 0 2)) rfl dX12_load_58 ?_
    refine fw_iconst C dX12_load_61 (v := 0) rfl ?_
    refine fw_iconst C dX12_load_62 (v := 0) rfl ?_
    obtain ⟨b20, h⟩ := gd_some h
    obtain ⟨Y21, e22, h⟩ := lt_some h
    refine fw_zast2 C (hG _ (List.mem_of_getElem? (i := 0) rfl)) (of10_2 _) (ca10_2 T ad _) b20 (Nat.le_of_ble_eq_true rfl) dX12_load_63 ?_
    refine fw_mem e22 ?_
    refine fw_aload_n C dX12_load_64 rfl 0 rfl ?_
    refine fw_get C (ci := 10) (Cn := RX12) (Tc := TX12) (N := 19) (j := 1) ly_X12_load_12 rfl (hG _ (List.mem_of_getElem? (i := 0) rfl)) (of10_0 _) (ce10 T ad _ _) (by decide) (cx_ts C _ fl_X12_load_17) (fun _ h => h) (v := .ref (ad 10 0 2)) rfl dX12_load_65 ?_
    refine fw_iconst C dX12_load_68 (v := 1) rfl ?_
    refine fw_iconst C dX12_load_69 (v := 0) rfl ?_
    obtain ⟨b23, h⟩ := gd_some h
    obtain ⟨Y24, e25, h⟩ := lt_some h
    refine fw_zast2 C (hG _ (List.mem_of_getElem? (i := 0) rfl)) (of10_2 _) (ca10_2 T ad _) b23 (Nat.le_of_ble_eq_true rfl) dX12_load_70 ?_
    refine fw_mem e25 ?_
    refine fw_aload_n C dX12_load_71 rfl 0 rfl ?_
    refine fw_get C (ci := 10) (Cn := RX12) (Tc := TX12) (N := 19) (j := 0) ly_X12_load_12 rfl (hG _ (List.mem_of_getElem? (i := 0) rfl)) (of10_0 _) (ce10 T ad _ _) (by decide) (cx_ts C _ fl_X12_load_13) (fun _ h => h) (v := .ref (ad 10 0 1)) rfl dX12_load_72 ?_
    refine fw_bipush C dX12_load_75 (v := 13) rfl ?_
    obtain ⟨b26, h⟩ := gd_some h
    refine fw_iald2 C (hG _ (List.mem_of_getElem? (i := 0) rfl)) (of10_1 _) (ca10_1 T ad _ _) b26 (Nat.le_of_ble_eq_true rfl) dX12_load_77 ?_
    exact fw_iret C hrt Y24 (Option.some.inj h) (fun t ht => ht) dX12_load_78
  · have h := ite_f c17 h
    refine fw_iconst C dX12_load_50 (v := 0) rfl ?_
    exact fw_iret C hrt Y16 (Option.some.inj h) (fun t ht => ht) dX12_load_51
set_option maxRecDepth 100000 in
set_option maxHeartbeats 4000000 in
theorem w_X12_load_b32  (C : Cx p s m [.ref (ad 10 0 0)].toArray meth c cX12_load 2 wsX12_load RX12 N0 T D gr ad) (hrt : meth.sig.returnType = (some .int)) (hG : ∀ q ∈ [(10, 0)], q ∈ gr) {res : Int32 × Mem} (Y : Mem) (l1 : Int32) (h : X12_load_b32   Y l1 = some res) : FW p l e (Rm 9) s m [.ref (ad 10 0 0)].toArray below meth c 2 N0 T D gr ad 0 0 (MQ below (va_Qi (fun r Y1 => (r, Y1) = res) (WB T D gr ad) (fun q => N0 ≤ q)) [.ref (ad 10 0 0)].toArray s 0 0 (fun q => N0 ≤ q)) Y 32 [(1, .int l1), (0, .ref (ad 10 0 0))] [] := by
  unfold X12_load_b32 at h
  refine fw_aload_n C dX12_load_32 rfl 1 rfl ?_
  refine fw_iload_n C dX12_load_33 rfl 0 rfl ?_
  refine fw_if_ne C dX12_load_34 (tgt := 41) rfl (fun c13 => ?_) (fun c13 => ?_)
  · have h := ite_f c13 h
    refine fw_iconst C dX12_load_41 (v := 0) rfl ?_
    refine fw_sub [1] (L' := [(0, .ref (ad 10 0 0))]) rfl ?_
    exact w_X12_load_b42 C hrt hG   _ _ h
  · have h := ite_t c13 h
    refine fw_iconst C dX12_load_37 (v := 1) rfl ?_
    refine fw_goto C dX12_load_38 (tgt := 42) rfl ?_
    refine fw_sub [1] (L' := [(0, .ref (ad 10 0 0))]) rfl ?_
    exact w_X12_load_b42 C hrt hG   _ _ h
set_option maxRecDepth 100000 in
set_option maxHeartbeats 4000000 in
theorem w_X12_load {Y : Mem} (C : Cx p s m [.ref (ad 10 0 0)].toArray meth c cX12_load 2 wsX12_load RX12 N0 T D gr ad) (hrt : meth.sig.returnType = (some .int)) (hG : ∀ q ∈ [(10, 0)], q ∈ gr) {res : Int32 × Mem} (h : X12_load Y = some res) : FW p l e (Rm 9) s m [.ref (ad 10 0 0)].toArray below meth c 2 N0 T D gr ad 0 0 (MQ below (va_Qi (fun r Y1 => (r, Y1) = res) (WB T D gr ad) (fun q => N0 ≤ q)) [.ref (ad 10 0 0)].toArray s 0 0 (fun q => N0 ≤ q)) Y 0 [(0, .ref (ad 10 0 0))] [] := by
  unfold X12_load at h
  refine fw_aload_n C dX12_load_0 rfl 0 rfl ?_
  refine fw_iconst C dX12_load_1 (v := 0) rfl ?_
  refine fw_bipush C dX12_load_2 (v := 9) rfl ?_
  obtain ⟨Y3, q2, h⟩ := bd1_some h
  refine fw_callVv C (ci := 10) (Cn := RX12) (Tc := TX12) (N := 19) (As := [.int 0, .int 9]) (c_X12_copyBlock (gac (hG _ (List.mem_of_getElem? (i := 0) rfl)) ga0) q2) (cwV 2 (cx_ts C) gX12_load_X12_copyBlock rfl rfl rfl (by decide +kernel) ⟨Nat.le_of_ble_eq_true rfl, Nat.le_of_ble_eq_true rfl⟩) rfl (hG _ (List.mem_of_getElem? (i := 0) rfl)) (of10_0 _) (ce10 T ad _ _) rfl (st := []) rfl (Nat.le_of_ble_eq_true rfl) ⟨Nat.le_refl 0, Nat.le_refl 0⟩ dX12_load_4 (ppv ?_)
  refine fw_aload_n C dX12_load_7 rfl 0 rfl ?_
  obtain ⟨Y6, q5, h⟩ := bd1_some h
  refine fw_callVv C (ci := 10) (Cn := RX12) (Tc := TX12) (N := 19) (As := []) (c_X12_begin (gac (hG _ (List.mem_of_getElem? (i := 0) rfl)) ga0) q5) (cwV 0 (cx_ts C) gX12_load_X12_begin rfl rfl rfl (by decide +kernel) ⟨Nat.le_of_ble_eq_true rfl, Nat.le_of_ble_eq_true rfl⟩) rfl (hG _ (List.mem_of_getElem? (i := 0) rfl)) (of10_0 _) (ce10 T ad _ _) rfl (st := []) rfl (Nat.le_of_ble_eq_true rfl) ⟨Nat.le_refl 0, Nat.le_refl 0⟩ dX12_load_8 (ppv ?_)
  refine fw_aload_n C dX12_load_11 rfl 0 rfl ?_
  obtain ⟨r7, Y9, q8, h⟩ := bd2_some h
  refine fw_callVi C (ci := 10) (Cn := RX12) (Tc := TX12) (N := 19) (As := []) (c_X12_parseSetup (gac (hG _ (List.mem_of_getElem? (i := 0) rfl)) ga0) q8) (cwV 0 (cx_ts C) gX12_load_X12_parseSetup rfl rfl rfl (by decide +kernel) ⟨Nat.le_of_ble_eq_true rfl, Nat.le_of_ble_eq_true rfl⟩) rfl (hG _ (List.mem_of_getElem? (i := 0) rfl)) (of10_0 _) (ce10 T ad _ _) rfl (st := []) rfl (Nat.le_of_ble_eq_true rfl) ⟨Nat.le_refl 0, Nat.le_refl 0⟩ dX12_load_12 (ppw ?_)
  refine fw_istore_n C dX12_load_15 rfl (by decide) (L' := [(1, .int r7), (0, .ref (ad 10 0 0))]) rfl ?_
  refine fw_aload_n C dX12_load_16 rfl 1 rfl ?_
  refine fw_iconst C dX12_load_17 (v := 0) rfl ?_
  obtain ⟨Y10, e11, h⟩ := lt_some h
  refine fw_put C (ci := 10) (Cn := RX12) (Tc := TX12) (N := 19) (j := 4) (ty := .int) (upd (Y9 10 0 0) 4 0) ly_X12_load_12 rfl tyX12_ok nmX12 (hG _ (List.mem_of_getElem? (i := 0) rfl)) (of10_0 _) (ce10 T ad _ _) (by decide) (cx_ts C _ fl_X12_load_27) (fun _ h => h) rfl (by decide +kernel) rfl rfl (Nat.le_of_ble_eq_true rfl) (ce10_put4 T ad _ _ _) dX12_load_18 ?_
  refine fw_mem ((up_eq _ _ _ _ _ _).symm.trans e11) ?_
  refine fw_iload_n C dX12_load_21 rfl 0 rfl ?_
  refine fw_if_ne C dX12_load_22 (tgt := 32) rfl (fun c12 => ?_) (fun c12 => ?_)
  · have h := ite_f c12 h
    exact w_X12_load_b32 C hrt hG   _ _ h
  · have h := ite_t c12 h
    refine fw_aload_n C dX12_load_25 rfl 1 rfl ?_
    refine fw_bipush C dX12_load_26 (v := 9) rfl ?_
    refine fw_iconst C dX12_load_28 (v := 0) rfl ?_
    obtain ⟨Y29, q28, h⟩ := bd1_some h
    refine fw_callVv C (ci := 10) (Cn := RX12) (Tc := TX12) (N := 19) (As := [.int 9, .int 0]) (c_X12_copyBlock (gac (hG _ (List.mem_of_getElem? (i := 0) rfl)) ga0) q28) (cwV 2 (cx_ts C) gX12_load_X12_copyBlock rfl rfl rfl (by decide +kernel) ⟨Nat.le_of_ble_eq_true rfl, Nat.le_of_ble_eq_true rfl⟩) rfl (hG _ (List.mem_of_getElem? (i := 0) rfl)) (of10_0 _) (ce10 T ad _ _) rfl (st := []) rfl (Nat.le_of_ble_eq_true rfl) ⟨Nat.le_refl 0, Nat.le_refl 0⟩ dX12_load_29 (ppv ?_)
    exact w_X12_load_b32 C hrt hG   _ _ h
end
set_option maxRecDepth 100000 in
set_option maxHeartbeats 4000000 in
theorem c_X12_load {l : Launch} {N0 : Nat} {T : Nat → ClassId} {D : va_G} {gr : List (Nat × Nat)} {ad : Nat → Nat → Nat → Nat} {Y : Mem} {res : Int32 × Mem} (hG : ∀ q ∈ [(10, 0)], q ∈ gr) (h : X12_load Y = some res) : CI l yX12_load wsX12_load (Rm 9) N0 T D gr ad Y [.ref (ad 10 0 0)] (fun r Y1 => (r, Y1) = res) :=
  fw_body (by decide +kernel) rfl (Nat.le_of_ble_eq_true rfl) (fun p e s m below meth c C hrt => w_X12_load C hrt hG  h)
theorem ly_X12_longestPath_12 : ∀ w ∈ u_ws RX12 TX12 19, w ∈ wsX12_longestPath := by decide +kernel
theorem fl_X12_longestPath_13 : Cond.fieldLink RX12 13 "RecipeSchedulerModel" "m" "[I" ∈ wsX12_longestPath := by decide +kernel
theorem fl_X12_longestPath_42 : Cond.fieldLink RX12 42 "RecipeSchedulerModel" "paths" "[I" ∈ wsX12_longestPath := by decide +kernel
section
variable {p : Program} {l : Launch} {e : Env} {s : State} {m : MethodId} {below : List Frame} {meth : Method} {c : Code} {N0 : Nat} {T : Nat → ClassId} {D : va_G} {gr : List (Nat × Nat)} {ad : Nat → Nat → Nat → Nat}
set_option maxRecDepth 100000 in
set_option maxHeartbeats 4000000 in
theorem w_X12_longestPath_b35 {Y : Mem} (C : Cx p s m [.ref (ad 10 0 0)].toArray meth c cX12_longestPath 3 wsX12_longestPath RX12 N0 T D gr ad) (hrt : meth.sig.returnType = (some .int)) (hG : ∀ q ∈ [(10, 0)], q ∈ gr) {res : Int32} {k4 : Int32 → Int32 → Option (Int32)} (hk4 : ∀ (l2 : Int32) (l1 : Int32), k4 l2 l1 = some res → FW p l e (Rm 0) s m [.ref (ad 10 0 0)].toArray below meth c 3 N0 T D gr ad 0 0 (MQ below (va_Qi (fun r Y1 => r = res ∧ Y1 = Y) (WB T D gr ad) (fun q => N0 ≤ q)) [.ref (ad 10 0 0)].toArray s 0 0 (fun q => N0 ≤ q)) Y 4 [(2, .int l2), (1, .int l1), (0, .ref (ad 10 0 0))] []) (l2 : Int32) (s0 : Int32) (h : X12_longestPath_b35 Y k4 l2 s0 = some res) : FW p l e (Rm 0) s m [.ref (ad 10 0 0)].toArray below meth c 3 N0 T D gr ad 0 0 (MQ below (va_Qi (fun r Y1 => r = res ∧ Y1 = Y) (WB T D gr ad) (fun q => N0 ≤ q)) [.ref (ad 10 0 0)].toArray s 0 0 (fun q => N0 ≤ q)) Y 35 [(2, .int l2), (0, .ref (ad 10 0 0))] [.int s0] := by
  unfold X12_longestPath_b35 at h
  refine fw_istore_n C dX12_longestPath_35 rfl (by decide) (L' := [(1, .int s0), (2, .int l2), (0, .ref (ad 10 0 0))]) rfl ?_
  refine fw_iinc C dX12_longestPath_36 (kk := 1) (v := l2 + 1) rfl rfl (by decide) (L' := [(2, .int (l2 + 1)), (1, .int s0), (0, .ref (ad 10 0 0))]) rfl ?_
  refine fw_goto C dX12_longestPath_39 (tgt := 4) rfl ?_
  exact hk4 _ _ h
set_option maxRecDepth 100000 in
set_option maxHeartbeats 4000000 in
theorem w_X12_longestPath_b4 {Y : Mem} (C : Cx p s m [.ref (ad 10 0 0)].toArray meth c cX12_longestPath 3 wsX12_longestPath RX12 N0 T D gr ad) (hrt : meth.sig.returnType = (some .int)) (hG : ∀ q ∈ [(10, 0)], q ∈ gr) {res : Int32} : ∀ (n : Nat) (l2 : Int32) (l1 : Int32), X12_longestPath_b4 Y  n l2 l1 = some res → FW p l e (Rm 0) s m [.ref (ad 10 0 0)].toArray below meth c 3 N0 T D gr ad 0 0 (MQ below (va_Qi (fun r Y1 => r = res ∧ Y1 = Y) (WB T D gr ad) (fun q => N0 ≤ q)) [.ref (ad 10 0 0)].toArray s 0 0 (fun q => N0 ≤ q)) Y 4 [(2, .int l2), (1, .int l1), (0, .ref (ad 10 0 0))] [] := by
  intro n
  induction n with
  | zero =>
    intro l2 l1 h
    unfold X12_longestPath_b4 at h
    cases h
  | succ n ih =>
    intro l2 l1 h
    unfold X12_longestPath_b4 at h
    refine fw_iload_n C dX12_longestPath_4 rfl 0 rfl ?_
    refine fw_aload_n C dX12_longestPath_5 rfl 2 rfl ?_
    refine fw_get C (ci := 10) (Cn := RX12) (Tc := TX12) (N := 19) (j := 0) ly_X12_longestPath_12 rfl (hG _ (List.mem_of_getElem? (i := 0) rfl)) (of10_0 _) (ce10 T ad _ _) (by decide) (cx_ts C _ fl_X12_longestPath_13) (fun _ h => h) (v := .ref (ad 10 0 1)) rfl dX12_longestPath_6 ?_
    refine fw_bipush C dX12_longestPath_9 (v := 13) rfl ?_
    obtain ⟨b1, h⟩ := gd_some h
    refine fw_iald2 C (hG _ (List.mem_of_getElem? (i := 0) rfl)) (of10_1 _) (ca10_1 T ad _ _) b1 (Nat.le_of_ble_eq_true rfl) dX12_longestPath_11 ?_
    refine fw_icmp_ge C dX12_longestPath_12 (tgt := 42) rfl (fun c2 => ?_) (fun c2 => ?_)
    · have h := ite_t c2 h
      refine fw_iload_n C dX12_longestPath_42 rfl 1 rfl ?_
      exact fw_iret C hrt Y ⟨Option.some.inj h, rfl⟩ (fun t ht => ht) dX12_longestPath_43
    · have h := ite_f c2 h
      refine fw_aload_n C dX12_longestPath_15 rfl 2 rfl ?_
      refine fw_get C (ci := 10) (Cn := RX12) (Tc := TX12) (N := 19) (j := 10) ly_X12_longestPath_12 rfl (hG _ (List.mem_of_getElem? (i := 0) rfl)) (of10_0 _) (ce10 T ad _ _) (by decide) (cx_ts C _ fl_X12_longestPath_42) (fun _ h => h) (v := .ref (ad 10 0 5)) rfl dX12_longestPath_16 ?_
      refine fw_iload_n C dX12_longestPath_19 rfl 0 rfl ?_
      obtain ⟨b3, h⟩ := gd_some h
      refine fw_iald2 C (hG _ (List.mem_of_getElem? (i := 0) rfl)) (of10_5 _) (ca10_5 T ad _ _) b3 (Nat.le_of_ble_eq_true rfl) dX12_longestPath_20 ?_
      refine fw_iload_n C dX12_longestPath_21 rfl 1 rfl ?_
      refine fw_icmp_le C dX12_longestPath_22 (tgt := 34) rfl (fun c4 => ?_) (fun c4 => ?_)
      · have h := ite_t c4 h
        refine fw_iload_n C dX12_longestPath_34 rfl 1 rfl ?_
        refine fw_sub [0, 2] (L' := [(2, .int l2), (0, .ref (ad 10 0 0))]) rfl ?_
        exact w_X12_longestPath_b35 C hrt hG  ih _ _ h
      · have h := ite_f c4 h
        refine fw_aload_n C dX12_longestPath_25 rfl 2 rfl ?_
        refine fw_get C (ci := 10) (Cn := RX12) (Tc := TX12) (N := 19) (j := 10) ly_X12_longestPath_12 rfl (hG _ (List.mem_of_getElem? (i := 0) rfl)) (of10_0 _) (ce10 T ad _ _) (by decide) (cx_ts C _ fl_X12_longestPath_42) (fun _ h => h) (v := .ref (ad 10 0 5)) rfl dX12_longestPath_26 ?_
        refine fw_iload_n C dX12_longestPath_29 rfl 0 rfl ?_
        refine fw_iald2 C (hG _ (List.mem_of_getElem? (i := 0) rfl)) (of10_5 _) (ca10_5 T ad _ _) b3 (Nat.le_of_ble_eq_true rfl) dX12_longestPath_30 ?_
        refine fw_goto C dX12_longestPath_31 (tgt := 35) rfl ?_
        refine fw_sub [0, 2] (L' := [(2, .int l2), (0, .ref (ad 10 0 0))]) rfl ?_
        exact w_X12_longestPath_b35 C hrt hG  ih _ _ h
set_option maxRecDepth 100000 in
set_option maxHeartbeats 4000000 in
theorem w_X12_longestPath {Y : Mem} (C : Cx p s m [.ref (ad 10 0 0)].toArray meth c cX12_longestPath 3 wsX12_longestPath RX12 N0 T D gr ad) (hrt : meth.sig.returnType = (some .int)) (hG : ∀ q ∈ [(10, 0)], q ∈ gr) {res : Int32} (h : X12_longestPath Y = some res) : FW p l e (Rm 0) s m [.ref (ad 10 0 0)].toArray below meth c 3 N0 T D gr ad 0 0 (MQ below (va_Qi (fun r Y1 => r = res ∧ Y1 = Y) (WB T D gr ad) (fun q => N0 ≤ q)) [.ref (ad 10 0 0)].toArray s 0 0 (fun q => N0 ≤ q)) Y 0 [(0, .ref (ad 10 0 0))] [] := by
  unfold X12_longestPath at h
  refine fw_iconst C dX12_longestPath_0 (v := 0) rfl ?_
  refine fw_istore_n C dX12_longestPath_1 rfl (by decide) (L' := [(1, .int 0), (0, .ref (ad 10 0 0))]) rfl ?_
  refine fw_iconst C dX12_longestPath_2 (v := 0) rfl ?_
  refine fw_istore_n C dX12_longestPath_3 rfl (by decide) (L' := [(2, .int 0), (1, .int 0), (0, .ref (ad 10 0 0))]) rfl ?_
  exact w_X12_longestPath_b4 C hrt hG   _ _ _ h
end
set_option maxRecDepth 100000 in
set_option maxHeartbeats 4000000 in
theorem c_X12_longestPath {l : Launch} {N0 : Nat} {T : Nat → ClassId} {D : va_G} {gr : List (Nat × Nat)} {ad : Nat → Nat → Nat → Nat} {Y : Mem} {res : Int32} (hG : ∀ q ∈ [(10, 0)], q ∈ gr) (h : X12_longestPath Y = some res) : CI l yX12_longestPath wsX12_longestPath (Rm 0) N0 T D gr ad Y [.ref (ad 10 0 0)] (fun r Y1 => r = res ∧ Y1 = Y) :=
  fw_body (by decide +kernel) rfl (Nat.le_of_ble_eq_true rfl) (fun p e s m below meth c C hrt => w_X12_longestPath C hrt hG  h)
