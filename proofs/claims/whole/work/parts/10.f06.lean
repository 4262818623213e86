theorem ly_X12_parseSetup_12 : ∀ w ∈ u_ws RX12 TX12 19, w ∈ wsX12_parseSetup := by decide +kernel
theorem fl_X12_parseSetup_13 : Cond.fieldLink RX12 13 "RecipeSchedulerModel" "m" "[I" ∈ wsX12_parseSetup := by decide +kernel
theorem fl_X12_parseSetup_57 : Cond.fieldLink RX12 57 "RecipeSchedulerModel" "type" "I" ∈ wsX12_parseSetup := by decide +kernel
noncomputable def X12_parseSetup_b164  (Y : Mem) : Option (Int32 × Mem) :=
  some (1, Y)
noncomputable def X12_parseSetup_b131  : Nat → Mem → Option (Int32 × Mem)
  | 0, _ => none
  | n+1, Y =>
  bd1 (X12_isWord Y 3) <| fun r35 => if r35 = 0 then (if (Y 10 0 0 15) = 0 then (X12_parseSetup_b164 Y) else (bd2 (X12_wrong Y 1) <| fun r39 Y41 => if r39 = 0 then (some (0, Y41)) else (X12_parseSetup_b164 Y41))) else (bd2 (X12_parseStep Y) <| fun r43 Y45 => if r43 = 0 then (some (0, Y45)) else (X12_parseSetup_b131 n Y45))
noncomputable def X12_parseSetup_b98  : Nat → Mem → Option (Int32 × Mem)
  | 0, _ => none
  | n+1, Y =>
  bd1 (X12_isWord Y 2) <| fun r29 => if r29 = 0 then (bd1 (X12_isWord Y 3) <| fun r32 => if r32 = 0 then (bd2 (X12_wrong Y 1) <| fun r47 Y49 => gd (decide (r47 = 0 ∨ r47 = 1)) <| some (r47, Y49)) else (X12_parseSetup_b131 FU Y)) else (bd2 (X12_parsePan Y) <| fun r51 Y53 => if r51 = 0 then (some (0, Y53)) else (X12_parseSetup_b98 n Y53))
noncomputable def X12_parseSetup_b2  : Nat → Mem → Int32 → Option (Int32 × Mem)
  | 0, _, _ => none
  | n+1, Y, l1 =>
  if 382 ≤ l1 then (bd1 (X12_isWord Y 1) <| fun r2 => if r2 = 0 then (bd2 (X12_wrong Y 1) <| fun r55 Y57 => gd (decide (r55 = 0 ∨ r55 = 1)) <| some (r55, Y57)) else (bd1 (X12_token Y) <| fun Y7 => bd2 (X12_parseRanged Y7 0 1 4) <| fun r8 Y10 => if r8 = 0 then (some (0, Y10)) else (bd2 (X12_parseRanged Y10 1 0 30) <| fun r12 Y14 => if r12 = 0 then (some (0, Y14)) else (bd2 (X12_parseRanged Y14 2 0 99) <| fun r16 Y18 => if r16 = 0 then (some (0, Y18)) else (gd (inb 2 4202) <| bd2 (X12_parseRanged Y18 3 (Y18 10 0 1 (ix 2)) 99) <| fun r21 Y23 => if r21 = 0 then (some (0, Y23)) else (bd2 (X12_semicolon Y23) <| fun r25 Y27 => if r25 = 0 then (some (0, Y27)) else (X12_parseSetup_b98 FU Y27))))))) else (gd (inb l1 4202) <| lt_ (up Y 10 0 1 (ix l1) 0) <| fun Y60 => X12_parseSetup_b2 n Y60 (l1 + 1))
noncomputable def X12_parseSetup (Y : Mem) : Option (Int32 × Mem) :=
  X12_parseSetup_b2 FU Y 0
section
variable {p : Program} {l : Launch} {e : Env} {s : State} {m : MethodId} {below : List Frame} {meth : Method} {c : Code} {N0 : Nat} {T : Nat → ClassId} {D : va_G} {gr : List (Nat × Nat)} {ad : Nat → Nat → Nat → Nat}
set_option maxRecDepth 100000 in
set_option maxHeartbeats 4000000 in
theorem w_X12_parseSetup_b164  (C : Cx p s m [.ref (ad 10 0 0)].toArray meth c cX12_parseSetup 2 wsX12_parseSetup RX12 N0 T D gr ad) (hrt : meth.sig.returnType = (some .boolean)) (hG : ∀ q ∈ [(10, 0)], q ∈ gr) {res : Int32 × Mem} (Y : Mem) (h : X12_parseSetup_b164   Y = some res) : FW p l e (Rm 8) s m [.ref (ad 10 0 0)].toArray below meth c 2 N0 T D gr ad 0 0 (MQ below (va_Qi (fun r Y1 => (r, Y1) = res) (WB T D gr ad) (fun q => N0 ≤ q)) [.ref (ad 10 0 0)].toArray s 0 0 (fun q => N0 ≤ q)) Y 164 [] [] := by
  unfold X12_parseSetup_b164 at h
  refine fw_iconst C dX12_parseSetup_164 (v := 1) rfl ?_
  refine fw_goto C dX12_parseSetup_165 (tgt := 169) rfl ?_
  exact fw_zret C hrt (by decide) Y (Option.some.inj h) (fun t ht => ht) dX12_parseSetup_169
set_option maxRecDepth 100000 in
set_option maxHeartbeats 4000000 in
theorem w_X12_parseSetup_b131  (C : Cx p s m [.ref (ad 10 0 0)].toArray meth c cX12_parseSetup 2 wsX12_parseSetup RX12 N0 T D gr ad) (hrt : meth.sig.returnType = (some .boolean)) (hG : ∀ q ∈ [(10, 0)], q ∈ gr) {res : Int32 × Mem} : ∀ (n : Nat) (Y : Mem), X12_parseSetup_b131   n Y = some res → FW p l e (Rm 8) s m [.ref (ad 10 0 0)].toArray below meth c 2 N0 T D gr ad 0 0 (MQ below (va_Qi (fun r Y1 => (r, Y1) = res) (WB T D gr ad) (fun q => N0 ≤ q)) [.ref (ad 10 0 0)].toArray s 0 0 (fun q => N0 ≤ q)) Y 131 [(0, .ref (ad 10 0 0))] [] := by
  intro n
  induction n with
  | zero =>
    intro Y h
    unfold X12_parseSetup_b131 at h
    cases h
  | succ n ih =>
    intro Y h
    unfold X12_parseSetup_b131 at h
    refine fw_aload_n C dX12_parseSetup_131 rfl 0 rfl ?_
    refine fw_ldcS C ((cx_st C).2.1 _ (List.mem_of_getElem? (i := 33) rfl)) dX12_parseSetup_132 ?_
    obtain ⟨r35, q36, h⟩ := bd1_some h
    refine fw_callVi C (ci := 10) (Cn := RX12) (Tc := TX12) (N := 19) (As := [.ref (ad 21 3 0)]) (c_X12_isWord (gac (hG _ (List.mem_of_getElem? (i := 0) rfl)) ga0) q36) (cwV 1 (cx_ts C) gX12_parseSetup_X12_isWord rfl rfl rfl (by decide +kernel) ⟨Nat.le_of_ble_eq_true rfl, Nat.le_of_ble_eq_true rfl⟩) rfl (hG _ (List.mem_of_getElem? (i := 0) rfl)) (of10_0 _) (ce10 T ad _ _) rfl (st := []) rfl (Nat.le_of_ble_eq_true rfl) ⟨Nat.le_refl 0, Nat.le_refl 0⟩ dX12_parseSetup_134 ?_
    rintro _ _ ⟨rfl, rfl⟩
    refine fw_if_eq C dX12_parseSetup_137 (tgt := 149) rfl (fun c37 => ?_) (fun c37 => ?_)
    · have h := ite_t c37 h
      refine fw_aload_n C dX12_parseSetup_149 rfl 0 rfl ?_
      refine fw_get C (ci := 10) (Cn := RX12) (Tc := TX12) (N := 19) (j := 15) ly_X12_parseSetup_12 rfl (hG _ (List.mem_of_getElem? (i := 0) rfl)) (of10_0 _) (ce10 T ad _ _) (by decide) (cx_ts C _ fl_X12_parseSetup_57) (fun _ h => h) (v := .int (Y 10 0 0 15)) rfl dX12_parseSetup_150 ?_
      refine fw_if_eq C dX12_parseSetup_153 (tgt := 164) rfl (fun c38 => ?_) (fun c38 => ?_)
      · have h := ite_t c38 h
        refine fw_sub [] (L' := []) rfl ?_
        exact w_X12_parseSetup_b164 C hrt hG   _ h
      · have h := ite_f c38 h
        refine fw_aload_n C dX12_parseSetup_156 rfl 0 rfl ?_
        refine fw_iconst C dX12_parseSetup_157 (v := 1) rfl ?_
        obtain ⟨r39, Y41, q40, h⟩ := bd2_some h
        refine fw_callVi C (ci := 10) (Cn := RX12) (Tc := TX12) (N := 19) (As := [.int 1]) (c_X12_wrong (gac (hG _ (List.mem_of_getElem? (i := 0) rfl)) ga0) q40) (cwV 1 (cx_ts C) gX12_parseSetup_X12_wrong rfl rfl rfl (by decide +kernel) ⟨Nat.le_of_ble_eq_true rfl, Nat.le_of_ble_eq_true rfl⟩) rfl (hG _ (List.mem_of_getElem? (i := 0) rfl)) (of10_0 _) (ce10 T ad _ _) rfl (st := []) rfl (Nat.le_of_ble_eq_true rfl) ⟨Nat.le_refl 0, Nat.le_refl 0⟩ dX12_parseSetup_158 ?_
        intro r_ Y_ e_
        obtain ⟨rfl, rfl⟩ := Prod.mk.inj e_
        refine fw_if_eq C dX12_parseSetup_161 (tgt := 168) rfl (fun c42 => ?_) (fun c42 => ?_)
        · have h := ite_t c42 h
          refine fw_iconst C dX12_parseSetup_168 (v := 0) rfl ?_
          exact fw_zret C hrt (by decide) Y41 (Option.some.inj h) (fun t ht => ht) dX12_parseSetup_169
        · have h := ite_f c42 h
          refine fw_sub [] (L' := []) rfl ?_
          exact w_X12_parseSetup_b164 C hrt hG   _ h
    · have h := ite_f c37 h
      refine fw_aload_n C dX12_parseSetup_140 rfl 0 rfl ?_
      obtain ⟨r43, Y45, q44, h⟩ := bd2_some h
      refine fw_callVi C (ci := 10) (Cn := RX12) (Tc := TX12) (N := 19) (As := []) (c_X12_parseStep (gac (hG _ (List.mem_of_getElem? (i := 0) rfl)) ga0) q44) (cwV 0 (cx_ts C) gX12_parseSetup_X12_parseStep rfl rfl rfl (by decide +kernel) ⟨Nat.le_of_ble_eq_true rfl, Nat.le_of_ble_eq_true rfl⟩) rfl (hG _ (List.mem_of_getElem? (i := 0) rfl)) (of10_0 _) (ce10 T ad _ _) rfl (st := []) rfl (Nat.le_of_ble_eq_true rfl) ⟨Nat.le_refl 0, Nat.le_refl 0⟩ dX12_parseSetup_141 ?_
      intro r_ Y_ e_
      obtain ⟨rfl, rfl⟩ := Prod.mk.inj e_
      refine fw_if_ne C dX12_parseSetup_144 (tgt := 131) rfl (fun c46 => ?_) (fun c46 => ?_)
      · have h := ite_f c46 h
        exact ih _ h
      · have h := ite_t c46 h
        refine fw_iconst C dX12_parseSetup_147 (v := 0) rfl ?_
        exact fw_zret C hrt (by decide) Y45 (Option.some.inj h) (fun t ht => ht) dX12_parseSetup_148
set_option maxRecDepth 100000 in
set_option maxHeartbeats 4000000 in
theorem w_X12_parseSetup_b98  (C : Cx p s m [.ref (ad 10 0 0)].toArray meth c cX12_parseSetup 2 wsX12_parseSetup RX12 N0 T D gr ad) (hrt : meth.sig.returnType = (some .boolean)) (hG : ∀ q ∈ [(10, 0)], q ∈ gr) {res : Int32 × Mem} : ∀ (n : Nat) (Y : Mem), X12_parseSetup_b98   n Y = some res → FW p l e (Rm 8) s m [.ref (ad 10 0 0)].toArray below meth c 2 N0 T D gr ad 0 0 (MQ below (va_Qi (fun r Y1 => (r, Y1) = res) (WB T D gr ad) (fun q => N0 ≤ q)) [.ref (ad 10 0 0)].toArray s 0 0 (fun q => N0 ≤ q)) Y 98 [(0, .ref (ad 10 0 0))] [] := by
  intro n
  induction n with
  | zero =>
    intro Y h
    unfold X12_parseSetup_b98 at h
    cases h
  | succ n ih =>
    intro Y h
    unfold X12_parseSetup_b98 at h
    refine fw_aload_n C dX12_parseSetup_98 rfl 0 rfl ?_
    refine fw_ldcS C ((cx_st C).2.1 _ (List.mem_of_getElem? (i := 32) rfl)) dX12_parseSetup_99 ?_
    obtain ⟨r29, q30, h⟩ := bd1_some h
    refine fw_callVi C (ci := 10) (Cn := RX12) (Tc := TX12) (N := 19) (As := [.ref (ad 21 2 0)]) (c_X12_isWord (gac (hG _ (List.mem_of_getElem? (i := 0) rfl)) ga0) q30) (cwV 1 (cx_ts C) gX12_parseSetup_X12_isWord rfl rfl rfl (by decide +kernel) ⟨Nat.le_of_ble_eq_true rfl, Nat.le_of_ble_eq_true rfl⟩) rfl (hG _ (List.mem_of_getElem? (i := 0) rfl)) (of10_0 _) (ce10 T ad _ _) rfl (st := []) rfl (Nat.le_of_ble_eq_true rfl) ⟨Nat.le_refl 0, Nat.le_refl 0⟩ dX12_parseSetup_101 ?_
    rintro _ _ ⟨rfl, rfl⟩
    refine fw_if_eq C dX12_parseSetup_104 (tgt := 116) rfl (fun c31 => ?_) (fun c31 => ?_)
    · have h := ite_t c31 h
      refine fw_aload_n C dX12_parseSetup_116 rfl 0 rfl ?_
      refine fw_ldcS C ((cx_st C).2.1 _ (List.mem_of_getElem? (i := 33) rfl)) dX12_parseSetup_117 ?_
      obtain ⟨r32, q33, h⟩ := bd1_some h
      refine fw_callVi C (ci := 10) (Cn := RX12) (Tc := TX12) (N := 19) (As := [.ref (ad 21 3 0)]) (c_X12_isWord (gac (hG _ (List.mem_of_getElem? (i := 0) rfl)) ga0) q33) (cwV 1 (cx_ts C) gX12_parseSetup_X12_isWord rfl rfl rfl (by decide +kernel) ⟨Nat.le_of_ble_eq_true rfl, Nat.le_of_ble_eq_true rfl⟩) rfl (hG _ (List.mem_of_getElem? (i := 0) rfl)) (of10_0 _) (ce10 T ad _ _) rfl (st := []) rfl (Nat.le_of_ble_eq_true rfl) ⟨Nat.le_refl 0, Nat.le_refl 0⟩ dX12_parseSetup_119 ?_
      rintro _ _ ⟨rfl, rfl⟩
      refine fw_if_ne C dX12_parseSetup_122 (tgt := 131) rfl (fun c34 => ?_) (fun c34 => ?_)
      · have h := ite_f c34 h
        exact w_X12_parseSetup_b131 C hrt hG   _ _ h
      · have h := ite_t c34 h
        refine fw_aload_n C dX12_parseSetup_125 rfl 0 rfl ?_
        refine fw_iconst C dX12_parseSetup_126 (v := 1) rfl ?_
        obtain ⟨r47, Y49, q48, h⟩ := bd2_some h
        refine fw_callVi C (ci := 10) (Cn := RX12) (Tc := TX12) (N := 19) (As := [.int 1]) (c_X12_wrong (gac (hG _ (List.mem_of_getElem? (i := 0) rfl)) ga0) q48) (cwV 1 (cx_ts C) gX12_parseSetup_X12_wrong rfl rfl rfl (by decide +kernel) ⟨Nat.le_of_ble_eq_true rfl, Nat.le_of_ble_eq_true rfl⟩) rfl (hG _ (List.mem_of_getElem? (i := 0) rfl)) (of10_0 _) (ce10 T ad _ _) rfl (st := []) rfl (Nat.le_of_ble_eq_true rfl) ⟨Nat.le_refl 0, Nat.le_refl 0⟩ dX12_parseSetup_127 ?_
        intro r_ Y_ e_
        obtain ⟨rfl, rfl⟩ := Prod.mk.inj e_
        obtain ⟨b50, h⟩ := gd_some h
        exact fw_zret C hrt (of_decide_eq_true b50) Y49 (Option.some.inj h) (fun t ht => ht) dX12_parseSetup_130
    · have h := ite_f c31 h
      refine fw_aload_n C dX12_parseSetup_107 rfl 0 rfl ?_
      obtain ⟨r51, Y53, q52, h⟩ := bd2_some h
      refine fw_callVi C (ci := 10) (Cn := RX12) (Tc := TX12) (N := 19) (As := []) (c_X12_parsePan (gac (hG _ (List.mem_of_getElem? (i := 0) rfl)) ga0) q52) (cwV 0 (cx_ts C) gX12_parseSetup_X12_parsePan rfl rfl rfl (by decide +kernel) ⟨Nat.le_of_ble_eq_true rfl, Nat.le_of_ble_eq_true rfl⟩) rfl (hG _ (List.mem_of_getElem? (i := 0) rfl)) (of10_0 _) (ce10 T ad _ _) rfl (st := []) rfl (Nat.le_of_ble_eq_true rfl) ⟨Nat.le_refl 0, Nat.le_refl 0⟩ dX12_parseSetup_108 ?_
      intro r_ Y_ e_
      obtain ⟨rfl, rfl⟩ := Prod.mk.inj e_
      refine fw_if_ne C dX12_parseSetup_111 (tgt := 98) rfl (fun c54 => ?_) (fun c54 => ?_)
      · have h := ite_f c54 h
        exact ih _ h
      · have h := ite_t c54 h
        refine fw_iconst C dX12_parseSetup_114 (v := 0) rfl ?_
        exact fw_zret C hrt (by decide) Y53 (Option.some.inj h) (fun t ht => ht) dX12_parseSetup_115
set_option maxRecDepth 100000 in
set_option maxHeartbeats 4000000 in
theorem w_X12_parseSetup_b2  (C : Cx p s m [.ref (ad 10 0 0)].toArray meth c cX12_parseSetup 2 wsX12_parseSetup RX12 N0 T D gr ad) (hrt : meth.sig.returnType = (some .boolean)) (hG : ∀ q ∈ [(10, 0)], q ∈ gr) {res : Int32 × Mem} : ∀ (n : Nat) (Y : Mem) (l1 : Int32), X12_parseSetup_b2   n Y l1 = some res → FW p l e (Rm 8) s m [.ref (ad 10 0 0)].toArray below meth c 2 N0 T D gr ad 0 0 (MQ below (va_Qi (fun r Y1 => (r, Y1) = res) (WB T D gr ad) (fun q => N0 ≤ q)) [.ref (ad 10 0 0)].toArray s 0 0 (fun q => N0 ≤ q)) Y 2 [(1, .int l1), (0, .ref (ad 10 0 0))] [] := by
  intro n
  induction n with
  | zero =>
    intro Y l1 h
    unfold X12_parseSetup_b2 at h
    cases h
  | succ n ih =>
    intro Y l1 h
    unfold X12_parseSetup_b2 at h
    refine fw_iload_n C dX12_parseSetup_2 rfl 0 rfl ?_
    refine fw_sipush C dX12_parseSetup_3 (v := 382) rfl ?_
    refine fw_icmp_ge C dX12_parseSetup_6 (tgt := 22) rfl (fun c1 => ?_) (fun c1 => ?_)
    · have h := ite_t c1 h
      refine fw_aload_n C dX12_parseSetup_22 rfl 1 rfl ?_
      refine fw_ldcS C ((cx_st C).2.1 _ (List.mem_of_getElem? (i := 31) rfl)) dX12_parseSetup_23 ?_
      obtain ⟨r2, q3, h⟩ := bd1_some h
      refine fw_callVi C (ci := 10) (Cn := RX12) (Tc := TX12) (N := 19) (As := [.ref (ad 21 1 0)]) (c_X12_isWord (gac (hG _ (List.mem_of_getElem? (i := 0) rfl)) ga0) q3) (cwV 1 (cx_ts C) gX12_parseSetup_X12_isWord rfl rfl rfl (by decide +kernel) ⟨Nat.le_of_ble_eq_true rfl, Nat.le_of_ble_eq_true rfl⟩) rfl (hG _ (List.mem_of_getElem? (i := 0) rfl)) (of10_0 _) (ce10 T ad _ _) rfl (st := []) rfl (Nat.le_of_ble_eq_true rfl) ⟨Nat.le_refl 0, Nat.le_refl 0⟩ dX12_parseSetup_25 ?_
      rintro _ _ ⟨rfl, rfl⟩
      refine fw_if_ne C dX12_parseSetup_28 (tgt := 37) rfl (fun c4 => ?_) (fun c4 => ?_)
      · have h := ite_f c4 h
        refine fw_aload_n C dX12_parseSetup_37 rfl 1 rfl ?_
        obtain ⟨Y7, q6, h⟩ := bd1_some h
        refine fw_callVv C (ci := 10) (Cn := RX12) (Tc := TX12) (N := 19) (As := []) (c_X12_token (gac (hG _ (List.mem_of_getElem? (i := 0) rfl)) ga0) q6) (cwV 0 (cx_ts C) gX12_parseSetup_X12_token rfl rfl rfl (by decide +kernel) ⟨Nat.le_of_ble_eq_true rfl, Nat.le_of_ble_eq_true rfl⟩) rfl (hG _ (List.mem_of_getElem? (i := 0) rfl)) (of10_0 _) (ce10 T ad _ _) rfl (st := []) rfl (Nat.le_of_ble_eq_true rfl) ⟨Nat.le_refl 0, Nat.le_refl 0⟩ dX12_parseSetup_38 ?_
        rintro _ rfl
        refine fw_aload_n C dX12_parseSetup_41 rfl 1 rfl ?_
        refine fw_iconst C dX12_parseSetup_42 (v := 0) rfl ?_
        refine fw_iconst C dX12_parseSetup_43 (v := 1) rfl ?_
        refine fw_iconst C dX12_parseSetup_44 (v := 4) rfl ?_
        obtain ⟨r8, Y10, q9, h⟩ := bd2_some h
        refine fw_callVi C (ci := 10) (Cn := RX12) (Tc := TX12) (N := 19) (As := [.int 0, .int 1, .int 4]) (c_X12_parseRanged (gac (hG _ (List.mem_of_getElem? (i := 0) rfl)) ga0) q9) (cwV 3 (cx_ts C) gX12_parseSetup_X12_parseRanged rfl rfl rfl (by decide +kernel) ⟨Nat.le_of_ble_eq_true rfl, Nat.le_of_ble_eq_true rfl⟩) rfl (hG _ (List.mem_of_getElem? (i := 0) rfl)) (of10_0 _) (ce10 T ad _ _) rfl (st := []) rfl (Nat.le_of_ble_eq_true rfl) ⟨Nat.le_refl 0, Nat.le_refl 0⟩ dX12_parseSetup_45 ?_
        intro r_ Y_ e_
        obtain ⟨rfl, rfl⟩ := Prod.mk.inj e_
        refine fw_if_eq C dX12_parseSetup_48 (tgt := 96) rfl (fun c11 => ?_) (fun c11 => ?_)
        · have h := ite_t c11 h
          refine fw_iconst C dX12_parseSetup_96 (v := 0) rfl ?_
          exact fw_zret C hrt (by decide) Y10 (Option.some.inj h) (fun t ht => ht) dX12_parseSetup_97
        · have h := ite_f c11 h
          refine fw_aload_n C dX12_parseSetup_51 rfl 1 rfl ?_
          refine fw_iconst C dX12_parseSetup_52 (v := 1) rfl ?_
          refine fw_iconst C dX12_parseSetup_53 (v := 0) rfl ?_
          refine fw_bipush C dX12_parseSetup_54 (v := 30) rfl ?_
          obtain ⟨r12, Y14, q13, h⟩ := bd2_some h
          refine fw_callVi C (ci := 10) (Cn := RX12) (Tc := TX12) (N := 19) (As := [.int 1, .int 0, .int 30]) (c_X12_parseRanged (gac (hG _ (List.mem_of_getElem? (i := 0) rfl)) ga0) q13) (cwV 3 (cx_ts C) gX12_parseSetup_X12_parseRanged rfl rfl rfl (by decide +kernel) ⟨Nat.le_of_ble_eq_true rfl, Nat.le_of_ble_eq_true rfl⟩) rfl (hG _ (List.mem_of_getElem? (i := 0) rfl)) (of10_0 _) (ce10 T ad _ _) rfl (st := []) rfl (Nat.le_of_ble_eq_true rfl) ⟨Nat.le_refl 0, Nat.le_refl 0⟩ dX12_parseSetup_56 ?_
          intro r_ Y_ e_
          obtain ⟨rfl, rfl⟩ := Prod.mk.inj e_
          refine fw_if_eq C dX12_parseSetup_59 (tgt := 96) rfl (fun c15 => ?_) (fun c15 => ?_)
          · have h := ite_t c15 h
            refine fw_iconst C dX12_parseSetup_96 (v := 0) rfl ?_
            exact fw_zret C hrt (by decide) Y14 (Option.some.inj h) (fun t ht => ht) dX12_parseSetup_97
          · have h := ite_f c15 h
            refine fw_aload_n C dX12_parseSetup_62 rfl 1 rfl ?_
            refine fw_iconst C dX12_parseSetup_63 (v := 2) rfl ?_
            refine fw_iconst C dX12_parseSetup_64 (v := 0) rfl ?_
            refine fw_bipush C dX12_parseSetup_65 (v := 99) rfl ?_
            obtain ⟨r16, Y18, q17, h⟩ := bd2_some h
            refine fw_callVi C (ci := 10) (Cn := RX12) (Tc := TX12) (N := 19) (As := [.int 2, .int 0, .int 99]) (c_X12_parseRanged (gac (hG _ (List.mem_of_getElem? (i := 0) rfl)) ga0) q17) (cwV 3 (cx_ts C) gX12_parseSetup_X12_parseRanged rfl rfl rfl (by decide +kernel) ⟨Nat.le_of_ble_eq_true rfl, Nat.le_of_ble_eq_true rfl⟩) rfl (hG _ (List.mem_of_getElem? (i := 0) rfl)) (of10_0 _) (ce10 T ad _ _) rfl (st := []) rfl (Nat.le_of_ble_eq_true rfl) ⟨Nat.le_refl 0, Nat.le_refl 0⟩ dX12_parseSetup_67 ?_
            intro r_ Y_ e_
            obtain ⟨rfl, rfl⟩ := Prod.mk.inj e_
            refine fw_if_eq C dX12_parseSetup_70 (tgt := 96) rfl (fun c19 => ?_) (fun c19 => ?_)
            · have h := ite_t c19 h
              refine fw_iconst C dX12_parseSetup_96 (v := 0) rfl ?_
              exact fw_zret C hrt (by decide) Y18 (Option.some.inj h) (fun t ht => ht) dX12_parseSetup_97
            · have h := ite_f c19 h
              refine fw_aload_n C dX12_parseSetup_73 rfl 1 rfl ?_
              refine fw_iconst C dX12_parseSetup_74 (v := 3) rfl ?_
              refine fw_aload_n C dX12_parseSetup_75 rfl 1 rfl ?_
              refine fw_get C (ci := 10) (Cn := RX12) (Tc := TX12) (N := 19) (j := 0) ly_X12_parseSetup_12 rfl (hG _ (List.mem_of_getElem? (i := 0) rfl)) (of10_0 _) (ce10 T ad _ _) (by decide) (cx_ts C _ fl_X12_parseSetup_13) (fun _ h => h) (v := .ref (ad 10 0 1)) rfl dX12_parseSetup_76 ?_
              refine fw_iconst C dX12_parseSetup_79 (v := 2) rfl ?_
              obtain ⟨b20, h⟩ := gd_some h
              refine fw_iald2 C (hG _ (List.mem_of_getElem? (i := 0) rfl)) (of10_1 _) (ca10_1 T ad _ _) b20 (Nat.le_of_ble_eq_true rfl) dX12_parseSetup_80 ?_
              refine fw_bipush C dX12_parseSetup_81 (v := 99) rfl ?_
              obtain ⟨r21, Y23, q22, h⟩ := bd2_some h
              refine fw_callVi C (ci := 10) (Cn := RX12) (Tc := TX12) (N := 19) (As := [.int 3, .int (Y18 10 0 1 (ix 2)), .int 99]) (c_X12_parseRanged (gac (hG _ (List.mem_of_getElem? (i := 0) rfl)) ga0) q22) (cwV 3 (cx_ts C) gX12_parseSetup_X12_parseRanged rfl rfl rfl (by decide +kernel) ⟨Nat.le_of_ble_eq_true rfl, Nat.le_of_ble_eq_true rfl⟩) rfl (hG _ (List.mem_of_getElem? (i := 0) rfl)) (of10_0 _) (ce10 T ad _ _) rfl (st := []) rfl (Nat.le_of_ble_eq_true rfl) ⟨Nat.le_refl 0, Nat.le_refl 0⟩ dX12_parseSetup_83 ?_
              intro r_ Y_ e_
              obtain ⟨rfl, rfl⟩ := Prod.mk.inj e_
              refine fw_if_eq C dX12_parseSetup_86 (tgt := 96) rfl (fun c24 => ?_) (fun c24 => ?_)
              · have h := ite_t c24 h
                refine fw_iconst C dX12_parseSetup_96 (v := 0) rfl ?_
                exact fw_zret C hrt (by decide) Y23 (Option.some.inj h) (fun t ht => ht) dX12_parseSetup_97
              · have h := ite_f c24 h
                refine fw_aload_n C dX12_parseSetup_89 rfl 1 rfl ?_
                obtain ⟨r25, Y27, q26, h⟩ := bd2_some h
                refine fw_callVi C (ci := 10) (Cn := RX12) (Tc := TX12) (N := 19) (As := []) (c_X12_semicolon (gac (hG _ (List.mem_of_getElem? (i := 0) rfl)) ga0) q26) (cwV 0 (cx_ts C) gX12_parseSetup_X12_semicolon rfl rfl rfl (by decide +kernel) ⟨Nat.le_of_ble_eq_true rfl, Nat.le_of_ble_eq_true rfl⟩) rfl (hG _ (List.mem_of_getElem? (i := 0) rfl)) (of10_0 _) (ce10 T ad _ _) rfl (st := []) rfl (Nat.le_of_ble_eq_true rfl) ⟨Nat.le_refl 0, Nat.le_refl 0⟩ dX12_parseSetup_90 ?_
                intro r_ Y_ e_
                obtain ⟨rfl, rfl⟩ := Prod.mk.inj e_
                refine fw_if_ne C dX12_parseSetup_93 (tgt := 98) rfl (fun c28 => ?_) (fun c28 => ?_)
                · have h := ite_f c28 h
                  refine fw_sub [1] (L' := [(0, .ref (ad 10 0 0))]) rfl ?_
                  exact w_X12_parseSetup_b98 C hrt hG   _ _ h
                · have h := ite_t c28 h
                  refine fw_iconst C dX12_parseSetup_96 (v := 0) rfl ?_
                  exact fw_zret C hrt (by decide) Y27 (Option.some.inj h) (fun t ht => ht) dX12_parseSetup_97
      · have h := ite_t c4 h
        refine fw_aload_n C dX12_parseSetup_31 rfl 1 rfl ?_
        refine fw_iconst C dX12_parseSetup_32 (v := 1) rfl ?_
        obtain ⟨r55, Y57, q56, h⟩ := bd2_some h
        refine fw_callVi C (ci := 10) (Cn := RX12) (Tc := TX12) (N := 19) (As := [.int 1]) (c_X12_wrong (gac (hG _ (List.mem_of_getElem? (i := 0) rfl)) ga0) q56) (cwV 1 (cx_ts C) gX12_parseSetup_X12_wrong rfl rfl rfl (by decide +kernel) ⟨Nat.le_of_ble_eq_true rfl, Nat.le_of_ble_eq_true rfl⟩) rfl (hG _ (List.mem_of_getElem? (i := 0) rfl)) (of10_0 _) (ce10 T ad _ _) rfl (st := []) rfl (Nat.le_of_ble_eq_true rfl) ⟨Nat.le_refl 0, Nat.le_refl 0⟩ dX12_parseSetup_33 ?_
        intro r_ Y_ e_
        obtain ⟨rfl, rfl⟩ := Prod.mk.inj e_
        obtain ⟨b58, h⟩ := gd_some h
        exact fw_zret C hrt (of_decide_eq_true b58) Y57 (Option.some.inj h) (fun t ht => ht) dX12_parseSetup_36
    · have h := ite_f c1 h
      refine fw_aload_n C dX12_parseSetup_9 rfl 1 rfl ?_
      refine fw_get C (ci := 10) (Cn := RX12) (Tc := TX12) (N := 19) (j := 0) ly_X12_parseSetup_12 rfl (hG _ (List.mem_of_getElem? (i := 0) rfl)) (of10_0 _) (ce10 T ad _ _) (by decide) (cx_ts C _ fl_X12_parseSetup_13) (fun _ h => h) (v := .ref (ad 10 0 1)) rfl dX12_parseSetup_10 ?_
      refine fw_iload_n C dX12_parseSetup_13 rfl 0 rfl ?_
      refine fw_iconst C dX12_parseSetup_14 (v := 0) rfl ?_
      obtain ⟨b59, h⟩ := gd_some h
      obtain ⟨Y60, e61, h⟩ := lt_some h
      refine fw_iast2 C (hG _ (List.mem_of_getElem? (i := 0) rfl)) (of10_1 _) (ca10_1 T ad _) b59 (Nat.le_of_ble_eq_true rfl) dX12_parseSetup_15 ?_
      refine fw_mem e61 ?_
      refine fw_iinc C dX12_parseSetup_16 (kk := 0) (v := l1 + 1) rfl rfl (by decide) (L' := [(1, .int (l1 + 1)), (0, .ref (ad 10 0 0))]) rfl ?_
      refine fw_goto C dX12_parseSetup_19 (tgt := 2) rfl ?_
      exact ih _ _ h
set_option maxRecDepth 100000 in
set_option maxHeartbeats 4000000 in
theorem w_X12_parseSetup {Y : Mem} (C : Cx p s m [.ref (ad 10 0 0)].toArray meth c cX12_parseSetup 2 wsX12_parseSetup RX12 N0 T D gr ad) (hrt : meth.sig.returnType = (some .boolean)) (hG : ∀ q ∈ [(10, 0)], q ∈ gr) {res : Int32 × Mem} (h : X12_parseSetup Y = some res) : FW p l e (Rm 8) s m [.ref (ad 10 0 0)].toArray below meth c 2 N0 T D gr ad 0 0 (MQ below (va_Qi (fun r Y1 => (r, Y1) = res) (WB T D gr ad) (fun q => N0 ≤ q)) [.ref (ad 10 0 0)].toArray s 0 0 (fun q => N0 ≤ q)) Y 0 [(0, .ref (ad 10 0 0))] [] := by
  unfold X12_parseSetup at h
  refine fw_iconst C dX12_parseSetup_0 (v := 0) rfl ?_
  refine fw_istore_n C dX12_parseSetup_1 rfl (by decide) (L' := [(1, .int 0), (0, .ref (ad 10 0 0))]) rfl ?_
  exact w_X12_parseSetup_b2 C hrt hG   _ _ _ h
end
set_option maxRecDepth 100000 in
set_option maxHeartbeats 4000000 in
theorem c_X12_parseSetup {l : Launch} {N0 : Nat} {T : Nat → ClassId} {D : va_G} {gr : List (Nat × Nat)} {ad : Nat → Nat → Nat → Nat} {Y : Mem} {res : Int32 × Mem} (hG : ∀ q ∈ [(10, 0)], q ∈ gr) (h : X12_parseSetup Y = some res) : CI l yX12_parseSetup wsX12_parseSetup (Rm 8) N0 T D gr ad Y [.ref (ad 10 0 0)] (fun r Y1 => (r, Y1) = res) :=
  fw_body (by decide +kernel) rfl (Nat.le_of_ble_eq_true rfl) (fun p e s m below meth c C hrt => w_X12_parseSetup C hrt hG  h)
theorem ly_X12_load_12 : ∀ w ∈ u_ws RX12 TX12 19, w ∈ wsX12_load := by decide +kernel
theorem fl_X12_load_27 : Cond.fieldLink RX12 27 "RecipeSchedulerModel" "length" "I" ∈ wsX12_load := by decide +kernel
theorem fl_X12_load_21 : Cond.fieldLink RX12 21 "RecipeSchedulerModel" "undoable" "I" ∈ wsX12_load := by decide +kernel
theorem fl_X12_load_17 : Cond.fieldLink RX12 17 "RecipeSchedulerModel" "isSaved" "[Z" ∈ wsX12_load := by decide +kernel
theorem fl_X12_load_13 : Cond.fieldLink RX12 13 "RecipeSchedulerModel" "m" "[I" ∈ wsX12_load := by decide +kernel
noncomputable def X12_load_b42  (Y : Mem) (s0 : Int32) : Option (Int32 × Mem) :=
  bd2 (X12_fails Y s0 0 0) <| fun r14 Y16 => if r14 = 0 then (lt_ (up Y16 10 0 0 2 0) <| fun Y18 => gd (inb 0 2) <| lt_ (up Y18 10 0 2 (ix 0) (vp_nar .boolean 0)) <| fun Y21 => gd (inb 1 2) <| lt_ (up Y21 10 0 2 (ix 1) (vp_nar .boolean 0)) <| fun Y24 => gd (inb 13 4202) <| some (Y24 10 0 1 (ix 13), Y24)) else (some (0, Y16))
noncomputable def X12_load_b32  (Y : Mem) (l1 : Int32) : Option (Int32 × Mem) :=
  if l1 = 0 then (X12_load_b42 Y 1) else (X12_load_b42 Y 0)
noncomputable def X12_load (Y : Mem) : Option (Int32 × Mem) :=
  bd1 (X12_copyBlock Y 0 9) <| fun Y3 => bd1 (X12_begin Y3) <| fun Y6 => bd2 (X12_parseSetup Y6) <| fun r7 Y9 => lt_ (up Y9 10 0 0 4 0) <| fun Y10 => if r7 = 0 then (bd1 (X12_copyBlock Y10 9 0) <| fun Y29 => X12_load_b32 Y29 r7) else (X12_load_b32 Y10 r7)
section
variable {p : Program} {l : Launch} {e : Env} {s : State} {m : MethodId} {below : List Frame} {meth : Method} {c : Code} {N0 : Nat} {T : Nat → ClassId} {D : va_G} {gr : List (Nat × Nat)} {ad : Nat → Nat → Nat → Nat}
set_option maxRecDepth 100000 in
set_option maxHeartbeats 4000000 in
theorem w_X12_load_b42  (C : Cx p s m [.ref (ad 10 0 0)].toArray meth c cX12_load 2 wsX12_load RX12 N0 T D gr ad) (hrt : meth.sig.returnType = (some .int)) (hG : ∀ q ∈ [(10, 0)], q ∈ gr) {res : Int32 × Mem} (Y : Mem) (s0 : Int32) (h : X12_load_b42   Y s0 = some res) : FW p l e (Rm 9) s m [.ref (ad 10 0 0)].toArray below meth c 2 N0 T D gr ad 0 0 (MQ below (va_Qi (fun r Y1 => (r, Y1) = res) (WB T D gr ad) (fun q => N0 ≤ q)) [.ref (ad 10 0 0)].toArray s 0 0 (fun q => N0 ≤ q)) Y 42 [(0, .ref (ad 10 0 0))] [.int s0, .ref (ad 10 0 0)] := by
  unfold X12_load_b42 at h
  refine fw_iconst C dX12_load_42 (v := 0) rfl ?_
  refine fw_iconst C dX12_load_43 (v := 0) rfl ?_
  obtain ⟨r14, Y16, q15, h⟩ := bd2_some h
  refine fw_callVi C (ci := 10) (Cn := RX12) (Tc := TX12) (N := 19) (As := [.int s0, .int 0, .int 0]) (c_X12_fails (gac (hG _ (List.mem_of_getElem? (i := 0) rfl)) ga0) q15) (cwV 3 (cx_ts C) gX12_load_X12_fails rfl rfl rfl (by decide +kernel) ⟨Nat.le_of_ble_eq_true rfl, Nat.le_of_ble_eq_true rfl⟩) rfl (hG _ (List.mem_of_getElem? (i := 0) rfl)) (of10_0 _) (ce10 T ad _ _) rfl (st := []) rfl (Nat.le_of_ble_eq_true rfl) ⟨Nat.le_refl 0, Nat.le_refl 0⟩ dX12_load_44 ?_
  intro r_ Y_ e_
  obtain ⟨rfl, rfl⟩ := Prod.mk.inj e_
  refine fw_if_eq C dX12_load_47 (tgt := 52) rfl (fun c17 => ?_) (fun c17 => ?_)
  · have h := ite_t c17 h
    refine fw_aload_n C dX12_load_52 rfl 0 rfl ?_
    refine fw_iconst C dX12_load_53 (v := 0) rfl ?_
    obtain ⟨Y18, e19, h⟩ := lt_some h
    refine fw_put C (ci := 10) (Cn := RX12) (Tc := TX12) (N := 19) (j := 2) (ty := .int) (upd (Y16 10 0 0) 2 0) ly_X12_load_12 rfl tyX12_ok nmX12 (hG _ (List.mem_of_getElem? (i := 0) rfl)) (of10_0 _) (ce10 T ad _ _) (by decide) (cx_ts C _ fl_X12_load_21) (fun _ h => h) rfl (by decide +kernel) rfl rfl (by decide) (ce10_put2 T ad _ _ _) dX12_load_54 ?_
    refine fw_mem ((up_eq _ _ _ _ _ _).symm.trans e19) ?_
    refine fw_aload_n C dX12_load_57 rfl 0 rfl ?_
    refine fw_get C (ci := 10) (Cn := RX12) (Tc := TX12) (N := 19) (j := 1) ly_X12_load_12 rfl (hG _ (List.mem_of_getElem? (i := 0) rfl)) (of10_0 _) (ce10 T ad _ _) (by decide) (cx_ts C _ fl_X12_load_17) (fun _ h => h) (v := .ref (ad 10 0 2)) rfl dX12_load_58 ?_
    refine fw_iconst C dX12_load_61 (v := 0) rfl ?_
    refine fw_iconst C dX12_load_62 (v := 0) rfl ?_
    obtain ⟨b20, h⟩ := gd_some h
    obtain ⟨Y21, e22, h⟩ := lt_some h
    refine fw_zast2 C (hG _ (List.mem_of_getElem? (i := 0) rfl)) (of10_2 _) (ca10_2 T ad _) b20 (Nat.le_of_ble_eq_true rfl) dX12_load_63 ?_
    refine fw_mem e22 ?_
    refine fw_aload_n C dX12_load_64 rfl 0 rfl ?_
    refine fw_get C (ci := 10) (Cn := RX12) (Tc := TX12) (N := 19) (j := 1) ly_X12_load_12 rfl (hG _ (List.mem_of_getElem? (i := 0) rfl)) (of10_0 _) (ce10 T ad _ _) (by decide) (cx_ts C _ fl_X12_load_17) (fun _ h => h) (v := .ref (ad 10 0 2)) rfl dX12_load_65 ?_
    refine fw_iconst C dX12_load_68 (v := 1) rfl ?_
    refine fw_iconst C dX12_load_69 (v := 0) rfl ?_
    obtain ⟨b23, h⟩ := gd_some h
    obtain ⟨Y24, e25, h⟩ := lt_some h
    refine fw_zast2 C (hG _ (List.mem_of_getElem? (i := 0) rfl)) (of10_2 _) (ca10_2 T ad _) b23 (Nat.le_of_ble_eq_true rfl) dX12_load_70 ?_
    refine fw_mem e25 ?_
    refine fw_aload_n C dX12_load_71 rfl 0 rfl ?_
    refine fw_get C (ci := 10) (Cn := RX12) (Tc := TX12) (N := 19) (j := 0) ly_X12_load_12 rfl (hG _ (List.mem_of_getElem? (i := 0) rfl)) (of10_0 _) (ce10 T ad _ _) (by decide) (cx_ts C _ fl_X12_load_13) (fun _ h => h) (v := .ref (ad 10 0 1)) rfl dX12_load_72 ?_
    refine fw_bipush C dX12_load_75 (v := 13) rfl ?_
    obtain ⟨b26, h⟩ := gd_some h
    refine fw_iald2 C (hG _ (List.mem_of_getElem? (i := 0) rfl)) (of10_1 _) (ca10_1 T ad _ _) b26 (Nat.le_of_ble_eq_true rfl) dX12_load_77 ?_
    exact fw_iret C hrt Y24 (Option.some.inj h) (fun t ht => ht) dX12_load_78
  · have h := ite_f c17 h
    refine fw_iconst C dX12_load_50 (v := 0) rfl ?_
    exact fw_iret C hrt Y16 (Option.some.inj h) (fun t ht => ht) dX12_load_51
set_option maxRecDepth 100000 in
set_option maxHeartbeats 4000000 in
theorem w_X12_load_b32  (C : Cx p s m [.ref (ad 10 0 0)].toArray meth c cX12_load 2 wsX12_load RX12 N0 T D gr ad) (hrt : meth.sig.returnType = (some .int)) (hG : ∀ q ∈ [(10, 0)], q ∈ gr) {res : Int32 × Mem} (Y : Mem) (l1 : Int32) (h : X12_load_b32   Y l1 = some res) : FW p l e (Rm 9) s m [.ref (ad 10 0 0)].toArray below meth c 2 N0 T D gr ad 0 0 (MQ below (va_Qi (fun r Y1 => (r, Y1) = res) (WB T D gr ad) (fun q => N0 ≤ q)) [.ref (ad 10 0 0)].toArray s 0 0 (fun q => N0 ≤ q)) Y 32 [(1, .int l1), (0, .ref (ad 10 0 0))] [] := by
  unfold X12_load_b32 at h
  refine fw_aload_n C dX12_load_32 rfl 1 rfl ?_
  refine fw_iload_n C dX12_load_33 rfl 0 rfl ?_
  refine fw_if_ne C dX12_load_34 (tgt := 41) rfl (fun c13 => ?_) (fun c13 => ?_)
  · have h := ite_f c13 h
    refine fw_iconst C dX12_load_41 (v := 0) rfl ?_
    refine fw_sub [1] (L' := [(0, .ref (ad 10 0 0))]) rfl ?_
    exact w_X12_load_b42 C hrt hG   _ _ h
  · have h := ite_t c13 h
    refine fw_iconst C dX12_load_37 (v := 1) rfl ?_
    refine fw_goto C dX12_load_38 (tgt := 42) rfl ?_
    refine fw_sub [1] (L' := [(0, .ref (ad 10 0 0))]) rfl ?_
    exact w_X12_load_b42 C hrt hG   _ _ h
set_option maxRecDepth 100000 in
set_option maxHeartbeats 4000000 in
theorem w_X12_load {Y : Mem} (C : Cx p s m [.ref (ad 10 0 0)].toArray meth c cX12_load 2 wsX12_load RX12 N0 T D gr ad) (hrt : meth.sig.returnType = (some .int)) (hG : ∀ q ∈ [(10, 0)], q ∈ gr) {res : Int32 × Mem} (h : X12_load Y = some res) : FW p l e (Rm 9) s m [.ref (ad 10 0 0)].toArray below meth c 2 N0 T D gr ad 0 0 (MQ below (va_Qi (fun r Y1 => (r, Y1) = res) (WB T D gr ad) (fun q => N0 ≤ q)) [.ref (ad 10 0 0)].toArray s 0 0 (fun q => N0 ≤ q)) Y 0 [(0, .ref (ad 10 0 0))] [] := by
  unfold X12_load at h
  refine fw_aload_n C dX12_load_0 rfl 0 rfl ?_
  refine fw_iconst C dX12_load_1 (v := 0) rfl ?_
  refine fw_bipush C dX12_load_2 (v := 9) rfl ?_
  obtain ⟨Y3, q2, h⟩ := bd1_some h
  refine fw_callVv C (ci := 10) (Cn := RX12) (Tc := TX12) (N := 19) (As := [.int 0, .int 9]) (c_X12_copyBlock (gac (hG _ (List.mem_of_getElem? (i := 0) rfl)) ga0) q2) (cwV 2 (cx_ts C) gX12_load_X12_copyBlock rfl rfl rfl (by decide +kernel) ⟨Nat.le_of_ble_eq_true rfl, Nat.le_of_ble_eq_true rfl⟩) rfl (hG _ (List.mem_of_getElem? (i := 0) rfl)) (of10_0 _) (ce10 T ad _ _) rfl (st := []) rfl (Nat.le_of_ble_eq_true rfl) ⟨Nat.le_refl 0, Nat.le_refl 0⟩ dX12_load_4 ?_
  rintro _ rfl
  refine fw_aload_n C dX12_load_7 rfl 0 rfl ?_
  obtain ⟨Y6, q5, h⟩ := bd1_some h
  refine fw_callVv C (ci := 10) (Cn := RX12) (Tc := TX12) (N := 19) (As := []) (c_X12_begin (gac (hG _ (List.mem_of_getElem? (i := 0) rfl)) ga0) q5) (cwV 0 (cx_ts C) gX12_load_X12_begin rfl rfl rfl (by decide +kernel) ⟨Nat.le_of_ble_eq_true rfl, Nat.le_of_ble_eq_true rfl⟩) rfl (hG _ (List.mem_of_getElem? (i := 0) rfl)) (of10_0 _) (ce10 T ad _ _) rfl (st := []) rfl (Nat.le_of_ble_eq_true rfl) ⟨Nat.le_refl 0, Nat.le_refl 0⟩ dX12_load_8 ?_
  rintro _ rfl
  refine fw_aload_n C dX12_load_11 rfl 0 rfl ?_
  obtain ⟨r7, Y9, q8, h⟩ := bd2_some h
  refine fw_callVi C (ci := 10) (Cn := RX12) (Tc := TX12) (N := 19) (As := []) (c_X12_parseSetup (gac (hG _ (List.mem_of_getElem? (i := 0) rfl)) ga0) q8) (cwV 0 (cx_ts C) gX12_load_X12_parseSetup rfl rfl rfl (by decide +kernel) ⟨Nat.le_of_ble_eq_true rfl, Nat.le_of_ble_eq_true rfl⟩) rfl (hG _ (List.mem_of_getElem? (i := 0) rfl)) (of10_0 _) (ce10 T ad _ _) rfl (st := []) rfl (Nat.le_of_ble_eq_true rfl) ⟨Nat.le_refl 0, Nat.le_refl 0⟩ dX12_load_12 ?_
  intro r_ Y_ e_
  obtain ⟨rfl, rfl⟩ := Prod.mk.inj e_
  refine fw_istore_n C dX12_load_15 rfl (by decide) (L' := [(1, .int r7), (0, .ref (ad 10 0 0))]) rfl ?_
  refine fw_aload_n C dX12_load_16 rfl 1 rfl ?_
  refine fw_iconst C dX12_load_17 (v := 0) rfl ?_
  obtain ⟨Y10, e11, h⟩ := lt_some h
  refine fw_put C (ci := 10) (Cn := RX12) (Tc := TX12) (N := 19) (j := 4) (ty := .int) (upd (Y9 10 0 0) 4 0) ly_X12_load_12 rfl tyX12_ok nmX12 (hG _ (List.mem_of_getElem? (i := 0) rfl)) (of10_0 _) (ce10 T ad _ _) (by decide) (cx_ts C _ fl_X12_load_27) (fun _ h => h) rfl (by decide +kernel) rfl rfl (by decide) (ce10_put4 T ad _ _ _) dX12_load_18 ?_
  refine fw_mem ((up_eq _ _ _ _ _ _).symm.trans e11) ?_
  refine fw_iload_n C dX12_load_21 rfl 0 rfl ?_
  refine fw_if_ne C dX12_load_22 (tgt := 32) rfl (fun c12 => ?_) (fun c12 => ?_)
  · have h := ite_f c12 h
    exact w_X12_load_b32 C hrt hG   _ _ h
  · have h := ite_t c12 h
    refine fw_aload_n C dX12_load_25 rfl 1 rfl ?_
    refine fw_bipush C dX12_load_26 (v := 9) rfl ?_
    refine fw_iconst C dX12_load_28 (v := 0) rfl ?_
    obtain ⟨Y29, q28, h⟩ := bd1_some h
    refine fw_callVv C (ci := 10) (Cn := RX12) (Tc := TX12) (N := 19) (As := [.int 9, .int 0]) (c_X12_copyBlock (gac (hG _ (List.mem_of_getElem? (i := 0) rfl)) ga0) q28) (cwV 2 (cx_ts C) gX12_load_X12_copyBlock rfl rfl rfl (by decide +kernel) ⟨Nat.le_of_ble_eq_true rfl, Nat.le_of_ble_eq_true rfl⟩) rfl (hG _ (List.mem_of_getElem? (i := 0) rfl)) (of10_0 _) (ce10 T ad _ _) rfl (st := []) rfl (Nat.le_of_ble_eq_true rfl) ⟨Nat.le_refl 0, Nat.le_refl 0⟩ dX12_load_29 ?_
    rintro _ rfl
    exact w_X12_load_b32 C hrt hG   _ _ h
end
set_option maxRecDepth 100000 in
set_option maxHeartbeats 4000000 in
theorem c_X12_load {l : Launch} {N0 : Nat} {T : Nat → ClassId} {D : va_G} {gr : List (Nat × Nat)} {ad : Nat → Nat → Nat → Nat} {Y : Mem} {res : Int32 × Mem} (hG : ∀ q ∈ [(10, 0)], q ∈ gr) (h : X12_load Y = some res) : CI l yX12_load wsX12_load (Rm 9) N0 T D gr ad Y [.ref (ad 10 0 0)] (fun r Y1 => (r, Y1) = res) :=
  fw_body (by decide +kernel) rfl (Nat.le_of_ble_eq_true rfl) (fun p e s m below meth c C hrt => w_X12_load C hrt hG  h)
theorem ly_X12_longestPath_12 : ∀ w ∈ u_ws RX12 TX12 19, w ∈ wsX12_longestPath := by decide +kernel
theorem fl_X12_longestPath_13 : Cond.fieldLink RX12 13 "RecipeSchedulerModel" "m" "[I" ∈ wsX12_longestPath := by decide +kernel
theorem fl_X12_longestPath_42 : Cond.fieldLink RX12 42 "RecipeSchedulerModel" "paths" "[I" ∈ wsX12_longestPath := by decide +kernel
noncomputable def X12_longestPath_b35 (Y : Mem) (k4 : Int32 → Int32 → Option (Int32)) (l2 : Int32) (s0 : Int32) : Option (Int32) :=
  k4 (l2 + 1) s0
noncomputable def X12_longestPath_b4 (Y : Mem) : Nat → Int32 → Int32 → Option (Int32)
  | 0, _, _ => none
  | n+1, l2, l1 =>
  gd (inb 13 4202) <| if (Y 10 0 1 (ix 13)) ≤ l2 then (some l1) else (gd (inb l2 14) <| if (Y 10 0 5 (ix l2)) ≤ l1 then (X12_longestPath_b35 Y (X12_longestPath_b4 Y n) l2 l1) else (X12_longestPath_b35 Y (X12_longestPath_b4 Y n) l2 (Y 10 0 5 (ix l2))))
noncomputable def X12_longestPath (Y : Mem) : Option (Int32) :=
  X12_longestPath_b4 Y FU 0 0
section
variable {p : Program} {l : Launch} {e : Env} {s : State} {m : MethodId} {below : List Frame} {meth : Method} {c : Code} {N0 : Nat} {T : Nat → ClassId} {D : va_G} {gr : List (Nat × Nat)} {ad : Nat → Nat → Nat → Nat}
set_option maxRecDepth 100000 in
set_option maxHeartbeats 4000000 in
theorem w_X12_longestPath_b35 {Y : Mem} (C : Cx p s m [.ref (ad 10 0 0)].toArray meth c cX12_longestPath 3 wsX12_longestPath RX12 N0 T D gr ad) (hrt : meth.sig.returnType = (some .int)) (hG : ∀ q ∈ [(10, 0)], q ∈ gr) {res : Int32} {k4 : Int32 → Int32 → Option (Int32)} (hk4 : ∀ (l2 : Int32) (l1 : Int32), k4 l2 l1 = some res → FW p l e (Rm 0) s m [.ref (ad 10 0 0)].toArray below meth c 3 N0 T D gr ad 0 0 (MQ below (va_Qi (fun r Y1 => r = res ∧ Y1 = Y) (WB T D gr ad) (fun q => N0 ≤ q)) [.ref (ad 10 0 0)].toArray s 0 0 (fun q => N0 ≤ q)) Y 4 [(2, .int l2), (1, .int l1), (0, .ref (ad 10 0 0))] []) (l2 : Int32) (s0 : Int32) (h : X12_longestPath_b35 Y k4 l2 s0 = some res) : FW p l e (Rm 0) s m [.ref (ad 10 0 0)].toArray below meth c 3 N0 T D gr ad 0 0 (MQ below (va_Qi (fun r Y1 => r = res ∧ Y1 = Y) (WB T D gr ad) (fun q => N0 ≤ q)) [.ref (ad 10 0 0)].toArray s 0 0 (fun q => N0 ≤ q)) Y 35 [(2, .int l2), (0, .ref (ad 10 0 0))] [.int s0] := by
  unfold X12_longestPath_b35 at h
  refine fw_istore_n C dX12_longestPath_35 rfl (by decide) (L' := [(1, .int s0), (2, .int l2), (0, .ref (ad 10 0 0))]) rfl ?_
  refine fw_iinc C dX12_longestPath_36 (kk := 1) (v := l2 + 1) rfl rfl (by decide) (L' := [(2, .int (l2 + 1)), (1, .int s0), (0, .ref (ad 10 0 0))]) rfl ?_
  refine fw_goto C dX12_longestPath_39 (tgt := 4) rfl ?_
  exact hk4 _ _ h
set_option maxRecDepth 100000 in
set_option maxHeartbeats 4000000 in
theorem w_X12_longestPath_b4 {Y : Mem} (C : Cx p s m [.ref (ad 10 0 0)].toArray meth c cX12_longestPath 3 wsX12_longestPath RX12 N0 T D gr ad) (hrt : meth.sig.returnType = (some .int)) (hG : ∀ q ∈ [(10, 0)], q ∈ gr) {res : Int32} : ∀ (n : Nat) (l2 : Int32) (l1 : Int32), X12_longestPath_b4 Y  n l2 l1 = some res → FW p l e (Rm 0) s m [.ref (ad 10 0 0)].toArray below meth c 3 N0 T D gr ad 0 0 (MQ below (va_Qi (fun r Y1 => r = res ∧ Y1 = Y) (WB T D gr ad) (fun q => N0 ≤ q)) [.ref (ad 10 0 0)].toArray s 0 0 (fun q => N0 ≤ q)) Y 4 [(2, .int l2), (1, .int l1), (0, .ref (ad 10 0 0))] [] := by
  intro n
  induction n with
  | zero =>
    intro l2 l1 h
    unfold X12_longestPath_b4 at h
    cases h
  | succ n ih =>
    intro l2 l1 h
    unfold X12_longestPath_b4 at h
    refine fw_iload_n C dX12_longestPath_4 rfl 0 rfl ?_
    refine fw_aload_n C dX12_longestPath_5 rfl 2 rfl ?_
    refine fw_get C (ci := 10) (Cn := RX12) (Tc := TX12) (N := 19) (j := 0) ly_X12_longestPath_12 rfl (hG _ (List.mem_of_getElem? (i := 0) rfl)) (of10_0 _) (ce10 T ad _ _) (by decide) (cx_ts C _ fl_X12_longestPath_13) (fun _ h => h) (v := .ref (ad 10 0 1)) rfl dX12_longestPath_6 ?_
    refine fw_bipush C dX12_longestPath_9 (v := 13) rfl ?_
    obtain ⟨b1, h⟩ := gd_some h
    refine fw_iald2 C (hG _ (List.mem_of_getElem? (i := 0) rfl)) (of10_1 _) (ca10_1 T ad _ _) b1 (Nat.le_of_ble_eq_true rfl) dX12_longestPath_11 ?_
    refine fw_icmp_ge C dX12_longestPath_12 (tgt := 42) rfl (fun c2 => ?_) (fun c2 => ?_)
    · have h := ite_t c2 h
      refine fw_iload_n C dX12_longestPath_42 rfl 1 rfl ?_
      exact fw_iret C hrt Y ⟨Option.some.inj h, rfl⟩ (fun t ht => ht) dX12_longestPath_43
    · have h := ite_f c2 h
      refine fw_aload_n C dX12_longestPath_15 rfl 2 rfl ?_
      refine fw_get C (ci := 10) (Cn := RX12) (Tc := TX12) (N := 19) (j := 10) ly_X12_longestPath_12 rfl (hG _ (List.mem_of_getElem? (i := 0) rfl)) (of10_0 _) (ce10 T ad _ _) (by decide) (cx_ts C _ fl_X12_longestPath_42) (fun _ h => h) (v := .ref (ad 10 0 5)) rfl dX12_longestPath_16 ?_
      refine fw_iload_n C dX12_longestPath_19 rfl 0 rfl ?_
      obtain ⟨b3, h⟩ := gd_some h
      refine fw_iald2 C (hG _ (List.mem_of_getElem? (i := 0) rfl)) (of10_5 _) (ca10_5 T ad _ _) b3 (Nat.le_of_ble_eq_true rfl) dX12_longestPath_20 ?_
      refine fw_iload_n C dX12_longestPath_21 rfl 1 rfl ?_
      refine fw_icmp_le C dX12_longestPath_22 (tgt := 34) rfl (fun c4 => ?_) (fun c4 => ?_)
      · have h := ite_t c4 h
        refine fw_iload_n C dX12_longestPath_34 rfl 1 rfl ?_
        refine fw_sub [0, 2] (L' := [(2, .int l2), (0, .ref (ad 10 0 0))]) rfl ?_
        exact w_X12_longestPath_b35 C hrt hG  ih _ _ h
      · have h := ite_f c4 h
        refine fw_aload_n C dX12_longestPath_25 rfl 2 rfl ?_
        refine fw_get C (ci := 10) (Cn := RX12) (Tc := TX12) (N := 19) (j := 10) ly_X12_longestPath_12 rfl (hG _ (List.mem_of_getElem? (i := 0) rfl)) (of10_0 _) (ce10 T ad _ _) (by decide) (cx_ts C _ fl_X12_longestPath_42) (fun _ h => h) (v := .ref (ad 10 0 5)) rfl dX12_longestPath_26 ?_
        refine fw_iload_n C dX12_longestPath_29 rfl 0 rfl ?_
        refine fw_iald2 C (hG _ (List.mem_of_getElem? (i := 0) rfl)) (of10_5 _) (ca10_5 T ad _ _) b3 (Nat.le_of_ble_eq_true rfl) dX12_longestPath_30 ?_
        refine fw_goto C dX12_longestPath_31 (tgt := 35) rfl ?_
        refine fw_sub [0, 2] (L' := [(2, .int l2), (0, .ref (ad 10 0 0))]) rfl ?_
        exact w_X12_longestPath_b35 C hrt hG  ih _ _ h
set_option maxRecDepth 100000 in
set_option maxHeartbeats 4000000 in
theorem w_X12_longestPath {Y : Mem} (C : Cx p s m [.ref (ad 10 0 0)].toArray meth c cX12_longestPath 3 wsX12_longestPath RX12 N0 T D gr ad) (hrt : meth.sig.returnType = (some .int)) (hG : ∀ q ∈ [(10, 0)], q ∈ gr) {res : Int32} (h : X12_longestPath Y = some res) : FW p l e (Rm 0) s m [.ref (ad 10 0 0)].toArray below meth c 3 N0 T D gr ad 0 0 (MQ below (va_Qi (fun r Y1 => r = res ∧ Y1 = Y) (WB T D gr ad) (fun q => N0 ≤ q)) [.ref (ad 10 0 0)].toArray s 0 0 (fun q => N0 ≤ q)) Y 0 [(0, .ref (ad 10 0 0))] [] := by
  unfold X12_longestPath at h
  refine fw_iconst C dX12_longestPath_0 (v := 0) rfl ?_
  refine fw_istore_n C dX12_longestPath_1 rfl (by decide) (L' := [(1, .int 0), (0, .ref (ad 10 0 0))]) rfl ?_
  refine fw_iconst C dX12_longestPath_2 (v := 0) rfl ?_
  refine fw_istore_n C dX12_longestPath_3 rfl (by decide) (L' := [(2, .int 0), (1, .int 0), (0, .ref (ad 10 0 0))]) rfl ?_
  exact w_X12_longestPath_b4 C hrt hG   _ _ _ h
end
set_option maxRecDepth 100000 in
set_option maxHeartbeats 4000000 in
theorem c_X12_longestPath {l : Launch} {N0 : Nat} {T : Nat → ClassId} {D : va_G} {gr : List (Nat × Nat)} {ad : Nat → Nat → Nat → Nat} {Y : Mem} {res : Int32} (hG : ∀ q ∈ [(10, 0)], q ∈ gr) (h : X12_longestPath Y = some res) : CI l yX12_longestPath wsX12_longestPath (Rm 0) N0 T D gr ad Y [.ref (ad 10 0 0)] (fun r Y1 => r = res ∧ Y1 = Y) :=
  fw_body (by decide +kernel) rfl (Nat.le_of_ble_eq_true rfl) (fun p e s m below meth c C hrt => w_X12_longestPath C hrt hG  h)
theorem ly_X12_meanDuration_12 : ∀ w ∈ u_ws RX12 TX12 19, w ∈ wsX12_meanDuration := by decide +kernel
theorem fl_X12_meanDuration_1 : Cond.fieldLink RX12 1 "RecipeSchedulerModel" "thrown" "I" ∈ wsX12_meanDuration := by decide +kernel
theorem fl_X12_meanDuration_13 : Cond.fieldLink RX12 13 "RecipeSchedulerModel" "m" "[I" ∈ wsX12_meanDuration := by decide +kernel
noncomputable def X12_meanDuration_b9  : Nat → Mem → Int32 → Int32 → Option (UInt64 × Mem)
  | 0, _, _, _ => none
  | n+1, Y, l2, l1 =>
  gd (inb 13 4202) <| if (Y 10 0 1 (ix 13)) ≤ l2 then (gd (decide (FP.ddiv (FP.i2d l1) (FP.i2d (Y 10 0 1 (ix 13))) &&& 0x7fffffffffffffff ≤ 0x7ff0000000000000)) <| some (FP.ddiv (FP.i2d l1) (FP.i2d (Y 10 0 1 (ix 13))), Y)) else (bd1 (X12_of Y l2 7) <| fun r6 => lt_ (l1 + r6) <| fun v8 => X12_meanDuration_b9 n Y (l2 + 1) v8)
noncomputable def X12_meanDuration (Y : Mem) : Option (UInt64 × Mem) :=
  lt_ (up Y 10 0 0 9 0) <| fun Y1 => X12_meanDuration_b9 FU Y1 0 0
section
variable {p : Program} {l : Launch} {e : Env} {s : State} {m : MethodId} {below : List Frame} {meth : Method} {c : Code} {N0 : Nat} {T : Nat → ClassId} {D : va_G} {gr : List (Nat × Nat)} {ad : Nat → Nat → Nat → Nat}
set_option maxRecDepth 100000 in
set_option maxHeartbeats 4000000 in
theorem w_X12_meanDuration_b9  (C : Cx p s m [.ref (ad 10 0 0)].toArray meth c cX12_meanDuration 3 wsX12_meanDuration RX12 N0 T D gr ad) (hrt : meth.sig.returnType = (some .double)) (hG : ∀ q ∈ [(10, 0)], q ∈ gr) {res : UInt64 × Mem} : ∀ (n : Nat) (Y : Mem) (l2 : Int32) (l1 : Int32), X12_meanDuration_b9   n Y l2 l1 = some res → FW p l e (Rm 1) s m [.ref (ad 10 0 0)].toArray below meth c 3 N0 T D gr ad 0 0 (MQ below (va_Qd (fun r Y1 => (r, Y1) = res) (WB T D gr ad) (fun q => N0 ≤ q)) [.ref (ad 10 0 0)].toArray s 0 0 (fun q => N0 ≤ q)) Y 9 [(2, .int l2), (1, .int l1), (0, .ref (ad 10 0 0))] [] := by
  intro n
  induction n with
  | zero =>
    intro Y l2 l1 h
    unfold X12_meanDuration_b9 at h
    cases h
  | succ n ih =>
    intro Y l2 l1 h
    unfold X12_meanDuration_b9 at h
    refine fw_iload_n C dX12_meanDuration_9 rfl 0 rfl ?_
    refine fw_aload_n C dX12_meanDuration_10 rfl 2 rfl ?_
    refine fw_get C (ci := 10) (Cn := RX12) (Tc := TX12) (N := 19) (j := 0) ly_X12_meanDuration_12 rfl (hG _ (List.mem_of_getElem? (i := 0) rfl)) (of10_0 _) (ce10 T ad _ _) (by decide) (cx_ts C _ fl_X12_meanDuration_13) (fun _ h => h) (v := .ref (ad 10 0 1)) rfl dX12_meanDuration_11 ?_
    refine fw_bipush C dX12_meanDuration_14 (v := 13) rfl ?_
    obtain ⟨b3, h⟩ := gd_some h
    refine fw_iald2 C (hG _ (List.mem_of_getElem? (i := 0) rfl)) (of10_1 _) (ca10_1 T ad _ _) b3 (Nat.le_of_ble_eq_true rfl) dX12_meanDuration_16 ?_
    refine fw_icmp_ge C dX12_meanDuration_17 (tgt := 36) rfl (fun c4 => ?_) (fun c4 => ?_)
    · have h := ite_t c4 h
      refine fw_iload_n C dX12_meanDuration_36 rfl 1 rfl ?_
      refine fw_i2d C dX12_meanDuration_37 ?_
      refine fw_aload_n C dX12_meanDuration_38 rfl 2 rfl ?_
      refine fw_get C (ci := 10) (Cn := RX12) (Tc := TX12) (N := 19) (j := 0) ly_X12_meanDuration_12 rfl (hG _ (List.mem_of_getElem? (i := 0) rfl)) (of10_0 _) (ce10 T ad _ _) (by decide) (cx_ts C _ fl_X12_meanDuration_13) (fun _ h => h) (v := .ref (ad 10 0 1)) rfl dX12_meanDuration_39 ?_
      refine fw_bipush C dX12_meanDuration_42 (v := 13) rfl ?_
      refine fw_iald2 C (hG _ (List.mem_of_getElem? (i := 0) rfl)) (of10_1 _) (ca10_1 T ad _ _) b3 (Nat.le_of_ble_eq_true rfl) dX12_meanDuration_44 ?_
      refine fw_i2d C dX12_meanDuration_45 ?_
      obtain ⟨b5, h⟩ := gd_some h
      refine fw_ddiv C (of_decide_eq_true b5) dX12_meanDuration_46 ?_
      exact fw_dret C hrt Y (Option.some.inj h) (fun t ht => ht) dX12_meanDuration_47
    · have h := ite_f c4 h
      refine fw_iload_n C dX12_meanDuration_20 rfl 1 rfl ?_
      refine fw_aload_n C dX12_meanDuration_21 rfl 2 rfl ?_
      refine fw_iload_n C dX12_meanDuration_22 rfl 0 rfl ?_
      refine fw_bipush C dX12_meanDuration_23 (v := 7) rfl ?_
      obtain ⟨r6, q7, h⟩ := bd1_some h
      refine fw_callVi C (ci := 10) (Cn := RX12) (Tc := TX12) (N := 19) (As := [.int l2, .int 7]) (c_X12_of (gac (hG _ (List.mem_of_getElem? (i := 0) rfl)) ga0) q7) (cwV 2 (cx_ts C) gX12_meanDuration_X12_of rfl rfl rfl (by decide +kernel) ⟨Nat.le_of_ble_eq_true rfl, Nat.le_of_ble_eq_true rfl⟩) rfl (hG _ (List.mem_of_getElem? (i := 0) rfl)) (of10_0 _) (ce10 T ad _ _) rfl (st := [.int l1]) rfl (Nat.le_of_ble_eq_true rfl) ⟨Nat.le_refl 0, Nat.le_refl 0⟩ dX12_meanDuration_25 ?_
      rintro _ _ ⟨rfl, rfl⟩
      refine fw_iadd C dX12_meanDuration_28 ?_
      obtain ⟨v8, e9, h⟩ := lt_some h
      refine fw_top (v' := .int v8) (by rw [e9]) ?_
      refine fw_istore_n C dX12_meanDuration_29 rfl (by decide) (L' := [(1, .int v8), (2, .int l2), (0, .ref (ad 10 0 0))]) rfl ?_
      refine fw_iinc C dX12_meanDuration_30 (kk := 1) (v := l2 + 1) rfl rfl (by decide) (L' := [(2, .int (l2 + 1)), (1, .int v8), (0, .ref (ad 10 0 0))]) rfl ?_
      refine fw_goto C dX12_meanDuration_33 (tgt := 9) rfl ?_
      exact ih _ _ _ h
set_option maxRecDepth 100000 in
set_option maxHeartbeats 4000000 in
theorem w_X12_meanDuration {Y : Mem} (C : Cx p s m [.ref (ad 10 0 0)].toArray meth c cX12_meanDuration 3 wsX12_meanDuration RX12 N0 T D gr ad) (hrt : meth.sig.returnType = (some .double)) (hG : ∀ q ∈ [(10, 0)], q ∈ gr) {res : UInt64 × Mem} (h : X12_meanDuration Y = some res) : FW p l e (Rm 1) s m [.ref (ad 10 0 0)].toArray below meth c 3 N0 T D gr ad 0 0 (MQ below (va_Qd (fun r Y1 => (r, Y1) = res) (WB T D gr ad) (fun q => N0 ≤ q)) [.ref (ad 10 0 0)].toArray s 0 0 (fun q => N0 ≤ q)) Y 0 [(0, .ref (ad 10 0 0))] [] := by
  unfold X12_meanDuration at h
  refine fw_aload_n C dX12_meanDuration_0 rfl 0 rfl ?_
  refine fw_iconst C dX12_meanDuration_1 (v := 0) rfl ?_
  obtain ⟨Y1, e2, h⟩ := lt_some h
  refine fw_put C (ci := 10) (Cn := RX12) (Tc := TX12) (N := 19) (j := 9) (ty := .int) (upd (Y 10 0 0) 9 0) ly_X12_meanDuration_12 rfl tyX12_ok nmX12 (hG _ (List.mem_of_getElem? (i := 0) rfl)) (of10_0 _) (ce10 T ad _ _) (by decide) (cx_ts C _ fl_X12_meanDuration_1) (fun _ h => h) rfl (by decide +kernel) rfl rfl (by decide) (ce10_put9 T ad _ _ _) dX12_meanDuration_2 ?_
  refine fw_mem ((up_eq _ _ _ _ _ _).symm.trans e2) ?_
  refine fw_iconst C dX12_meanDuration_5 (v := 0) rfl ?_
  refine fw_istore_n C dX12_meanDuration_6 rfl (by decide) (L' := [(1, .int 0), (0, .ref (ad 10 0 0))]) rfl ?_
  refine fw_iconst C dX12_meanDuration_7 (v := 0) rfl ?_
  refine fw_istore_n C dX12_meanDuration_8 rfl (by decide) (L' := [(2, .int 0), (1, .int 0), (0, .ref (ad 10 0 0))]) rfl ?_
  exact w_X12_meanDuration_b9 C hrt hG   _ _ _ _ h
end
set_option maxRecDepth 100000 in
set_option maxHeartbeats 4000000 in
theorem c_X12_meanDuration {l : Launch} {N0 : Nat} {T : Nat → ClassId} {D : va_G} {gr : List (Nat × Nat)} {ad : Nat → Nat → Nat → Nat} {Y : Mem} {res : UInt64 × Mem} (hG : ∀ q ∈ [(10, 0)], q ∈ gr) (h : X12_meanDuration Y = some res) : CD l yX12_meanDuration wsX12_meanDuration (Rm 1) N0 T D gr ad Y [.ref (ad 10 0 0)] (fun r Y1 => (r, Y1) = res) :=
  fw_body (by decide +kernel) rfl (Nat.le_of_ble_eq_true rfl) (fun p e s m below meth c C hrt => w_X12_meanDuration C hrt hG  h)
theorem ly_X12_minute_12 : ∀ w ∈ u_ws RX12 TX12 19, w ∈ wsX12_minute := by decide +kernel
theorem fl_X12_minute_13 : Cond.fieldLink RX12 13 "RecipeSchedulerModel" "m" "[I" ∈ wsX12_minute := by decide +kernel
noncomputable def X12_minute (Y : Mem) : Option (Int32 × Mem) :=
  gd (inb 4 4202) <| bd2 (X12_plain Y (Y 10 0 1 (ix 4))) <| fun r2 Y4 => some (r2, Y4)
section
variable {p : Program} {l : Launch} {e : Env} {s : State} {m : MethodId} {below : List Frame} {meth : Method} {c : Code} {N0 : Nat} {T : Nat → ClassId} {D : va_G} {gr : List (Nat × Nat)} {ad : Nat → Nat → Nat → Nat}
set_option maxRecDepth 100000 in
set_option maxHeartbeats 4000000 in
theorem w_X12_minute {Y : Mem} (C : Cx p s m [.ref (ad 10 0 0)].toArray meth c cX12_minute 1 wsX12_minute RX12 N0 T D gr ad) (hrt : meth.sig.returnType = (some .int)) (hG : ∀ q ∈ [(10, 0)], q ∈ gr) {res : Int32 × Mem} (h : X12_minute Y = some res) : FW p l e (Rm 1) s m [.ref (ad 10 0 0)].toArray below meth c 1 N0 T D gr ad 0 0 (MQ below (va_Qi (fun r Y1 => (r, Y1) = res) (WB T D gr ad) (fun q => N0 ≤ q)) [.ref (ad 10 0 0)].toArray s 0 0 (fun q => N0 ≤ q)) Y 0 [(0, .ref (ad 10 0 0))] [] := by
  unfold X12_minute at h
  refine fw_aload_n C dX12_minute_0 rfl 0 rfl ?_
  refine fw_aload_n C dX12_minute_1 rfl 0 rfl ?_
  refine fw_get C (ci := 10) (Cn := RX12) (Tc := TX12) (N := 19) (j := 0) ly_X12_minute_12 rfl (hG _ (List.mem_of_getElem? (i := 0) rfl)) (of10_0 _) (ce10 T ad _ _) (by decide) (cx_ts C _ fl_X12_minute_13) (fun _ h => h) (v := .ref (ad 10 0 1)) rfl dX12_minute_2 ?_
  refine fw_iconst C dX12_minute_5 (v := 4) rfl ?_
  obtain ⟨b1, h⟩ := gd_some h
  refine fw_iald2 C (hG _ (List.mem_of_getElem? (i := 0) rfl)) (of10_1 _) (ca10_1 T ad _ _) b1 (Nat.le_of_ble_eq_true rfl) dX12_minute_6 ?_
  obtain ⟨r2, Y4, q3, h⟩ := bd2_some h
  refine fw_callVi C (ci := 10) (Cn := RX12) (Tc := TX12) (N := 19) (As := [.int (Y 10 0 1 (ix 4))]) (c_X12_plain (gac (hG _ (List.mem_of_getElem? (i := 0) rfl)) ga0) q3) (cwV 1 (cx_ts C) gX12_minute_X12_plain rfl rfl rfl (by decide +kernel) ⟨Nat.le_of_ble_eq_true rfl, Nat.le_of_ble_eq_true rfl⟩) rfl (hG _ (List.mem_of_getElem? (i := 0) rfl)) (of10_0 _) (ce10 T ad _ _) rfl (st := []) rfl (Nat.le_of_ble_eq_true rfl) ⟨Nat.le_refl 0, Nat.le_refl 0⟩ dX12_minute_7 ?_
  intro r_ Y_ e_
  obtain ⟨rfl, rfl⟩ := Prod.mk.inj e_
  exact fw_iret C hrt Y4 (Option.some.inj h) (fun t ht => ht) dX12_minute_10
end
set_option maxRecDepth 100000 in
set_option maxHeartbeats 4000000 in
theorem c_X12_minute {l : Launch} {N0 : Nat} {T : Nat → ClassId} {D : va_G} {gr : List (Nat × Nat)} {ad : Nat → Nat → Nat → Nat} {Y : Mem} {res : Int32 × Mem} (hG : ∀ q ∈ [(10, 0)], q ∈ gr) (h : X12_minute Y = some res) : CI l yX12_minute wsX12_minute (Rm 1) N0 T D gr ad Y [.ref (ad 10 0 0)] (fun r Y1 => (r, Y1) = res) :=
  fw_body (by decide +kernel) rfl (Nat.le_of_ble_eq_true rfl) (fun p e s m below meth c C hrt => w_X12_minute C hrt hG  h)
noncomputable def X12_minutesToBurn_b85 (a1 : Int32) (Y : Mem) (l3 : Int32) (s0 : Int32) : Option (Int32 × Mem) :=
  bd1 (X12_copyBlock Y 9 0) <| fun Y19 => if s0 = 0 then (some ((-1), Y19)) else (some (l3, Y19))
noncomputable def X12_minutesToBurn_b69 (a1 : Int32) (Y : Mem) (l3 : Int32) (l2 : Int32) : Option (Int32 × Mem) :=
  bd1 (X12_of Y a1 22) <| fun r14 => if r14 ≤ l2 then (X12_minutesToBurn_b85 a1 Y l3 0) else (X12_minutesToBurn_b85 a1 Y l3 1)
noncomputable def X12_minutesToBurn_b41 (a1 : Int32) : Nat → Mem → Int32 → Int32 → Option (Int32 × Mem)
  | 0, _, _, _ => none
  | n+1, Y, l3, l2 =>
  if 500 ≤ l3 then (X12_minutesToBurn_b69 a1 Y l3 l2) else (bd1 (X12_of Y a1 22) <| fun r21 => if r21 = l2 then (bd1 (X12_passMinute Y) <| fun Y26 => X12_minutesToBurn_b41 a1 n Y26 (l3 + 1) l2) else (X12_minutesToBurn_b69 a1 Y l3 l2))
noncomputable def X12_minutesToBurn_b14 (a1 : Int32) (Y : Mem) (s0 : Int32) : Option (Int32 × Mem) :=
  bd2 (X12_fails Y s0 0 0) <| fun r4 Y6 => if r4 = 0 then (bd1 (X12_copyBlock Y6 0 9) <| fun Y10 => bd1 (X12_of Y10 a1 22) <| fun r11 => X12_minutesToBurn_b41 a1 FU Y10 0 r11) else (some (0, Y6))
noncomputable def X12_minutesToBurn (Y : Mem) (a1 : Int32) : Option (Int32 × Mem) :=
  bd1 (X12_isStep Y a1) <| fun r1 => if r1 = 0 then (X12_minutesToBurn_b14 a1 Y 1) else (X12_minutesToBurn_b14 a1 Y 0)
section
variable {p : Program} {l : Launch} {e : Env} {s : State} {m : MethodId} {below : List Frame} {meth : Method} {c : Code} {N0 : Nat} {T : Nat → ClassId} {D : va_G} {gr : List (Nat × Nat)} {ad : Nat → Nat → Nat → Nat}
set_option maxRecDepth 100000 in
set_option maxHeartbeats 4000000 in
theorem w_X12_minutesToBurn_b85 {a1 : Int32} (C : Cx p s m [.ref (ad 10 0 0), .int a1].toArray meth c cX12_minutesToBurn 5 wsX12_minutesToBurn RX12 N0 T D gr ad) (hrt : meth.sig.returnType = (some .int)) (hG : ∀ q ∈ [(10, 0)], q ∈ gr) {res : Int32 × Mem} (Y : Mem) (l3 : Int32) (s0 : Int32) (h : X12_minutesToBurn_b85 a1  Y l3 s0 = some res) : FW p l e (Rm 8) s m [.ref (ad 10 0 0), .int a1].toArray below meth c 5 N0 T D gr ad 0 0 (MQ below (va_Qi (fun r Y1 => (r, Y1) = res) (WB T D gr ad) (fun q => N0 ≤ q)) [.ref (ad 10 0 0), .int a1].toArray s 0 0 (fun q => N0 ≤ q)) Y 85 [(3, .int l3), (0, .ref (ad 10 0 0))] [.int s0] := by
  unfold X12_minutesToBurn_b85 at h
  refine fw_istore C dX12_minutesToBurn_85 (by decide) (L' := [(4, .int s0), (3, .int l3), (0, .ref (ad 10 0 0))]) rfl ?_
  refine fw_aload_n C dX12_minutesToBurn_87 rfl 2 rfl ?_
  refine fw_bipush C dX12_minutesToBurn_88 (v := 9) rfl ?_
  refine fw_iconst C dX12_minutesToBurn_90 (v := 0) rfl ?_
  obtain ⟨Y19, q18, h⟩ := bd1_some h
  refine fw_callVv C (ci := 10) (Cn := RX12) (Tc := TX12) (N := 19) (As := [.int 9, .int 0]) (c_X12_copyBlock (gac (hG _ (List.mem_of_getElem? (i := 0) rfl)) ga0) q18) (cwV 2 (cx_ts C) gX12_minutesToBurn_X12_copyBlock rfl rfl rfl (by decide +kernel) ⟨Nat.le_of_ble_eq_true rfl, Nat.le_of_ble_eq_true rfl⟩) rfl (hG _ (List.mem_of_getElem? (i := 0) rfl)) (of10_0 _) (ce10 T ad _ _) rfl (st := []) rfl (Nat.le_of_ble_eq_true rfl) ⟨Nat.le_refl 0, Nat.le_refl 0⟩ dX12_minutesToBurn_91 ?_
  rintro _ rfl
  refine fw_iload C dX12_minutesToBurn_94 0 rfl ?_
  refine fw_if_eq C dX12_minutesToBurn_96 (tgt := 103) rfl (fun c20 => ?_) (fun c20 => ?_)
  · have h := ite_t c20 h
    refine fw_iconst C dX12_minutesToBurn_103 (v := (-1)) rfl ?_
    exact fw_iret C hrt Y19 (Option.some.inj h) (fun t ht => ht) dX12_minutesToBurn_104
  · have h := ite_f c20 h
    refine fw_iload_n C dX12_minutesToBurn_99 rfl 1 rfl ?_
    refine fw_goto C dX12_minutesToBurn_100 (tgt := 104) rfl ?_
    exact fw_iret C hrt Y19 (Option.some.inj h) (fun t ht => ht) dX12_minutesToBurn_104
set_option maxRecDepth 100000 in
set_option maxHeartbeats 4000000 in
theorem w_X12_minutesToBurn_b69 {a1 : Int32} (C : Cx p s m [.ref (ad 10 0 0), .int a1].toArray meth c cX12_minutesToBurn 5 wsX12_minutesToBurn RX12 N0 T D gr ad) (hrt : meth.sig.returnType = (some .int)) (hG : ∀ q ∈ [(10, 0)], q ∈ gr) {res : Int32 × Mem} (Y : Mem) (l3 : Int32) (l2 : Int32) (h : X12_minutesToBurn_b69 a1  Y l3 l2 = some res) : FW p l e (Rm 8) s m [.ref (ad 10 0 0), .int a1].toArray below meth c 5 N0 T D gr ad 0 0 (MQ below (va_Qi (fun r Y1 => (r, Y1) = res) (WB T D gr ad) (fun q => N0 ≤ q)) [.ref (ad 10 0 0), .int a1].toArray s 0 0 (fun q => N0 ≤ q)) Y 69 [(3, .int l3), (2, .int l2), (0, .ref (ad 10 0 0)), (1, .int a1)] [] := by
  unfold X12_minutesToBurn_b69 at h
  refine fw_aload_n C dX12_minutesToBurn_69 rfl 2 rfl ?_
  refine fw_iload_n C dX12_minutesToBurn_70 rfl 3 rfl ?_
  refine fw_bipush C dX12_minutesToBurn_71 (v := 22) rfl ?_
  obtain ⟨r14, q15, h⟩ := bd1_some h
  refine fw_callVi C (ci := 10) (Cn := RX12) (Tc := TX12) (N := 19) (As := [.int a1, .int 22]) (c_X12_of (gac (hG _ (List.mem_of_getElem? (i := 0) rfl)) ga0) q15) (cwV 2 (cx_ts C) gX12_minutesToBurn_X12_of rfl rfl rfl (by decide +kernel) ⟨Nat.le_of_ble_eq_true rfl, Nat.le_of_ble_eq_true rfl⟩) rfl (hG _ (List.mem_of_getElem? (i := 0) rfl)) (of10_0 _) (ce10 T ad _ _) rfl (st := []) rfl (Nat.le_of_ble_eq_true rfl) ⟨Nat.le_refl 0, Nat.le_refl 0⟩ dX12_minutesToBurn_73 ?_
  rintro _ _ ⟨rfl, rfl⟩
  refine fw_iload_n C dX12_minutesToBurn_76 rfl 1 rfl ?_
  refine fw_icmp_le C dX12_minutesToBurn_77 (tgt := 84) rfl (fun c16 => ?_) (fun c16 => ?_)
  · have h := ite_t c16 h
    refine fw_iconst C dX12_minutesToBurn_84 (v := 0) rfl ?_
    refine fw_sub [0, 2] (L' := [(3, .int l3), (0, .ref (ad 10 0 0))]) rfl ?_
    exact w_X12_minutesToBurn_b85 C hrt hG   _ _ _ h
  · have h := ite_f c16 h
    refine fw_iconst C dX12_minutesToBurn_80 (v := 1) rfl ?_
    refine fw_goto C dX12_minutesToBurn_81 (tgt := 85) rfl ?_
    refine fw_sub [0, 2] (L' := [(3, .int l3), (0, .ref (ad 10 0 0))]) rfl ?_
    exact w_X12_minutesToBurn_b85 C hrt hG   _ _ _ h
set_option maxRecDepth 100000 in
set_option maxHeartbeats 4000000 in
theorem w_X12_minutesToBurn_b41 {a1 : Int32} (C : Cx p s m [.ref (ad 10 0 0), .int a1].toArray meth c cX12_minutesToBurn 5 wsX12_minutesToBurn RX12 N0 T D gr ad) (hrt : meth.sig.returnType = (some .int)) (hG : ∀ q ∈ [(10, 0)], q ∈ gr) {res : Int32 × Mem} : ∀ (n : Nat) (Y : Mem) (l3 : Int32) (l2 : Int32), X12_minutesToBurn_b41 a1  n Y l3 l2 = some res → FW p l e (Rm 8) s m [.ref (ad 10 0 0), .int a1].toArray below meth c 5 N0 T D gr ad 0 0 (MQ below (va_Qi (fun r Y1 => (r, Y1) = res) (WB T D gr ad) (fun q => N0 ≤ q)) [.ref (ad 10 0 0), .int a1].toArray s 0 0 (fun q => N0 ≤ q)) Y 41 [(3, .int l3), (2, .int l2), (0, .ref (ad 10 0 0)), (1, .int a1)] [] := by
  intro n
  induction n with
  | zero =>
    intro Y l3 l2 h
    unfold X12_minutesToBurn_b41 at h
    cases h
  | succ n ih =>
    intro Y l3 l2 h
    unfold X12_minutesToBurn_b41 at h
    refine fw_iload_n C dX12_minutesToBurn_41 rfl 0 rfl ?_
    refine fw_sipush C dX12_minutesToBurn_42 (v := 500) rfl ?_
    refine fw_icmp_ge C dX12_minutesToBurn_45 (tgt := 69) rfl (fun c13 => ?_) (fun c13 => ?_)
    · have h := ite_t c13 h
      exact w_X12_minutesToBurn_b69 C hrt hG   _ _ _ h
    · have h := ite_f c13 h
      refine fw_aload_n C dX12_minutesToBurn_48 rfl 2 rfl ?_
      refine fw_iload_n C dX12_minutesToBurn_49 rfl 3 rfl ?_
      refine fw_bipush C dX12_minutesToBurn_50 (v := 22) rfl ?_
      obtain ⟨r21, q22, h⟩ := bd1_some h
      refine fw_callVi C (ci := 10) (Cn := RX12) (Tc := TX12) (N := 19) (As := [.int a1, .int 22]) (c_X12_of (gac (hG _ (List.mem_of_getElem? (i := 0) rfl)) ga0) q22) (cwV 2 (cx_ts C) gX12_minutesToBurn_X12_of rfl rfl rfl (by decide +kernel) ⟨Nat.le_of_ble_eq_true rfl, Nat.le_of_ble_eq_true rfl⟩) rfl (hG _ (List.mem_of_getElem? (i := 0) rfl)) (of10_0 _) (ce10 T ad _ _) rfl (st := []) rfl (Nat.le_of_ble_eq_true rfl) ⟨Nat.le_refl 0, Nat.le_refl 0⟩ dX12_minutesToBurn_52 ?_
      rintro _ _ ⟨rfl, rfl⟩
      refine fw_iload_n C dX12_minutesToBurn_55 rfl 1 rfl ?_
      refine fw_icmp_ne C dX12_minutesToBurn_56 (tgt := 69) rfl (fun c23 => ?_) (fun c23 => ?_)
      · have h := ite_f c23 h
        exact w_X12_minutesToBurn_b69 C hrt hG   _ _ _ h
      · have h := ite_t c23 h
        refine fw_aload_n C dX12_minutesToBurn_59 rfl 2 rfl ?_
        obtain ⟨Y26, q25, h⟩ := bd1_some h
        refine fw_callVv C (ci := 10) (Cn := RX12) (Tc := TX12) (N := 19) (As := []) (c_X12_passMinute (gac (hG _ (List.mem_of_getElem? (i := 0) rfl)) ga0) q25) (cwV 0 (cx_ts C) gX12_minutesToBurn_X12_passMinute rfl rfl rfl (by decide +kernel) ⟨Nat.le_of_ble_eq_true rfl, Nat.le_of_ble_eq_true rfl⟩) rfl (hG _ (List.mem_of_getElem? (i := 0) rfl)) (of10_0 _) (ce10 T ad _ _) rfl (st := []) rfl (Nat.le_of_ble_eq_true rfl) ⟨Nat.le_refl 0, Nat.le_refl 0⟩ dX12_minutesToBurn_60 ?_
        rintro _ rfl
        refine fw_iinc C dX12_minutesToBurn_63 (kk := 0) (v := l3 + 1) rfl rfl (by decide) (L' := [(3, .int (l3 + 1)), (2, .int l2), (0, .ref (ad 10 0 0)), (1, .int a1)]) rfl ?_
        refine fw_goto C dX12_minutesToBurn_66 (tgt := 41) rfl ?_
        exact ih _ _ _ h
set_option maxRecDepth 100000 in
set_option maxHeartbeats 4000000 in
theorem w_X12_minutesToBurn_b14 {a1 : Int32} (C : Cx p s m [.ref (ad 10 0 0), .int a1].toArray meth c cX12_minutesToBurn 5 wsX12_minutesToBurn RX12 N0 T D gr ad) (hrt : meth.sig.returnType = (some .int)) (hG : ∀ q ∈ [(10, 0)], q ∈ gr) {res : Int32 × Mem} (Y : Mem) (s0 : Int32) (h : X12_minutesToBurn_b14 a1  Y s0 = some res) : FW p l e (Rm 8) s m [.ref (ad 10 0 0), .int a1].toArray below meth c 5 N0 T D gr ad 0 0 (MQ below (va_Qi (fun r Y1 => (r, Y1) = res) (WB T D gr ad) (fun q => N0 ≤ q)) [.ref (ad 10 0 0), .int a1].toArray s 0 0 (fun q => N0 ≤ q)) Y 14 [(0, .ref (ad 10 0 0)), (1, .int a1)] [.int s0, .ref (ad 10 0 0)] := by
  unfold X12_minutesToBurn_b14 at h
  refine fw_iconst C dX12_minutesToBurn_14 (v := 0) rfl ?_
  refine fw_iconst C dX12_minutesToBurn_15 (v := 0) rfl ?_
  obtain ⟨r4, Y6, q5, h⟩ := bd2_some h
  refine fw_callVi C (ci := 10) (Cn := RX12) (Tc := TX12) (N := 19) (As := [.int s0, .int 0, .int 0]) (c_X12_fails (gac (hG _ (List.mem_of_getElem? (i := 0) rfl)) ga0) q5) (cwV 3 (cx_ts C) gX12_minutesToBurn_X12_fails rfl rfl rfl (by decide +kernel) ⟨Nat.le_of_ble_eq_true rfl, Nat.le_of_ble_eq_true rfl⟩) rfl (hG _ (List.mem_of_getElem? (i := 0) rfl)) (of10_0 _) (ce10 T ad _ _) rfl (st := []) rfl (Nat.le_of_ble_eq_true rfl) ⟨Nat.le_refl 0, Nat.le_refl 0⟩ dX12_minutesToBurn_16 ?_
  intro r_ Y_ e_
  obtain ⟨rfl, rfl⟩ := Prod.mk.inj e_
  refine fw_if_eq C dX12_minutesToBurn_19 (tgt := 24) rfl (fun c7 => ?_) (fun c7 => ?_)
  · have h := ite_t c7 h
    refine fw_aload_n C dX12_minutesToBurn_24 rfl 0 rfl ?_
    refine fw_iconst C dX12_minutesToBurn_25 (v := 0) rfl ?_
    refine fw_bipush C dX12_minutesToBurn_26 (v := 9) rfl ?_
    obtain ⟨Y10, q9, h⟩ := bd1_some h
    refine fw_callVv C (ci := 10) (Cn := RX12) (Tc := TX12) (N := 19) (As := [.int 0, .int 9]) (c_X12_copyBlock (gac (hG _ (List.mem_of_getElem? (i := 0) rfl)) ga0) q9) (cwV 2 (cx_ts C) gX12_minutesToBurn_X12_copyBlock rfl rfl rfl (by decide +kernel) ⟨Nat.le_of_ble_eq_true rfl, Nat.le_of_ble_eq_true rfl⟩) rfl (hG _ (List.mem_of_getElem? (i := 0) rfl)) (of10_0 _) (ce10 T ad _ _) rfl (st := []) rfl (Nat.le_of_ble_eq_true rfl) ⟨Nat.le_refl 0, Nat.le_refl 0⟩ dX12_minutesToBurn_28 ?_
    rintro _ rfl
    refine fw_aload_n C dX12_minutesToBurn_31 rfl 0 rfl ?_
    refine fw_iload_n C dX12_minutesToBurn_32 rfl 1 rfl ?_
    refine fw_bipush C dX12_minutesToBurn_33 (v := 22) rfl ?_
    obtain ⟨r11, q12, h⟩ := bd1_some h
    refine fw_callVi C (ci := 10) (Cn := RX12) (Tc := TX12) (N := 19) (As := [.int a1, .int 22]) (c_X12_of (gac (hG _ (List.mem_of_getElem? (i := 0) rfl)) ga0) q12) (cwV 2 (cx_ts C) gX12_minutesToBurn_X12_of rfl rfl rfl (by decide +kernel) ⟨Nat.le_of_ble_eq_true rfl, Nat.le_of_ble_eq_true rfl⟩) rfl (hG _ (List.mem_of_getElem? (i := 0) rfl)) (of10_0 _) (ce10 T ad _ _) rfl (st := []) rfl (Nat.le_of_ble_eq_true rfl) ⟨Nat.le_refl 0, Nat.le_refl 0⟩ dX12_minutesToBurn_35 ?_
    rintro _ _ ⟨rfl, rfl⟩
    refine fw_istore_n C dX12_minutesToBurn_38 rfl (by decide) (L' := [(2, .int r11), (0, .ref (ad 10 0 0)), (1, .int a1)]) rfl ?_
    refine fw_iconst C dX12_minutesToBurn_39 (v := 0) rfl ?_
    refine fw_istore_n C dX12_minutesToBurn_40 rfl (by decide) (L' := [(3, .int 0), (2, .int r11), (0, .ref (ad 10 0 0)), (1, .int a1)]) rfl ?_
    exact w_X12_minutesToBurn_b41 C hrt hG   _ _ _ _ h
  · have h := ite_f c7 h
    refine fw_iconst C dX12_minutesToBurn_22 (v := 0) rfl ?_
    exact fw_iret C hrt Y6 (Option.some.inj h) (fun t ht => ht) dX12_minutesToBurn_23
set_option maxRecDepth 100000 in
set_option maxHeartbeats 4000000 in
theorem w_X12_minutesToBurn {Y : Mem} {a1 : Int32} (C : Cx p s m [.ref (ad 10 0 0), .int a1].toArray meth c cX12_minutesToBurn 5 wsX12_minutesToBurn RX12 N0 T D gr ad) (hrt : meth.sig.returnType = (some .int)) (hG : ∀ q ∈ [(10, 0)], q ∈ gr) {res : Int32 × Mem} (h : X12_minutesToBurn Y a1 = some res) : FW p l e (Rm 8) s m [.ref (ad 10 0 0), .int a1].toArray below meth c 5 N0 T D gr ad 0 0 (MQ below (va_Qi (fun r Y1 => (r, Y1) = res) (WB T D gr ad) (fun q => N0 ≤ q)) [.ref (ad 10 0 0), .int a1].toArray s 0 0 (fun q => N0 ≤ q)) Y 0 [(0, .ref (ad 10 0 0)), (1, .int a1)] [] := by
  unfold X12_minutesToBurn at h
  refine fw_aload_n C dX12_minutesToBurn_0 rfl 0 rfl ?_
  refine fw_aload_n C dX12_minutesToBurn_1 rfl 0 rfl ?_
  refine fw_iload_n C dX12_minutesToBurn_2 rfl 1 rfl ?_
  obtain ⟨r1, q2, h⟩ := bd1_some h
  refine fw_callVi C (ci := 10) (Cn := RX12) (Tc := TX12) (N := 19) (As := [.int a1]) (c_X12_isStep (gac (hG _ (List.mem_of_getElem? (i := 0) rfl)) ga0) q2) (cwV 1 (cx_ts C) gX12_minutesToBurn_X12_isStep rfl rfl rfl (by decide +kernel) ⟨Nat.le_of_ble_eq_true rfl, Nat.le_of_ble_eq_true rfl⟩) rfl (hG _ (List.mem_of_getElem? (i := 0) rfl)) (of10_0 _) (ce10 T ad _ _) rfl (st := [.ref (ad 10 0 0)]) rfl (Nat.le_of_ble_eq_true rfl) ⟨Nat.le_refl 0, Nat.le_refl 0⟩ dX12_minutesToBurn_3 ?_
  rintro _ _ ⟨rfl, rfl⟩
  refine fw_if_ne C dX12_minutesToBurn_6 (tgt := 13) rfl (fun c3 => ?_) (fun c3 => ?_)
  · have h := ite_f c3 h
    refine fw_iconst C dX12_minutesToBurn_13 (v := 0) rfl ?_
    exact w_X12_minutesToBurn_b14 C hrt hG   _ _ h
  · have h := ite_t c3 h
    refine fw_iconst C dX12_minutesToBurn_9 (v := 1) rfl ?_
    refine fw_goto C dX12_minutesToBurn_10 (tgt := 14) rfl ?_
    exact w_X12_minutesToBurn_b14 C hrt hG   _ _ h
end
set_option maxRecDepth 100000 in
set_option maxHeartbeats 4000000 in
theorem c_X12_minutesToBurn {l : Launch} {N0 : Nat} {T : Nat → ClassId} {D : va_G} {gr : List (Nat × Nat)} {ad : Nat → Nat → Nat → Nat} {Y : Mem} {a1 : Int32} {res : Int32 × Mem} (hG : ∀ q ∈ [(10, 0)], q ∈ gr) (h : X12_minutesToBurn Y a1 = some res) : CI l yX12_minutesToBurn wsX12_minutesToBurn (Rm 8) N0 T D gr ad Y [.ref (ad 10 0 0), .int a1] (fun r Y1 => (r, Y1) = res) :=
  fw_body (by decide +kernel) rfl (Nat.le_of_ble_eq_true rfl) (fun p e s m below meth c C hrt => w_X12_minutesToBurn C hrt hG  h)
theorem ly_X12_minutesToFinish_12 : ∀ w ∈ u_ws RX12 TX12 19, w ∈ wsX12_minutesToFinish := by decide +kernel
theorem fl_X12_minutesToFinish_1 : Cond.fieldLink RX12 1 "RecipeSchedulerModel" "thrown" "I" ∈ wsX12_minutesToFinish := by decide +kernel
noncomputable def X12_minutesToFinish (Y : Mem) : Option (Int32 × Mem) :=
  lt_ (up Y 10 0 0 9 0) <| fun Y1 => bd1 (X12_copyBlock Y1 0 9) <| fun Y5 => bd2 (X12_simulate Y5) <| fun r6 Y8 => bd1 (X12_copyBlock Y8 9 0) <| fun Y11 => some (r6, Y11)
section
variable {p : Program} {l : Launch} {e : Env} {s : State} {m : MethodId} {below : List Frame} {meth : Method} {c : Code} {N0 : Nat} {T : Nat → ClassId} {D : va_G} {gr : List (Nat × Nat)} {ad : Nat → Nat → Nat → Nat}
set_option maxRecDepth 100000 in
set_option maxHeartbeats 4000000 in
theorem w_X12_minutesToFinish {Y : Mem} (C : Cx p s m [.ref (ad 10 0 0)].toArray meth c cX12_minutesToFinish 2 wsX12_minutesToFinish RX12 N0 T D gr ad) (hrt : meth.sig.returnType = (some .int)) (hG : ∀ q ∈ [(10, 0)], q ∈ gr) {res : Int32 × Mem} (h : X12_minutesToFinish Y = some res) : FW p l e (Rm 9) s m [.ref (ad 10 0 0)].toArray below meth c 2 N0 T D gr ad 0 0 (MQ below (va_Qi (fun r Y1 => (r, Y1) = res) (WB T D gr ad) (fun q => N0 ≤ q)) [.ref (ad 10 0 0)].toArray s 0 0 (fun q => N0 ≤ q)) Y 0 [(0, .ref (ad 10 0 0))] [] := by
  unfold X12_minutesToFinish at h
  refine fw_aload_n C dX12_minutesToFinish_0 rfl 0 rfl ?_
  refine fw_iconst C dX12_minutesToFinish_1 (v := 0) rfl ?_
  obtain ⟨Y1, e2, h⟩ := lt_some h
  refine fw_put C (ci := 10) (Cn := RX12) (Tc := TX12) (N := 19) (j := 9) (ty := .int) (upd (Y 10 0 0) 9 0) ly_X12_minutesToFinish_12 rfl tyX12_ok nmX12 (hG _ (List.mem_of_getElem? (i := 0) rfl)) (of10_0 _) (ce10 T ad _ _) (by decide) (cx_ts C _ fl_X12_minutesToFinish_1) (fun _ h => h) rfl (by decide +kernel) rfl rfl (by decide) (ce10_put9 T ad _ _ _) dX12_minutesToFinish_2 ?_
  refine fw_mem ((up_eq _ _ _ _ _ _).symm.trans e2) ?_
  refine fw_aload_n C dX12_minutesToFinish_5 rfl 0 rfl ?_
  refine fw_iconst C dX12_minutesToFinish_6 (v := 0) rfl ?_
  refine fw_bipush C dX12_minutesToFinish_7 (v := 9) rfl ?_
  obtain ⟨Y5, q4, h⟩ := bd1_some h
  refine fw_callVv C (ci := 10) (Cn := RX12) (Tc := TX12) (N := 19) (As := [.int 0, .int 9]) (c_X12_copyBlock (gac (hG _ (List.mem_of_getElem? (i := 0) rfl)) ga0) q4) (cwV 2 (cx_ts C) gX12_minutesToFinish_X12_copyBlock rfl rfl rfl (by decide +kernel) ⟨Nat.le_of_ble_eq_true rfl, Nat.le_of_ble_eq_true rfl⟩) rfl (hG _ (List.mem_of_getElem? (i := 0) rfl)) (of10_0 _) (ce10 T ad _ _) rfl (st := []) rfl (Nat.le_of_ble_eq_true rfl) ⟨Nat.le_refl 0, Nat.le_refl 0⟩ dX12_minutesToFinish_9 ?_
  rintro _ rfl
  refine fw_aload_n C dX12_minutesToFinish_12 rfl 0 rfl ?_
  obtain ⟨r6, Y8, q7, h⟩ := bd2_some h
  refine fw_callVi C (ci := 10) (Cn := RX12) (Tc := TX12) (N := 19) (As := []) (c_X12_simulate (gac (hG _ (List.mem_of_getElem? (i := 0) rfl)) ga0) q7) (cwV 0 (cx_ts C) gX12_minutesToFinish_X12_simulate rfl rfl rfl (by decide +kernel) ⟨Nat.le_of_ble_eq_true rfl, Nat.le_of_ble_eq_true rfl⟩) rfl (hG _ (List.mem_of_getElem? (i := 0) rfl)) (of10_0 _) (ce10 T ad _ _) rfl (st := []) rfl (Nat.le_of_ble_eq_true rfl) ⟨Nat.le_refl 0, Nat.le_refl 0⟩ dX12_minutesToFinish_13 ?_
  intro r_ Y_ e_
  obtain ⟨rfl, rfl⟩ := Prod.mk.inj e_
  refine fw_istore_n C dX12_minutesToFinish_16 rfl (by decide) (L' := [(1, .int r6), (0, .ref (ad 10 0 0))]) rfl ?_
  refine fw_aload_n C dX12_minutesToFinish_17 rfl 1 rfl ?_
  refine fw_bipush C dX12_minutesToFinish_18 (v := 9) rfl ?_
  refine fw_iconst C dX12_minutesToFinish_20 (v := 0) rfl ?_
  obtain ⟨Y11, q10, h⟩ := bd1_some h
  refine fw_callVv C (ci := 10) (Cn := RX12) (Tc := TX12) (N := 19) (As := [.int 9, .int 0]) (c_X12_copyBlock (gac (hG _ (List.mem_of_getElem? (i := 0) rfl)) ga0) q10) (cwV 2 (cx_ts C) gX12_minutesToFinish_X12_copyBlock rfl rfl rfl (by decide +kernel) ⟨Nat.le_of_ble_eq_true rfl, Nat.le_of_ble_eq_true rfl⟩) rfl (hG _ (List.mem_of_getElem? (i := 0) rfl)) (of10_0 _) (ce10 T ad _ _) rfl (st := []) rfl (Nat.le_of_ble_eq_true rfl) ⟨Nat.le_refl 0, Nat.le_refl 0⟩ dX12_minutesToFinish_21 ?_
  rintro _ rfl
  refine fw_iload_n C dX12_minutesToFinish_24 rfl 0 rfl ?_
  exact fw_iret C hrt Y11 (Option.some.inj h) (fun t ht => ht) dX12_minutesToFinish_25
end
set_option maxRecDepth 100000 in
set_option maxHeartbeats 4000000 in
theorem c_X12_minutesToFinish {l : Launch} {N0 : Nat} {T : Nat → ClassId} {D : va_G} {gr : List (Nat × Nat)} {ad : Nat → Nat → Nat → Nat} {Y : Mem} {res : Int32 × Mem} (hG : ∀ q ∈ [(10, 0)], q ∈ gr) (h : X12_minutesToFinish Y = some res) : CI l yX12_minutesToFinish wsX12_minutesToFinish (Rm 9) N0 T D gr ad Y [.ref (ad 10 0 0)] (fun r Y1 => (r, Y1) = res) :=
  fw_body (by decide +kernel) rfl (Nat.le_of_ble_eq_true rfl) (fun p e s m below meth c C hrt => w_X12_minutesToFinish C hrt hG  h)
noncomputable def X12_minutesWithCooks_b15 (a1 : Int32) (Y : Mem) (s0 : Int32) : Option (Int32 × Mem) :=
  bd2 (X12_fails Y s0 0 0) <| fun r4 Y6 => if r4 = 0 then (bd2 (X12_finishWith Y6 a1) <| fun r8 Y10 => some (r8, Y10)) else (some (0, Y6))
noncomputable def X12_minutesWithCooks (Y : Mem) (a1 : Int32) : Option (Int32 × Mem) :=
  bd1 (X12_in Y a1 1 4) <| fun r1 => if r1 = 0 then (X12_minutesWithCooks_b15 a1 Y 1) else (X12_minutesWithCooks_b15 a1 Y 0)
section
variable {p : Program} {l : Launch} {e : Env} {s : State} {m : MethodId} {below : List Frame} {meth : Method} {c : Code} {N0 : Nat} {T : Nat → ClassId} {D : va_G} {gr : List (Nat × Nat)} {ad : Nat → Nat → Nat → Nat}
set_option maxRecDepth 100000 in
set_option maxHeartbeats 4000000 in
theorem w_X12_minutesWithCooks_b15 {a1 : Int32} (C : Cx p s m [.ref (ad 10 0 0), .int a1].toArray meth c cX12_minutesWithCooks 2 wsX12_minutesWithCooks RX12 N0 T D gr ad) (hrt : meth.sig.returnType = (some .int)) (hG : ∀ q ∈ [(10, 0)], q ∈ gr) {res : Int32 × Mem} (Y : Mem) (s0 : Int32) (h : X12_minutesWithCooks_b15 a1  Y s0 = some res) : FW p l e (Rm 10) s m [.ref (ad 10 0 0), .int a1].toArray below meth c 2 N0 T D gr ad 0 0 (MQ below (va_Qi (fun r Y1 => (r, Y1) = res) (WB T D gr ad) (fun q => N0 ≤ q)) [.ref (ad 10 0 0), .int a1].toArray s 0 0 (fun q => N0 ≤ q)) Y 15 [(0, .ref (ad 10 0 0)), (1, .int a1)] [.int s0, .ref (ad 10 0 0)] := by
  unfold X12_minutesWithCooks_b15 at h
  refine fw_iconst C dX12_minutesWithCooks_15 (v := 0) rfl ?_
  refine fw_iconst C dX12_minutesWithCooks_16 (v := 0) rfl ?_
  obtain ⟨r4, Y6, q5, h⟩ := bd2_some h
  refine fw_callVi C (ci := 10) (Cn := RX12) (Tc := TX12) (N := 19) (As := [.int s0, .int 0, .int 0]) (c_X12_fails (gac (hG _ (List.mem_of_getElem? (i := 0) rfl)) ga0) q5) (cwV 3 (cx_ts C) gX12_minutesWithCooks_X12_fails rfl rfl rfl (by decide +kernel) ⟨Nat.le_of_ble_eq_true rfl, Nat.le_of_ble_eq_true rfl⟩) rfl (hG _ (List.mem_of_getElem? (i := 0) rfl)) (of10_0 _) (ce10 T ad _ _) rfl (st := []) rfl (Nat.le_of_ble_eq_true rfl) ⟨Nat.le_refl 0, Nat.le_refl 0⟩ dX12_minutesWithCooks_17 ?_
  intro r_ Y_ e_
  obtain ⟨rfl, rfl⟩ := Prod.mk.inj e_
  refine fw_if_eq C dX12_minutesWithCooks_20 (tgt := 25) rfl (fun c7 => ?_) (fun c7 => ?_)
  · have h := ite_t c7 h
    refine fw_aload_n C dX12_minutesWithCooks_25 rfl 0 rfl ?_
    refine fw_iload_n C dX12_minutesWithCooks_26 rfl 1 rfl ?_
    obtain ⟨r8, Y10, q9, h⟩ := bd2_some h
    refine fw_callVi C (ci := 10) (Cn := RX12) (Tc := TX12) (N := 19) (As := [.int a1]) (c_X12_finishWith (gac (hG _ (List.mem_of_getElem? (i := 0) rfl)) ga0) q9) (cwV 1 (cx_ts C) gX12_minutesWithCooks_X12_finishWith rfl rfl rfl (by decide +kernel) ⟨Nat.le_of_ble_eq_true rfl, Nat.le_of_ble_eq_true rfl⟩) rfl (hG _ (List.mem_of_getElem? (i := 0) rfl)) (of10_0 _) (ce10 T ad _ _) rfl (st := []) rfl (Nat.le_of_ble_eq_true rfl) ⟨Nat.le_refl 0, Nat.le_refl 0⟩ dX12_minutesWithCooks_27 ?_
    intro r_ Y_ e_
    obtain ⟨rfl, rfl⟩ := Prod.mk.inj e_
    exact fw_iret C hrt Y10 (Option.some.inj h) (fun t ht => ht) dX12_minutesWithCooks_30
  · have h := ite_f c7 h
    refine fw_iconst C dX12_minutesWithCooks_23 (v := 0) rfl ?_
    exact fw_iret C hrt Y6 (Option.some.inj h) (fun t ht => ht) dX12_minutesWithCooks_24
set_option maxRecDepth 100000 in
set_option maxHeartbeats 4000000 in
theorem w_X12_minutesWithCooks {Y : Mem} {a1 : Int32} (C : Cx p s m [.ref (ad 10 0 0), .int a1].toArray meth c cX12_minutesWithCooks 2 wsX12_minutesWithCooks RX12 N0 T D gr ad) (hrt : meth.sig.returnType = (some .int)) (hG : ∀ q ∈ [(10, 0)], q ∈ gr) {res : Int32 × Mem} (h : X12_minutesWithCooks Y a1 = some res) : FW p l e (Rm 10) s m [.ref (ad 10 0 0), .int a1].toArray below meth c 2 N0 T D gr ad 0 0 (MQ below (va_Qi (fun r Y1 => (r, Y1) = res) (WB T D gr ad) (fun q => N0 ≤ q)) [.ref (ad 10 0 0), .int a1].toArray s 0 0 (fun q => N0 ≤ q)) Y 0 [(0, .ref (ad 10 0 0)), (1, .int a1)] [] := by
  unfold X12_minutesWithCooks at h
  refine fw_aload_n C dX12_minutesWithCooks_0 rfl 0 rfl ?_
  refine fw_iload_n C dX12_minutesWithCooks_1 rfl 1 rfl ?_
  refine fw_iconst C dX12_minutesWithCooks_2 (v := 1) rfl ?_
  refine fw_iconst C dX12_minutesWithCooks_3 (v := 4) rfl ?_
  obtain ⟨r1, q2, h⟩ := bd1_some h
  refine fw_callSi C (As := [.int a1, .int 1, .int 4]) (c_X12_in ga0 q2) (va_cwS 3 (cx_ts C) gX12_minutesWithCooks_X12_in rfl rfl rfl (by decide +kernel) ⟨Nat.le_of_ble_eq_true rfl, Nat.le_of_ble_eq_true rfl⟩) rfl (st := [.ref (ad 10 0 0)]) rfl (Nat.le_of_ble_eq_true rfl) ⟨Nat.le_refl 0, Nat.le_refl 0⟩ dX12_minutesWithCooks_4 ?_
  rintro _ _ ⟨rfl, rfl⟩
  refine fw_if_ne C dX12_minutesWithCooks_7 (tgt := 14) rfl (fun c3 => ?_) (fun c3 => ?_)
  · have h := ite_f c3 h
    refine fw_iconst C dX12_minutesWithCooks_14 (v := 0) rfl ?_
    exact w_X12_minutesWithCooks_b15 C hrt hG   _ _ h
  · have h := ite_t c3 h
    refine fw_iconst C dX12_minutesWithCooks_10 (v := 1) rfl ?_
    refine fw_goto C dX12_minutesWithCooks_11 (tgt := 15) rfl ?_
    exact w_X12_minutesWithCooks_b15 C hrt hG   _ _ h
end
set_option maxRecDepth 100000 in
set_option maxHeartbeats 4000000 in
theorem c_X12_minutesWithCooks {l : Launch} {N0 : Nat} {T : Nat → ClassId} {D : va_G} {gr : List (Nat × Nat)} {ad : Nat → Nat → Nat → Nat} {Y : Mem} {a1 : Int32} {res : Int32 × Mem} (hG : ∀ q ∈ [(10, 0)], q ∈ gr) (h : X12_minutesWithCooks Y a1 = some res) : CI l yX12_minutesWithCooks wsX12_minutesWithCooks (Rm 10) N0 T D gr ad Y [.ref (ad 10 0 0), .int a1] (fun r Y1 => (r, Y1) = res) :=
  fw_body (by decide +kernel) rfl (Nat.le_of_ble_eq_true rfl) (fun p e s m below meth c C hrt => w_X12_minutesWithCooks C hrt hG  h)
noncomputable def X12_nameLetter_b42 (a1 : Int32) (a2 : Int32) (Y : Mem) (s0 : Int32) : Option (Int32 × Mem) :=
  bd2 (X12_fails Y s0 0 0) <| fun r4 Y6 => if r4 = 0 then (bd1 (X12_of Y6 a1 (1 + a2)) <| fun r8 => some (r8, Y6)) else (some (0, Y6))
noncomputable def X12_nameLetter_b37 (a1 : Int32) (a2 : Int32) (Y : Mem) : Option (Int32 × Mem) :=
  X12_nameLetter_b42 a1 a2 Y 1
noncomputable def X12_nameLetter_b25 (a1 : Int32) (a2 : Int32) (Y : Mem) (s0 : Int32) (s2 : Int32) (s3 : Int32) : Option (Int32 × Mem) :=
  bd1 (X12_of Y s0 0) <| fun r13 => bd1 (X12_in Y s3 s2 (r13 - 1)) <| fun r15 => if r15 = 0 then (X12_nameLetter_b37 a1 a2 Y) else (X12_nameLetter_b42 a1 a2 Y 0)
noncomputable def X12_nameLetter (Y : Mem) (a1 : Int32) (a2 : Int32) : Option (Int32 × Mem) :=
  bd1 (X12_isStep Y a1) <| fun r1 => if r1 = 0 then (X12_nameLetter_b37 a1 a2 Y) else (bd1 (X12_isStep Y a1) <| fun r10 => if r10 = 0 then (X12_nameLetter_b25 a1 a2 Y 0 0 a2) else (X12_nameLetter_b25 a1 a2 Y a1 0 a2))
section
variable {p : Program} {l : Launch} {e : Env} {s : State} {m : MethodId} {below : List Frame} {meth : Method} {c : Code} {N0 : Nat} {T : Nat → ClassId} {D : va_G} {gr : List (Nat × Nat)} {ad : Nat → Nat → Nat → Nat}
set_option maxRecDepth 100000 in
set_option maxHeartbeats 4000000 in
theorem w_X12_nameLetter_b42 {a1 : Int32} {a2 : Int32} (C : Cx p s m [.ref (ad 10 0 0), .int a1, .int a2].toArray meth c cX12_nameLetter 3 wsX12_nameLetter RX12 N0 T D gr ad) (hrt : meth.sig.returnType = (some .int)) (hG : ∀ q ∈ [(10, 0)], q ∈ gr) {res : Int32 × Mem} (Y : Mem) (s0 : Int32) (h : X12_nameLetter_b42 a1 a2  Y s0 = some res) : FW p l e (Rm 2) s m [.ref (ad 10 0 0), .int a1, .int a2].toArray below meth c 3 N0 T D gr ad 0 0 (MQ below (va_Qi (fun r Y1 => (r, Y1) = res) (WB T D gr ad) (fun q => N0 ≤ q)) [.ref (ad 10 0 0), .int a1, .int a2].toArray s 0 0 (fun q => N0 ≤ q)) Y 42 [(0, .ref (ad 10 0 0)), (1, .int a1), (2, .int a2)] [.int s0, .ref (ad 10 0 0)] := by
  unfold X12_nameLetter_b42 at h
  refine fw_iconst C dX12_nameLetter_42 (v := 0) rfl ?_
  refine fw_iconst C dX12_nameLetter_43 (v := 0) rfl ?_
  obtain ⟨r4, Y6, q5, h⟩ := bd2_some h
  refine fw_callVi C (ci := 10) (Cn := RX12) (Tc := TX12) (N := 19) (As := [.int s0, .int 0, .int 0]) (c_X12_fails (gac (hG _ (List.mem_of_getElem? (i := 0) rfl)) ga0) q5) (cwV 3 (cx_ts C) gX12_nameLetter_X12_fails rfl rfl rfl (by decide +kernel) ⟨Nat.le_of_ble_eq_true rfl, Nat.le_of_ble_eq_true rfl⟩) rfl (hG _ (List.mem_of_getElem? (i := 0) rfl)) (of10_0 _) (ce10 T ad _ _) rfl (st := []) rfl (Nat.le_of_ble_eq_true rfl) ⟨Nat.le_refl 0, Nat.le_refl 0⟩ dX12_nameLetter_44 ?_
  intro r_ Y_ e_
  obtain ⟨rfl, rfl⟩ := Prod.mk.inj e_
  refine fw_if_eq C dX12_nameLetter_47 (tgt := 52) rfl (fun c7 => ?_) (fun c7 => ?_)
  · have h := ite_t c7 h
    refine fw_aload_n C dX12_nameLetter_52 rfl 0 rfl ?_
    refine fw_iload_n C dX12_nameLetter_53 rfl 1 rfl ?_
    refine fw_iconst C dX12_nameLetter_54 (v := 1) rfl ?_
    refine fw_iload_n C dX12_nameLetter_55 rfl 2 rfl ?_
    refine fw_iadd C dX12_nameLetter_56 ?_
    obtain ⟨r8, q9, h⟩ := bd1_some h
    refine fw_callVi C (ci := 10) (Cn := RX12) (Tc := TX12) (N := 19) (As := [.int a1, .int (1 + a2)]) (c_X12_of (gac (hG _ (List.mem_of_getElem? (i := 0) rfl)) ga0) q9) (cwV 2 (cx_ts C) gX12_nameLetter_X12_of rfl rfl rfl (by decide +kernel) ⟨Nat.le_of_ble_eq_true rfl, Nat.le_of_ble_eq_true rfl⟩) rfl (hG _ (List.mem_of_getElem? (i := 0) rfl)) (of10_0 _) (ce10 T ad _ _) rfl (st := []) rfl (Nat.le_of_ble_eq_true rfl) ⟨Nat.le_refl 0, Nat.le_refl 0⟩ dX12_nameLetter_57 ?_
    rintro _ _ ⟨rfl, rfl⟩
    exact fw_iret C hrt Y6 (Option.some.inj h) (fun t ht => ht) dX12_nameLetter_60
  · have h := ite_f c7 h
    refine fw_iconst C dX12_nameLetter_50 (v := 0) rfl ?_
    exact fw_iret C hrt Y6 (Option.some.inj h) (fun t ht => ht) dX12_nameLetter_51
set_option maxRecDepth 100000 in
set_option maxHeartbeats 4000000 in
theorem w_X12_nameLetter_b37 {a1 : Int32} {a2 : Int32} (C : Cx p s m [.ref (ad 10 0 0), .int a1, .int a2].toArray meth c cX12_nameLetter 3 wsX12_nameLetter RX12 N0 T D gr ad) (hrt : meth.sig.returnType = (some .int)) (hG : ∀ q ∈ [(10, 0)], q ∈ gr) {res : Int32 × Mem} (Y : Mem) (h : X12_nameLetter_b37 a1 a2  Y = some res) : FW p l e (Rm 2) s m [.ref (ad 10 0 0), .int a1, .int a2].toArray below meth c 3 N0 T D gr ad 0 0 (MQ below (va_Qi (fun r Y1 => (r, Y1) = res) (WB T D gr ad) (fun q => N0 ≤ q)) [.ref (ad 10 0 0), .int a1, .int a2].toArray s 0 0 (fun q => N0 ≤ q)) Y 37 [(0, .ref (ad 10 0 0)), (1, .int a1), (2, .int a2)] [.ref (ad 10 0 0)] := by
  unfold X12_nameLetter_b37 at h
  refine fw_iconst C dX12_nameLetter_37 (v := 1) rfl ?_
  refine fw_goto C dX12_nameLetter_38 (tgt := 42) rfl ?_
  exact w_X12_nameLetter_b42 C hrt hG   _ _ h
set_option maxRecDepth 100000 in
set_option maxHeartbeats 4000000 in
theorem w_X12_nameLetter_b25 {a1 : Int32} {a2 : Int32} (C : Cx p s m [.ref (ad 10 0 0), .int a1, .int a2].toArray meth c cX12_nameLetter 3 wsX12_nameLetter RX12 N0 T D gr ad) (hrt : meth.sig.returnType = (some .int)) (hG : ∀ q ∈ [(10, 0)], q ∈ gr) {res : Int32 × Mem} (Y : Mem) (s0 : Int32) (s2 : Int32) (s3 : Int32) (h : X12_nameLetter_b25 a1 a2  Y s0 s2 s3 = some res) : FW p l e (Rm 2) s m [.ref (ad 10 0 0), .int a1, .int a2].toArray below meth c 3 N0 T D gr ad 0 0 (MQ below (va_Qi (fun r Y1 => (r, Y1) = res) (WB T D gr ad) (fun q => N0 ≤ q)) [.ref (ad 10 0 0), .int a1, .int a2].toArray s 0 0 (fun q => N0 ≤ q)) Y 25 [(0, .ref (ad 10 0 0)), (1, .int a1), (2, .int a2)] [.int s0, .ref (ad 10 0 0), .int s2, .int s3, .ref (ad 10 0 0)] := by
  unfold X12_nameLetter_b25 at h
  refine fw_iconst C dX12_nameLetter_25 (v := 0) rfl ?_
  obtain ⟨r13, q14, h⟩ := bd1_some h
  refine fw_callVi C (ci := 10) (Cn := RX12) (Tc := TX12) (N := 19) (As := [.int s0, .int 0]) (c_X12_of (gac (hG _ (List.mem_of_getElem? (i := 0) rfl)) ga0) q14) (cwV 2 (cx_ts C) gX12_nameLetter_X12_of rfl rfl rfl (by decide +kernel) ⟨Nat.le_of_ble_eq_true rfl, Nat.le_of_ble_eq_true rfl⟩) rfl (hG _ (List.mem_of_getElem? (i := 0) rfl)) (of10_0 _) (ce10 T ad _ _) rfl (st := [.int s2, .int s3, .ref (ad 10 0 0)]) rfl (Nat.le_of_ble_eq_true rfl) ⟨Nat.le_refl 0, Nat.le_refl 0⟩ dX12_nameLetter_26 ?_
  rintro _ _ ⟨rfl, rfl⟩
  refine fw_iconst C dX12_nameLetter_29 (v := 1) rfl ?_
  refine fw_isub C dX12_nameLetter_30 ?_
  obtain ⟨r15, q16, h⟩ := bd1_some h
  refine fw_callSi C (As := [.int s3, .int s2, .int (r13 - 1)]) (c_X12_in ga0 q16) (va_cwS 3 (cx_ts C) gX12_nameLetter_X12_in rfl rfl rfl (by decide +kernel) ⟨Nat.le_of_ble_eq_true rfl, Nat.le_of_ble_eq_true rfl⟩) rfl (st := [.ref (ad 10 0 0)]) rfl (Nat.le_of_ble_eq_true rfl) ⟨Nat.le_refl 0, Nat.le_refl 0⟩ dX12_nameLetter_31 ?_
  rintro _ _ ⟨rfl, rfl⟩
  refine fw_if_ne C dX12_nameLetter_34 (tgt := 41) rfl (fun c17 => ?_) (fun c17 => ?_)
  · have h := ite_f c17 h
    refine fw_iconst C dX12_nameLetter_41 (v := 0) rfl ?_
    exact w_X12_nameLetter_b42 C hrt hG   _ _ h
  · have h := ite_t c17 h
    exact w_X12_nameLetter_b37 C hrt hG   _ h
set_option maxRecDepth 100000 in
set_option maxHeartbeats 4000000 in
theorem w_X12_nameLetter {Y : Mem} {a1 : Int32} {a2 : Int32} (C : Cx p s m [.ref (ad 10 0 0), .int a1, .int a2].toArray meth c cX12_nameLetter 3 wsX12_nameLetter RX12 N0 T D gr ad) (hrt : meth.sig.returnType = (some .int)) (hG : ∀ q ∈ [(10, 0)], q ∈ gr) {res : Int32 × Mem} (h : X12_nameLetter Y a1 a2 = some res) : FW p l e (Rm 2) s m [.ref (ad 10 0 0), .int a1, .int a2].toArray below meth c 3 N0 T D gr ad 0 0 (MQ below (va_Qi (fun r Y1 => (r, Y1) = res) (WB T D gr ad) (fun q => N0 ≤ q)) [.ref (ad 10 0 0), .int a1, .int a2].toArray s 0 0 (fun q => N0 ≤ q)) Y 0 [(0, .ref (ad 10 0 0)), (1, .int a1), (2, .int a2)] [] := by
  unfold X12_nameLetter at h
  refine fw_aload_n C dX12_nameLetter_0 rfl 0 rfl ?_
  refine fw_aload_n C dX12_nameLetter_1 rfl 0 rfl ?_
  refine fw_iload_n C dX12_nameLetter_2 rfl 1 rfl ?_
  obtain ⟨r1, q2, h⟩ := bd1_some h
  refine fw_callVi C (ci := 10) (Cn := RX12) (Tc := TX12) (N := 19) (As := [.int a1]) (c_X12_isStep (gac (hG _ (List.mem_of_getElem? (i := 0) rfl)) ga0) q2) (cwV 1 (cx_ts C) gX12_nameLetter_X12_isStep rfl rfl rfl (by decide +kernel) ⟨Nat.le_of_ble_eq_true rfl, Nat.le_of_ble_eq_true rfl⟩) rfl (hG _ (List.mem_of_getElem? (i := 0) rfl)) (of10_0 _) (ce10 T ad _ _) rfl (st := [.ref (ad 10 0 0)]) rfl (Nat.le_of_ble_eq_true rfl) ⟨Nat.le_refl 0, Nat.le_refl 0⟩ dX12_nameLetter_3 ?_
  rintro _ _ ⟨rfl, rfl⟩
  refine fw_if_eq C dX12_nameLetter_6 (tgt := 37) rfl (fun c3 => ?_) (fun c3 => ?_)
  · have h := ite_t c3 h
    exact w_X12_nameLetter_b37 C hrt hG   _ h
  · have h := ite_f c3 h
    refine fw_iload_n C dX12_nameLetter_9 rfl 2 rfl ?_
    refine fw_iconst C dX12_nameLetter_10 (v := 0) rfl ?_
    refine fw_aload_n C dX12_nameLetter_11 rfl 0 rfl ?_
    refine fw_aload_n C dX12_nameLetter_12 rfl 0 rfl ?_
    refine fw_iload_n C dX12_nameLetter_13 rfl 1 rfl ?_
    obtain ⟨r10, q11, h⟩ := bd1_some h
    refine fw_callVi C (ci := 10) (Cn := RX12) (Tc := TX12) (N := 19) (As := [.int a1]) (c_X12_isStep (gac (hG _ (List.mem_of_getElem? (i := 0) rfl)) ga0) q11) (cwV 1 (cx_ts C) gX12_nameLetter_X12_isStep rfl rfl rfl (by decide +kernel) ⟨Nat.le_of_ble_eq_true rfl, Nat.le_of_ble_eq_true rfl⟩) rfl (hG _ (List.mem_of_getElem? (i := 0) rfl)) (of10_0 _) (ce10 T ad _ _) rfl (st := [.ref (ad 10 0 0), .int 0, .int a2, .ref (ad 10 0 0)]) rfl (Nat.le_of_ble_eq_true rfl) ⟨Nat.le_refl 0, Nat.le_refl 0⟩ dX12_nameLetter_14 ?_
    rintro _ _ ⟨rfl, rfl⟩
    refine fw_if_eq C dX12_nameLetter_17 (tgt := 24) rfl (fun c12 => ?_) (fun c12 => ?_)
    · have h := ite_t c12 h
      refine fw_iconst C dX12_nameLetter_24 (v := 0) rfl ?_
      exact w_X12_nameLetter_b25 C hrt hG   _ _ _ _ h
    · have h := ite_f c12 h
      refine fw_iload_n C dX12_nameLetter_20 rfl 1 rfl ?_
      refine fw_goto C dX12_nameLetter_21 (tgt := 25) rfl ?_
      exact w_X12_nameLetter_b25 C hrt hG   _ _ _ _ h
end
set_option maxRecDepth 100000 in
set_option maxHeartbeats 4000000 in
theorem c_X12_nameLetter {l : Launch} {N0 : Nat} {T : Nat → ClassId} {D : va_G} {gr : List (Nat × Nat)} {ad : Nat → Nat → Nat → Nat} {Y : Mem} {a1 : Int32} {a2 : Int32} {res : Int32 × Mem} (hG : ∀ q ∈ [(10, 0)], q ∈ gr) (h : X12_nameLetter Y a1 a2 = some res) : CI l yX12_nameLetter wsX12_nameLetter (Rm 2) N0 T D gr ad Y [.ref (ad 10 0 0), .int a1, .int a2] (fun r Y1 => (r, Y1) = res) :=
  fw_body (by decide +kernel) rfl (Nat.le_of_ble_eq_true rfl) (fun p e s m below meth c C hrt => w_X12_nameLetter C hrt hG  h)
theorem ly_X12_outputByte_12 : ∀ w ∈ u_ws RX12 TX12 19, w ∈ wsX12_outputByte := by decide +kernel
theorem fl_X12_outputByte_39 : Cond.fieldLink RX12 39 "RecipeSchedulerModel" "writtenLength" "I" ∈ wsX12_outputByte := by decide +kernel
theorem fl_X12_outputByte_36 : Cond.fieldLink RX12 36 "RecipeSchedulerModel" "written" "[I" ∈ wsX12_outputByte := by decide +kernel
noncomputable def X12_outputByte_b20 (a1 : Int32) (Y : Mem) (s0 : Int32) : Option (Int32 × Mem) :=
  bd2 (X12_fails Y s0 0 0) <| fun r4 Y6 => if r4 = 0 then (gd (inb a1 150) <| some (Y6 10 0 4 (ix a1), Y6)) else (some (0, Y6))
noncomputable def X12_outputByte (Y : Mem) (a1 : Int32) : Option (Int32 × Mem) :=
  bd1 (X12_in Y a1 0 ((Y 10 0 0 8) - 1)) <| fun r1 => if r1 = 0 then (X12_outputByte_b20 a1 Y 1) else (X12_outputByte_b20 a1 Y 0)
section
variable {p : Program} {l : Launch} {e : Env} {s : State} {m : MethodId} {below : List Frame} {meth : Method} {c : Code} {N0 : Nat} {T : Nat → ClassId} {D : va_G} {gr : List (Nat × Nat)} {ad : Nat → Nat → Nat → Nat}
set_option maxRecDepth 100000 in
set_option maxHeartbeats 4000000 in
theorem w_X12_outputByte_b20 {a1 : Int32} (C : Cx p s m [.ref (ad 10 0 0), .int a1].toArray meth c cX12_outputByte 2 wsX12_outputByte RX12 N0 T D gr ad) (hrt : meth.sig.returnType = (some .int)) (hG : ∀ q ∈ [(10, 0)], q ∈ gr) {res : Int32 × Mem} (Y : Mem) (s0 : Int32) (h : X12_outputByte_b20 a1  Y s0 = some res) : FW p l e (Rm 1) s m [.ref (ad 10 0 0), .int a1].toArray below meth c 2 N0 T D gr ad 0 0 (MQ below (va_Qi (fun r Y1 => (r, Y1) = res) (WB T D gr ad) (fun q => N0 ≤ q)) [.ref (ad 10 0 0), .int a1].toArray s 0 0 (fun q => N0 ≤ q)) Y 20 [(0, .ref (ad 10 0 0)), (1, .int a1)] [.int s0, .ref (ad 10 0 0)] := by
  unfold X12_outputByte_b20 at h
  refine fw_iconst C dX12_outputByte_20 (v := 0) rfl ?_
  refine fw_iconst C dX12_outputByte_21 (v := 0) rfl ?_
  obtain ⟨r4, Y6, q5, h⟩ := bd2_some h
  refine fw_callVi C (ci := 10) (Cn := RX12) (Tc := TX12) (N := 19) (As := [.int s0, .int 0, .int 0]) (c_X12_fails (gac (hG _ (List.mem_of_getElem? (i := 0) rfl)) ga0) q5) (cwV 3 (cx_ts C) gX12_outputByte_X12_fails rfl rfl rfl (by decide +kernel) ⟨Nat.le_of_ble_eq_true rfl, Nat.le_of_ble_eq_true rfl⟩) rfl (hG _ (List.mem_of_getElem? (i := 0) rfl)) (of10_0 _) (ce10 T ad _ _) rfl (st := []) rfl (Nat.le_of_ble_eq_true rfl) ⟨Nat.le_refl 0, Nat.le_refl 0⟩ dX12_outputByte_22 ?_
  intro r_ Y_ e_
  obtain ⟨rfl, rfl⟩ := Prod.mk.inj e_
  refine fw_if_eq C dX12_outputByte_25 (tgt := 30) rfl (fun c7 => ?_) (fun c7 => ?_)
  · have h := ite_t c7 h
    refine fw_aload_n C dX12_outputByte_30 rfl 0 rfl ?_
    refine fw_get C (ci := 10) (Cn := RX12) (Tc := TX12) (N := 19) (j := 7) ly_X12_outputByte_12 rfl (hG _ (List.mem_of_getElem? (i := 0) rfl)) (of10_0 _) (ce10 T ad _ _) (by decide) (cx_ts C _ fl_X12_outputByte_36) (fun _ h => h) (v := .ref (ad 10 0 4)) rfl dX12_outputByte_31 ?_
    refine fw_iload_n C dX12_outputByte_34 rfl 1 rfl ?_
    obtain ⟨b8, h⟩ := gd_some h
    refine fw_iald2 C (hG _ (List.mem_of_getElem? (i := 0) rfl)) (of10_4 _) (ca10_4 T ad _ _) b8 (Nat.le_of_ble_eq_true rfl) dX12_outputByte_35 ?_
    exact fw_iret C hrt Y6 (Option.some.inj h) (fun t ht => ht) dX12_outputByte_36
  · have h := ite_f c7 h
    refine fw_iconst C dX12_outputByte_28 (v := 0) rfl ?_
    exact fw_iret C hrt Y6 (Option.some.inj h) (fun t ht => ht) dX12_outputByte_29
set_option maxRecDepth 100000 in
set_option maxHeartbeats 4000000 in
theorem w_X12_outputByte {Y : Mem} {a1 : Int32} (C : Cx p s m [.ref (ad 10 0 0), .int a1].toArray meth c cX12_outputByte 2 wsX12_outputByte RX12 N0 T D gr ad) (hrt : meth.sig.returnType = (some .int)) (hG : ∀ q ∈ [(10, 0)], q ∈ gr) {res : Int32 × Mem} (h : X12_outputByte Y a1 = some res) : FW p l e (Rm 1) s m [.ref (ad 10 0 0), .int a1].toArray below meth c 2 N0 T D gr ad 0 0 (MQ below (va_Qi (fun r Y1 => (r, Y1) = res) (WB T D gr ad) (fun q => N0 ≤ q)) [.ref (ad 10 0 0), .int a1].toArray s 0 0 (fun q => N0 ≤ q)) Y 0 [(0, .ref (ad 10 0 0)), (1, .int a1)] [] := by
  unfold X12_outputByte at h
  refine fw_aload_n C dX12_outputByte_0 rfl 0 rfl ?_
  refine fw_iload_n C dX12_outputByte_1 rfl 1 rfl ?_
  refine fw_iconst C dX12_outputByte_2 (v := 0) rfl ?_
  refine fw_aload_n C dX12_outputByte_3 rfl 0 rfl ?_
  refine fw_get C (ci := 10) (Cn := RX12) (Tc := TX12) (N := 19) (j := 8) ly_X12_outputByte_12 rfl (hG _ (List.mem_of_getElem? (i := 0) rfl)) (of10_0 _) (ce10 T ad _ _) (by decide) (cx_ts C _ fl_X12_outputByte_39) (fun _ h => h) (v := .int (Y 10 0 0 8)) rfl dX12_outputByte_4 ?_
  refine fw_iconst C dX12_outputByte_7 (v := 1) rfl ?_
  refine fw_isub C dX12_outputByte_8 ?_
  obtain ⟨r1, q2, h⟩ := bd1_some h
  refine fw_callSi C (As := [.int a1, .int 0, .int ((Y 10 0 0 8) - 1)]) (c_X12_in ga0 q2) (va_cwS 3 (cx_ts C) gX12_outputByte_X12_in rfl rfl rfl (by decide +kernel) ⟨Nat.le_of_ble_eq_true rfl, Nat.le_of_ble_eq_true rfl⟩) rfl (st := [.ref (ad 10 0 0)]) rfl (Nat.le_of_ble_eq_true rfl) ⟨Nat.le_refl 0, Nat.le_refl 0⟩ dX12_outputByte_9 ?_
  rintro _ _ ⟨rfl, rfl⟩
  refine fw_if_ne C dX12_outputByte_12 (tgt := 19) rfl (fun c3 => ?_) (fun c3 => ?_)
  · have h := ite_f c3 h
    refine fw_iconst C dX12_outputByte_19 (v := 0) rfl ?_
    exact w_X12_outputByte_b20 C hrt hG   _ _ h
  · have h := ite_t c3 h
    refine fw_iconst C dX12_outputByte_15 (v := 1) rfl ?_
    refine fw_goto C dX12_outputByte_16 (tgt := 20) rfl ?_
    exact w_X12_outputByte_b20 C hrt hG   _ _ h
end
set_option maxRecDepth 100000 in
set_option maxHeartbeats 4000000 in
theorem c_X12_outputByte {l : Launch} {N0 : Nat} {T : Nat → ClassId} {D : va_G} {gr : List (Nat × Nat)} {ad : Nat → Nat → Nat → Nat} {Y : Mem} {a1 : Int32} {res : Int32 × Mem} (hG : ∀ q ∈ [(10, 0)], q ∈ gr) (h : X12_outputByte Y a1 = some res) : CI l yX12_outputByte wsX12_outputByte (Rm 1) N0 T D gr ad Y [.ref (ad 10 0 0), .int a1] (fun r Y1 => (r, Y1) = res) :=
  fw_body (by decide +kernel) rfl (Nat.le_of_ble_eq_true rfl) (fun p e s m below meth c C hrt => w_X12_outputByte C hrt hG  h)
noncomputable def X12_panCapacity_b14 (a1 : Int32) (Y : Mem) (s0 : Int32) : Option (Int32 × Mem) :=
  bd2 (X12_fails Y s0 0 0) <| fun r4 Y6 => if r4 = 0 then (bd1 (X12_capacity Y6 a1) <| fun r8 => some (r8, Y6)) else (some (0, Y6))
noncomputable def X12_panCapacity (Y : Mem) (a1 : Int32) : Option (Int32 × Mem) :=
  bd1 (X12_isPan Y a1) <| fun r1 => if r1 = 0 then (X12_panCapacity_b14 a1 Y 1) else (X12_panCapacity_b14 a1 Y 0)
section
variable {p : Program} {l : Launch} {e : Env} {s : State} {m : MethodId} {below : List Frame} {meth : Method} {c : Code} {N0 : Nat} {T : Nat → ClassId} {D : va_G} {gr : List (Nat × Nat)} {ad : Nat → Nat → Nat → Nat}
set_option maxRecDepth 100000 in
set_option maxHeartbeats 4000000 in
theorem w_X12_panCapacity_b14 {a1 : Int32} (C : Cx p s m [.ref (ad 10 0 0), .int a1].toArray meth c cX12_panCapacity 2 wsX12_panCapacity RX12 N0 T D gr ad) (hrt : meth.sig.returnType = (some .int)) (hG : ∀ q ∈ [(10, 0)], q ∈ gr) {res : Int32 × Mem} (Y : Mem) (s0 : Int32) (h : X12_panCapacity_b14 a1  Y s0 = some res) : FW p l e (Rm 2) s m [.ref (ad 10 0 0), .int a1].toArray below meth c 2 N0 T D gr ad 0 0 (MQ below (va_Qi (fun r Y1 => (r, Y1) = res) (WB T D gr ad) (fun q => N0 ≤ q)) [.ref (ad 10 0 0), .int a1].toArray s 0 0 (fun q => N0 ≤ q)) Y 14 [(0, .ref (ad 10 0 0)), (1, .int a1)] [.int s0, .ref (ad 10 0 0)] := by
  unfold X12_panCapacity_b14 at h
  refine fw_iconst C dX12_panCapacity_14 (v := 0) rfl ?_
  refine fw_iconst C dX12_panCapacity_15 (v := 0) rfl ?_
  obtain ⟨r4, Y6, q5, h⟩ := bd2_some h
  refine fw_callVi C (ci := 10) (Cn := RX12) (Tc := TX12) (N := 19) (As := [.int s0, .int 0, .int 0]) (c_X12_fails (gac (hG _ (List.mem_of_getElem? (i := 0) rfl)) ga0) q5) (cwV 3 (cx_ts C) gX12_panCapacity_X12_fails rfl rfl rfl (by decide +kernel) ⟨Nat.le_of_ble_eq_true rfl, Nat.le_of_ble_eq_true rfl⟩) rfl (hG _ (List.mem_of_getElem? (i := 0) rfl)) (of10_0 _) (ce10 T ad _ _) rfl (st := []) rfl (Nat.le_of_ble_eq_true rfl) ⟨Nat.le_refl 0, Nat.le_refl 0⟩ dX12_panCapacity_16 ?_
  intro r_ Y_ e_
  obtain ⟨rfl, rfl⟩ := Prod.mk.inj e_
  refine fw_if_eq C dX12_panCapacity_19 (tgt := 24) rfl (fun c7 => ?_) (fun c7 => ?_)
  · have h := ite_t c7 h
    refine fw_aload_n C dX12_panCapacity_24 rfl 0 rfl ?_
    refine fw_iload_n C dX12_panCapacity_25 rfl 1 rfl ?_
    obtain ⟨r8, q9, h⟩ := bd1_some h
    refine fw_callVi C (ci := 10) (Cn := RX12) (Tc := TX12) (N := 19) (As := [.int a1]) (c_X12_capacity (gac (hG _ (List.mem_of_getElem? (i := 0) rfl)) ga0) q9) (cwV 1 (cx_ts C) gX12_panCapacity_X12_capacity rfl rfl rfl (by decide +kernel) ⟨Nat.le_of_ble_eq_true rfl, Nat.le_of_ble_eq_true rfl⟩) rfl (hG _ (List.mem_of_getElem? (i := 0) rfl)) (of10_0 _) (ce10 T ad _ _) rfl (st := []) rfl (Nat.le_of_ble_eq_true rfl) ⟨Nat.le_refl 0, Nat.le_refl 0⟩ dX12_panCapacity_26 ?_
    rintro _ _ ⟨rfl, rfl⟩
    exact fw_iret C hrt Y6 (Option.some.inj h) (fun t ht => ht) dX12_panCapacity_29
  · have h := ite_f c7 h
    refine fw_iconst C dX12_panCapacity_22 (v := 0) rfl ?_
    exact fw_iret C hrt Y6 (Option.some.inj h) (fun t ht => ht) dX12_panCapacity_23
set_option maxRecDepth 100000 in
set_option maxHeartbeats 4000000 in
theorem w_X12_panCapacity {Y : Mem} {a1 : Int32} (C : Cx p s m [.ref (ad 10 0 0), .int a1].toArray meth c cX12_panCapacity 2 wsX12_panCapacity RX12 N0 T D gr ad) (hrt : meth.sig.returnType = (some .int)) (hG : ∀ q ∈ [(10, 0)], q ∈ gr) {res : Int32 × Mem} (h : X12_panCapacity Y a1 = some res) : FW p l e (Rm 2) s m [.ref (ad 10 0 0), .int a1].toArray below meth c 2 N0 T D gr ad 0 0 (MQ below (va_Qi (fun r Y1 => (r, Y1) = res) (WB T D gr ad) (fun q => N0 ≤ q)) [.ref (ad 10 0 0), .int a1].toArray s 0 0 (fun q => N0 ≤ q)) Y 0 [(0, .ref (ad 10 0 0)), (1, .int a1)] [] := by
  unfold X12_panCapacity at h
  refine fw_aload_n C dX12_panCapacity_0 rfl 0 rfl ?_
  refine fw_aload_n C dX12_panCapacity_1 rfl 0 rfl ?_
  refine fw_iload_n C dX12_panCapacity_2 rfl 1 rfl ?_
  obtain ⟨r1, q2, h⟩ := bd1_some h
  refine fw_callVi C (ci := 10) (Cn := RX12) (Tc := TX12) (N := 19) (As := [.int a1]) (c_X12_isPan (gac (hG _ (List.mem_of_getElem? (i := 0) rfl)) ga0) q2) (cwV 1 (cx_ts C) gX12_panCapacity_X12_isPan rfl rfl rfl (by decide +kernel) ⟨Nat.le_of_ble_eq_true rfl, Nat.le_of_ble_eq_true rfl⟩) rfl (hG _ (List.mem_of_getElem? (i := 0) rfl)) (of10_0 _) (ce10 T ad _ _) rfl (st := [.ref (ad 10 0 0)]) rfl (Nat.le_of_ble_eq_true rfl) ⟨Nat.le_refl 0, Nat.le_refl 0⟩ dX12_panCapacity_3 ?_
  rintro _ _ ⟨rfl, rfl⟩
  refine fw_if_ne C dX12_panCapacity_6 (tgt := 13) rfl (fun c3 => ?_) (fun c3 => ?_)
  · have h := ite_f c3 h
    refine fw_iconst C dX12_panCapacity_13 (v := 0) rfl ?_
    exact w_X12_panCapacity_b14 C hrt hG   _ _ h
  · have h := ite_t c3 h
    refine fw_iconst C dX12_panCapacity_9 (v := 1) rfl ?_
    refine fw_goto C dX12_panCapacity_10 (tgt := 14) rfl ?_
    exact w_X12_panCapacity_b14 C hrt hG   _ _ h
end
set_option maxRecDepth 100000 in
set_option maxHeartbeats 4000000 in
theorem c_X12_panCapacity {l : Launch} {N0 : Nat} {T : Nat → ClassId} {D : va_G} {gr : List (Nat × Nat)} {ad : Nat → Nat → Nat → Nat} {Y : Mem} {a1 : Int32} {res : Int32 × Mem} (hG : ∀ q ∈ [(10, 0)], q ∈ gr) (h : X12_panCapacity Y a1 = some res) : CI l yX12_panCapacity wsX12_panCapacity (Rm 2) N0 T D gr ad Y [.ref (ad 10 0 0), .int a1] (fun r Y1 => (r, Y1) = res) :=
  fw_body (by decide +kernel) rfl (Nat.le_of_ble_eq_true rfl) (fun p e s m below meth c C hrt => w_X12_panCapacity C hrt hG  h)
noncomputable def X12_panType (Y : Mem) (a1 : Int32) : Option (Int32 × Mem) :=
  bd2 (X12_field Y a1 9) <| fun r1 Y3 => some (r1, Y3)
section
variable {p : Program} {l : Launch} {e : Env} {s : State} {m : MethodId} {below : List Frame} {meth : Method} {c : Code} {N0 : Nat} {T : Nat → ClassId} {D : va_G} {gr : List (Nat × Nat)} {ad : Nat → Nat → Nat → Nat}
set_option maxRecDepth 100000 in
set_option maxHeartbeats 4000000 in
theorem w_X12_panType {Y : Mem} {a1 : Int32} (C : Cx p s m [.ref (ad 10 0 0), .int a1].toArray meth c cX12_panType 2 wsX12_panType RX12 N0 T D gr ad) (hrt : meth.sig.returnType = (some .int)) (hG : ∀ q ∈ [(10, 0)], q ∈ gr) {res : Int32 × Mem} (h : X12_panType Y a1 = some res) : FW p l e (Rm 3) s m [.ref (ad 10 0 0), .int a1].toArray below meth c 2 N0 T D gr ad 0 0 (MQ below (va_Qi (fun r Y1 => (r, Y1) = res) (WB T D gr ad) (fun q => N0 ≤ q)) [.ref (ad 10 0 0), .int a1].toArray s 0 0 (fun q => N0 ≤ q)) Y 0 [(0, .ref (ad 10 0 0)), (1, .int a1)] [] := by
  unfold X12_panType at h
  refine fw_aload_n C dX12_panType_0 rfl 0 rfl ?_
  refine fw_iload_n C dX12_panType_1 rfl 1 rfl ?_
  refine fw_bipush C dX12_panType_2 (v := 9) rfl ?_
  obtain ⟨r1, Y3, q2, h⟩ := bd2_some h
  refine fw_callVi C (ci := 10) (Cn := RX12) (Tc := TX12) (N := 19) (As := [.int a1, .int 9]) (c_X12_field (gac (hG _ (List.mem_of_getElem? (i := 0) rfl)) ga0) q2) (cwV 2 (cx_ts C) gX12_panType_X12_field rfl rfl rfl (by decide +kernel) ⟨Nat.le_of_ble_eq_true rfl, Nat.le_of_ble_eq_true rfl⟩) rfl (hG _ (List.mem_of_getElem? (i := 0) rfl)) (of10_0 _) (ce10 T ad _ _) rfl (st := []) rfl (Nat.le_of_ble_eq_true rfl) ⟨Nat.le_refl 0, Nat.le_refl 0⟩ dX12_panType_4 ?_
  intro r_ Y_ e_
  obtain ⟨rfl, rfl⟩ := Prod.mk.inj e_
  exact fw_iret C hrt Y3 (Option.some.inj h) (fun t ht => ht) dX12_panType_7
end
set_option maxRecDepth 100000 in
set_option maxHeartbeats 4000000 in
theorem c_X12_panType {l : Launch} {N0 : Nat} {T : Nat → ClassId} {D : va_G} {gr : List (Nat × Nat)} {ad : Nat → Nat → Nat → Nat} {Y : Mem} {a1 : Int32} {res : Int32 × Mem} (hG : ∀ q ∈ [(10, 0)], q ∈ gr) (h : X12_panType Y a1 = some res) : CI l yX12_panType wsX12_panType (Rm 3) N0 T D gr ad Y [.ref (ad 10 0 0), .int a1] (fun r Y1 => (r, Y1) = res) :=
  fw_body (by decide +kernel) rfl (Nat.le_of_ble_eq_true rfl) (fun p e s m below meth c C hrt => w_X12_panType C hrt hG  h)
noncomputable def X12_pansInUse_b14 (a1 : Int32) (Y : Mem) (s0 : Int32) : Option (Int32 × Mem) :=
  bd2 (X12_fails Y s0 0 0) <| fun r4 Y6 => if r4 = 0 then (bd1 (X12_usedPans Y6 a1) <| fun r8 => some (r8, Y6)) else (some (0, Y6))
noncomputable def X12_pansInUse (Y : Mem) (a1 : Int32) : Option (Int32 × Mem) :=
  bd1 (X12_isPan Y a1) <| fun r1 => if r1 = 0 then (X12_pansInUse_b14 a1 Y 1) else (X12_pansInUse_b14 a1 Y 0)
section
variable {p : Program} {l : Launch} {e : Env} {s : State} {m : MethodId} {below : List Frame} {meth : Method} {c : Code} {N0 : Nat} {T : Nat → ClassId} {D : va_G} {gr : List (Nat × Nat)} {ad : Nat → Nat → Nat → Nat}
set_option maxRecDepth 100000 in
set_option maxHeartbeats 4000000 in
theorem w_X12_pansInUse_b14 {a1 : Int32} (C : Cx p s m [.ref (ad 10 0 0), .int a1].toArray meth c cX12_pansInUse 2 wsX12_pansInUse RX12 N0 T D gr ad) (hrt : meth.sig.returnType = (some .int)) (hG : ∀ q ∈ [(10, 0)], q ∈ gr) {res : Int32 × Mem} (Y : Mem) (s0 : Int32) (h : X12_pansInUse_b14 a1  Y s0 = some res) : FW p l e (Rm 5) s m [.ref (ad 10 0 0), .int a1].toArray below meth c 2 N0 T D gr ad 0 0 (MQ below (va_Qi (fun r Y1 => (r, Y1) = res) (WB T D gr ad) (fun q => N0 ≤ q)) [.ref (ad 10 0 0), .int a1].toArray s 0 0 (fun q => N0 ≤ q)) Y 14 [(0, .ref (ad 10 0 0)), (1, .int a1)] [.int s0, .ref (ad 10 0 0)] := by
  unfold X12_pansInUse_b14 at h
  refine fw_iconst C dX12_pansInUse_14 (v := 0) rfl ?_
  refine fw_iconst C dX12_pansInUse_15 (v := 0) rfl ?_
  obtain ⟨r4, Y6, q5, h⟩ := bd2_some h
  refine fw_callVi C (ci := 10) (Cn := RX12) (Tc := TX12) (N := 19) (As := [.int s0, .int 0, .int 0]) (c_X12_fails (gac (hG _ (List.mem_of_getElem? (i := 0) rfl)) ga0) q5) (cwV 3 (cx_ts C) gX12_pansInUse_X12_fails rfl rfl rfl (by decide +kernel) ⟨Nat.le_of_ble_eq_true rfl, Nat.le_of_ble_eq_true rfl⟩) rfl (hG _ (List.mem_of_getElem? (i := 0) rfl)) (of10_0 _) (ce10 T ad _ _) rfl (st := []) rfl (Nat.le_of_ble_eq_true rfl) ⟨Nat.le_refl 0, Nat.le_refl 0⟩ dX12_pansInUse_16 ?_
  intro r_ Y_ e_
  obtain ⟨rfl, rfl⟩ := Prod.mk.inj e_
  refine fw_if_eq C dX12_pansInUse_19 (tgt := 24) rfl (fun c7 => ?_) (fun c7 => ?_)
  · have h := ite_t c7 h
    refine fw_aload_n C dX12_pansInUse_24 rfl 0 rfl ?_
    refine fw_iload_n C dX12_pansInUse_25 rfl 1 rfl ?_
    obtain ⟨r8, q9, h⟩ := bd1_some h
    refine fw_callVi C (ci := 10) (Cn := RX12) (Tc := TX12) (N := 19) (As := [.int a1]) (c_X12_usedPans (gac (hG _ (List.mem_of_getElem? (i := 0) rfl)) ga0) q9) (cwV 1 (cx_ts C) gX12_pansInUse_X12_usedPans rfl rfl rfl (by decide +kernel) ⟨Nat.le_of_ble_eq_true rfl, Nat.le_of_ble_eq_true rfl⟩) rfl (hG _ (List.mem_of_getElem? (i := 0) rfl)) (of10_0 _) (ce10 T ad _ _) rfl (st := []) rfl (Nat.le_of_ble_eq_true rfl) ⟨Nat.le_refl 0, Nat.le_refl 0⟩ dX12_pansInUse_26 ?_
    rintro _ _ ⟨rfl, rfl⟩
    exact fw_iret C hrt Y6 (Option.some.inj h) (fun t ht => ht) dX12_pansInUse_29
  · have h := ite_f c7 h
    refine fw_iconst C dX12_pansInUse_22 (v := 0) rfl ?_
    exact fw_iret C hrt Y6 (Option.some.inj h) (fun t ht => ht) dX12_pansInUse_23
set_option maxRecDepth 100000 in
set_option maxHeartbeats 4000000 in
theorem w_X12_pansInUse {Y : Mem} {a1 : Int32} (C : Cx p s m [.ref (ad 10 0 0), .int a1].toArray meth c cX12_pansInUse 2 wsX12_pansInUse RX12 N0 T D gr ad) (hrt : meth.sig.returnType = (some .int)) (hG : ∀ q ∈ [(10, 0)], q ∈ gr) {res : Int32 × Mem} (h : X12_pansInUse Y a1 = some res) : FW p l e (Rm 5) s m [.ref (ad 10 0 0), .int a1].toArray below meth c 2 N0 T D gr ad 0 0 (MQ below (va_Qi (fun r Y1 => (r, Y1) = res) (WB T D gr ad) (fun q => N0 ≤ q)) [.ref (ad 10 0 0), .int a1].toArray s 0 0 (fun q => N0 ≤ q)) Y 0 [(0, .ref (ad 10 0 0)), (1, .int a1)] [] := by
  unfold X12_pansInUse at h
  refine fw_aload_n C dX12_pansInUse_0 rfl 0 rfl ?_
  refine fw_aload_n C dX12_pansInUse_1 rfl 0 rfl ?_
  refine fw_iload_n C dX12_pansInUse_2 rfl 1 rfl ?_
  obtain ⟨r1, q2, h⟩ := bd1_some h
  refine fw_callVi C (ci := 10) (Cn := RX12) (Tc := TX12) (N := 19) (As := [.int a1]) (c_X12_isPan (gac (hG _ (List.mem_of_getElem? (i := 0) rfl)) ga0) q2) (cwV 1 (cx_ts C) gX12_pansInUse_X12_isPan rfl rfl rfl (by decide +kernel) ⟨Nat.le_of_ble_eq_true rfl, Nat.le_of_ble_eq_true rfl⟩) rfl (hG _ (List.mem_of_getElem? (i := 0) rfl)) (of10_0 _) (ce10 T ad _ _) rfl (st := [.ref (ad 10 0 0)]) rfl (Nat.le_of_ble_eq_true rfl) ⟨Nat.le_refl 0, Nat.le_refl 0⟩ dX12_pansInUse_3 ?_
  rintro _ _ ⟨rfl, rfl⟩
  refine fw_if_ne C dX12_pansInUse_6 (tgt := 13) rfl (fun c3 => ?_) (fun c3 => ?_)
  · have h := ite_f c3 h
    refine fw_iconst C dX12_pansInUse_13 (v := 0) rfl ?_
    exact w_X12_pansInUse_b14 C hrt hG   _ _ h
  · have h := ite_t c3 h
    refine fw_iconst C dX12_pansInUse_9 (v := 1) rfl ?_
    refine fw_goto C dX12_pansInUse_10 (tgt := 14) rfl ?_
    exact w_X12_pansInUse_b14 C hrt hG   _ _ h
end
set_option maxRecDepth 100000 in
set_option maxHeartbeats 4000000 in
theorem c_X12_pansInUse {l : Launch} {N0 : Nat} {T : Nat → ClassId} {D : va_G} {gr : List (Nat × Nat)} {ad : Nat → Nat → Nat → Nat} {Y : Mem} {a1 : Int32} {res : Int32 × Mem} (hG : ∀ q ∈ [(10, 0)], q ∈ gr) (h : X12_pansInUse Y a1 = some res) : CI l yX12_pansInUse wsX12_pansInUse (Rm 5) N0 T D gr ad Y [.ref (ad 10 0 0), .int a1] (fun r Y1 => (r, Y1) = res) :=
  fw_body (by decide +kernel) rfl (Nat.le_of_ble_eq_true rfl) (fun p e s m below meth c C hrt => w_X12_pansInUse C hrt hG  h)
theorem ly_X12_parseStepName_12 : ∀ w ∈ u_ws RX12 TX12 19, w ∈ wsX12_parseStepName := by decide +kernel
theorem fl_X12_parseStepName_66 : Cond.fieldLink RX12 66 "RecipeSchedulerModel" "commands" "[I" ∈ wsX12_parseStepName := by decide +kernel
theorem fl_X12_parseStepName_60 : Cond.fieldLink RX12 60 "RecipeSchedulerModel" "from" "I" ∈ wsX12_parseStepName := by decide +kernel
theorem fl_X12_parseStepName_54 : Cond.fieldLink RX12 54 "RecipeSchedulerModel" "ahead" "I" ∈ wsX12_parseStepName := by decide +kernel
noncomputable def X12_parseStepName (Y : Mem) (a1 : Int32) : Option (Int32 × Mem) :=
  bd2 (X12_isShortWord Y) <| fun r1 Y3 => if r1 = 0 then (some (0, Y3)) else (bd1 (X12_stepNamed Y3 (Y3 10 0 0 16) ((Y3 10 0 0 14) - (Y3 10 0 0 16))) <| fun r5 => gd (inb a1 90) <| lt_ (up Y3 10 0 9 (ix a1) r5) <| fun Y8 => if (Y8 10 0 9 (ix a1)) = ((-1)) then (bd2 (X12_wrong Y8 3) <| fun r14 Y16 => gd (decide (r14 = 0 ∨ r14 = 1)) <| some (r14, Y16)) else (bd1 (X12_token Y8) <| fun Y13 => some (1, Y13)))
section
variable {p : Program} {l : Launch} {e : Env} {s : State} {m : MethodId} {below : List Frame} {meth : Method} {c : Code} {N0 : Nat} {T : Nat → ClassId} {D : va_G} {gr : List (Nat × Nat)} {ad : Nat → Nat → Nat → Nat}
set_option maxRecDepth 100000 in
set_option maxHeartbeats 4000000 in
theorem w_X12_parseStepName {Y : Mem} {a1 : Int32} (C : Cx p s m [.ref (ad 10 0 0), .int a1].toArray meth c cX12_parseStepName 2 wsX12_parseStepName RX12 N0 T D gr ad) (hrt : meth.sig.returnType = (some .boolean)) (hG : ∀ q ∈ [(10, 0)], q ∈ gr) {res : Int32 × Mem} (h : X12_parseStepName Y a1 = some res) : FW p l e (Rm 2) s m [.ref (ad 10 0 0), .int a1].toArray below meth c 2 N0 T D gr ad 0 0 (MQ below (va_Qi (fun r Y1 => (r, Y1) = res) (WB T D gr ad) (fun q => N0 ≤ q)) [.ref (ad 10 0 0), .int a1].toArray s 0 0 (fun q => N0 ≤ q)) Y 0 [(0, .ref (ad 10 0 0)), (1, .int a1)] [] := by
  unfold X12_parseStepName at h
  refine fw_aload_n C dX12_parseStepName_0 rfl 0 rfl ?_
  obtain ⟨r1, Y3, q2, h⟩ := bd2_some h
  refine fw_callVi C (ci := 10) (Cn := RX12) (Tc := TX12) (N := 19) (As := []) (c_X12_isShortWord (gac (hG _ (List.mem_of_getElem? (i := 0) rfl)) ga0) q2) (cwV 0 (cx_ts C) gX12_parseStepName_X12_isShortWord rfl rfl rfl (by decide +kernel) ⟨Nat.le_of_ble_eq_true rfl, Nat.le_of_ble_eq_true rfl⟩) rfl (hG _ (List.mem_of_getElem? (i := 0) rfl)) (of10_0 _) (ce10 T ad _ _) rfl (st := []) rfl (Nat.le_of_ble_eq_true rfl) ⟨Nat.le_refl 0, Nat.le_refl 0⟩ dX12_parseStepName_1 ?_
  intro r_ Y_ e_
  obtain ⟨rfl, rfl⟩ := Prod.mk.inj e_
  refine fw_if_ne C dX12_parseStepName_4 (tgt := 9) rfl (fun c4 => ?_) (fun c4 => ?_)
  · have h := ite_f c4 h
    refine fw_aload_n C dX12_parseStepName_9 rfl 0 rfl ?_
    refine fw_get C (ci := 10) (Cn := RX12) (Tc := TX12) (N := 19) (j := 18) ly_X12_parseStepName_12 rfl (hG _ (List.mem_of_getElem? (i := 0) rfl)) (of10_0 _) (ce10 T ad _ _) (by decide) (cx_ts C _ fl_X12_parseStepName_66) (fun _ h => h) (v := .ref (ad 10 0 9)) rfl dX12_parseStepName_10 ?_
    refine fw_iload_n C dX12_parseStepName_13 rfl 1 rfl ?_
    refine fw_aload_n C dX12_parseStepName_14 rfl 0 rfl ?_
    refine fw_aload_n C dX12_parseStepName_15 rfl 0 rfl ?_
    refine fw_get C (ci := 10) (Cn := RX12) (Tc := TX12) (N := 19) (j := 16) ly_X12_parseStepName_12 rfl (hG _ (List.mem_of_getElem? (i := 0) rfl)) (of10_0 _) (ce10 T ad _ _) (by decide) (cx_ts C _ fl_X12_parseStepName_60) (fun _ h => h) (v := .int (Y3 10 0 0 16)) rfl dX12_parseStepName_16 ?_
    refine fw_aload_n C dX12_parseStepName_19 rfl 0 rfl ?_
    refine fw_get C (ci := 10) (Cn := RX12) (Tc := TX12) (N := 19) (j := 14) ly_X12_parseStepName_12 rfl (hG _ (List.mem_of_getElem? (i := 0) rfl)) (of10_0 _) (ce10 T ad _ _) (by decide) (cx_ts C _ fl_X12_parseStepName_54) (fun _ h => h) (v := .int (Y3 10 0 0 14)) rfl dX12_parseStepName_20 ?_
    refine fw_aload_n C dX12_parseStepName_23 rfl 0 rfl ?_
    refine fw_get C (ci := 10) (Cn := RX12) (Tc := TX12) (N := 19) (j := 16) ly_X12_parseStepName_12 rfl (hG _ (List.mem_of_getElem? (i := 0) rfl)) (of10_0 _) (ce10 T ad _ _) (by decide) (cx_ts C _ fl_X12_parseStepName_60) (fun _ h => h) (v := .int (Y3 10 0 0 16)) rfl dX12_parseStepName_24 ?_
    refine fw_isub C dX12_parseStepName_27 ?_
    obtain ⟨r5, q6, h⟩ := bd1_some h
    refine fw_callVi C (ci := 10) (Cn := RX12) (Tc := TX12) (N := 19) (As := [.int (Y3 10 0 0 16), .int ((Y3 10 0 0 14) - (Y3 10 0 0 16))]) (c_X12_stepNamed (gac (hG _ (List.mem_of_getElem? (i := 0) rfl)) ga0) q6) (cwV 2 (cx_ts C) gX12_parseStepName_X12_stepNamed rfl rfl rfl (by decide +kernel) ⟨Nat.le_of_ble_eq_true rfl, Nat.le_of_ble_eq_true rfl⟩) rfl (hG _ (List.mem_of_getElem? (i := 0) rfl)) (of10_0 _) (ce10 T ad _ _) rfl (st := [.int a1, .ref (ad 10 0 9)]) rfl (Nat.le_of_ble_eq_true rfl) ⟨Nat.le_refl 0, Nat.le_refl 0⟩ dX12_parseStepName_28 ?_
    rintro _ _ ⟨rfl, rfl⟩
    obtain ⟨b7, h⟩ := gd_some h
    obtain ⟨Y8, e9, h⟩ := lt_some h
    refine fw_iast2 C (hG _ (List.mem_of_getElem? (i := 0) rfl)) (of10_9 _) (ca10_9 T ad _) b7 (Nat.le_of_ble_eq_true rfl) dX12_parseStepName_31 ?_
    refine fw_mem e9 ?_
    refine fw_aload_n C dX12_parseStepName_32 rfl 0 rfl ?_
    refine fw_get C (ci := 10) (Cn := RX12) (Tc := TX12) (N := 19) (j := 18) ly_X12_parseStepName_12 rfl (hG _ (List.mem_of_getElem? (i := 0) rfl)) (of10_0 _) (ce10 T ad _ _) (by decide) (cx_ts C _ fl_X12_parseStepName_66) (fun _ h => h) (v := .ref (ad 10 0 9)) rfl dX12_parseStepName_33 ?_
    refine fw_iload_n C dX12_parseStepName_36 rfl 1 rfl ?_
    refine fw_iald2 C (hG _ (List.mem_of_getElem? (i := 0) rfl)) (of10_9 _) (ca10_9 T ad _ _) b7 (Nat.le_of_ble_eq_true rfl) dX12_parseStepName_37 ?_
    refine fw_iconst C dX12_parseStepName_38 (v := (-1)) rfl ?_
    refine fw_icmp_ne C dX12_parseStepName_39 (tgt := 48) rfl (fun c10 => ?_) (fun c10 => ?_)
    · have h := ite_f c10 h
      refine fw_aload_n C dX12_parseStepName_48 rfl 0 rfl ?_
      obtain ⟨Y13, q12, h⟩ := bd1_some h
      refine fw_callVv C (ci := 10) (Cn := RX12) (Tc := TX12) (N := 19) (As := []) (c_X12_token (gac (hG _ (List.mem_of_getElem? (i := 0) rfl)) ga0) q12) (cwV 0 (cx_ts C) gX12_parseStepName_X12_token rfl rfl rfl (by decide +kernel) ⟨Nat.le_of_ble_eq_true rfl, Nat.le_of_ble_eq_true rfl⟩) rfl (hG _ (List.mem_of_getElem? (i := 0) rfl)) (of10_0 _) (ce10 T ad _ _) rfl (st := []) rfl (Nat.le_of_ble_eq_true rfl) ⟨Nat.le_refl 0, Nat.le_refl 0⟩ dX12_parseStepName_49 ?_
      rintro _ rfl
      refine fw_iconst C dX12_parseStepName_52 (v := 1) rfl ?_
      exact fw_zret C hrt (by decide) Y13 (Option.some.inj h) (fun t ht => ht) dX12_parseStepName_53
    · have h := ite_t c10 h
      refine fw_aload_n C dX12_parseStepName_42 rfl 0 rfl ?_
      refine fw_iconst C dX12_parseStepName_43 (v := 3) rfl ?_
      obtain ⟨r14, Y16, q15, h⟩ := bd2_some h
      refine fw_callVi C (ci := 10) (Cn := RX12) (Tc := TX12) (N := 19) (As := [.int 3]) (c_X12_wrong (gac (hG _ (List.mem_of_getElem? (i := 0) rfl)) ga0) q15) (cwV 1 (cx_ts C) gX12_parseStepName_X12_wrong rfl rfl rfl (by decide +kernel) ⟨Nat.le_of_ble_eq_true rfl, Nat.le_of_ble_eq_true rfl⟩) rfl (hG _ (List.mem_of_getElem? (i := 0) rfl)) (of10_0 _) (ce10 T ad _ _) rfl (st := []) rfl (Nat.le_of_ble_eq_true rfl) ⟨Nat.le_refl 0, Nat.le_refl 0⟩ dX12_parseStepName_44 ?_
      intro r_ Y_ e_
      obtain ⟨rfl, rfl⟩ := Prod.mk.inj e_
      obtain ⟨b17, h⟩ := gd_some h
      exact fw_zret C hrt (of_decide_eq_true b17) Y16 (Option.some.inj h) (fun t ht => ht) dX12_parseStepName_47
  · have h := ite_t c4 h
    refine fw_iconst C dX12_parseStepName_7 (v := 0) rfl ?_
    exact fw_zret C hrt (by decide) Y3 (Option.some.inj h) (fun t ht => ht) dX12_parseStepName_8
end
set_option maxRecDepth 100000 in
set_option maxHeartbeats 4000000 in
theorem c_X12_parseStepName {l : Launch} {N0 : Nat} {T : Nat → ClassId} {D : va_G} {gr : List (Nat × Nat)} {ad : Nat → Nat → Nat → Nat} {Y : Mem} {a1 : Int32} {res : Int32 × Mem} (hG : ∀ q ∈ [(10, 0)], q ∈ gr) (h : X12_parseStepName Y a1 = some res) : CI l yX12_parseStepName wsX12_parseStepName (Rm 2) N0 T D gr ad Y [.ref (ad 10 0 0), .int a1] (fun r Y1 => (r, Y1) = res) :=
  fw_body (by decide +kernel) rfl (Nat.le_of_ble_eq_true rfl) (fun p e s m below meth c C hrt => w_X12_parseStepName C hrt hG  h)
