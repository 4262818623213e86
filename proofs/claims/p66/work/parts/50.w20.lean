theorem ly_X12_read_12 : ∀ w ∈ u_ws RX12 TX12 12, w ∈ wsX12_read := by decide +kernel
theorem fl_X12_read_22 : Cond.fieldLink RX12 22 "RecipeSchedulerLaw$Kitchen" "x" "LRecipeScheduler;" ∈ wsX12_read := by decide +kernel
theorem fl_X12_read_42 : Cond.fieldLink RX12 42 "RecipeSchedulerLaw$Kitchen" "minute" "I" ∈ wsX12_read := by decide +kernel
theorem fl_X12_read_47 : Cond.fieldLink RX12 47 "RecipeSchedulerLaw$Kitchen" "starts" "I" ∈ wsX12_read := by decide +kernel
theorem fl_X12_read_52 : Cond.fieldLink RX12 52 "RecipeSchedulerLaw$Kitchen" "completions" "I" ∈ wsX12_read := by decide +kernel
theorem fl_X12_read_57 : Cond.fieldLink RX12 57 "RecipeSchedulerLaw$Kitchen" "burns" "I" ∈ wsX12_read := by decide +kernel
theorem fl_X12_read_62 : Cond.fieldLink RX12 62 "RecipeSchedulerLaw$Kitchen" "cookMinutes" "I" ∈ wsX12_read := by decide +kernel
theorem fl_X12_read_36 : Cond.fieldLink RX12 36 "RecipeSchedulerLaw$Kitchen" "many" "I" ∈ wsX12_read := by decide +kernel
theorem fl_X12_read_19 : Cond.fieldLink RX12 19 "RecipeSchedulerLaw$Kitchen" "path" "[I" ∈ wsX12_read := by decide +kernel
theorem fl_X12_read_7 : Cond.fieldLink RX12 7 "RecipeSchedulerLaw$Kitchen" "status" "[I" ∈ wsX12_read := by decide +kernel
theorem fl_X12_read_13 : Cond.fieldLink RX12 13 "RecipeSchedulerLaw$Kitchen" "left" "[I" ∈ wsX12_read := by decide +kernel
theorem fl_X12_read_16 : Cond.fieldLink RX12 16 "RecipeSchedulerLaw$Kitchen" "age" "[I" ∈ wsX12_read := by decide +kernel
section
variable {p : Program} {l : Launch} {e : Env} {s : State} {m : MethodId} {below : List Frame} {meth : Method} {c : Code} {N0 : Nat} {T : Nat → ClassId} {D : va_G} {gr : List (Nat × Nat)} {ad : Nat → Nat → Nat → Nat}
set_option maxRecDepth 100000 in
set_option maxHeartbeats 4000000 in
theorem w_X12_read_b164  (C : Cx p s m [.ref (ad 12 0 0)].toArray meth c cX12_read 4 wsX12_read RX12 N0 T D gr ad) (hrt : meth.sig.returnType = none) (hG : ∀ q ∈ ([(12, 0), (2, 0), (1, 0), (0, 0)] ++ allG), q ∈ gr) {res : Mem} {k130 : Mem → Int32 → Int32 → Int32 → Option (Mem)} (hk130 : ∀ (Y : Mem) (l3 : Int32) (l2 : Int32) (l1 : Int32), k130 Y l3 l2 l1 = some res → FW p l e (Rm 4) s m [.ref (ad 12 0 0)].toArray below meth c 4 N0 T D gr ad 0 0 (MQ below (va_Qv (fun Y1 => Y1 = res) (WB T D gr ad) (fun q => N0 ≤ q)) [.ref (ad 12 0 0)].toArray s 0 0 (fun q => N0 ≤ q)) Y 130 [(3, .int l3), (2, .int l2), (1, .int l1), (0, .ref (ad 12 0 0))] []) (Y : Mem) (l3 : Int32) (l2 : Int32) (l1 : Int32) (h : X12_read_b164  k130 Y l3 l2 l1 = some res) : FW p l e (Rm 4) s m [.ref (ad 12 0 0)].toArray below meth c 4 N0 T D gr ad 0 0 (MQ below (va_Qv (fun Y1 => Y1 = res) (WB T D gr ad) (fun q => N0 ≤ q)) [.ref (ad 12 0 0)].toArray s 0 0 (fun q => N0 ≤ q)) Y 164 [(3, .int l3), (2, .int l2), (1, .int l1), (0, .ref (ad 12 0 0))] [] := by
  unfold X12_read_b164 at h
  refine fw_iinc C dX12_read_164 (kk := 0) (v := l3 + 1) rfl rfl (by decide) (L' := [(3, .int (l3 + 1)), (2, .int l2), (1, .int l1), (0, .ref (ad 12 0 0))]) rfl ?_
  refine fw_goto C dX12_read_167 (tgt := 130) rfl ?_
  exact hk130 _ _ _ _ h
set_option maxRecDepth 100000 in
set_option maxHeartbeats 4000000 in
theorem w_X12_read_b130  (C : Cx p s m [.ref (ad 12 0 0)].toArray meth c cX12_read 4 wsX12_read RX12 N0 T D gr ad) (hrt : meth.sig.returnType = none) (hG : ∀ q ∈ ([(12, 0), (2, 0), (1, 0), (0, 0)] ++ allG), q ∈ gr) {res : Mem} {k120 : Mem → Int32 → Option (Mem)} (hk120 : ∀ (Y : Mem) (l1 : Int32), k120 Y l1 = some res → FW p l e (Rm 4) s m [.ref (ad 12 0 0)].toArray below meth c 4 N0 T D gr ad 0 0 (MQ below (va_Qv (fun Y1 => Y1 = res) (WB T D gr ad) (fun q => N0 ≤ q)) [.ref (ad 12 0 0)].toArray s 0 0 (fun q => N0 ≤ q)) Y 120 [(1, .int l1), (0, .ref (ad 12 0 0))] []) : ∀ (n : Nat) (Y : Mem) (l3 : Int32) (l2 : Int32) (l1 : Int32), X12_read_b130  k120 n Y l3 l2 l1 = some res → FW p l e (Rm 4) s m [.ref (ad 12 0 0)].toArray below meth c 4 N0 T D gr ad 0 0 (MQ below (va_Qv (fun Y1 => Y1 = res) (WB T D gr ad) (fun q => N0 ≤ q)) [.ref (ad 12 0 0)].toArray s 0 0 (fun q => N0 ≤ q)) Y 130 [(3, .int l3), (2, .int l2), (1, .int l1), (0, .ref (ad 12 0 0))] [] := by
  intro n
  induction n with
  | zero =>
    intro Y l3 l2 l1 h
    unfold X12_read_b130 at h
    cases h
  | succ n ih =>
    intro Y l3 l2 l1 h
    unfold X12_read_b130 at h
    refine fw_iload_n C dX12_read_130 rfl 0 rfl ?_
    refine fw_aload_n C dX12_read_131 rfl 3 rfl ?_
    refine fw_get C (ci := 12) (Cn := RX12) (Tc := TX12) (N := 12) (j := 1) ly_X12_read_12 rfl (hG _ (List.mem_of_getElem? (i := 0) rfl)) (of12_0 _) (ce12 T ad _ _) (by decide) (cx_ts C _ fl_X12_read_36) (fun _ h => h) (v := .int (Y 12 0 0 1)) rfl dX12_read_132 ?_
    refine fw_icmp_ge C dX12_read_135 (tgt := 170) rfl (fun c27 => ?_) (fun c27 => ?_)
    · have h := ite_t c27 h
      refine fw_aload_n C dX12_read_170 rfl 3 rfl ?_
      refine fw_get C (ci := 12) (Cn := RX12) (Tc := TX12) (N := 12) (j := 6) ly_X12_read_12 rfl (hG _ (List.mem_of_getElem? (i := 0) rfl)) (of12_0 _) (ce12 T ad _ _) (by decide) (cx_ts C _ fl_X12_read_19) (fun _ h => h) (v := .ref (ad 12 0 4)) rfl dX12_read_171 ?_
      refine fw_iload_n C dX12_read_174 rfl 2 rfl ?_
      refine fw_aload_n C dX12_read_175 rfl 3 rfl ?_
      refine fw_get C (ci := 12) (Cn := RX12) (Tc := TX12) (N := 12) (j := 0) ly_X12_read_12 rfl (hG _ (List.mem_of_getElem? (i := 0) rfl)) (of12_0 _) (ce12 T ad _ _) (by decide) (cx_ts C _ fl_X12_read_22) (fun _ h => h) (v := .ref (ad 0 0 0)) rfl dX12_read_176 ?_
      refine fw_iload_n C dX12_read_179 rfl 2 rfl ?_
      obtain ⟨r28, q29, h⟩ := bd1_some h
      refine fw_callVi C (ci := 11) (Cn := RX11) (Tc := TX11) (N := 11) (As := [.int l1]) (c_X11_duration (gac (hG _ (List.mem_of_getElem? (i := 2) rfl)) (gac (hG _ (List.mem_of_getElem? (i := 3) rfl)) (gac (hG _ (List.mem_of_getElem? (i := 1) rfl)) (fun q hq => hG q (List.mem_append_right _ hq))))) q29) (cwV 1 (cx_ts C) gX12_read_X11_duration rfl rfl rfl (by decide +kernel) ⟨Nat.le_of_ble_eq_true rfl, Nat.le_of_ble_eq_true rfl⟩) rfl (hG _ (List.mem_of_getElem? (i := 3) rfl)) (of0_0 _) (ce0 T ad _ _) rfl (st := [.int l1, .ref (ad 12 0 4)]) rfl (Nat.le_of_ble_eq_true rfl) ⟨Nat.le_refl 0, Nat.le_refl 0⟩ dX12_read_180 (pp2 ?_)
      refine fw_iload_n C dX12_read_183 rfl 1 rfl ?_
      refine fw_iadd C dX12_read_184 ?_
      obtain ⟨b30, h⟩ := gd_some h
      obtain ⟨Y31, e32, h⟩ := lt_some h
      refine fw_iast2 C (hG _ (List.mem_of_getElem? (i := 0) rfl)) (of12_4 _) (ca12_4 T ad _) b30 (Nat.le_of_ble_eq_true rfl) dX12_read_185 ?_
      refine fw_mem e32 ?_
      refine fw_iinc C dX12_read_186 (kk := 2) (v := l1 + (-1)) rfl rfl (by decide) (L' := [(1, .int (l1 + (-1))), (3, .int l3), (2, .int l2), (0, .ref (ad 12 0 0))]) rfl ?_
      refine fw_goto C dX12_read_189 (tgt := 120) rfl ?_
      refine fw_sub [0, 3] (L' := [(1, .int (l1 + (-1))), (0, .ref (ad 12 0 0))]) rfl ?_
      exact hk120 _ _ h
    · have h := ite_f c27 h
      refine fw_aload_n C dX12_read_138 rfl 3 rfl ?_
      refine fw_iload_n C dX12_read_139 rfl 0 rfl ?_
      refine fw_iload_n C dX12_read_140 rfl 2 rfl ?_
      obtain ⟨r33, q34, h⟩ := bd1_some h
      refine fw_callVi C (ci := 12) (Cn := RX12) (Tc := TX12) (N := 12) (As := [.int l3, .int l1]) (c_X12_isAfter (gac (hG _ (List.mem_of_getElem? (i := 0) rfl)) (gac (hG _ (List.mem_of_getElem? (i := 3) rfl)) (gac (hG _ (List.mem_of_getElem? (i := 2) rfl)) (fun q hq => hG q (List.mem_append_right _ hq))))) q34) (cwV 2 (cx_ts C) gX12_read_X12_isAfter rfl rfl rfl (by decide +kernel) ⟨Nat.le_of_ble_eq_true rfl, Nat.le_of_ble_eq_true rfl⟩) rfl (hG _ (List.mem_of_getElem? (i := 0) rfl)) (of12_0 _) (ce12 T ad _ _) rfl (st := []) rfl (Nat.le_of_ble_eq_true rfl) ⟨Nat.le_refl 0, Nat.le_refl 0⟩ dX12_read_141 (pp2 ?_)
      refine fw_if_eq C dX12_read_144 (tgt := 164) rfl (fun c35 => ?_) (fun c35 => ?_)
      · have h := ite_t c35 h
        exact w_X12_read_b164 C hrt hG  ih _ _ _ _ h
      · have h := ite_f c35 h
        refine fw_aload_n C dX12_read_147 rfl 3 rfl ?_
        refine fw_get C (ci := 12) (Cn := RX12) (Tc := TX12) (N := 12) (j := 6) ly_X12_read_12 rfl (hG _ (List.mem_of_getElem? (i := 0) rfl)) (of12_0 _) (ce12 T ad _ _) (by decide) (cx_ts C _ fl_X12_read_19) (fun _ h => h) (v := .ref (ad 12 0 4)) rfl dX12_read_148 ?_
        refine fw_iload_n C dX12_read_151 rfl 0 rfl ?_
        obtain ⟨b36, h⟩ := gd_some h
        refine fw_iald2 C (hG _ (List.mem_of_getElem? (i := 0) rfl)) (of12_4 _) (ca12_4 T ad _ _) b36 (Nat.le_of_ble_eq_true rfl) dX12_read_152 ?_
        refine fw_iload_n C dX12_read_153 rfl 1 rfl ?_
        refine fw_icmp_le C dX12_read_154 (tgt := 164) rfl (fun c37 => ?_) (fun c37 => ?_)
        · have h := ite_t c37 h
          exact w_X12_read_b164 C hrt hG  ih _ _ _ _ h
        · have h := ite_f c37 h
          refine fw_aload_n C dX12_read_157 rfl 3 rfl ?_
          refine fw_get C (ci := 12) (Cn := RX12) (Tc := TX12) (N := 12) (j := 6) ly_X12_read_12 rfl (hG _ (List.mem_of_getElem? (i := 0) rfl)) (of12_0 _) (ce12 T ad _ _) (by decide) (cx_ts C _ fl_X12_read_19) (fun _ h => h) (v := .ref (ad 12 0 4)) rfl dX12_read_158 ?_
          refine fw_iload_n C dX12_read_161 rfl 0 rfl ?_
          refine fw_iald2 C (hG _ (List.mem_of_getElem? (i := 0) rfl)) (of12_4 _) (ca12_4 T ad _ _) b36 (Nat.le_of_ble_eq_true rfl) dX12_read_162 ?_
          obtain ⟨v38, e39, h⟩ := lt_some h
          refine fw_top (v' := .int v38) (by rw [e39]) ?_
          refine fw_istore_n C dX12_read_163 rfl (by decide) (L' := [(2, .int v38), (3, .int l3), (1, .int l1), (0, .ref (ad 12 0 0))]) rfl ?_
          refine fw_sub [1, 0, 2, 3] (L' := [(3, .int l3), (2, .int v38), (1, .int l1), (0, .ref (ad 12 0 0))]) rfl ?_
          exact w_X12_read_b164 C hrt hG  ih _ _ _ _ h
set_option maxRecDepth 100000 in
set_option maxHeartbeats 4000000 in
theorem w_X12_read_b120  (C : Cx p s m [.ref (ad 12 0 0)].toArray meth c cX12_read 4 wsX12_read RX12 N0 T D gr ad) (hrt : meth.sig.returnType = none) (hG : ∀ q ∈ ([(12, 0), (2, 0), (1, 0), (0, 0)] ++ allG), q ∈ gr) {res : Mem} : ∀ (n : Nat) (Y : Mem) (l1 : Int32), X12_read_b120   n Y l1 = some res → FW p l e (Rm 4) s m [.ref (ad 12 0 0)].toArray below meth c 4 N0 T D gr ad 0 0 (MQ below (va_Qv (fun Y1 => Y1 = res) (WB T D gr ad) (fun q => N0 ≤ q)) [.ref (ad 12 0 0)].toArray s 0 0 (fun q => N0 ≤ q)) Y 120 [(1, .int l1), (0, .ref (ad 12 0 0))] [] := by
  intro n
  induction n with
  | zero =>
    intro Y l1 h
    unfold X12_read_b120 at h
    cases h
  | succ n ih =>
    intro Y l1 h
    unfold X12_read_b120 at h
    refine fw_iload_n C dX12_read_120 rfl 0 rfl ?_
    refine fw_if_lt C dX12_read_121 (tgt := 192) rfl (fun c24 => ?_) (fun c24 => ?_)
    · have h := ite_t c24 h
      exact fw_vret C hrt Y (Option.some.inj h) (fun t ht => ht) dX12_read_192
    · have h := ite_f c24 h
      refine fw_iconst C dX12_read_124 (v := 0) rfl ?_
      refine fw_istore_n C dX12_read_125 rfl (by decide) (L' := [(2, .int 0), (1, .int l1), (0, .ref (ad 12 0 0))]) rfl ?_
      refine fw_iload_n C dX12_read_126 rfl 1 rfl ?_
      refine fw_iconst C dX12_read_127 (v := 1) rfl ?_
      refine fw_iadd C dX12_read_128 ?_
      obtain ⟨v25, e26, h⟩ := lt_some h
      refine fw_top (v' := .int v25) (by rw [e26]) ?_
      refine fw_istore_n C dX12_read_129 rfl (by decide) (L' := [(3, .int v25), (2, .int 0), (1, .int l1), (0, .ref (ad 12 0 0))]) rfl ?_
      exact w_X12_read_b130 C hrt hG  ih _ _ _ _ _ h
set_option maxRecDepth 100000 in
set_option maxHeartbeats 4000000 in
theorem w_X12_read_b57  (C : Cx p s m [.ref (ad 12 0 0)].toArray meth c cX12_read 4 wsX12_read RX12 N0 T D gr ad) (hrt : meth.sig.returnType = none) (hG : ∀ q ∈ ([(12, 0), (2, 0), (1, 0), (0, 0)] ++ allG), q ∈ gr) {res : Mem} : ∀ (n : Nat) (Y : Mem) (l1 : Int32), X12_read_b57   n Y l1 = some res → FW p l e (Rm 4) s m [.ref (ad 12 0 0)].toArray below meth c 4 N0 T D gr ad 0 0 (MQ below (va_Qv (fun Y1 => Y1 = res) (WB T D gr ad) (fun q => N0 ≤ q)) [.ref (ad 12 0 0)].toArray s 0 0 (fun q => N0 ≤ q)) Y 57 [(1, .int l1), (0, .ref (ad 12 0 0))] [] := by
  intro n
  induction n with
  | zero =>
    intro Y l1 h
    unfold X12_read_b57 at h
    cases h
  | succ n ih =>
    intro Y l1 h
    unfold X12_read_b57 at h
    refine fw_iload_n C dX12_read_57 rfl 0 rfl ?_
    refine fw_aload_n C dX12_read_58 rfl 1 rfl ?_
    refine fw_get C (ci := 12) (Cn := RX12) (Tc := TX12) (N := 12) (j := 1) ly_X12_read_12 rfl (hG _ (List.mem_of_getElem? (i := 0) rfl)) (of12_0 _) (ce12 T ad _ _) (by decide) (cx_ts C _ fl_X12_read_36) (fun _ h => h) (v := .int (Y 12 0 0 1)) rfl dX12_read_59 ?_
    refine fw_icmp_ge C dX12_read_62 (tgt := 113) rfl (fun c21 => ?_) (fun c21 => ?_)
    · have h := ite_t c21 h
      refine fw_aload_n C dX12_read_113 rfl 1 rfl ?_
      refine fw_get C (ci := 12) (Cn := RX12) (Tc := TX12) (N := 12) (j := 1) ly_X12_read_12 rfl (hG _ (List.mem_of_getElem? (i := 0) rfl)) (of12_0 _) (ce12 T ad _ _) (by decide) (cx_ts C _ fl_X12_read_36) (fun _ h => h) (v := .int (Y 12 0 0 1)) rfl dX12_read_114 ?_
      refine fw_iconst C dX12_read_117 (v := 1) rfl ?_
      refine fw_isub C dX12_read_118 ?_
      obtain ⟨v22, e23, h⟩ := lt_some h
      refine fw_top (v' := .int v22) (by rw [e23]) ?_
      refine fw_istore_n C dX12_read_119 rfl (by decide) (L' := [(1, .int v22), (0, .ref (ad 12 0 0))]) rfl ?_
      exact w_X12_read_b120 C hrt hG   _ _ _ h
    · have h := ite_f c21 h
      refine fw_aload_n C dX12_read_65 rfl 1 rfl ?_
      refine fw_get C (ci := 12) (Cn := RX12) (Tc := TX12) (N := 12) (j := 3) ly_X12_read_12 rfl (hG _ (List.mem_of_getElem? (i := 0) rfl)) (of12_0 _) (ce12 T ad _ _) (by decide) (cx_ts C _ fl_X12_read_7) (fun _ h => h) (v := .ref (ad 12 0 1)) rfl dX12_read_66 ?_
      refine fw_iload_n C dX12_read_69 rfl 0 rfl ?_
      refine fw_aload_n C dX12_read_70 rfl 1 rfl ?_
      refine fw_get C (ci := 12) (Cn := RX12) (Tc := TX12) (N := 12) (j := 0) ly_X12_read_12 rfl (hG _ (List.mem_of_getElem? (i := 0) rfl)) (of12_0 _) (ce12 T ad _ _) (by decide) (cx_ts C _ fl_X12_read_22) (fun _ h => h) (v := .ref (ad 0 0 0)) rfl dX12_read_71 ?_
      refine fw_iload_n C dX12_read_74 rfl 0 rfl ?_
      obtain ⟨r40, q41, h⟩ := bd1_some h
      refine fw_callVi C (ci := 11) (Cn := RX11) (Tc := TX11) (N := 11) (As := [.int l1]) (c_X11_status (gac (hG _ (List.mem_of_getElem? (i := 2) rfl)) (gac (hG _ (List.mem_of_getElem? (i := 3) rfl)) (gac (hG _ (List.mem_of_getElem? (i := 1) rfl)) (fun q hq => hG q (List.mem_append_right _ hq))))) q41) (cwV 1 (cx_ts C) gX12_read_X11_status rfl rfl rfl (by decide +kernel) ⟨Nat.le_of_ble_eq_true rfl, Nat.le_of_ble_eq_true rfl⟩) rfl (hG _ (List.mem_of_getElem? (i := 3) rfl)) (of0_0 _) (ce0 T ad _ _) rfl (st := [.int l1, .ref (ad 12 0 1)]) rfl (Nat.le_of_ble_eq_true rfl) ⟨Nat.le_refl 0, Nat.le_refl 0⟩ dX12_read_75 (pp2 ?_)
      obtain ⟨b42, h⟩ := gd_some h
      obtain ⟨Y43, e44, h⟩ := lt_some h
      refine fw_iast2 C (hG _ (List.mem_of_getElem? (i := 0) rfl)) (of12_1 _) (ca12_1 T ad _) b42 (Nat.le_of_ble_eq_true rfl) dX12_read_78 ?_
      refine fw_mem e44 ?_
      refine fw_aload_n C dX12_read_79 rfl 1 rfl ?_
      refine fw_get C (ci := 12) (Cn := RX12) (Tc := TX12) (N := 12) (j := 4) ly_X12_read_12 rfl (hG _ (List.mem_of_getElem? (i := 0) rfl)) (of12_0 _) (ce12 T ad _ _) (by decide) (cx_ts C _ fl_X12_read_13) (fun _ h => h) (v := .ref (ad 12 0 2)) rfl dX12_read_80 ?_
      refine fw_iload_n C dX12_read_83 rfl 0 rfl ?_
      refine fw_aload_n C dX12_read_84 rfl 1 rfl ?_
      refine fw_get C (ci := 12) (Cn := RX12) (Tc := TX12) (N := 12) (j := 0) ly_X12_read_12 rfl (hG _ (List.mem_of_getElem? (i := 0) rfl)) (of12_0 _) (ce12 T ad _ _) (by decide) (cx_ts C _ fl_X12_read_22) (fun _ h => h) (v := .ref (ad 0 0 0)) rfl dX12_read_85 ?_
      refine fw_iload_n C dX12_read_88 rfl 0 rfl ?_
      obtain ⟨r45, q46, h⟩ := bd1_some h
      refine fw_callVi C (ci := 11) (Cn := RX11) (Tc := TX11) (N := 11) (As := [.int l1]) (c_X11_remaining (gac (hG _ (List.mem_of_getElem? (i := 2) rfl)) (gac (hG _ (List.mem_of_getElem? (i := 3) rfl)) (gac (hG _ (List.mem_of_getElem? (i := 1) rfl)) (fun q hq => hG q (List.mem_append_right _ hq))))) q46) (cwV 1 (cx_ts C) gX12_read_X11_remaining rfl rfl rfl (by decide +kernel) ⟨Nat.le_of_ble_eq_true rfl, Nat.le_of_ble_eq_true rfl⟩) rfl (hG _ (List.mem_of_getElem? (i := 3) rfl)) (of0_0 _) (ce0 T ad _ _) rfl (st := [.int l1, .ref (ad 12 0 2)]) rfl (Nat.le_of_ble_eq_true rfl) ⟨Nat.le_refl 0, Nat.le_refl 0⟩ dX12_read_89 (pp2 ?_)
      obtain ⟨Y47, e48, h⟩ := lt_some h
      refine fw_iast2 C (hG _ (List.mem_of_getElem? (i := 0) rfl)) (of12_2 _) (ca12_2 T ad _) b42 (Nat.le_of_ble_eq_true rfl) dX12_read_92 ?_
      refine fw_mem e48 ?_
      refine fw_aload_n C dX12_read_93 rfl 1 rfl ?_
      refine fw_get C (ci := 12) (Cn := RX12) (Tc := TX12) (N := 12) (j := 5) ly_X12_read_12 rfl (hG _ (List.mem_of_getElem? (i := 0) rfl)) (of12_0 _) (ce12 T ad _ _) (by decide) (cx_ts C _ fl_X12_read_16) (fun _ h => h) (v := .ref (ad 12 0 3)) rfl dX12_read_94 ?_
      refine fw_iload_n C dX12_read_97 rfl 0 rfl ?_
      refine fw_aload_n C dX12_read_98 rfl 1 rfl ?_
      refine fw_get C (ci := 12) (Cn := RX12) (Tc := TX12) (N := 12) (j := 0) ly_X12_read_12 rfl (hG _ (List.mem_of_getElem? (i := 0) rfl)) (of12_0 _) (ce12 T ad _ _) (by decide) (cx_ts C _ fl_X12_read_22) (fun _ h => h) (v := .ref (ad 0 0 0)) rfl dX12_read_99 ?_
      refine fw_iload_n C dX12_read_102 rfl 0 rfl ?_
      obtain ⟨r49, q50, h⟩ := bd1_some h
      refine fw_callVi C (ci := 11) (Cn := RX11) (Tc := TX11) (N := 11) (As := [.int l1]) (c_X11_age (gac (hG _ (List.mem_of_getElem? (i := 2) rfl)) (gac (hG _ (List.mem_of_getElem? (i := 3) rfl)) (gac (hG _ (List.mem_of_getElem? (i := 1) rfl)) (fun q hq => hG q (List.mem_append_right _ hq))))) q50) (cwV 1 (cx_ts C) gX12_read_X11_age rfl rfl rfl (by decide +kernel) ⟨Nat.le_of_ble_eq_true rfl, Nat.le_of_ble_eq_true rfl⟩) rfl (hG _ (List.mem_of_getElem? (i := 3) rfl)) (of0_0 _) (ce0 T ad _ _) rfl (st := [.int l1, .ref (ad 12 0 3)]) rfl (Nat.le_of_ble_eq_true rfl) ⟨Nat.le_refl 0, Nat.le_refl 0⟩ dX12_read_103 (pp2 ?_)
      obtain ⟨Y51, e52, h⟩ := lt_some h
      refine fw_iast2 C (hG _ (List.mem_of_getElem? (i := 0) rfl)) (of12_3 _) (ca12_3 T ad _) b42 (Nat.le_of_ble_eq_true rfl) dX12_read_106 ?_
      refine fw_mem e52 ?_
      refine fw_iinc C dX12_read_107 (kk := 0) (v := l1 + 1) rfl rfl (by decide) (L' := [(1, .int (l1 + 1)), (0, .ref (ad 12 0 0))]) rfl ?_
      refine fw_goto C dX12_read_110 (tgt := 57) rfl ?_
      exact ih _ _ h
set_option maxRecDepth 100000 in
set_option maxHeartbeats 4000000 in
theorem w_X12_read {Y : Mem} (C : Cx p s m [.ref (ad 12 0 0)].toArray meth c cX12_read 4 wsX12_read RX12 N0 T D gr ad) (hrt : meth.sig.returnType = none) (hG : ∀ q ∈ ([(12, 0), (2, 0), (1, 0), (0, 0)] ++ allG), q ∈ gr) {res : Mem} (h : X12_read Y = some res) : FW p l e (Rm 4) s m [.ref (ad 12 0 0)].toArray below meth c 4 N0 T D gr ad 0 0 (MQ below (va_Qv (fun Y1 => Y1 = res) (WB T D gr ad) (fun q => N0 ≤ q)) [.ref (ad 12 0 0)].toArray s 0 0 (fun q => N0 ≤ q)) Y 0 [(0, .ref (ad 12 0 0))] [] := by
  unfold X12_read at h
  refine fw_aload_n C dX12_read_0 rfl 0 rfl ?_
  refine fw_aload_n C dX12_read_1 rfl 0 rfl ?_
  refine fw_get C (ci := 12) (Cn := RX12) (Tc := TX12) (N := 12) (j := 0) ly_X12_read_12 rfl (hG _ (List.mem_of_getElem? (i := 0) rfl)) (of12_0 _) (ce12 T ad _ _) (by decide) (cx_ts C _ fl_X12_read_22) (fun _ h => h) (v := .ref (ad 0 0 0)) rfl dX12_read_2 ?_
  obtain ⟨r1, q2, h⟩ := bd1_some h
  refine fw_callVi C (ci := 11) (Cn := RX11) (Tc := TX11) (N := 11) (As := []) (c_X11_minute (gac (hG _ (List.mem_of_getElem? (i := 3) rfl)) (gac (hG _ (List.mem_of_getElem? (i := 2) rfl)) (gac (hG _ (List.mem_of_getElem? (i := 1) rfl)) ga0))) q2) (cwV 0 (cx_ts C) gX12_read_X11_minute rfl rfl rfl (by decide +kernel) ⟨Nat.le_of_ble_eq_true rfl, Nat.le_of_ble_eq_true rfl⟩) rfl (hG _ (List.mem_of_getElem? (i := 3) rfl)) (of0_0 _) (ce0 T ad _ _) rfl (st := [.ref (ad 12 0 0)]) rfl (Nat.le_of_ble_eq_true rfl) ⟨Nat.le_refl 0, Nat.le_refl 0⟩ dX12_read_5 (pp2 ?_)
  obtain ⟨Y3, e4, h⟩ := lt_some h
  refine fw_put C (ci := 12) (Cn := RX12) (Tc := TX12) (N := 12) (j := 7) (ty := .int) (upd (Y 12 0 0) 7 r1) ly_X12_read_12 rfl tyX12_ok nmX12 (hG _ (List.mem_of_getElem? (i := 0) rfl)) (of12_0 _) (ce12 T ad _ _) (by decide) (cx_ts C _ fl_X12_read_42) (fun _ h => h) rfl (by decide +kernel) rfl rfl (Nat.le_of_ble_eq_true rfl) (ce12_put7 T ad _ _ _) dX12_read_8 ?_
  refine fw_mem ((up_eq _ _ _ _ _ _).symm.trans e4) ?_
  refine fw_aload_n C dX12_read_11 rfl 0 rfl ?_
  refine fw_aload_n C dX12_read_12 rfl 0 rfl ?_
  refine fw_get C (ci := 12) (Cn := RX12) (Tc := TX12) (N := 12) (j := 0) ly_X12_read_12 rfl (hG _ (List.mem_of_getElem? (i := 0) rfl)) (of12_0 _) (ce12 T ad _ _) (by decide) (cx_ts C _ fl_X12_read_22) (fun _ h => h) (v := .ref (ad 0 0 0)) rfl dX12_read_13 ?_
  obtain ⟨r5, q6, h⟩ := bd1_some h
  refine fw_callVi C (ci := 11) (Cn := RX11) (Tc := TX11) (N := 11) (As := []) (c_X11_starts (gac (hG _ (List.mem_of_getElem? (i := 3) rfl)) (gac (hG _ (List.mem_of_getElem? (i := 2) rfl)) (gac (hG _ (List.mem_of_getElem? (i := 1) rfl)) (fun q hq => hG q (List.mem_append_right _ hq))))) q6) (cwV 0 (cx_ts C) gX12_read_X11_starts rfl rfl rfl (by decide +kernel) ⟨Nat.le_of_ble_eq_true rfl, Nat.le_of_ble_eq_true rfl⟩) rfl (hG _ (List.mem_of_getElem? (i := 3) rfl)) (of0_0 _) (ce0 T ad _ _) rfl (st := [.ref (ad 12 0 0)]) rfl (Nat.le_of_ble_eq_true rfl) ⟨Nat.le_refl 0, Nat.le_refl 0⟩ dX12_read_16 (pp2 ?_)
  obtain ⟨Y7, e8, h⟩ := lt_some h
  refine fw_put C (ci := 12) (Cn := RX12) (Tc := TX12) (N := 12) (j := 8) (ty := .int) (upd (Y3 12 0 0) 8 r5) ly_X12_read_12 rfl tyX12_ok nmX12 (hG _ (List.mem_of_getElem? (i := 0) rfl)) (of12_0 _) (ce12 T ad _ _) (by decide) (cx_ts C _ fl_X12_read_47) (fun _ h => h) rfl (by decide +kernel) rfl rfl (Nat.le_of_ble_eq_true rfl) (ce12_put8 T ad _ _ _) dX12_read_19 ?_
  refine fw_mem ((up_eq _ _ _ _ _ _).symm.trans e8) ?_
  refine fw_aload_n C dX12_read_22 rfl 0 rfl ?_
  refine fw_aload_n C dX12_read_23 rfl 0 rfl ?_
  refine fw_get C (ci := 12) (Cn := RX12) (Tc := TX12) (N := 12) (j := 0) ly_X12_read_12 rfl (hG _ (List.mem_of_getElem? (i := 0) rfl)) (of12_0 _) (ce12 T ad _ _) (by decide) (cx_ts C _ fl_X12_read_22) (fun _ h => h) (v := .ref (ad 0 0 0)) rfl dX12_read_24 ?_
  obtain ⟨r9, q10, h⟩ := bd1_some h
  refine fw_callVi C (ci := 11) (Cn := RX11) (Tc := TX11) (N := 11) (As := []) (c_X11_completions (gac (hG _ (List.mem_of_getElem? (i := 3) rfl)) (gac (hG _ (List.mem_of_getElem? (i := 2) rfl)) (gac (hG _ (List.mem_of_getElem? (i := 1) rfl)) (fun q hq => hG q (List.mem_append_right _ hq))))) q10) (cwV 0 (cx_ts C) gX12_read_X11_completions rfl rfl rfl (by decide +kernel) ⟨Nat.le_of_ble_eq_true rfl, Nat.le_of_ble_eq_true rfl⟩) rfl (hG _ (List.mem_of_getElem? (i := 3) rfl)) (of0_0 _) (ce0 T ad _ _) rfl (st := [.ref (ad 12 0 0)]) rfl (Nat.le_of_ble_eq_true rfl) ⟨Nat.le_refl 0, Nat.le_refl 0⟩ dX12_read_27 (pp2 ?_)
  obtain ⟨Y11, e12, h⟩ := lt_some h
  refine fw_put C (ci := 12) (Cn := RX12) (Tc := TX12) (N := 12) (j := 9) (ty := .int) (upd (Y7 12 0 0) 9 r9) ly_X12_read_12 rfl tyX12_ok nmX12 (hG _ (List.mem_of_getElem? (i := 0) rfl)) (of12_0 _) (ce12 T ad _ _) (by decide) (cx_ts C _ fl_X12_read_52) (fun _ h => h) rfl (by decide +kernel) rfl rfl (Nat.le_of_ble_eq_true rfl) (ce12_put9 T ad _ _ _) dX12_read_30 ?_
  refine fw_mem ((up_eq _ _ _ _ _ _).symm.trans e12) ?_
  refine fw_aload_n C dX12_read_33 rfl 0 rfl ?_
  refine fw_aload_n C dX12_read_34 rfl 0 rfl ?_
  refine fw_get C (ci := 12) (Cn := RX12) (Tc := TX12) (N := 12) (j := 0) ly_X12_read_12 rfl (hG _ (List.mem_of_getElem? (i := 0) rfl)) (of12_0 _) (ce12 T ad _ _) (by decide) (cx_ts C _ fl_X12_read_22) (fun _ h => h) (v := .ref (ad 0 0 0)) rfl dX12_read_35 ?_
  obtain ⟨r13, q14, h⟩ := bd1_some h
  refine fw_callVi C (ci := 11) (Cn := RX11) (Tc := TX11) (N := 11) (As := []) (c_X11_burns (gac (hG _ (List.mem_of_getElem? (i := 3) rfl)) (gac (hG _ (List.mem_of_getElem? (i := 2) rfl)) (gac (hG _ (List.mem_of_getElem? (i := 1) rfl)) (fun q hq => hG q (List.mem_append_right _ hq))))) q14) (cwV 0 (cx_ts C) gX12_read_X11_burns rfl rfl rfl (by decide +kernel) ⟨Nat.le_of_ble_eq_true rfl, Nat.le_of_ble_eq_true rfl⟩) rfl (hG _ (List.mem_of_getElem? (i := 3) rfl)) (of0_0 _) (ce0 T ad _ _) rfl (st := [.ref (ad 12 0 0)]) rfl (Nat.le_of_ble_eq_true rfl) ⟨Nat.le_refl 0, Nat.le_refl 0⟩ dX12_read_38 (pp2 ?_)
  obtain ⟨Y15, e16, h⟩ := lt_some h
  refine fw_put C (ci := 12) (Cn := RX12) (Tc := TX12) (N := 12) (j := 10) (ty := .int) (upd (Y11 12 0 0) 10 r13) ly_X12_read_12 rfl tyX12_ok nmX12 (hG _ (List.mem_of_getElem? (i := 0) rfl)) (of12_0 _) (ce12 T ad _ _) (by decide) (cx_ts C _ fl_X12_read_57) (fun _ h => h) rfl (by decide +kernel) rfl rfl (Nat.le_of_ble_eq_true rfl) (ce12_put10 T ad _ _ _) dX12_read_41 ?_
  refine fw_mem ((up_eq _ _ _ _ _ _).symm.trans e16) ?_
  refine fw_aload_n C dX12_read_44 rfl 0 rfl ?_
  refine fw_aload_n C dX12_read_45 rfl 0 rfl ?_
  refine fw_get C (ci := 12) (Cn := RX12) (Tc := TX12) (N := 12) (j := 0) ly_X12_read_12 rfl (hG _ (List.mem_of_getElem? (i := 0) rfl)) (of12_0 _) (ce12 T ad _ _) (by decide) (cx_ts C _ fl_X12_read_22) (fun _ h => h) (v := .ref (ad 0 0 0)) rfl dX12_read_46 ?_
  obtain ⟨r17, q18, h⟩ := bd1_some h
  refine fw_callVi C (ci := 11) (Cn := RX11) (Tc := TX11) (N := 11) (As := []) (c_X11_cookMinutes (gac (hG _ (List.mem_of_getElem? (i := 3) rfl)) (gac (hG _ (List.mem_of_getElem? (i := 2) rfl)) (gac (hG _ (List.mem_of_getElem? (i := 1) rfl)) ga0))) q18) (cwV 0 (cx_ts C) gX12_read_X11_cookMinutes rfl rfl rfl (by decide +kernel) ⟨Nat.le_of_ble_eq_true rfl, Nat.le_of_ble_eq_true rfl⟩) rfl (hG _ (List.mem_of_getElem? (i := 3) rfl)) (of0_0 _) (ce0 T ad _ _) rfl (st := [.ref (ad 12 0 0)]) rfl (Nat.le_of_ble_eq_true rfl) ⟨Nat.le_refl 0, Nat.le_refl 0⟩ dX12_read_49 (pp2 ?_)
  obtain ⟨Y19, e20, h⟩ := lt_some h
  refine fw_put C (ci := 12) (Cn := RX12) (Tc := TX12) (N := 12) (j := 11) (ty := .int) (upd (Y15 12 0 0) 11 r17) ly_X12_read_12 rfl tyX12_ok nmX12 (hG _ (List.mem_of_getElem? (i := 0) rfl)) (of12_0 _) (ce12 T ad _ _) (by decide) (cx_ts C _ fl_X12_read_62) (fun _ h => h) rfl (by decide +kernel) rfl rfl (Nat.le_of_ble_eq_true rfl) (ce12_put11 T ad _ _ _) dX12_read_52 ?_
  refine fw_mem ((up_eq _ _ _ _ _ _).symm.trans e20) ?_
  refine fw_iconst C dX12_read_55 (v := 0) rfl ?_
  refine fw_istore_n C dX12_read_56 rfl (by decide) (L' := [(1, .int 0), (0, .ref (ad 12 0 0))]) rfl ?_
  exact w_X12_read_b57 C hrt hG   _ _ _ h
end
set_option maxRecDepth 100000 in
set_option maxHeartbeats 4000000 in
theorem c_X12_read {l : Launch} {N0 : Nat} {T : Nat → ClassId} {D : va_G} {gr : List (Nat × Nat)} {ad : Nat → Nat → Nat → Nat} {Y : Mem} {res : Mem} (hG : ∀ q ∈ ([(12, 0), (2, 0), (1, 0), (0, 0)] ++ allG), q ∈ gr) (h : X12_read Y = some res) : CV l yX12_read wsX12_read (Rm 4) N0 T D gr ad Y [.ref (ad 12 0 0)] (fun Y1 => Y1 = res) :=
  fw_body (by decide +kernel) rfl (Nat.le_of_ble_eq_true rfl) (fun p e s m below meth c C hrt => w_X12_read C hrt hG  h)
theorem kc_L_pick_7 : Cond.constant RL 7 (2147483647) ∈ wsL_pick := by decide +kernel
section
variable {p : Program} {l : Launch} {e : Env} {s : State} {m : MethodId} {below : List Frame} {meth : Method} {c : Code} {N0 : Nat} {T : Nat → ClassId} {D : va_G} {gr : List (Nat × Nat)} {ad : Nat → Nat → Nat → Nat}
set_option maxRecDepth 100000 in
set_option maxHeartbeats 4000000 in
theorem w_L_pick {Y : Mem} {k0 : Nat} {g0 : Nat} {o0 : Nat} {n0 : Nat} {a1 : Int32} {a2 : Int32} (C : Cx p s m [.ref (ad k0 g0 o0), .int a1, .int a2].toArray meth c cL_pick 3 wsL_pick RL N0 T D gr ad) (hrt : meth.sig.returnType = (some .int)) (hG : ∀ q ∈ [(k0, g0)], q ∈ gr) (hA0 : ∀ y, cell T ad k0 g0 o0 y = .inl (T 0, n0, .inl y)) (hO0 : o0 ∈ offs k0 g0) (hN0 : n0 < 2 ^ 31) {res : Int32} (h : L_pick Y k0 g0 o0 n0 a1 a2 = some res) : FW p l e (Rm 0) s m [.ref (ad k0 g0 o0), .int a1, .int a2].toArray below meth c 3 N0 T D gr ad 0 0 (MQ below (va_Qi (fun r Y1 => r = res ∧ Y1 = Y) (WB T D gr ad) (fun q => N0 ≤ q)) [.ref (ad k0 g0 o0), .int a1, .int a2].toArray s 0 0 (fun q => N0 ≤ q)) Y 0 [(0, .ref (ad k0 g0 o0)), (1, .int a1), (2, .int a2)] [] := by
  unfold L_pick at h
  refine fw_iload_n C dL_pick_0 rfl 1 rfl ?_
  refine fw_aload_n C dL_pick_1 rfl 0 rfl ?_
  refine fw_alen C 0 (hG _ (List.mem_of_getElem? (i := 0) rfl)) hO0 (hA0 _) rfl (v := (Int32.ofNat n0)) rfl dL_pick_2 ?_
  refine fw_icmp_ge C dL_pick_3 (tgt := 17) rfl (fun c1 => ?_) (fun c1 => ?_)
  · have h := ite_t c1 h
    refine fw_iconst C dL_pick_17 (v := 0) rfl ?_
    exact fw_iret C hrt Y ⟨Option.some.inj h, rfl⟩ (fun t ht => ht) dL_pick_18
  · have h := ite_f c1 h
    refine fw_aload_n C dL_pick_6 rfl 0 rfl ?_
    refine fw_iload_n C dL_pick_7 rfl 1 rfl ?_
    obtain ⟨b2, h⟩ := gd_some h
    refine fw_iald2 C (hG _ (List.mem_of_getElem? (i := 0) rfl)) hO0 (hA0 _) b2 hN0 dL_pick_8 ?_
    refine fw_ldc C (cx_ts C _ kc_L_pick_7) dL_pick_9 ?_
    refine fw_iand C dL_pick_11 ?_
    refine fw_iload_n C dL_pick_12 rfl 2 rfl ?_
    obtain ⟨b3, h⟩ := gd_some h
    refine fw_irem C dL_pick_13 (of_decide_eq_true b3) ?_
    refine fw_goto C dL_pick_14 (tgt := 18) rfl ?_
    exact fw_iret C hrt Y ⟨Option.some.inj h, rfl⟩ (fun t ht => ht) dL_pick_18
end
set_option maxRecDepth 100000 in
set_option maxHeartbeats 4000000 in
theorem c_L_pick {l : Launch} {N0 : Nat} {T : Nat → ClassId} {D : va_G} {gr : List (Nat × Nat)} {ad : Nat → Nat → Nat → Nat} {Y : Mem} {k0 : Nat} {g0 : Nat} {o0 : Nat} {n0 : Nat} {a1 : Int32} {a2 : Int32} {res : Int32} (hG : ∀ q ∈ [(k0, g0)], q ∈ gr) (hA0 : ∀ y, cell T ad k0 g0 o0 y = .inl (T 0, n0, .inl y)) (hO0 : o0 ∈ offs k0 g0) (hN0 : n0 < 2 ^ 31) (h : L_pick Y k0 g0 o0 n0 a1 a2 = some res) : CI l yL_pick wsL_pick (Rm 0) N0 T D gr ad Y [.ref (ad k0 g0 o0), .int a1, .int a2] (fun r Y1 => r = res ∧ Y1 = Y) :=
  fw_body (by decide +kernel) rfl (Nat.le_of_ble_eq_true rfl) (fun p e s m below meth c C hrt => w_L_pick C hrt hG hA0 hO0 hN0 h)
