theorem ly_X12_agrees_12 : ∀ w ∈ u_ws RX12 TX12 12, w ∈ wsX12_agrees := by decide +kernel
theorem fl_X12_agrees_22 : Cond.fieldLink RX12 22 "RecipeSchedulerLaw$Kitchen" "x" "LRecipeScheduler;" ∈ wsX12_agrees := by decide +kernel
theorem fl_X12_agrees_42 : Cond.fieldLink RX12 42 "RecipeSchedulerLaw$Kitchen" "minute" "I" ∈ wsX12_agrees := by decide +kernel
theorem fl_X12_agrees_47 : Cond.fieldLink RX12 47 "RecipeSchedulerLaw$Kitchen" "starts" "I" ∈ wsX12_agrees := by decide +kernel
theorem fl_X12_agrees_52 : Cond.fieldLink RX12 52 "RecipeSchedulerLaw$Kitchen" "completions" "I" ∈ wsX12_agrees := by decide +kernel
theorem fl_X12_agrees_57 : Cond.fieldLink RX12 57 "RecipeSchedulerLaw$Kitchen" "burns" "I" ∈ wsX12_agrees := by decide +kernel
theorem fl_X12_agrees_62 : Cond.fieldLink RX12 62 "RecipeSchedulerLaw$Kitchen" "cookMinutes" "I" ∈ wsX12_agrees := by decide +kernel
theorem fl_X12_agrees_36 : Cond.fieldLink RX12 36 "RecipeSchedulerLaw$Kitchen" "many" "I" ∈ wsX12_agrees := by decide +kernel
theorem fl_X12_agrees_7 : Cond.fieldLink RX12 7 "RecipeSchedulerLaw$Kitchen" "status" "[I" ∈ wsX12_agrees := by decide +kernel
theorem fl_X12_agrees_16 : Cond.fieldLink RX12 16 "RecipeSchedulerLaw$Kitchen" "age" "[I" ∈ wsX12_agrees := by decide +kernel
theorem fl_X12_agrees_13 : Cond.fieldLink RX12 13 "RecipeSchedulerLaw$Kitchen" "left" "[I" ∈ wsX12_agrees := by decide +kernel
section
variable {p : Program} {l : Launch} {e : Env} {s : State} {m : MethodId} {below : List Frame} {meth : Method} {c : Code} {N0 : Nat} {T : Nat → ClassId} {D : va_G} {gr : List (Nat × Nat)} {ad : Nat → Nat → Nat → Nat}
set_option maxRecDepth 100000 in
set_option maxHeartbeats 4000000 in
theorem w_X12_agrees_b200 {Y : Mem} (C : Cx p s m [.ref (ad 12 0 0)].toArray meth c cX12_agrees 3 wsX12_agrees RX12 N0 T D gr ad) (hrt : meth.sig.returnType = (some .boolean)) (hG : ∀ q ∈ ([(12, 0), (2, 0), (1, 0), (0, 0)] ++ allG), q ∈ gr) {res : Int32} {k82 : Int32 → Int32 → Option (Int32)} (hk82 : ∀ (l2 : Int32) (l1 : Int32), k82 l2 l1 = some res → FW p l e (Rm 4) s m [.ref (ad 12 0 0)].toArray below meth c 3 N0 T D gr ad 0 0 (MQ below (va_Qi (fun r Y1 => r = res ∧ Y1 = Y) (WB T D gr ad) (fun q => N0 ≤ q)) [.ref (ad 12 0 0)].toArray s 0 0 (fun q => N0 ≤ q)) Y 82 [(2, .int l2), (1, .int l1), (0, .ref (ad 12 0 0))] []) (l2 : Int32) (s0 : Int32) (s1 : Int32) (h : X12_agrees_b200 Y k82 l2 s0 s1 = some res) : FW p l e (Rm 4) s m [.ref (ad 12 0 0)].toArray below meth c 3 N0 T D gr ad 0 0 (MQ below (va_Qi (fun r Y1 => r = res ∧ Y1 = Y) (WB T D gr ad) (fun q => N0 ≤ q)) [.ref (ad 12 0 0)].toArray s 0 0 (fun q => N0 ≤ q)) Y 200 [(2, .int l2), (0, .ref (ad 12 0 0))] [.int s0, .int s1] := by
  unfold X12_agrees_b200 at h
  refine fw_iadd C dX12_agrees_200 ?_
  obtain ⟨v40, e41, h⟩ := lt_some h
  refine fw_top (v' := .int v40) (by rw [e41]) ?_
  refine fw_istore_n C dX12_agrees_201 rfl (by decide) (L' := [(1, .int v40), (2, .int l2), (0, .ref (ad 12 0 0))]) rfl ?_
  refine fw_iinc C dX12_agrees_202 (kk := 1) (v := l2 + 1) rfl rfl (by decide) (L' := [(2, .int (l2 + 1)), (1, .int v40), (0, .ref (ad 12 0 0))]) rfl ?_
  refine fw_goto C dX12_agrees_205 (tgt := 82) rfl ?_
  exact hk82 _ _ h
set_option maxRecDepth 100000 in
set_option maxHeartbeats 4000000 in
theorem w_X12_agrees_b177 {Y : Mem} (C : Cx p s m [.ref (ad 12 0 0)].toArray meth c cX12_agrees 3 wsX12_agrees RX12 N0 T D gr ad) (hrt : meth.sig.returnType = (some .boolean)) (hG : ∀ q ∈ ([(12, 0), (2, 0), (1, 0), (0, 0)] ++ allG), q ∈ gr) {res : Int32} {k82 : Int32 → Int32 → Option (Int32)} (hk82 : ∀ (l2 : Int32) (l1 : Int32), k82 l2 l1 = some res → FW p l e (Rm 4) s m [.ref (ad 12 0 0)].toArray below meth c 3 N0 T D gr ad 0 0 (MQ below (va_Qi (fun r Y1 => r = res ∧ Y1 = Y) (WB T D gr ad) (fun q => N0 ≤ q)) [.ref (ad 12 0 0)].toArray s 0 0 (fun q => N0 ≤ q)) Y 82 [(2, .int l2), (1, .int l1), (0, .ref (ad 12 0 0))] []) (l2 : Int32) (l1 : Int32) (h : X12_agrees_b177 Y k82 l2 l1 = some res) : FW p l e (Rm 4) s m [.ref (ad 12 0 0)].toArray below meth c 3 N0 T D gr ad 0 0 (MQ below (va_Qi (fun r Y1 => r = res ∧ Y1 = Y) (WB T D gr ad) (fun q => N0 ≤ q)) [.ref (ad 12 0 0)].toArray s 0 0 (fun q => N0 ≤ q)) Y 177 [(2, .int l2), (1, .int l1), (0, .ref (ad 12 0 0))] [] := by
  unfold X12_agrees_b177 at h
  refine fw_iload_n C dX12_agrees_177 rfl 1 rfl ?_
  refine fw_aload_n C dX12_agrees_178 rfl 2 rfl ?_
  refine fw_get C (ci := 12) (Cn := RX12) (Tc := TX12) (N := 12) (j := 3) ly_X12_agrees_12 rfl (hG _ (List.mem_of_getElem? (i := 0) rfl)) (of12_0 _) (ce12 T ad _ _) (by decide) (cx_ts C _ fl_X12_agrees_7) (fun _ h => h) (v := .ref (ad 12 0 1)) rfl dX12_agrees_179 ?_
  refine fw_iload_n C dX12_agrees_182 rfl 0 rfl ?_
  obtain ⟨b38, h⟩ := gd_some h
  refine fw_iald2 C (hG _ (List.mem_of_getElem? (i := 0) rfl)) (of12_1 _) (ca12_1 T ad _ _) b38 (Nat.le_of_ble_eq_true rfl) dX12_agrees_183 ?_
  refine fw_iconst C dX12_agrees_184 (v := 2) rfl ?_
  refine fw_icmp_ne C dX12_agrees_185 (tgt := 199) rfl (fun c39 => ?_) (fun c39 => ?_)
  · have h := ite_f c39 h
    refine fw_iconst C dX12_agrees_199 (v := 0) rfl ?_
    refine fw_sub [0, 2] (L' := [(2, .int l2), (0, .ref (ad 12 0 0))]) rfl ?_
    exact w_X12_agrees_b200 C hrt hG  hk82 _ _ _ h
  · have h := ite_t c39 h
    refine fw_aload_n C dX12_agrees_188 rfl 2 rfl ?_
    refine fw_get C (ci := 12) (Cn := RX12) (Tc := TX12) (N := 12) (j := 0) ly_X12_agrees_12 rfl (hG _ (List.mem_of_getElem? (i := 0) rfl)) (of12_0 _) (ce12 T ad _ _) (by decide) (cx_ts C _ fl_X12_agrees_22) (fun _ h => h) (v := .ref (ad 0 0 0)) rfl dX12_agrees_189 ?_
    refine fw_iload_n C dX12_agrees_192 rfl 0 rfl ?_
    obtain ⟨r42, q43, h⟩ := bd1_some h
    refine fw_callVi C (ci := 11) (Cn := RX11) (Tc := TX11) (N := 11) (As := [.int l2]) (c_X11_stepTaste (gac (hG _ (List.mem_of_getElem? (i := 2) rfl)) (gac (hG _ (List.mem_of_getElem? (i := 3) rfl)) (fun q hq => hG q (List.mem_append_right _ hq)))) q43) (cwV 1 (cx_ts C) gX12_agrees_X11_stepTaste rfl rfl rfl (by decide +kernel) ⟨Nat.le_of_ble_eq_true rfl, Nat.le_of_ble_eq_true rfl⟩) rfl (hG _ (List.mem_of_getElem? (i := 3) rfl)) (of0_0 _) (ce0 T ad _ _) rfl (st := [.int l1]) rfl (Nat.le_of_ble_eq_true rfl) ⟨Nat.le_refl 0, Nat.le_refl 0⟩ dX12_agrees_193 (pp2 ?_)
    refine fw_goto C dX12_agrees_196 (tgt := 200) rfl ?_
    refine fw_sub [0, 2] (L' := [(2, .int l2), (0, .ref (ad 12 0 0))]) rfl ?_
    exact w_X12_agrees_b200 C hrt hG  hk82 _ _ _ h
set_option maxRecDepth 100000 in
set_option maxHeartbeats 4000000 in
theorem w_X12_agrees_b135 {Y : Mem} (C : Cx p s m [.ref (ad 12 0 0)].toArray meth c cX12_agrees 3 wsX12_agrees RX12 N0 T D gr ad) (hrt : meth.sig.returnType = (some .boolean)) (hG : ∀ q ∈ ([(12, 0), (2, 0), (1, 0), (0, 0)] ++ allG), q ∈ gr) {res : Int32} {k82 : Int32 → Int32 → Option (Int32)} (hk82 : ∀ (l2 : Int32) (l1 : Int32), k82 l2 l1 = some res → FW p l e (Rm 4) s m [.ref (ad 12 0 0)].toArray below meth c 3 N0 T D gr ad 0 0 (MQ below (va_Qi (fun r Y1 => r = res ∧ Y1 = Y) (WB T D gr ad) (fun q => N0 ≤ q)) [.ref (ad 12 0 0)].toArray s 0 0 (fun q => N0 ≤ q)) Y 82 [(2, .int l2), (1, .int l1), (0, .ref (ad 12 0 0))] []) (l2 : Int32) (l1 : Int32) (s0 : Int32) (s1 : Int32) (h : X12_agrees_b135 Y k82 l2 l1 s0 s1 = some res) : FW p l e (Rm 4) s m [.ref (ad 12 0 0)].toArray below meth c 3 N0 T D gr ad 0 0 (MQ below (va_Qi (fun r Y1 => r = res ∧ Y1 = Y) (WB T D gr ad) (fun q => N0 ≤ q)) [.ref (ad 12 0 0)].toArray s 0 0 (fun q => N0 ≤ q)) Y 135 [(2, .int l2), (1, .int l1), (0, .ref (ad 12 0 0))] [.int s0, .int s1] := by
  unfold X12_agrees_b135 at h
  refine fw_icmp_ne C dX12_agrees_135 (tgt := 155) rfl (fun c32 => ?_) (fun c32 => ?_)
  · have h := ite_f c32 h
    refine fw_iconst C dX12_agrees_155 (v := 0) rfl ?_
    exact fw_zret C hrt (by decide) Y ⟨Option.some.inj h, rfl⟩ (fun t ht => ht) dX12_agrees_156
  · have h := ite_t c32 h
    refine fw_aload_n C dX12_agrees_138 rfl 2 rfl ?_
    refine fw_get C (ci := 12) (Cn := RX12) (Tc := TX12) (N := 12) (j := 0) ly_X12_agrees_12 rfl (hG _ (List.mem_of_getElem? (i := 0) rfl)) (of12_0 _) (ce12 T ad _ _) (by decide) (cx_ts C _ fl_X12_agrees_22) (fun _ h => h) (v := .ref (ad 0 0 0)) rfl dX12_agrees_139 ?_
    refine fw_iload_n C dX12_agrees_142 rfl 0 rfl ?_
    obtain ⟨r33, q34, h⟩ := bd1_some h
    refine fw_callVi C (ci := 11) (Cn := RX11) (Tc := TX11) (N := 11) (As := [.int l2]) (c_X11_age (gac (hG _ (List.mem_of_getElem? (i := 2) rfl)) (gac (hG _ (List.mem_of_getElem? (i := 3) rfl)) (gac (hG _ (List.mem_of_getElem? (i := 1) rfl)) (fun q hq => hG q (List.mem_append_right _ hq))))) q34) (cwV 1 (cx_ts C) gX12_agrees_X11_age rfl rfl rfl (by decide +kernel) ⟨Nat.le_of_ble_eq_true rfl, Nat.le_of_ble_eq_true rfl⟩) rfl (hG _ (List.mem_of_getElem? (i := 3) rfl)) (of0_0 _) (ce0 T ad _ _) rfl (st := []) rfl (Nat.le_of_ble_eq_true rfl) ⟨Nat.le_refl 0, Nat.le_refl 0⟩ dX12_agrees_143 (pp2 ?_)
    refine fw_aload_n C dX12_agrees_146 rfl 2 rfl ?_
    refine fw_get C (ci := 12) (Cn := RX12) (Tc := TX12) (N := 12) (j := 5) ly_X12_agrees_12 rfl (hG _ (List.mem_of_getElem? (i := 0) rfl)) (of12_0 _) (ce12 T ad _ _) (by decide) (cx_ts C _ fl_X12_agrees_16) (fun _ h => h) (v := .ref (ad 12 0 3)) rfl dX12_agrees_147 ?_
    refine fw_iload_n C dX12_agrees_150 rfl 0 rfl ?_
    obtain ⟨b35, h⟩ := gd_some h
    refine fw_iald2 C (hG _ (List.mem_of_getElem? (i := 0) rfl)) (of12_3 _) (ca12_3 T ad _ _) b35 (Nat.le_of_ble_eq_true rfl) dX12_agrees_151 ?_
    refine fw_icmp_eq C dX12_agrees_152 (tgt := 157) rfl (fun c36 => ?_) (fun c36 => ?_)
    · have h := ite_t c36 h
      refine fw_aload_n C dX12_agrees_157 rfl 2 rfl ?_
      refine fw_get C (ci := 12) (Cn := RX12) (Tc := TX12) (N := 12) (j := 3) ly_X12_agrees_12 rfl (hG _ (List.mem_of_getElem? (i := 0) rfl)) (of12_0 _) (ce12 T ad _ _) (by decide) (cx_ts C _ fl_X12_agrees_7) (fun _ h => h) (v := .ref (ad 12 0 1)) rfl dX12_agrees_158 ?_
      refine fw_iload_n C dX12_agrees_161 rfl 0 rfl ?_
      refine fw_iald2 C (hG _ (List.mem_of_getElem? (i := 0) rfl)) (of12_1 _) (ca12_1 T ad _ _) b35 (Nat.le_of_ble_eq_true rfl) dX12_agrees_162 ?_
      refine fw_iconst C dX12_agrees_163 (v := 1) rfl ?_
      refine fw_icmp_ne C dX12_agrees_164 (tgt := 177) rfl (fun c37 => ?_) (fun c37 => ?_)
      · have h := ite_f c37 h
        exact w_X12_agrees_b177 C hrt hG  hk82 _ _ h
      · have h := ite_t c37 h
        refine fw_aload_n C dX12_agrees_167 rfl 2 rfl ?_
        refine fw_iload_n C dX12_agrees_168 rfl 0 rfl ?_
        obtain ⟨r44, q45, h⟩ := bd1_some h
        refine fw_callVi C (ci := 12) (Cn := RX12) (Tc := TX12) (N := 12) (As := [.int l2]) (c_X12_isReady (gac (hG _ (List.mem_of_getElem? (i := 0) rfl)) (gac (hG _ (List.mem_of_getElem? (i := 3) rfl)) (gac (hG _ (List.mem_of_getElem? (i := 2) rfl)) (fun q hq => hG q (List.mem_append_right _ hq))))) q45) (cwV 1 (cx_ts C) gX12_agrees_X12_isReady rfl rfl rfl (by decide +kernel) ⟨Nat.le_of_ble_eq_true rfl, Nat.le_of_ble_eq_true rfl⟩) rfl (hG _ (List.mem_of_getElem? (i := 0) rfl)) (of12_0 _) (ce12 T ad _ _) rfl (st := []) rfl (Nat.le_of_ble_eq_true rfl) ⟨Nat.le_refl 0, Nat.le_refl 0⟩ dX12_agrees_169 (pp2 ?_)
        refine fw_if_eq C dX12_agrees_172 (tgt := 177) rfl (fun c46 => ?_) (fun c46 => ?_)
        · have h := ite_t c46 h
          exact w_X12_agrees_b177 C hrt hG  hk82 _ _ h
        · have h := ite_f c46 h
          refine fw_iconst C dX12_agrees_175 (v := 0) rfl ?_
          exact fw_zret C hrt (by decide) Y ⟨Option.some.inj h, rfl⟩ (fun t ht => ht) dX12_agrees_176
    · have h := ite_f c36 h
      refine fw_iconst C dX12_agrees_155 (v := 0) rfl ?_
      exact fw_zret C hrt (by decide) Y ⟨Option.some.inj h, rfl⟩ (fun t ht => ht) dX12_agrees_156
set_option maxRecDepth 100000 in
set_option maxHeartbeats 4000000 in
theorem w_X12_agrees_b82 {Y : Mem} (C : Cx p s m [.ref (ad 12 0 0)].toArray meth c cX12_agrees 3 wsX12_agrees RX12 N0 T D gr ad) (hrt : meth.sig.returnType = (some .boolean)) (hG : ∀ q ∈ ([(12, 0), (2, 0), (1, 0), (0, 0)] ++ allG), q ∈ gr) {res : Int32} : ∀ (n : Nat) (l2 : Int32) (l1 : Int32), X12_agrees_b82 Y  n l2 l1 = some res → FW p l e (Rm 4) s m [.ref (ad 12 0 0)].toArray below meth c 3 N0 T D gr ad 0 0 (MQ below (va_Qi (fun r Y1 => r = res ∧ Y1 = Y) (WB T D gr ad) (fun q => N0 ≤ q)) [.ref (ad 12 0 0)].toArray s 0 0 (fun q => N0 ≤ q)) Y 82 [(2, .int l2), (1, .int l1), (0, .ref (ad 12 0 0))] [] := by
  intro n
  induction n with
  | zero =>
    intro l2 l1 h
    unfold X12_agrees_b82 at h
    cases h
  | succ n ih =>
    intro l2 l1 h
    unfold X12_agrees_b82 at h
    refine fw_iload_n C dX12_agrees_82 rfl 0 rfl ?_
    refine fw_aload_n C dX12_agrees_83 rfl 2 rfl ?_
    refine fw_get C (ci := 12) (Cn := RX12) (Tc := TX12) (N := 12) (j := 1) ly_X12_agrees_12 rfl (hG _ (List.mem_of_getElem? (i := 0) rfl)) (of12_0 _) (ce12 T ad _ _) (by decide) (cx_ts C _ fl_X12_agrees_36) (fun _ h => h) (v := .int (Y 12 0 0 1)) rfl dX12_agrees_84 ?_
    refine fw_icmp_ge C dX12_agrees_87 (tgt := 208) rfl (fun c18 => ?_) (fun c18 => ?_)
    · have h := ite_t c18 h
      refine fw_aload_n C dX12_agrees_208 rfl 2 rfl ?_
      refine fw_get C (ci := 12) (Cn := RX12) (Tc := TX12) (N := 12) (j := 0) ly_X12_agrees_12 rfl (hG _ (List.mem_of_getElem? (i := 0) rfl)) (of12_0 _) (ce12 T ad _ _) (by decide) (cx_ts C _ fl_X12_agrees_22) (fun _ h => h) (v := .ref (ad 0 0 0)) rfl dX12_agrees_209 ?_
      obtain ⟨r19, q20, h⟩ := bd1_some h
      refine fw_callVi C (ci := 11) (Cn := RX11) (Tc := TX11) (N := 11) (As := []) (c_X11_taste (gac (hG _ (List.mem_of_getElem? (i := 3) rfl)) (gac (hG _ (List.mem_of_getElem? (i := 1) rfl)) (gac (hG _ (List.mem_of_getElem? (i := 2) rfl)) (fun q hq => hG q (List.mem_append_right _ hq))))) q20) (cwV 0 (cx_ts C) gX12_agrees_X11_taste rfl rfl rfl (by decide +kernel) ⟨Nat.le_of_ble_eq_true rfl, Nat.le_of_ble_eq_true rfl⟩) rfl (hG _ (List.mem_of_getElem? (i := 3) rfl)) (of0_0 _) (ce0 T ad _ _) rfl (st := []) rfl (Nat.le_of_ble_eq_true rfl) ⟨Nat.le_refl 0, Nat.le_refl 0⟩ dX12_agrees_212 (pp2 ?_)
      refine fw_iload_n C dX12_agrees_215 rfl 1 rfl ?_
      refine fw_icmp_ne C dX12_agrees_216 (tgt := 233) rfl (fun c21 => ?_) (fun c21 => ?_)
      · have h := ite_f c21 h
        refine fw_iconst C dX12_agrees_233 (v := 0) rfl ?_
        exact fw_zret C hrt (by decide) Y ⟨Option.some.inj h, rfl⟩ (fun t ht => ht) dX12_agrees_234
      · have h := ite_t c21 h
        refine fw_aload_n C dX12_agrees_219 rfl 2 rfl ?_
        refine fw_get C (ci := 12) (Cn := RX12) (Tc := TX12) (N := 12) (j := 0) ly_X12_agrees_12 rfl (hG _ (List.mem_of_getElem? (i := 0) rfl)) (of12_0 _) (ce12 T ad _ _) (by decide) (cx_ts C _ fl_X12_agrees_22) (fun _ h => h) (v := .ref (ad 0 0 0)) rfl dX12_agrees_220 ?_
        obtain ⟨r22, q23, h⟩ := bd1_some h
        refine fw_callVi C (ci := 11) (Cn := RX11) (Tc := TX11) (N := 11) (As := []) (c_X11_inconsistencies (gac (hG _ (List.mem_of_getElem? (i := 3) rfl)) (gac (hG _ (List.mem_of_getElem? (i := 2) rfl)) (gac (hG _ (List.mem_of_getElem? (i := 1) rfl)) (fun q hq => hG q (List.mem_append_right _ hq))))) q23) (cwV 0 (cx_ts C) gX12_agrees_X11_inconsistencies rfl rfl rfl (by decide +kernel) ⟨Nat.le_of_ble_eq_true rfl, Nat.le_of_ble_eq_true rfl⟩) rfl (hG _ (List.mem_of_getElem? (i := 3) rfl)) (of0_0 _) (ce0 T ad _ _) rfl (st := []) rfl (Nat.le_of_ble_eq_true rfl) ⟨Nat.le_refl 0, Nat.le_refl 0⟩ dX12_agrees_223 (pp2 ?_)
        refine fw_if_ne C dX12_agrees_226 (tgt := 233) rfl (fun c24 => ?_) (fun c24 => ?_)
        · have h := ite_f c24 h
          refine fw_iconst C dX12_agrees_233 (v := 0) rfl ?_
          exact fw_zret C hrt (by decide) Y ⟨Option.some.inj h, rfl⟩ (fun t ht => ht) dX12_agrees_234
        · have h := ite_t c24 h
          refine fw_iconst C dX12_agrees_229 (v := 1) rfl ?_
          refine fw_goto C dX12_agrees_230 (tgt := 234) rfl ?_
          exact fw_zret C hrt (by decide) Y ⟨Option.some.inj h, rfl⟩ (fun t ht => ht) dX12_agrees_234
    · have h := ite_f c18 h
      refine fw_aload_n C dX12_agrees_90 rfl 2 rfl ?_
      refine fw_get C (ci := 12) (Cn := RX12) (Tc := TX12) (N := 12) (j := 0) ly_X12_agrees_12 rfl (hG _ (List.mem_of_getElem? (i := 0) rfl)) (of12_0 _) (ce12 T ad _ _) (by decide) (cx_ts C _ fl_X12_agrees_22) (fun _ h => h) (v := .ref (ad 0 0 0)) rfl dX12_agrees_91 ?_
      refine fw_iload_n C dX12_agrees_94 rfl 0 rfl ?_
      obtain ⟨r25, q26, h⟩ := bd1_some h
      refine fw_callVi C (ci := 11) (Cn := RX11) (Tc := TX11) (N := 11) (As := [.int l2]) (c_X11_status (gac (hG _ (List.mem_of_getElem? (i := 2) rfl)) (gac (hG _ (List.mem_of_getElem? (i := 3) rfl)) (gac (hG _ (List.mem_of_getElem? (i := 1) rfl)) (fun q hq => hG q (List.mem_append_right _ hq))))) q26) (cwV 1 (cx_ts C) gX12_agrees_X11_status rfl rfl rfl (by decide +kernel) ⟨Nat.le_of_ble_eq_true rfl, Nat.le_of_ble_eq_true rfl⟩) rfl (hG _ (List.mem_of_getElem? (i := 3) rfl)) (of0_0 _) (ce0 T ad _ _) rfl (st := []) rfl (Nat.le_of_ble_eq_true rfl) ⟨Nat.le_refl 0, Nat.le_refl 0⟩ dX12_agrees_95 (pp2 ?_)
      refine fw_aload_n C dX12_agrees_98 rfl 2 rfl ?_
      refine fw_get C (ci := 12) (Cn := RX12) (Tc := TX12) (N := 12) (j := 3) ly_X12_agrees_12 rfl (hG _ (List.mem_of_getElem? (i := 0) rfl)) (of12_0 _) (ce12 T ad _ _) (by decide) (cx_ts C _ fl_X12_agrees_7) (fun _ h => h) (v := .ref (ad 12 0 1)) rfl dX12_agrees_99 ?_
      refine fw_iload_n C dX12_agrees_102 rfl 0 rfl ?_
      obtain ⟨b27, h⟩ := gd_some h
      refine fw_iald2 C (hG _ (List.mem_of_getElem? (i := 0) rfl)) (of12_1 _) (ca12_1 T ad _ _) b27 (Nat.le_of_ble_eq_true rfl) dX12_agrees_103 ?_
      refine fw_icmp_ne C dX12_agrees_104 (tgt := 155) rfl (fun c28 => ?_) (fun c28 => ?_)
      · have h := ite_f c28 h
        refine fw_iconst C dX12_agrees_155 (v := 0) rfl ?_
        exact fw_zret C hrt (by decide) Y ⟨Option.some.inj h, rfl⟩ (fun t ht => ht) dX12_agrees_156
      · have h := ite_t c28 h
        refine fw_aload_n C dX12_agrees_107 rfl 2 rfl ?_
        refine fw_get C (ci := 12) (Cn := RX12) (Tc := TX12) (N := 12) (j := 0) ly_X12_agrees_12 rfl (hG _ (List.mem_of_getElem? (i := 0) rfl)) (of12_0 _) (ce12 T ad _ _) (by decide) (cx_ts C _ fl_X12_agrees_22) (fun _ h => h) (v := .ref (ad 0 0 0)) rfl dX12_agrees_108 ?_
        refine fw_iload_n C dX12_agrees_111 rfl 0 rfl ?_
        obtain ⟨r29, q30, h⟩ := bd1_some h
        refine fw_callVi C (ci := 11) (Cn := RX11) (Tc := TX11) (N := 11) (As := [.int l2]) (c_X11_remaining (gac (hG _ (List.mem_of_getElem? (i := 2) rfl)) (gac (hG _ (List.mem_of_getElem? (i := 3) rfl)) (gac (hG _ (List.mem_of_getElem? (i := 1) rfl)) (fun q hq => hG q (List.mem_append_right _ hq))))) q30) (cwV 1 (cx_ts C) gX12_agrees_X11_remaining rfl rfl rfl (by decide +kernel) ⟨Nat.le_of_ble_eq_true rfl, Nat.le_of_ble_eq_true rfl⟩) rfl (hG _ (List.mem_of_getElem? (i := 3) rfl)) (of0_0 _) (ce0 T ad _ _) rfl (st := []) rfl (Nat.le_of_ble_eq_true rfl) ⟨Nat.le_refl 0, Nat.le_refl 0⟩ dX12_agrees_112 (pp2 ?_)
        refine fw_aload_n C dX12_agrees_115 rfl 2 rfl ?_
        refine fw_get C (ci := 12) (Cn := RX12) (Tc := TX12) (N := 12) (j := 3) ly_X12_agrees_12 rfl (hG _ (List.mem_of_getElem? (i := 0) rfl)) (of12_0 _) (ce12 T ad _ _) (by decide) (cx_ts C _ fl_X12_agrees_7) (fun _ h => h) (v := .ref (ad 12 0 1)) rfl dX12_agrees_116 ?_
        refine fw_iload_n C dX12_agrees_119 rfl 0 rfl ?_
        refine fw_iald2 C (hG _ (List.mem_of_getElem? (i := 0) rfl)) (of12_1 _) (ca12_1 T ad _ _) b27 (Nat.le_of_ble_eq_true rfl) dX12_agrees_120 ?_
        refine fw_iconst C dX12_agrees_121 (v := 1) rfl ?_
        refine fw_icmp_ne C dX12_agrees_122 (tgt := 134) rfl (fun c31 => ?_) (fun c31 => ?_)
        · have h := ite_f c31 h
          refine fw_iconst C dX12_agrees_134 (v := 0) rfl ?_
          exact w_X12_agrees_b135 C hrt hG  ih _ _ _ _ h
        · have h := ite_t c31 h
          refine fw_aload_n C dX12_agrees_125 rfl 2 rfl ?_
          refine fw_get C (ci := 12) (Cn := RX12) (Tc := TX12) (N := 12) (j := 4) ly_X12_agrees_12 rfl (hG _ (List.mem_of_getElem? (i := 0) rfl)) (of12_0 _) (ce12 T ad _ _) (by decide) (cx_ts C _ fl_X12_agrees_13) (fun _ h => h) (v := .ref (ad 12 0 2)) rfl dX12_agrees_126 ?_
          refine fw_iload_n C dX12_agrees_129 rfl 0 rfl ?_
          refine fw_iald2 C (hG _ (List.mem_of_getElem? (i := 0) rfl)) (of12_2 _) (ca12_2 T ad _ _) b27 (Nat.le_of_ble_eq_true rfl) dX12_agrees_130 ?_
          refine fw_goto C dX12_agrees_131 (tgt := 135) rfl ?_
          exact w_X12_agrees_b135 C hrt hG  ih _ _ _ _ h
set_option maxRecDepth 100000 in
set_option maxHeartbeats 4000000 in
theorem w_X12_agrees {Y : Mem} (C : Cx p s m [.ref (ad 12 0 0)].toArray meth c cX12_agrees 3 wsX12_agrees RX12 N0 T D gr ad) (hrt : meth.sig.returnType = (some .boolean)) (hG : ∀ q ∈ ([(12, 0), (2, 0), (1, 0), (0, 0)] ++ allG), q ∈ gr) {res : Int32} (h : X12_agrees Y = some res) : FW p l e (Rm 4) s m [.ref (ad 12 0 0)].toArray below meth c 3 N0 T D gr ad 0 0 (MQ below (va_Qi (fun r Y1 => r = res ∧ Y1 = Y) (WB T D gr ad) (fun q => N0 ≤ q)) [.ref (ad 12 0 0)].toArray s 0 0 (fun q => N0 ≤ q)) Y 0 [(0, .ref (ad 12 0 0))] [] := by
  unfold X12_agrees at h
  refine fw_aload_n C dX12_agrees_0 rfl 0 rfl ?_
  refine fw_get C (ci := 12) (Cn := RX12) (Tc := TX12) (N := 12) (j := 0) ly_X12_agrees_12 rfl (hG _ (List.mem_of_getElem? (i := 0) rfl)) (of12_0 _) (ce12 T ad _ _) (by decide) (cx_ts C _ fl_X12_agrees_22) (fun _ h => h) (v := .ref (ad 0 0 0)) rfl dX12_agrees_1 ?_
  obtain ⟨r1, q2, h⟩ := bd1_some h
  refine fw_callVi C (ci := 11) (Cn := RX11) (Tc := TX11) (N := 11) (As := []) (c_X11_minute (gac (hG _ (List.mem_of_getElem? (i := 3) rfl)) (gac (hG _ (List.mem_of_getElem? (i := 2) rfl)) (gac (hG _ (List.mem_of_getElem? (i := 1) rfl)) ga0))) q2) (cwV 0 (cx_ts C) gX12_agrees_X11_minute rfl rfl rfl (by decide +kernel) ⟨Nat.le_of_ble_eq_true rfl, Nat.le_of_ble_eq_true rfl⟩) rfl (hG _ (List.mem_of_getElem? (i := 3) rfl)) (of0_0 _) (ce0 T ad _ _) rfl (st := []) rfl (Nat.le_of_ble_eq_true rfl) ⟨Nat.le_refl 0, Nat.le_refl 0⟩ dX12_agrees_4 (pp2 ?_)
  refine fw_aload_n C dX12_agrees_7 rfl 0 rfl ?_
  refine fw_get C (ci := 12) (Cn := RX12) (Tc := TX12) (N := 12) (j := 7) ly_X12_agrees_12 rfl (hG _ (List.mem_of_getElem? (i := 0) rfl)) (of12_0 _) (ce12 T ad _ _) (by decide) (cx_ts C _ fl_X12_agrees_42) (fun _ h => h) (v := .int (Y 12 0 0 7)) rfl dX12_agrees_8 ?_
  refine fw_icmp_ne C dX12_agrees_11 (tgt := 70) rfl (fun c3 => ?_) (fun c3 => ?_)
  · have h := ite_f c3 h
    refine fw_iconst C dX12_agrees_70 (v := 0) rfl ?_
    exact fw_zret C hrt (by decide) Y ⟨Option.some.inj h, rfl⟩ (fun t ht => ht) dX12_agrees_71
  · have h := ite_t c3 h
    refine fw_aload_n C dX12_agrees_14 rfl 0 rfl ?_
    refine fw_get C (ci := 12) (Cn := RX12) (Tc := TX12) (N := 12) (j := 0) ly_X12_agrees_12 rfl (hG _ (List.mem_of_getElem? (i := 0) rfl)) (of12_0 _) (ce12 T ad _ _) (by decide) (cx_ts C _ fl_X12_agrees_22) (fun _ h => h) (v := .ref (ad 0 0 0)) rfl dX12_agrees_15 ?_
    obtain ⟨r4, q5, h⟩ := bd1_some h
    refine fw_callVi C (ci := 11) (Cn := RX11) (Tc := TX11) (N := 11) (As := []) (c_X11_starts (gac (hG _ (List.mem_of_getElem? (i := 3) rfl)) (gac (hG _ (List.mem_of_getElem? (i := 2) rfl)) (gac (hG _ (List.mem_of_getElem? (i := 1) rfl)) (fun q hq => hG q (List.mem_append_right _ hq))))) q5) (cwV 0 (cx_ts C) gX12_agrees_X11_starts rfl rfl rfl (by decide +kernel) ⟨Nat.le_of_ble_eq_true rfl, Nat.le_of_ble_eq_true rfl⟩) rfl (hG _ (List.mem_of_getElem? (i := 3) rfl)) (of0_0 _) (ce0 T ad _ _) rfl (st := []) rfl (Nat.le_of_ble_eq_true rfl) ⟨Nat.le_refl 0, Nat.le_refl 0⟩ dX12_agrees_18 (pp2 ?_)
    refine fw_aload_n C dX12_agrees_21 rfl 0 rfl ?_
    refine fw_get C (ci := 12) (Cn := RX12) (Tc := TX12) (N := 12) (j := 8) ly_X12_agrees_12 rfl (hG _ (List.mem_of_getElem? (i := 0) rfl)) (of12_0 _) (ce12 T ad _ _) (by decide) (cx_ts C _ fl_X12_agrees_47) (fun _ h => h) (v := .int (Y 12 0 0 8)) rfl dX12_agrees_22 ?_
    refine fw_icmp_ne C dX12_agrees_25 (tgt := 70) rfl (fun c6 => ?_) (fun c6 => ?_)
    · have h := ite_f c6 h
      refine fw_iconst C dX12_agrees_70 (v := 0) rfl ?_
      exact fw_zret C hrt (by decide) Y ⟨Option.some.inj h, rfl⟩ (fun t ht => ht) dX12_agrees_71
    · have h := ite_t c6 h
      refine fw_aload_n C dX12_agrees_28 rfl 0 rfl ?_
      refine fw_get C (ci := 12) (Cn := RX12) (Tc := TX12) (N := 12) (j := 0) ly_X12_agrees_12 rfl (hG _ (List.mem_of_getElem? (i := 0) rfl)) (of12_0 _) (ce12 T ad _ _) (by decide) (cx_ts C _ fl_X12_agrees_22) (fun _ h => h) (v := .ref (ad 0 0 0)) rfl dX12_agrees_29 ?_
      obtain ⟨r7, q8, h⟩ := bd1_some h
      refine fw_callVi C (ci := 11) (Cn := RX11) (Tc := TX11) (N := 11) (As := []) (c_X11_completions (gac (hG _ (List.mem_of_getElem? (i := 3) rfl)) (gac (hG _ (List.mem_of_getElem? (i := 2) rfl)) (gac (hG _ (List.mem_of_getElem? (i := 1) rfl)) (fun q hq => hG q (List.mem_append_right _ hq))))) q8) (cwV 0 (cx_ts C) gX12_agrees_X11_completions rfl rfl rfl (by decide +kernel) ⟨Nat.le_of_ble_eq_true rfl, Nat.le_of_ble_eq_true rfl⟩) rfl (hG _ (List.mem_of_getElem? (i := 3) rfl)) (of0_0 _) (ce0 T ad _ _) rfl (st := []) rfl (Nat.le_of_ble_eq_true rfl) ⟨Nat.le_refl 0, Nat.le_refl 0⟩ dX12_agrees_32 (pp2 ?_)
      refine fw_aload_n C dX12_agrees_35 rfl 0 rfl ?_
      refine fw_get C (ci := 12) (Cn := RX12) (Tc := TX12) (N := 12) (j := 9) ly_X12_agrees_12 rfl (hG _ (List.mem_of_getElem? (i := 0) rfl)) (of12_0 _) (ce12 T ad _ _) (by decide) (cx_ts C _ fl_X12_agrees_52) (fun _ h => h) (v := .int (Y 12 0 0 9)) rfl dX12_agrees_36 ?_
      refine fw_icmp_ne C dX12_agrees_39 (tgt := 70) rfl (fun c9 => ?_) (fun c9 => ?_)
      · have h := ite_f c9 h
        refine fw_iconst C dX12_agrees_70 (v := 0) rfl ?_
        exact fw_zret C hrt (by decide) Y ⟨Option.some.inj h, rfl⟩ (fun t ht => ht) dX12_agrees_71
      · have h := ite_t c9 h
        refine fw_aload_n C dX12_agrees_42 rfl 0 rfl ?_
        refine fw_get C (ci := 12) (Cn := RX12) (Tc := TX12) (N := 12) (j := 0) ly_X12_agrees_12 rfl (hG _ (List.mem_of_getElem? (i := 0) rfl)) (of12_0 _) (ce12 T ad _ _) (by decide) (cx_ts C _ fl_X12_agrees_22) (fun _ h => h) (v := .ref (ad 0 0 0)) rfl dX12_agrees_43 ?_
        obtain ⟨r10, q11, h⟩ := bd1_some h
        refine fw_callVi C (ci := 11) (Cn := RX11) (Tc := TX11) (N := 11) (As := []) (c_X11_burns (gac (hG _ (List.mem_of_getElem? (i := 3) rfl)) (gac (hG _ (List.mem_of_getElem? (i := 2) rfl)) (gac (hG _ (List.mem_of_getElem? (i := 1) rfl)) (fun q hq => hG q (List.mem_append_right _ hq))))) q11) (cwV 0 (cx_ts C) gX12_agrees_X11_burns rfl rfl rfl (by decide +kernel) ⟨Nat.le_of_ble_eq_true rfl, Nat.le_of_ble_eq_true rfl⟩) rfl (hG _ (List.mem_of_getElem? (i := 3) rfl)) (of0_0 _) (ce0 T ad _ _) rfl (st := []) rfl (Nat.le_of_ble_eq_true rfl) ⟨Nat.le_refl 0, Nat.le_refl 0⟩ dX12_agrees_46 (pp2 ?_)
        refine fw_aload_n C dX12_agrees_49 rfl 0 rfl ?_
        refine fw_get C (ci := 12) (Cn := RX12) (Tc := TX12) (N := 12) (j := 10) ly_X12_agrees_12 rfl (hG _ (List.mem_of_getElem? (i := 0) rfl)) (of12_0 _) (ce12 T ad _ _) (by decide) (cx_ts C _ fl_X12_agrees_57) (fun _ h => h) (v := .int (Y 12 0 0 10)) rfl dX12_agrees_50 ?_
        refine fw_icmp_ne C dX12_agrees_53 (tgt := 70) rfl (fun c12 => ?_) (fun c12 => ?_)
        · have h := ite_f c12 h
          refine fw_iconst C dX12_agrees_70 (v := 0) rfl ?_
          exact fw_zret C hrt (by decide) Y ⟨Option.some.inj h, rfl⟩ (fun t ht => ht) dX12_agrees_71
        · have h := ite_t c12 h
          refine fw_aload_n C dX12_agrees_56 rfl 0 rfl ?_
          refine fw_get C (ci := 12) (Cn := RX12) (Tc := TX12) (N := 12) (j := 0) ly_X12_agrees_12 rfl (hG _ (List.mem_of_getElem? (i := 0) rfl)) (of12_0 _) (ce12 T ad _ _) (by decide) (cx_ts C _ fl_X12_agrees_22) (fun _ h => h) (v := .ref (ad 0 0 0)) rfl dX12_agrees_57 ?_
          obtain ⟨r13, q14, h⟩ := bd1_some h
          refine fw_callVi C (ci := 11) (Cn := RX11) (Tc := TX11) (N := 11) (As := []) (c_X11_cookMinutes (gac (hG _ (List.mem_of_getElem? (i := 3) rfl)) (gac (hG _ (List.mem_of_getElem? (i := 2) rfl)) (gac (hG _ (List.mem_of_getElem? (i := 1) rfl)) ga0))) q14) (cwV 0 (cx_ts C) gX12_agrees_X11_cookMinutes rfl rfl rfl (by decide +kernel) ⟨Nat.le_of_ble_eq_true rfl, Nat.le_of_ble_eq_true rfl⟩) rfl (hG _ (List.mem_of_getElem? (i := 3) rfl)) (of0_0 _) (ce0 T ad _ _) rfl (st := []) rfl (Nat.le_of_ble_eq_true rfl) ⟨Nat.le_refl 0, Nat.le_refl 0⟩ dX12_agrees_60 (pp2 ?_)
          refine fw_aload_n C dX12_agrees_63 rfl 0 rfl ?_
          refine fw_get C (ci := 12) (Cn := RX12) (Tc := TX12) (N := 12) (j := 11) ly_X12_agrees_12 rfl (hG _ (List.mem_of_getElem? (i := 0) rfl)) (of12_0 _) (ce12 T ad _ _) (by decide) (cx_ts C _ fl_X12_agrees_62) (fun _ h => h) (v := .int (Y 12 0 0 11)) rfl dX12_agrees_64 ?_
          refine fw_icmp_eq C dX12_agrees_67 (tgt := 72) rfl (fun c15 => ?_) (fun c15 => ?_)
          · have h := ite_t c15 h
            refine fw_aload_n C dX12_agrees_72 rfl 0 rfl ?_
            refine fw_get C (ci := 12) (Cn := RX12) (Tc := TX12) (N := 12) (j := 0) ly_X12_agrees_12 rfl (hG _ (List.mem_of_getElem? (i := 0) rfl)) (of12_0 _) (ce12 T ad _ _) (by decide) (cx_ts C _ fl_X12_agrees_22) (fun _ h => h) (v := .ref (ad 0 0 0)) rfl dX12_agrees_73 ?_
            obtain ⟨r16, q17, h⟩ := bd1_some h
            refine fw_callVi C (ci := 11) (Cn := RX11) (Tc := TX11) (N := 11) (As := []) (c_X11_salt (gac (hG _ (List.mem_of_getElem? (i := 3) rfl)) (gac (hG _ (List.mem_of_getElem? (i := 2) rfl)) (gac (hG _ (List.mem_of_getElem? (i := 1) rfl)) ga0))) q17) (cwV 0 (cx_ts C) gX12_agrees_X11_salt rfl rfl rfl (by decide +kernel) ⟨Nat.le_of_ble_eq_true rfl, Nat.le_of_ble_eq_true rfl⟩) rfl (hG _ (List.mem_of_getElem? (i := 3) rfl)) (of0_0 _) (ce0 T ad _ _) rfl (st := []) rfl (Nat.le_of_ble_eq_true rfl) ⟨Nat.le_refl 0, Nat.le_refl 0⟩ dX12_agrees_76 (pp2 ?_)
            refine fw_istore_n C dX12_agrees_79 rfl (by decide) (L' := [(1, .int r16), (0, .ref (ad 12 0 0))]) rfl ?_
            refine fw_iconst C dX12_agrees_80 (v := 0) rfl ?_
            refine fw_istore_n C dX12_agrees_81 rfl (by decide) (L' := [(2, .int 0), (1, .int r16), (0, .ref (ad 12 0 0))]) rfl ?_
            exact w_X12_agrees_b82 C hrt hG   _ _ _ h
          · have h := ite_f c15 h
            refine fw_iconst C dX12_agrees_70 (v := 0) rfl ?_
            exact fw_zret C hrt (by decide) Y ⟨Option.some.inj h, rfl⟩ (fun t ht => ht) dX12_agrees_71
end
set_option maxRecDepth 100000 in
set_option maxHeartbeats 4000000 in
theorem c_X12_agrees {l : Launch} {N0 : Nat} {T : Nat → ClassId} {D : va_G} {gr : List (Nat × Nat)} {ad : Nat → Nat → Nat → Nat} {Y : Mem} {res : Int32} (hG : ∀ q ∈ ([(12, 0), (2, 0), (1, 0), (0, 0)] ++ allG), q ∈ gr) (h : X12_agrees Y = some res) : CI l yX12_agrees wsX12_agrees (Rm 4) N0 T D gr ad Y [.ref (ad 12 0 0)] (fun r Y1 => r = res ∧ Y1 = Y) :=
  fw_body (by decide +kernel) rfl (Nat.le_of_ble_eq_true rfl) (fun p e s m below meth c C hrt => w_X12_agrees C hrt hG  h)
theorem ly_X12_isAfter_12 : ∀ w ∈ u_ws RX12 TX12 12, w ∈ wsX12_isAfter := by decide +kernel
theorem fl_X12_isAfter_22 : Cond.fieldLink RX12 22 "RecipeSchedulerLaw$Kitchen" "x" "LRecipeScheduler;" ∈ wsX12_isAfter := by decide +kernel
section
variable {p : Program} {l : Launch} {e : Env} {s : State} {m : MethodId} {below : List Frame} {meth : Method} {c : Code} {N0 : Nat} {T : Nat → ClassId} {D : va_G} {gr : List (Nat × Nat)} {ad : Nat → Nat → Nat → Nat}
set_option maxRecDepth 100000 in
set_option maxHeartbeats 4000000 in
theorem w_X12_isAfter_b34 {Y : Mem} {a1 : Int32} {a2 : Int32} (C : Cx p s m [.ref (ad 12 0 0), .int a1, .int a2].toArray meth c cX12_isAfter 5 wsX12_isAfter RX12 N0 T D gr ad) (hrt : meth.sig.returnType = (some .boolean)) (hG : ∀ q ∈ ([(12, 0), (0, 0), (1, 0)] ++ allG), q ∈ gr) {res : Int32} {k5 : Int32 → Int32 → Option (Int32)} (hk5 : ∀ (l4 : Int32) (l3 : Int32), k5 l4 l3 = some res → FW p l e (Rm 3) s m [.ref (ad 12 0 0), .int a1, .int a2].toArray below meth c 5 N0 T D gr ad 0 0 (MQ below (va_Qi (fun r Y1 => r = res ∧ Y1 = Y) (WB T D gr ad) (fun q => N0 ≤ q)) [.ref (ad 12 0 0), .int a1, .int a2].toArray s 0 0 (fun q => N0 ≤ q)) Y 5 [(4, .int l4), (3, .int l3), (0, .ref (ad 12 0 0)), (1, .int a1), (2, .int a2)] []) (l4 : Int32) (s0 : Int32) (h : X12_isAfter_b34 Y a1 a2 k5 l4 s0 = some res) : FW p l e (Rm 3) s m [.ref (ad 12 0 0), .int a1, .int a2].toArray below meth c 5 N0 T D gr ad 0 0 (MQ below (va_Qi (fun r Y1 => r = res ∧ Y1 = Y) (WB T D gr ad) (fun q => N0 ≤ q)) [.ref (ad 12 0 0), .int a1, .int a2].toArray s 0 0 (fun q => N0 ≤ q)) Y 34 [(4, .int l4), (0, .ref (ad 12 0 0)), (1, .int a1), (2, .int a2)] [.int s0] := by
  unfold X12_isAfter_b34 at h
  refine fw_istore_n C dX12_isAfter_34 rfl (by decide) (L' := [(3, .int s0), (4, .int l4), (0, .ref (ad 12 0 0)), (1, .int a1), (2, .int a2)]) rfl ?_
  refine fw_iinc C dX12_isAfter_35 (kk := 1) (v := l4 + 1) rfl rfl (by decide) (L' := [(4, .int (l4 + 1)), (3, .int s0), (0, .ref (ad 12 0 0)), (1, .int a1), (2, .int a2)]) rfl ?_
  refine fw_goto C dX12_isAfter_38 (tgt := 5) rfl ?_
  exact hk5 _ _ h
set_option maxRecDepth 100000 in
set_option maxHeartbeats 4000000 in
theorem w_X12_isAfter_b29 {Y : Mem} {a1 : Int32} {a2 : Int32} (C : Cx p s m [.ref (ad 12 0 0), .int a1, .int a2].toArray meth c cX12_isAfter 5 wsX12_isAfter RX12 N0 T D gr ad) (hrt : meth.sig.returnType = (some .boolean)) (hG : ∀ q ∈ ([(12, 0), (0, 0), (1, 0)] ++ allG), q ∈ gr) {res : Int32} {k5 : Int32 → Int32 → Option (Int32)} (hk5 : ∀ (l4 : Int32) (l3 : Int32), k5 l4 l3 = some res → FW p l e (Rm 3) s m [.ref (ad 12 0 0), .int a1, .int a2].toArray below meth c 5 N0 T D gr ad 0 0 (MQ below (va_Qi (fun r Y1 => r = res ∧ Y1 = Y) (WB T D gr ad) (fun q => N0 ≤ q)) [.ref (ad 12 0 0), .int a1, .int a2].toArray s 0 0 (fun q => N0 ≤ q)) Y 5 [(4, .int l4), (3, .int l3), (0, .ref (ad 12 0 0)), (1, .int a1), (2, .int a2)] []) (l4 : Int32) (h : X12_isAfter_b29 Y a1 a2 k5 l4 = some res) : FW p l e (Rm 3) s m [.ref (ad 12 0 0), .int a1, .int a2].toArray below meth c 5 N0 T D gr ad 0 0 (MQ below (va_Qi (fun r Y1 => r = res ∧ Y1 = Y) (WB T D gr ad) (fun q => N0 ≤ q)) [.ref (ad 12 0 0), .int a1, .int a2].toArray s 0 0 (fun q => N0 ≤ q)) Y 29 [(4, .int l4), (0, .ref (ad 12 0 0)), (1, .int a1), (2, .int a2)] [] := by
  unfold X12_isAfter_b29 at h
  refine fw_iconst C dX12_isAfter_29 (v := 1) rfl ?_
  refine fw_goto C dX12_isAfter_30 (tgt := 34) rfl ?_
  exact w_X12_isAfter_b34 C hrt hG  hk5 _ _ h
set_option maxRecDepth 100000 in
set_option maxHeartbeats 4000000 in
theorem w_X12_isAfter_b5 {Y : Mem} {a1 : Int32} {a2 : Int32} (C : Cx p s m [.ref (ad 12 0 0), .int a1, .int a2].toArray meth c cX12_isAfter 5 wsX12_isAfter RX12 N0 T D gr ad) (hrt : meth.sig.returnType = (some .boolean)) (hG : ∀ q ∈ ([(12, 0), (0, 0), (1, 0)] ++ allG), q ∈ gr) {res : Int32} : ∀ (n : Nat) (l4 : Int32) (l3 : Int32), X12_isAfter_b5 Y a1 a2  n l4 l3 = some res → FW p l e (Rm 3) s m [.ref (ad 12 0 0), .int a1, .int a2].toArray below meth c 5 N0 T D gr ad 0 0 (MQ below (va_Qi (fun r Y1 => r = res ∧ Y1 = Y) (WB T D gr ad) (fun q => N0 ≤ q)) [.ref (ad 12 0 0), .int a1, .int a2].toArray s 0 0 (fun q => N0 ≤ q)) Y 5 [(4, .int l4), (3, .int l3), (0, .ref (ad 12 0 0)), (1, .int a1), (2, .int a2)] [] := by
  intro n
  induction n with
  | zero =>
    intro l4 l3 h
    unfold X12_isAfter_b5 at h
    cases h
  | succ n ih =>
    intro l4 l3 h
    unfold X12_isAfter_b5 at h
    refine fw_iload C dX12_isAfter_5 0 rfl ?_
    refine fw_iconst C dX12_isAfter_7 (v := 4) rfl ?_
    refine fw_icmp_ge C dX12_isAfter_8 (tgt := 41) rfl (fun c1 => ?_) (fun c1 => ?_)
    · have h := ite_t c1 h
      refine fw_iload_n C dX12_isAfter_41 rfl 1 rfl ?_
      obtain ⟨b2, h⟩ := gd_some h
      exact fw_zret C hrt (of_decide_eq_true b2) Y ⟨Option.some.inj h, rfl⟩ (fun t ht => ht) dX12_isAfter_42
    · have h := ite_f c1 h
      refine fw_iload_n C dX12_isAfter_11 rfl 1 rfl ?_
      refine fw_if_ne C dX12_isAfter_12 (tgt := 29) rfl (fun c3 => ?_) (fun c3 => ?_)
      · have h := ite_f c3 h
        refine fw_sub [0, 2, 3, 4] (L' := [(4, .int l4), (0, .ref (ad 12 0 0)), (1, .int a1), (2, .int a2)]) rfl ?_
        exact w_X12_isAfter_b29 C hrt hG  ih _ h
      · have h := ite_t c3 h
        refine fw_aload_n C dX12_isAfter_15 rfl 2 rfl ?_
        refine fw_get C (ci := 12) (Cn := RX12) (Tc := TX12) (N := 12) (j := 0) ly_X12_isAfter_12 rfl (hG _ (List.mem_of_getElem? (i := 0) rfl)) (of12_0 _) (ce12 T ad _ _) (by decide) (cx_ts C _ fl_X12_isAfter_22) (fun _ h => h) (v := .ref (ad 0 0 0)) rfl dX12_isAfter_16 ?_
        refine fw_iload_n C dX12_isAfter_19 rfl 3 rfl ?_
        refine fw_iload C dX12_isAfter_20 0 rfl ?_
        obtain ⟨r4, q5, h⟩ := bd1_some h
        refine fw_callVi C (ci := 11) (Cn := RX11) (Tc := TX11) (N := 11) (As := [.int a1, .int l4]) (c_X11_predecessor (gac (hG _ (List.mem_of_getElem? (i := 2) rfl)) (gac (hG _ (List.mem_of_getElem? (i := 1) rfl)) (fun q hq => hG q (List.mem_append_right _ hq)))) q5) (cwV 2 (cx_ts C) gX12_isAfter_X11_predecessor rfl rfl rfl (by decide +kernel) ⟨Nat.le_of_ble_eq_true rfl, Nat.le_of_ble_eq_true rfl⟩) rfl (hG _ (List.mem_of_getElem? (i := 1) rfl)) (of0_0 _) (ce0 T ad _ _) rfl (st := []) rfl (Nat.le_of_ble_eq_true rfl) ⟨Nat.le_refl 0, Nat.le_refl 0⟩ dX12_isAfter_22 (pp2 ?_)
        refine fw_iload_n C dX12_isAfter_25 rfl 4 rfl ?_
        refine fw_icmp_ne C dX12_isAfter_26 (tgt := 33) rfl (fun c6 => ?_) (fun c6 => ?_)
        · have h := ite_f c6 h
          refine fw_iconst C dX12_isAfter_33 (v := 0) rfl ?_
          refine fw_sub [0, 2, 3, 4] (L' := [(4, .int l4), (0, .ref (ad 12 0 0)), (1, .int a1), (2, .int a2)]) rfl ?_
          exact w_X12_isAfter_b34 C hrt hG  ih _ _ h
        · have h := ite_t c6 h
          refine fw_sub [0, 2, 3, 4] (L' := [(4, .int l4), (0, .ref (ad 12 0 0)), (1, .int a1), (2, .int a2)]) rfl ?_
          exact w_X12_isAfter_b29 C hrt hG  ih _ h
set_option maxRecDepth 100000 in
set_option maxHeartbeats 4000000 in
theorem w_X12_isAfter {Y : Mem} {a1 : Int32} {a2 : Int32} (C : Cx p s m [.ref (ad 12 0 0), .int a1, .int a2].toArray meth c cX12_isAfter 5 wsX12_isAfter RX12 N0 T D gr ad) (hrt : meth.sig.returnType = (some .boolean)) (hG : ∀ q ∈ ([(12, 0), (0, 0), (1, 0)] ++ allG), q ∈ gr) {res : Int32} (h : X12_isAfter Y a1 a2 = some res) : FW p l e (Rm 3) s m [.ref (ad 12 0 0), .int a1, .int a2].toArray below meth c 5 N0 T D gr ad 0 0 (MQ below (va_Qi (fun r Y1 => r = res ∧ Y1 = Y) (WB T D gr ad) (fun q => N0 ≤ q)) [.ref (ad 12 0 0), .int a1, .int a2].toArray s 0 0 (fun q => N0 ≤ q)) Y 0 [(0, .ref (ad 12 0 0)), (1, .int a1), (2, .int a2)] [] := by
  unfold X12_isAfter at h
  refine fw_iconst C dX12_isAfter_0 (v := 0) rfl ?_
  refine fw_istore_n C dX12_isAfter_1 rfl (by decide) (L' := [(3, .int 0), (0, .ref (ad 12 0 0)), (1, .int a1), (2, .int a2)]) rfl ?_
  refine fw_iconst C dX12_isAfter_2 (v := 0) rfl ?_
  refine fw_istore C dX12_isAfter_3 (by decide) (L' := [(4, .int 0), (3, .int 0), (0, .ref (ad 12 0 0)), (1, .int a1), (2, .int a2)]) rfl ?_
  exact w_X12_isAfter_b5 C hrt hG   _ _ _ h
end
set_option maxRecDepth 100000 in
set_option maxHeartbeats 4000000 in
theorem c_X12_isAfter {l : Launch} {N0 : Nat} {T : Nat → ClassId} {D : va_G} {gr : List (Nat × Nat)} {ad : Nat → Nat → Nat → Nat} {Y : Mem} {a1 : Int32} {a2 : Int32} {res : Int32} (hG : ∀ q ∈ ([(12, 0), (0, 0), (1, 0)] ++ allG), q ∈ gr) (h : X12_isAfter Y a1 a2 = some res) : CI l yX12_isAfter wsX12_isAfter (Rm 3) N0 T D gr ad Y [.ref (ad 12 0 0), .int a1, .int a2] (fun r Y1 => r = res ∧ Y1 = Y) :=
  fw_body (by decide +kernel) rfl (Nat.le_of_ble_eq_true rfl) (fun p e s m below meth c C hrt => w_X12_isAfter C hrt hG  h)
