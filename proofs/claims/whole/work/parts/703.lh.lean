theorem lk_L_panType_31 : Cond.classLink RL 31 "java/lang/IndexOutOfBoundsException" ∈ wsL_panType := by decide +kernel
section
variable {p : Program} {l : Launch} {e : Env} {s : State} {m : MethodId} {below : List Frame} {meth : Method} {c : Code} {N0 : Nat} {T : Nat → ClassId} {D : va_G} {gr : List (Nat × Nat)} {ad : Nat → Nat → Nat → Nat}
set_option maxHeartbeats 4000000 in
theorem w_L_panType {Y : Mem} {a1 : Int32} (C : Cx p s m [.ref (ad 0 0 0), .int a1, .ref (ad 11 0 0)].toArray meth c cL_panType 4 wsL_panType RL N0 T D gr ad) (hE : Exw s) (hrt : meth.sig.returnType = (some .int)) (htab : c.exceptionTable.toList = tableOf [(0, 9, 12, 31)]) (hl : l.stackTraces = false) (hG : ∀ q ∈ lawG, q ∈ gr) {res : (Nat × Mem) ⊕ (Int32 × Mem)} (h : X11_panType Y a1 = some res) (hn : ∀ n Y1, res = .inl (n, Y1) → c3 n ≠ 0) : FW p l e (Rx 8 1) s m [.ref (ad 0 0 0), .int a1, .ref (ad 11 0 0)].toArray below meth c 4 N0 T D gr ad 0 0 (MQ below (va_Qi (fun r1 Y1 => r1 = hR c3 res ∧ Y1 = hM res) (WB T D gr ad) (fun q => N0 ≤ q)) [.ref (ad 0 0 0), .int a1, .ref (ad 11 0 0)].toArray s 1 6 (fun q => N0 ≤ q)) Y 0 [(0, .ref (ad 0 0 0)), (1, .int a1), (2, .ref (ad 11 0 0))] [] := by
  refine fw_aload_n C dL_panType_0 rfl 2 rfl ?_
  refine fw_iconst C dL_panType_1 (v := 0) rfl ?_
  refine fw_aload_n C dL_panType_2 rfl 0 rfl ?_
  refine fw_iload_n C dL_panType_3 rfl 1 rfl ?_
  rcases res with ⟨n, Y1⟩ | ⟨v, Y1⟩
  · rcases c3_inv (hn n Y1 rfl) with rfl
    · refine fw_callXVi_c C (ci := 9) (Cn := RX11) (Tc := TX11) (N := 11) (As := [.int a1]) (c_X11_panType hl (fun q hq => hG q ((by decide : ∀ q ∈ ([(1, 0), (0, 0)] ++ allG), q ∈ lawG) q hq)) h) (cwV 1 (cx_ts C) gL_panType_X11_panType rfl rfl rfl (by decide +kernel) ⟨(Nat.le_of_ble_eq_true rfl), (Nat.le_of_ble_eq_true rfl)⟩) rfl (hG _ lawG_0) (of0_0 _) (ce0 T ad _ _) rfl (st := [.int 0, .ref (ad 11 0 0)]) rfl (Nat.le_of_ble_eq_true rfl) ⟨(Nat.le_of_ble_eq_true rfl), (Nat.le_of_ble_eq_true rfl)⟩ dL_panType_4 [] ⟨0, 9, 12, 31⟩ [] htab (fun z hz => nomatch hz) rfl (by decide) (cx_ts C _ lk_L_panType_31) (Nst_use' (cx_nst C) cst_3) (fun q => ?_)
      refine fw_astore_n C dL_panType_12 rfl (by decide) rfl ?_
      refine fw_iconst C dL_panType_13 (v := 1) rfl ?_
      exact fw_iret C hrt Y1 ⟨rfl, rfl⟩ (fun t ht => ht) dL_panType_14
  · refine fw_callXVi_r C (ci := 9) (Cn := RX11) (Tc := TX11) (N := 11) (As := [.int a1]) (c_X11_panType hl (fun q hq => hG q ((by decide : ∀ q ∈ ([(1, 0), (0, 0)] ++ allG), q ∈ lawG) q hq)) h) (cwV 1 (cx_ts C) gL_panType_X11_panType rfl rfl rfl (by decide +kernel) ⟨(Nat.le_of_ble_eq_true rfl), (Nat.le_of_ble_eq_true rfl)⟩) rfl (hG _ lawG_0) (of0_0 _) (ce0 T ad _ _) rfl (st := [.int 0, .ref (ad 11 0 0)]) rfl (Nat.le_of_ble_eq_true rfl) ⟨(Nat.le_of_ble_eq_true rfl), (Nat.le_of_ble_eq_true rfl)⟩ dL_panType_4 ?_
    refine fw_i2l C dL_panType_7 rfl ?_
    refine fw_last C (x := v) rfl (hG _ lawG_11) dL_panType_8 ?_
    refine fw_goto C dL_panType_9 (tgt := 15) rfl ?_
    refine fw_iconst C dL_panType_15 (v := 0) rfl ?_
    exact fw_iret C hrt (up Y1 11 0 0 0 v) ⟨rfl, rfl⟩ (fun t ht => ht) dL_panType_16
end
theorem c_L_panType {l : Launch} {N0 : Nat} {T : Nat → ClassId} {D : va_G} {gr : List (Nat × Nat)} {ad : Nat → Nat → Nat → Nat} {Y : Mem} {a1 : Int32} {res : (Nat × Mem) ⊕ (Int32 × Mem)} (hl : l.stackTraces = false) (hG : ∀ q ∈ lawG, q ∈ gr) (h : X11_panType Y a1 = some res) (hn : ∀ n Y1, res = .inl (n, Y1) → c3 n ≠ 0) : CH l yL_panType wsL_panType (Rx 8 1) N0 T D gr ad Y [.ref (ad 0 0 0), .int a1, .ref (ad 11 0 0)] 1 (hR c3 res) (hM res) :=
  fw_hbody (by decide +kernel) rfl (Nat.le_of_ble_eq_true rfl) (fun p e s m below meth c C hE hrt htab => w_L_panType C hE hrt htab hl hG h hn)
theorem lk_L_isHot_31 : Cond.classLink RL 31 "java/lang/IndexOutOfBoundsException" ∈ wsL_isHot := by decide +kernel
section
variable {p : Program} {l : Launch} {e : Env} {s : State} {m : MethodId} {below : List Frame} {meth : Method} {c : Code} {N0 : Nat} {T : Nat → ClassId} {D : va_G} {gr : List (Nat × Nat)} {ad : Nat → Nat → Nat → Nat}
set_option maxHeartbeats 4000000 in
theorem w_L_isHot {Y : Mem} {a1 : Int32} (C : Cx p s m [.ref (ad 0 0 0), .int a1, .ref (ad 11 0 0)].toArray meth c cL_isHot 4 wsL_isHot RL N0 T D gr ad) (hE : Exw s) (hrt : meth.sig.returnType = (some .int)) (htab : c.exceptionTable.toList = tableOf [(0, 16, 19, 31)]) (hl : l.stackTraces = false) (hG : ∀ q ∈ lawG, q ∈ gr) {res : (Nat × Mem) ⊕ (Int32 × Mem)} (h : X11_isHot Y a1 = some res) (hn : ∀ n Y1, res = .inl (n, Y1) → c3 n ≠ 0) : FW p l e (Rx 8 1) s m [.ref (ad 0 0 0), .int a1, .ref (ad 11 0 0)].toArray below meth c 4 N0 T D gr ad 0 0 (MQ below (va_Qi (fun r1 Y1 => r1 = hR c3 res ∧ Y1 = hMb res) (WB T D gr ad) (fun q => N0 ≤ q)) [.ref (ad 0 0 0), .int a1, .ref (ad 11 0 0)].toArray s 1 6 (fun q => N0 ≤ q)) Y 0 [(0, .ref (ad 0 0 0)), (1, .int a1), (2, .ref (ad 11 0 0))] [] := by
  refine fw_aload_n C dL_isHot_0 rfl 2 rfl ?_
  refine fw_iconst C dL_isHot_1 (v := 0) rfl ?_
  refine fw_aload_n C dL_isHot_2 rfl 0 rfl ?_
  refine fw_iload_n C dL_isHot_3 rfl 1 rfl ?_
  rcases res with ⟨n, Y1⟩ | ⟨v, Y1⟩
  · rcases c3_inv (hn n Y1 rfl) with rfl
    · refine fw_callXVi_c C (ci := 9) (Cn := RX11) (Tc := TX11) (N := 11) (As := [.int a1]) (c_X11_isHot hl (fun q hq => hG q ((by decide : ∀ q ∈ ([(1, 0), (0, 0)] ++ allG), q ∈ lawG) q hq)) h) (cwV 1 (cx_ts C) gL_isHot_X11_isHot rfl rfl rfl (by decide +kernel) ⟨(Nat.le_of_ble_eq_true rfl), (Nat.le_of_ble_eq_true rfl)⟩) rfl (hG _ lawG_0) (of0_0 _) (ce0 T ad _ _) rfl (st := [.int 0, .ref (ad 11 0 0)]) rfl (Nat.le_of_ble_eq_true rfl) ⟨(Nat.le_of_ble_eq_true rfl), (Nat.le_of_ble_eq_true rfl)⟩ dL_isHot_4 [] ⟨0, 16, 19, 31⟩ [] htab (fun z hz => nomatch hz) rfl (by decide) (cx_ts C _ lk_L_isHot_31) (Nst_use' (cx_nst C) cst_3) (fun q => ?_)
      refine fw_astore_n C dL_isHot_19 rfl (by decide) rfl ?_
      refine fw_iconst C dL_isHot_20 (v := 1) rfl ?_
      exact fw_iret C hrt Y1 ⟨rfl, rfl⟩ (fun t ht => ht) dL_isHot_21
  · refine fw_callXVi_r C (ci := 9) (Cn := RX11) (Tc := TX11) (N := 11) (As := [.int a1]) (c_X11_isHot hl (fun q hq => hG q ((by decide : ∀ q ∈ ([(1, 0), (0, 0)] ++ allG), q ∈ lawG) q hq)) h) (cwV 1 (cx_ts C) gL_isHot_X11_isHot rfl rfl rfl (by decide +kernel) ⟨(Nat.le_of_ble_eq_true rfl), (Nat.le_of_ble_eq_true rfl)⟩) rfl (hG _ lawG_0) (of0_0 _) (ce0 T ad _ _) rfl (st := [.int 0, .ref (ad 11 0 0)]) rfl (Nat.le_of_ble_eq_true rfl) ⟨(Nat.le_of_ble_eq_true rfl), (Nat.le_of_ble_eq_true rfl)⟩ dL_isHot_4 ?_
    refine fw_if_eq C dL_isHot_7 (tgt := 14) rfl (fun c1 => ?_) (fun c1 => ?_)
    · refine fw_lconst C dL_isHot_14 (v := 0) rfl ?_
      refine fw_last C (x := 0) rfl (hG _ lawG_11) dL_isHot_15 ?_
      refine fw_goto C dL_isHot_16 (tgt := 22) rfl ?_
      refine fw_iconst C dL_isHot_22 (v := 0) rfl ?_
      exact fw_iret C hrt (up Y1 11 0 0 0 0) ⟨rfl, by subst c1; rfl⟩ (fun t ht => ht) dL_isHot_23
    · refine fw_lconst C dL_isHot_10 (v := 1) rfl ?_
      refine fw_goto C dL_isHot_11 (tgt := 15) rfl ?_
      refine fw_last C (x := 1) rfl (hG _ lawG_11) dL_isHot_15 ?_
      refine fw_goto C dL_isHot_16 (tgt := 22) rfl ?_
      refine fw_iconst C dL_isHot_22 (v := 0) rfl ?_
      exact fw_iret C hrt (up Y1 11 0 0 0 1) ⟨rfl, (hMb_1 c1).symm⟩ (fun t ht => ht) dL_isHot_23
end
theorem c_L_isHot {l : Launch} {N0 : Nat} {T : Nat → ClassId} {D : va_G} {gr : List (Nat × Nat)} {ad : Nat → Nat → Nat → Nat} {Y : Mem} {a1 : Int32} {res : (Nat × Mem) ⊕ (Int32 × Mem)} (hl : l.stackTraces = false) (hG : ∀ q ∈ lawG, q ∈ gr) (h : X11_isHot Y a1 = some res) (hn : ∀ n Y1, res = .inl (n, Y1) → c3 n ≠ 0) : CH l yL_isHot wsL_isHot (Rx 8 1) N0 T D gr ad Y [.ref (ad 0 0 0), .int a1, .ref (ad 11 0 0)] 1 (hR c3 res) (hMb res) :=
  fw_hbody (by decide +kernel) rfl (Nat.le_of_ble_eq_true rfl) (fun p e s m below meth c C hE hrt htab => w_L_isHot C hE hrt htab hl hG h hn)
theorem lk_L_isUnattended_31 : Cond.classLink RL 31 "java/lang/IndexOutOfBoundsException" ∈ wsL_isUnattended := by decide +kernel
section
variable {p : Program} {l : Launch} {e : Env} {s : State} {m : MethodId} {below : List Frame} {meth : Method} {c : Code} {N0 : Nat} {T : Nat → ClassId} {D : va_G} {gr : List (Nat × Nat)} {ad : Nat → Nat → Nat → Nat}
set_option maxHeartbeats 4000000 in
theorem w_L_isUnattended {Y : Mem} {a1 : Int32} (C : Cx p s m [.ref (ad 0 0 0), .int a1, .ref (ad 11 0 0)].toArray meth c cL_isUnattended 4 wsL_isUnattended RL N0 T D gr ad) (hE : Exw s) (hrt : meth.sig.returnType = (some .int)) (htab : c.exceptionTable.toList = tableOf [(0, 16, 19, 31)]) (hl : l.stackTraces = false) (hG : ∀ q ∈ lawG, q ∈ gr) {res : (Nat × Mem) ⊕ (Int32 × Mem)} (h : X11_isUnattended Y a1 = some res) (hn : ∀ n Y1, res = .inl (n, Y1) → c3 n ≠ 0) : FW p l e (Rx 8 1) s m [.ref (ad 0 0 0), .int a1, .ref (ad 11 0 0)].toArray below meth c 4 N0 T D gr ad 0 0 (MQ below (va_Qi (fun r1 Y1 => r1 = hR c3 res ∧ Y1 = hMb res) (WB T D gr ad) (fun q => N0 ≤ q)) [.ref (ad 0 0 0), .int a1, .ref (ad 11 0 0)].toArray s 1 6 (fun q => N0 ≤ q)) Y 0 [(0, .ref (ad 0 0 0)), (1, .int a1), (2, .ref (ad 11 0 0))] [] := by
  refine fw_aload_n C dL_isUnattended_0 rfl 2 rfl ?_
  refine fw_iconst C dL_isUnattended_1 (v := 0) rfl ?_
  refine fw_aload_n C dL_isUnattended_2 rfl 0 rfl ?_
  refine fw_iload_n C dL_isUnattended_3 rfl 1 rfl ?_
  rcases res with ⟨n, Y1⟩ | ⟨v, Y1⟩
  · rcases c3_inv (hn n Y1 rfl) with rfl
    · refine fw_callXVi_c C (ci := 9) (Cn := RX11) (Tc := TX11) (N := 11) (As := [.int a1]) (c_X11_isUnattended hl (fun q hq => hG q ((by decide : ∀ q ∈ ([(1, 0), (0, 0)] ++ allG), q ∈ lawG) q hq)) h) (cwV 1 (cx_ts C) gL_isUnattended_X11_isUnattended rfl rfl rfl (by decide +kernel) ⟨(Nat.le_of_ble_eq_true rfl), (Nat.le_of_ble_eq_true rfl)⟩) rfl (hG _ lawG_0) (of0_0 _) (ce0 T ad _ _) rfl (st := [.int 0, .ref (ad 11 0 0)]) rfl (Nat.le_of_ble_eq_true rfl) ⟨(Nat.le_of_ble_eq_true rfl), (Nat.le_of_ble_eq_true rfl)⟩ dL_isUnattended_4 [] ⟨0, 16, 19, 31⟩ [] htab (fun z hz => nomatch hz) rfl (by decide) (cx_ts C _ lk_L_isUnattended_31) (Nst_use' (cx_nst C) cst_3) (fun q => ?_)
      refine fw_astore_n C dL_isUnattended_19 rfl (by decide) rfl ?_
      refine fw_iconst C dL_isUnattended_20 (v := 1) rfl ?_
      exact fw_iret C hrt Y1 ⟨rfl, rfl⟩ (fun t ht => ht) dL_isUnattended_21
  · refine fw_callXVi_r C (ci := 9) (Cn := RX11) (Tc := TX11) (N := 11) (As := [.int a1]) (c_X11_isUnattended hl (fun q hq => hG q ((by decide : ∀ q ∈ ([(1, 0), (0, 0)] ++ allG), q ∈ lawG) q hq)) h) (cwV 1 (cx_ts C) gL_isUnattended_X11_isUnattended rfl rfl rfl (by decide +kernel) ⟨(Nat.le_of_ble_eq_true rfl), (Nat.le_of_ble_eq_true rfl)⟩) rfl (hG _ lawG_0) (of0_0 _) (ce0 T ad _ _) rfl (st := [.int 0, .ref (ad 11 0 0)]) rfl (Nat.le_of_ble_eq_true rfl) ⟨(Nat.le_of_ble_eq_true rfl), (Nat.le_of_ble_eq_true rfl)⟩ dL_isUnattended_4 ?_
    refine fw_if_eq C dL_isUnattended_7 (tgt := 14) rfl (fun c1 => ?_) (fun c1 => ?_)
    · refine fw_lconst C dL_isUnattended_14 (v := 0) rfl ?_
      refine fw_last C (x := 0) rfl (hG _ lawG_11) dL_isUnattended_15 ?_
      refine fw_goto C dL_isUnattended_16 (tgt := 22) rfl ?_
      refine fw_iconst C dL_isUnattended_22 (v := 0) rfl ?_
      exact fw_iret C hrt (up Y1 11 0 0 0 0) ⟨rfl, by subst c1; rfl⟩ (fun t ht => ht) dL_isUnattended_23
    · refine fw_lconst C dL_isUnattended_10 (v := 1) rfl ?_
      refine fw_goto C dL_isUnattended_11 (tgt := 15) rfl ?_
      refine fw_last C (x := 1) rfl (hG _ lawG_11) dL_isUnattended_15 ?_
      refine fw_goto C dL_isUnattended_16 (tgt := 22) rfl ?_
      refine fw_iconst C dL_isUnattended_22 (v := 0) rfl ?_
      exact fw_iret C hrt (up Y1 11 0 0 0 1) ⟨rfl, (hMb_1 c1).symm⟩ (fun t ht => ht) dL_isUnattended_23
end
theorem c_L_isUnattended {l : Launch} {N0 : Nat} {T : Nat → ClassId} {D : va_G} {gr : List (Nat × Nat)} {ad : Nat → Nat → Nat → Nat} {Y : Mem} {a1 : Int32} {res : (Nat × Mem) ⊕ (Int32 × Mem)} (hl : l.stackTraces = false) (hG : ∀ q ∈ lawG, q ∈ gr) (h : X11_isUnattended Y a1 = some res) (hn : ∀ n Y1, res = .inl (n, Y1) → c3 n ≠ 0) : CH l yL_isUnattended wsL_isUnattended (Rx 8 1) N0 T D gr ad Y [.ref (ad 0 0 0), .int a1, .ref (ad 11 0 0)] 1 (hR c3 res) (hMb res) :=
  fw_hbody (by decide +kernel) rfl (Nat.le_of_ble_eq_true rfl) (fun p e s m below meth c C hE hrt htab => w_L_isUnattended C hE hrt htab hl hG h hn)
theorem lk_L_predecessor_31 : Cond.classLink RL 31 "java/lang/IndexOutOfBoundsException" ∈ wsL_predecessor := by decide +kernel
section
variable {p : Program} {l : Launch} {e : Env} {s : State} {m : MethodId} {below : List Frame} {meth : Method} {c : Code} {N0 : Nat} {T : Nat → ClassId} {D : va_G} {gr : List (Nat × Nat)} {ad : Nat → Nat → Nat → Nat}
set_option maxHeartbeats 4000000 in
theorem w_L_predecessor {Y : Mem} {a1 : Int32} {a2 : Int32} (C : Cx p s m [.ref (ad 0 0 0), .int a1, .int a2, .ref (ad 11 0 0)].toArray meth c cL_predecessor 5 wsL_predecessor RL N0 T D gr ad) (hE : Exw s) (hrt : meth.sig.returnType = (some .int)) (htab : c.exceptionTable.toList = tableOf [(0, 10, 13, 31)]) (hl : l.stackTraces = false) (hG : ∀ q ∈ lawG, q ∈ gr) {res : (Nat × Mem) ⊕ (Int32 × Mem)} (h : X11_predecessor Y a1 a2 = some res) (hn : ∀ n Y1, res = .inl (n, Y1) → c3 n ≠ 0) : FW p l e (Rx 8 1) s m [.ref (ad 0 0 0), .int a1, .int a2, .ref (ad 11 0 0)].toArray below meth c 5 N0 T D gr ad 0 0 (MQ below (va_Qi (fun r1 Y1 => r1 = hR c3 res ∧ Y1 = hM res) (WB T D gr ad) (fun q => N0 ≤ q)) [.ref (ad 0 0 0), .int a1, .int a2, .ref (ad 11 0 0)].toArray s 1 6 (fun q => N0 ≤ q)) Y 0 [(0, .ref (ad 0 0 0)), (1, .int a1), (2, .int a2), (3, .ref (ad 11 0 0))] [] := by
  refine fw_aload_n C dL_predecessor_0 rfl 3 rfl ?_
  refine fw_iconst C dL_predecessor_1 (v := 0) rfl ?_
  refine fw_aload_n C dL_predecessor_2 rfl 0 rfl ?_
  refine fw_iload_n C dL_predecessor_3 rfl 1 rfl ?_
  refine fw_iload_n C dL_predecessor_4 rfl 2 rfl ?_
  rcases res with ⟨n, Y1⟩ | ⟨v, Y1⟩
  · rcases c3_inv (hn n Y1 rfl) with rfl
    · refine fw_callXVi_c C (ci := 9) (Cn := RX11) (Tc := TX11) (N := 11) (As := [.int a1, .int a2]) (c_X11_predecessor hl (fun q hq => hG q ((by decide : ∀ q ∈ ([(1, 0), (0, 0)] ++ allG), q ∈ lawG) q hq)) h) (cwV 2 (cx_ts C) gL_predecessor_X11_predecessor rfl rfl rfl (by decide +kernel) ⟨(Nat.le_of_ble_eq_true rfl), (Nat.le_of_ble_eq_true rfl)⟩) rfl (hG _ lawG_0) (of0_0 _) (ce0 T ad _ _) rfl (st := [.int 0, .ref (ad 11 0 0)]) rfl (Nat.le_of_ble_eq_true rfl) ⟨(Nat.le_of_ble_eq_true rfl), (Nat.le_of_ble_eq_true rfl)⟩ dL_predecessor_5 [] ⟨0, 10, 13, 31⟩ [] htab (fun z hz => nomatch hz) rfl (by decide) (cx_ts C _ lk_L_predecessor_31) (Nst_use' (cx_nst C) cst_3) (fun q => ?_)
      refine fw_astore C dL_predecessor_13 (by decide) rfl ?_
      refine fw_iconst C dL_predecessor_15 (v := 1) rfl ?_
      exact fw_iret C hrt Y1 ⟨rfl, rfl⟩ (fun t ht => ht) dL_predecessor_16
  · refine fw_callXVi_r C (ci := 9) (Cn := RX11) (Tc := TX11) (N := 11) (As := [.int a1, .int a2]) (c_X11_predecessor hl (fun q hq => hG q ((by decide : ∀ q ∈ ([(1, 0), (0, 0)] ++ allG), q ∈ lawG) q hq)) h) (cwV 2 (cx_ts C) gL_predecessor_X11_predecessor rfl rfl rfl (by decide +kernel) ⟨(Nat.le_of_ble_eq_true rfl), (Nat.le_of_ble_eq_true rfl)⟩) rfl (hG _ lawG_0) (of0_0 _) (ce0 T ad _ _) rfl (st := [.int 0, .ref (ad 11 0 0)]) rfl (Nat.le_of_ble_eq_true rfl) ⟨(Nat.le_of_ble_eq_true rfl), (Nat.le_of_ble_eq_true rfl)⟩ dL_predecessor_5 ?_
    refine fw_i2l C dL_predecessor_8 rfl ?_
    refine fw_last C (x := v) rfl (hG _ lawG_11) dL_predecessor_9 ?_
    refine fw_goto C dL_predecessor_10 (tgt := 17) rfl ?_
    refine fw_iconst C dL_predecessor_17 (v := 0) rfl ?_
    exact fw_iret C hrt (up Y1 11 0 0 0 v) ⟨rfl, rfl⟩ (fun t ht => ht) dL_predecessor_18
end
theorem c_L_predecessor {l : Launch} {N0 : Nat} {T : Nat → ClassId} {D : va_G} {gr : List (Nat × Nat)} {ad : Nat → Nat → Nat → Nat} {Y : Mem} {a1 : Int32} {a2 : Int32} {res : (Nat × Mem) ⊕ (Int32 × Mem)} (hl : l.stackTraces = false) (hG : ∀ q ∈ lawG, q ∈ gr) (h : X11_predecessor Y a1 a2 = some res) (hn : ∀ n Y1, res = .inl (n, Y1) → c3 n ≠ 0) : CH l yL_predecessor wsL_predecessor (Rx 8 1) N0 T D gr ad Y [.ref (ad 0 0 0), .int a1, .int a2, .ref (ad 11 0 0)] 1 (hR c3 res) (hM res) :=
  fw_hbody (by decide +kernel) rfl (Nat.le_of_ble_eq_true rfl) (fun p e s m below meth c C hE hrt htab => w_L_predecessor C hE hrt htab hl hG h hn)
theorem lk_L_successorCount_31 : Cond.classLink RL 31 "java/lang/IndexOutOfBoundsException" ∈ wsL_successorCount := by decide +kernel
section
variable {p : Program} {l : Launch} {e : Env} {s : State} {m : MethodId} {below : List Frame} {meth : Method} {c : Code} {N0 : Nat} {T : Nat → ClassId} {D : va_G} {gr : List (Nat × Nat)} {ad : Nat → Nat → Nat → Nat}
set_option maxHeartbeats 4000000 in
theorem w_L_successorCount {Y : Mem} {a1 : Int32} (C : Cx p s m [.ref (ad 0 0 0), .int a1, .ref (ad 11 0 0)].toArray meth c cL_successorCount 4 wsL_successorCount RL N0 T D gr ad) (hE : Exw s) (hrt : meth.sig.returnType = (some .int)) (htab : c.exceptionTable.toList = tableOf [(0, 9, 12, 31)]) (hl : l.stackTraces = false) (hG : ∀ q ∈ lawG, q ∈ gr) {res : (Nat × Mem) ⊕ (Int32 × Mem)} (h : X11_successorCount Y a1 = some res) (hn : ∀ n Y1, res = .inl (n, Y1) → c3 n ≠ 0) : FW p l e (Rx 8 1) s m [.ref (ad 0 0 0), .int a1, .ref (ad 11 0 0)].toArray below meth c 4 N0 T D gr ad 0 0 (MQ below (va_Qi (fun r1 Y1 => r1 = hR c3 res ∧ Y1 = hM res) (WB T D gr ad) (fun q => N0 ≤ q)) [.ref (ad 0 0 0), .int a1, .ref (ad 11 0 0)].toArray s 1 6 (fun q => N0 ≤ q)) Y 0 [(0, .ref (ad 0 0 0)), (1, .int a1), (2, .ref (ad 11 0 0))] [] := by
  refine fw_aload_n C dL_successorCount_0 rfl 2 rfl ?_
  refine fw_iconst C dL_successorCount_1 (v := 0) rfl ?_
  refine fw_aload_n C dL_successorCount_2 rfl 0 rfl ?_
  refine fw_iload_n C dL_successorCount_3 rfl 1 rfl ?_
  rcases res with ⟨n, Y1⟩ | ⟨v, Y1⟩
  · rcases c3_inv (hn n Y1 rfl) with rfl
    · refine fw_callXVi_c C (ci := 9) (Cn := RX11) (Tc := TX11) (N := 11) (As := [.int a1]) (c_X11_successorCount hl (fun q hq => hG q ((by decide : ∀ q ∈ ([(1, 0), (0, 0)] ++ allG), q ∈ lawG) q hq)) h) (cwV 1 (cx_ts C) gL_successorCount_X11_successorCount rfl rfl rfl (by decide +kernel) ⟨(Nat.le_of_ble_eq_true rfl), (Nat.le_of_ble_eq_true rfl)⟩) rfl (hG _ lawG_0) (of0_0 _) (ce0 T ad _ _) rfl (st := [.int 0, .ref (ad 11 0 0)]) rfl (Nat.le_of_ble_eq_true rfl) ⟨(Nat.le_of_ble_eq_true rfl), (Nat.le_of_ble_eq_true rfl)⟩ dL_successorCount_4 [] ⟨0, 9, 12, 31⟩ [] htab (fun z hz => nomatch hz) rfl (by decide) (cx_ts C _ lk_L_successorCount_31) (Nst_use' (cx_nst C) cst_3) (fun q => ?_)
      refine fw_astore_n C dL_successorCount_12 rfl (by decide) rfl ?_
      refine fw_iconst C dL_successorCount_13 (v := 1) rfl ?_
      exact fw_iret C hrt Y1 ⟨rfl, rfl⟩ (fun t ht => ht) dL_successorCount_14
  · refine fw_callXVi_r C (ci := 9) (Cn := RX11) (Tc := TX11) (N := 11) (As := [.int a1]) (c_X11_successorCount hl (fun q hq => hG q ((by decide : ∀ q ∈ ([(1, 0), (0, 0)] ++ allG), q ∈ lawG) q hq)) h) (cwV 1 (cx_ts C) gL_successorCount_X11_successorCount rfl rfl rfl (by decide +kernel) ⟨(Nat.le_of_ble_eq_true rfl), (Nat.le_of_ble_eq_true rfl)⟩) rfl (hG _ lawG_0) (of0_0 _) (ce0 T ad _ _) rfl (st := [.int 0, .ref (ad 11 0 0)]) rfl (Nat.le_of_ble_eq_true rfl) ⟨(Nat.le_of_ble_eq_true rfl), (Nat.le_of_ble_eq_true rfl)⟩ dL_successorCount_4 ?_
    refine fw_i2l C dL_successorCount_7 rfl ?_
    refine fw_last C (x := v) rfl (hG _ lawG_11) dL_successorCount_8 ?_
    refine fw_goto C dL_successorCount_9 (tgt := 15) rfl ?_
    refine fw_iconst C dL_successorCount_15 (v := 0) rfl ?_
    exact fw_iret C hrt (up Y1 11 0 0 0 v) ⟨rfl, rfl⟩ (fun t ht => ht) dL_successorCount_16
end
theorem c_L_successorCount {l : Launch} {N0 : Nat} {T : Nat → ClassId} {D : va_G} {gr : List (Nat × Nat)} {ad : Nat → Nat → Nat → Nat} {Y : Mem} {a1 : Int32} {res : (Nat × Mem) ⊕ (Int32 × Mem)} (hl : l.stackTraces = false) (hG : ∀ q ∈ lawG, q ∈ gr) (h : X11_successorCount Y a1 = some res) (hn : ∀ n Y1, res = .inl (n, Y1) → c3 n ≠ 0) : CH l yL_successorCount wsL_successorCount (Rx 8 1) N0 T D gr ad Y [.ref (ad 0 0 0), .int a1, .ref (ad 11 0 0)] 1 (hR c3 res) (hM res) :=
  fw_hbody (by decide +kernel) rfl (Nat.le_of_ble_eq_true rfl) (fun p e s m below meth c C hE hrt htab => w_L_successorCount C hE hrt htab hl hG h hn)
theorem lk_L_dependsOn_31 : Cond.classLink RL 31 "java/lang/IndexOutOfBoundsException" ∈ wsL_dependsOn := by decide +kernel
section
variable {p : Program} {l : Launch} {e : Env} {s : State} {m : MethodId} {below : List Frame} {meth : Method} {c : Code} {N0 : Nat} {T : Nat → ClassId} {D : va_G} {gr : List (Nat × Nat)} {ad : Nat → Nat → Nat → Nat}
set_option maxHeartbeats 4000000 in
theorem w_L_dependsOn {Y : Mem} {a1 : Int32} {a2 : Int32} (C : Cx p s m [.ref (ad 0 0 0), .int a1, .int a2, .ref (ad 11 0 0)].toArray meth c cL_dependsOn 5 wsL_dependsOn RL N0 T D gr ad) (hE : Exw s) (hrt : meth.sig.returnType = (some .int)) (htab : c.exceptionTable.toList = tableOf [(0, 17, 20, 31)]) (hl : l.stackTraces = false) (hG : ∀ q ∈ lawG, q ∈ gr) {res : (Nat × Mem) ⊕ (Int32 × Mem)} (h : X11_dependsOn Y a1 a2 = some res) (hn : ∀ n Y1, res = .inl (n, Y1) → c3 n ≠ 0) : FW p l e (Rx 8 2) s m [.ref (ad 0 0 0), .int a1, .int a2, .ref (ad 11 0 0)].toArray below meth c 5 N0 T D gr ad 0 0 (MQ below (va_Qi (fun r1 Y1 => r1 = hR c3 res ∧ Y1 = hMb res) (WB T D gr ad) (fun q => N0 ≤ q)) [.ref (ad 0 0 0), .int a1, .int a2, .ref (ad 11 0 0)].toArray s 2 12 (fun q => N0 ≤ q)) Y 0 [(0, .ref (ad 0 0 0)), (1, .int a1), (2, .int a2), (3, .ref (ad 11 0 0))] [] := by
  refine fw_aload_n C dL_dependsOn_0 rfl 3 rfl ?_
  refine fw_iconst C dL_dependsOn_1 (v := 0) rfl ?_
  refine fw_aload_n C dL_dependsOn_2 rfl 0 rfl ?_
  refine fw_iload_n C dL_dependsOn_3 rfl 1 rfl ?_
  refine fw_iload_n C dL_dependsOn_4 rfl 2 rfl ?_
  rcases res with ⟨n, Y1⟩ | ⟨v, Y1⟩
  · rcases c3_inv (hn n Y1 rfl) with rfl
    · refine fw_callXVi_c C (ci := 9) (Cn := RX11) (Tc := TX11) (N := 11) (As := [.int a1, .int a2]) (c_X11_dependsOn hl (fun q hq => hG q ((by decide : ∀ q ∈ ([(1, 0), (0, 0)] ++ allG), q ∈ lawG) q hq)) h) (cwV 2 (cx_ts C) gL_dependsOn_X11_dependsOn rfl rfl rfl (by decide +kernel) ⟨(Nat.le_of_ble_eq_true rfl), (Nat.le_of_ble_eq_true rfl)⟩) rfl (hG _ lawG_0) (of0_0 _) (ce0 T ad _ _) rfl (st := [.int 0, .ref (ad 11 0 0)]) rfl (Nat.le_of_ble_eq_true rfl) ⟨(Nat.le_of_ble_eq_true rfl), (Nat.le_of_ble_eq_true rfl)⟩ dL_dependsOn_5 [] ⟨0, 17, 20, 31⟩ [] htab (fun z hz => nomatch hz) rfl (by decide) (cx_ts C _ lk_L_dependsOn_31) (Nst_use' (cx_nst C) cst_3) (fun q => ?_)
      refine fw_astore C dL_dependsOn_20 (by decide) rfl ?_
      refine fw_iconst C dL_dependsOn_22 (v := 1) rfl ?_
      exact fw_iret C hrt Y1 ⟨rfl, rfl⟩ (fun t ht => ht) dL_dependsOn_23
  · refine fw_callXVi_r C (ci := 9) (Cn := RX11) (Tc := TX11) (N := 11) (As := [.int a1, .int a2]) (c_X11_dependsOn hl (fun q hq => hG q ((by decide : ∀ q ∈ ([(1, 0), (0, 0)] ++ allG), q ∈ lawG) q hq)) h) (cwV 2 (cx_ts C) gL_dependsOn_X11_dependsOn rfl rfl rfl (by decide +kernel) ⟨(Nat.le_of_ble_eq_true rfl), (Nat.le_of_ble_eq_true rfl)⟩) rfl (hG _ lawG_0) (of0_0 _) (ce0 T ad _ _) rfl (st := [.int 0, .ref (ad 11 0 0)]) rfl (Nat.le_of_ble_eq_true rfl) ⟨(Nat.le_of_ble_eq_true rfl), (Nat.le_of_ble_eq_true rfl)⟩ dL_dependsOn_5 ?_
    refine fw_if_eq C dL_dependsOn_8 (tgt := 15) rfl (fun c1 => ?_) (fun c1 => ?_)
    · refine fw_lconst C dL_dependsOn_15 (v := 0) rfl ?_
      refine fw_last C (x := 0) rfl (hG _ lawG_11) dL_dependsOn_16 ?_
      refine fw_goto C dL_dependsOn_17 (tgt := 24) rfl ?_
      refine fw_iconst C dL_dependsOn_24 (v := 0) rfl ?_
      exact fw_iret C hrt (up Y1 11 0 0 0 0) ⟨rfl, by subst c1; rfl⟩ (fun t ht => ht) dL_dependsOn_25
    · refine fw_lconst C dL_dependsOn_11 (v := 1) rfl ?_
      refine fw_goto C dL_dependsOn_12 (tgt := 16) rfl ?_
      refine fw_last C (x := 1) rfl (hG _ lawG_11) dL_dependsOn_16 ?_
      refine fw_goto C dL_dependsOn_17 (tgt := 24) rfl ?_
      refine fw_iconst C dL_dependsOn_24 (v := 0) rfl ?_
      exact fw_iret C hrt (up Y1 11 0 0 0 1) ⟨rfl, (hMb_1 c1).symm⟩ (fun t ht => ht) dL_dependsOn_25
end
theorem c_L_dependsOn {l : Launch} {N0 : Nat} {T : Nat → ClassId} {D : va_G} {gr : List (Nat × Nat)} {ad : Nat → Nat → Nat → Nat} {Y : Mem} {a1 : Int32} {a2 : Int32} {res : (Nat × Mem) ⊕ (Int32 × Mem)} (hl : l.stackTraces = false) (hG : ∀ q ∈ lawG, q ∈ gr) (h : X11_dependsOn Y a1 a2 = some res) (hn : ∀ n Y1, res = .inl (n, Y1) → c3 n ≠ 0) : CH l yL_dependsOn wsL_dependsOn (Rx 8 2) N0 T D gr ad Y [.ref (ad 0 0 0), .int a1, .int a2, .ref (ad 11 0 0)] 2 (hR c3 res) (hMb res) :=
  fw_hbody (by decide +kernel) rfl (Nat.le_of_ble_eq_true rfl) (fun p e s m below meth c C hE hrt htab => w_L_dependsOn C hE hrt htab hl hG h hn)
theorem lk_L_pathLength_31 : Cond.classLink RL 31 "java/lang/IndexOutOfBoundsException" ∈ wsL_pathLength := by decide +kernel
section
variable {p : Program} {l : Launch} {e : Env} {s : State} {m : MethodId} {below : List Frame} {meth : Method} {c : Code} {N0 : Nat} {T : Nat → ClassId} {D : va_G} {gr : List (Nat × Nat)} {ad : Nat → Nat → Nat → Nat}
set_option maxHeartbeats 4000000 in
theorem w_L_pathLength {Y : Mem} {a1 : Int32} (C : Cx p s m [.ref (ad 0 0 0), .int a1, .ref (ad 11 0 0)].toArray meth c cL_pathLength 4 wsL_pathLength RL N0 T D gr ad) (hE : Exw s) (hrt : meth.sig.returnType = (some .int)) (htab : c.exceptionTable.toList = tableOf [(0, 9, 12, 31)]) (hl : l.stackTraces = false) (hG : ∀ q ∈ lawG, q ∈ gr) {res : (Nat × Mem) ⊕ (Int32 × Mem)} (h : X11_pathLength Y a1 = some res) (hn : ∀ n Y1, res = .inl (n, Y1) → c3 n ≠ 0) : FW p l e (Rx 8 1) s m [.ref (ad 0 0 0), .int a1, .ref (ad 11 0 0)].toArray below meth c 4 N0 T D gr ad 0 0 (MQ below (va_Qi (fun r1 Y1 => r1 = hR c3 res ∧ Y1 = hM res) (WB T D gr ad) (fun q => N0 ≤ q)) [.ref (ad 0 0 0), .int a1, .ref (ad 11 0 0)].toArray s 1 6 (fun q => N0 ≤ q)) Y 0 [(0, .ref (ad 0 0 0)), (1, .int a1), (2, .ref (ad 11 0 0))] [] := by
  refine fw_aload_n C dL_pathLength_0 rfl 2 rfl ?_
  refine fw_iconst C dL_pathLength_1 (v := 0) rfl ?_
  refine fw_aload_n C dL_pathLength_2 rfl 0 rfl ?_
  refine fw_iload_n C dL_pathLength_3 rfl 1 rfl ?_
  rcases res with ⟨n, Y1⟩ | ⟨v, Y1⟩
  · rcases c3_inv (hn n Y1 rfl) with rfl
    · refine fw_callXVi_c C (ci := 9) (Cn := RX11) (Tc := TX11) (N := 11) (As := [.int a1]) (c_X11_pathLength hl (fun q hq => hG q ((by decide : ∀ q ∈ ([(1, 0), (0, 0), (2, 0)] ++ allG), q ∈ lawG) q hq)) h) (cwV 1 (cx_ts C) gL_pathLength_X11_pathLength rfl rfl rfl (by decide +kernel) ⟨(Nat.le_of_ble_eq_true rfl), (Nat.le_of_ble_eq_true rfl)⟩) rfl (hG _ lawG_0) (of0_0 _) (ce0 T ad _ _) rfl (st := [.int 0, .ref (ad 11 0 0)]) rfl (Nat.le_of_ble_eq_true rfl) ⟨(Nat.le_of_ble_eq_true rfl), (Nat.le_of_ble_eq_true rfl)⟩ dL_pathLength_4 [] ⟨0, 9, 12, 31⟩ [] htab (fun z hz => nomatch hz) rfl (by decide) (cx_ts C _ lk_L_pathLength_31) (Nst_use' (cx_nst C) cst_3) (fun q => ?_)
      refine fw_astore_n C dL_pathLength_12 rfl (by decide) rfl ?_
      refine fw_iconst C dL_pathLength_13 (v := 1) rfl ?_
      exact fw_iret C hrt Y1 ⟨rfl, rfl⟩ (fun t ht => ht) dL_pathLength_14
  · refine fw_callXVi_r C (ci := 9) (Cn := RX11) (Tc := TX11) (N := 11) (As := [.int a1]) (c_X11_pathLength hl (fun q hq => hG q ((by decide : ∀ q ∈ ([(1, 0), (0, 0), (2, 0)] ++ allG), q ∈ lawG) q hq)) h) (cwV 1 (cx_ts C) gL_pathLength_X11_pathLength rfl rfl rfl (by decide +kernel) ⟨(Nat.le_of_ble_eq_true rfl), (Nat.le_of_ble_eq_true rfl)⟩) rfl (hG _ lawG_0) (of0_0 _) (ce0 T ad _ _) rfl (st := [.int 0, .ref (ad 11 0 0)]) rfl (Nat.le_of_ble_eq_true rfl) ⟨(Nat.le_of_ble_eq_true rfl), (Nat.le_of_ble_eq_true rfl)⟩ dL_pathLength_4 ?_
    refine fw_i2l C dL_pathLength_7 rfl ?_
    refine fw_last C (x := v) rfl (hG _ lawG_11) dL_pathLength_8 ?_
    refine fw_goto C dL_pathLength_9 (tgt := 15) rfl ?_
    refine fw_iconst C dL_pathLength_15 (v := 0) rfl ?_
    exact fw_iret C hrt (up Y1 11 0 0 0 v) ⟨rfl, rfl⟩ (fun t ht => ht) dL_pathLength_16
end
theorem c_L_pathLength {l : Launch} {N0 : Nat} {T : Nat → ClassId} {D : va_G} {gr : List (Nat × Nat)} {ad : Nat → Nat → Nat → Nat} {Y : Mem} {a1 : Int32} {res : (Nat × Mem) ⊕ (Int32 × Mem)} (hl : l.stackTraces = false) (hG : ∀ q ∈ lawG, q ∈ gr) (h : X11_pathLength Y a1 = some res) (hn : ∀ n Y1, res = .inl (n, Y1) → c3 n ≠ 0) : CH l yL_pathLength wsL_pathLength (Rx 8 1) N0 T D gr ad Y [.ref (ad 0 0 0), .int a1, .ref (ad 11 0 0)] 1 (hR c3 res) (hM res) :=
  fw_hbody (by decide +kernel) rfl (Nat.le_of_ble_eq_true rfl) (fun p e s m below meth c C hE hrt htab => w_L_pathLength C hE hrt htab hl hG h hn)
theorem lk_L_nameLetter_31 : Cond.classLink RL 31 "java/lang/IndexOutOfBoundsException" ∈ wsL_nameLetter := by decide +kernel
section
variable {p : Program} {l : Launch} {e : Env} {s : State} {m : MethodId} {below : List Frame} {meth : Method} {c : Code} {N0 : Nat} {T : Nat → ClassId} {D : va_G} {gr : List (Nat × Nat)} {ad : Nat → Nat → Nat → Nat}
set_option maxHeartbeats 4000000 in
theorem w_L_nameLetter {Y : Mem} {a1 : Int32} {a2 : Int32} (C : Cx p s m [.ref (ad 0 0 0), .int a1, .int a2, .ref (ad 11 0 0)].toArray meth c cL_nameLetter 5 wsL_nameLetter RL N0 T D gr ad) (hE : Exw s) (hrt : meth.sig.returnType = (some .int)) (htab : c.exceptionTable.toList = tableOf [(0, 10, 13, 31)]) (hl : l.stackTraces = false) (hG : ∀ q ∈ lawG, q ∈ gr) {res : (Nat × Mem) ⊕ (Int32 × Mem)} (h : X11_nameLetter Y a1 a2 = some res) (hn : ∀ n Y1, res = .inl (n, Y1) → c3 n ≠ 0) : FW p l e (Rx 8 2) s m [.ref (ad 0 0 0), .int a1, .int a2, .ref (ad 11 0 0)].toArray below meth c 5 N0 T D gr ad 0 0 (MQ below (va_Qi (fun r1 Y1 => r1 = hR c3 res ∧ Y1 = hM res) (WB T D gr ad) (fun q => N0 ≤ q)) [.ref (ad 0 0 0), .int a1, .int a2, .ref (ad 11 0 0)].toArray s 2 12 (fun q => N0 ≤ q)) Y 0 [(0, .ref (ad 0 0 0)), (1, .int a1), (2, .int a2), (3, .ref (ad 11 0 0))] [] := by
  refine fw_aload_n C dL_nameLetter_0 rfl 3 rfl ?_
  refine fw_iconst C dL_nameLetter_1 (v := 0) rfl ?_
  refine fw_aload_n C dL_nameLetter_2 rfl 0 rfl ?_
  refine fw_iload_n C dL_nameLetter_3 rfl 1 rfl ?_
  refine fw_iload_n C dL_nameLetter_4 rfl 2 rfl ?_
  rcases res with ⟨n, Y1⟩ | ⟨v, Y1⟩
  · rcases c3_inv (hn n Y1 rfl) with rfl
    · refine fw_callXVi_c C (ci := 9) (Cn := RX11) (Tc := TX11) (N := 11) (As := [.int a1, .int a2]) (c_X11_nameLetter hl (fun q hq => hG q ((by decide : ∀ q ∈ ([(1, 0), (0, 0)] ++ allG), q ∈ lawG) q hq)) h) (cwV 2 (cx_ts C) gL_nameLetter_X11_nameLetter rfl rfl rfl (by decide +kernel) ⟨(Nat.le_of_ble_eq_true rfl), (Nat.le_of_ble_eq_true rfl)⟩) rfl (hG _ lawG_0) (of0_0 _) (ce0 T ad _ _) rfl (st := [.int 0, .ref (ad 11 0 0)]) rfl (Nat.le_of_ble_eq_true rfl) ⟨(Nat.le_of_ble_eq_true rfl), (Nat.le_of_ble_eq_true rfl)⟩ dL_nameLetter_5 [] ⟨0, 10, 13, 31⟩ [] htab (fun z hz => nomatch hz) rfl (by decide) (cx_ts C _ lk_L_nameLetter_31) (Nst_use' (cx_nst C) cst_3) (fun q => ?_)
      refine fw_astore C dL_nameLetter_13 (by decide) rfl ?_
      refine fw_iconst C dL_nameLetter_15 (v := 1) rfl ?_
      exact fw_iret C hrt Y1 ⟨rfl, rfl⟩ (fun t ht => ht) dL_nameLetter_16
  · refine fw_callXVi_r C (ci := 9) (Cn := RX11) (Tc := TX11) (N := 11) (As := [.int a1, .int a2]) (c_X11_nameLetter hl (fun q hq => hG q ((by decide : ∀ q ∈ ([(1, 0), (0, 0)] ++ allG), q ∈ lawG) q hq)) h) (cwV 2 (cx_ts C) gL_nameLetter_X11_nameLetter rfl rfl rfl (by decide +kernel) ⟨(Nat.le_of_ble_eq_true rfl), (Nat.le_of_ble_eq_true rfl)⟩) rfl (hG _ lawG_0) (of0_0 _) (ce0 T ad _ _) rfl (st := [.int 0, .ref (ad 11 0 0)]) rfl (Nat.le_of_ble_eq_true rfl) ⟨(Nat.le_of_ble_eq_true rfl), (Nat.le_of_ble_eq_true rfl)⟩ dL_nameLetter_5 ?_
    refine fw_i2l C dL_nameLetter_8 rfl ?_
    refine fw_last C (x := v) rfl (hG _ lawG_11) dL_nameLetter_9 ?_
    refine fw_goto C dL_nameLetter_10 (tgt := 17) rfl ?_
    refine fw_iconst C dL_nameLetter_17 (v := 0) rfl ?_
    exact fw_iret C hrt (up Y1 11 0 0 0 v) ⟨rfl, rfl⟩ (fun t ht => ht) dL_nameLetter_18
end
theorem c_L_nameLetter {l : Launch} {N0 : Nat} {T : Nat → ClassId} {D : va_G} {gr : List (Nat × Nat)} {ad : Nat → Nat → Nat → Nat} {Y : Mem} {a1 : Int32} {a2 : Int32} {res : (Nat × Mem) ⊕ (Int32 × Mem)} (hl : l.stackTraces = false) (hG : ∀ q ∈ lawG, q ∈ gr) (h : X11_nameLetter Y a1 a2 = some res) (hn : ∀ n Y1, res = .inl (n, Y1) → c3 n ≠ 0) : CH l yL_nameLetter wsL_nameLetter (Rx 8 2) N0 T D gr ad Y [.ref (ad 0 0 0), .int a1, .int a2, .ref (ad 11 0 0)] 2 (hR c3 res) (hM res) :=
  fw_hbody (by decide +kernel) rfl (Nat.le_of_ble_eq_true rfl) (fun p e s m below meth c C hE hrt htab => w_L_nameLetter C hE hrt htab hl hG h hn)
