theorem lk_L_append_13 : Cond.classLink RL 13 "java/lang/IllegalStateException" ∈ wsL_append := by decide +kernel
section
variable {p : Program} {l : Launch} {e : Env} {s : State} {m : MethodId} {below : List Frame} {meth : Method} {c : Code} {N0 : Nat} {T : Nat → ClassId} {D : va_G} {gr : List (Nat × Nat)} {ad : Nat → Nat → Nat → Nat}
set_option maxHeartbeats 4000000 in
theorem w_L_append {Y : Mem} {a1 : Int32} {a2 : Int32} {a3 : Int32} {a4 : Int32} {a5 : Int32} (C : Cx p s m [.ref (ad 0 0 0), .int a1, .int a2, .int a3, .int a4, .int a5, .ref (ad 11 0 0)].toArray meth c cL_append 8 wsL_append RL N0 T D gr ad) (hE : Exw s) (hrt : meth.sig.returnType = (some .int)) (htab : c.exceptionTable.toList = tableOf [(0, 16, 19, 13)]) (hl : l.stackTraces = false) (hG : ∀ q ∈ lawG, q ∈ gr) {res : (Nat × Mem) ⊕ (Int32 × Mem)} (h : X11_append Y a1 a2 a3 a4 a5 = some res) (hn : ∀ n Y1, res = .inl (n, Y1) → c1_ n ≠ 0) : FW p l e (Rx 7 1) s m [.ref (ad 0 0 0), .int a1, .int a2, .int a3, .int a4, .int a5, .ref (ad 11 0 0)].toArray below meth c 8 N0 T D gr ad 0 0 (MQ below (va_Qi (fun r1 Y1 => r1 = hR c1_ res ∧ Y1 = hM res) (WB T D gr ad) (fun q => N0 ≤ q)) [.ref (ad 0 0 0), .int a1, .int a2, .int a3, .int a4, .int a5, .ref (ad 11 0 0)].toArray s 1 6 (fun q => N0 ≤ q)) Y 0 [(0, .ref (ad 0 0 0)), (1, .int a1), (2, .int a2), (3, .int a3), (4, .int a4), (5, .int a5), (6, .ref (ad 11 0 0))] [] := by
  refine fw_aload C dL_append_0 6 rfl ?_
  refine fw_iconst C dL_append_2 (v := 0) rfl ?_
  refine fw_aload_n C dL_append_3 rfl 0 rfl ?_
  refine fw_iload_n C dL_append_4 rfl 1 rfl ?_
  refine fw_iload_n C dL_append_5 rfl 2 rfl ?_
  refine fw_iload_n C dL_append_6 rfl 3 rfl ?_
  refine fw_iload C dL_append_7 4 rfl ?_
  refine fw_iload C dL_append_9 5 rfl ?_
  rcases res with ⟨n, Y1⟩ | ⟨v, Y1⟩
  · rcases c1__inv (hn n Y1 rfl) with rfl
    · refine fw_callXVi_c C (ci := 9) (Cn := RX11) (Tc := TX11) (N := 11) (As := [.int a1, .int a2, .int a3, .int a4, .int a5]) (c_X11_append hl (fun q hq => hG q ((by decide : ∀ q ∈ [(0, 0), (5, 0)], q ∈ lawG) q hq)) h) (cwV 5 (cx_ts C) gL_append_X11_append rfl rfl rfl (by decide +kernel) ⟨(Nat.le_of_ble_eq_true rfl), (Nat.le_of_ble_eq_true rfl)⟩) rfl (hG _ lawG_0) (of0_0 _) (ce0 T ad _ _) rfl (st := [.int 0, .ref (ad 11 0 0)]) rfl (Nat.le_of_ble_eq_true rfl) ⟨(Nat.le_of_ble_eq_true rfl), (Nat.le_of_ble_eq_true rfl)⟩ dL_append_11 [] ⟨0, 16, 19, 13⟩ [] htab (fun z hz => nomatch hz) rfl (by decide) (cx_ts C _ lk_L_append_13) (Nst_use' (cx_nst C) cst_1) (fun q => ?_)
      refine fw_astore C dL_append_19 (by decide) rfl ?_
      refine fw_iconst C dL_append_21 (v := 1) rfl ?_
      exact fw_iret C hrt Y1 ⟨rfl, rfl⟩ (fun t ht => ht) dL_append_22
  · refine fw_callXVi_r C (ci := 9) (Cn := RX11) (Tc := TX11) (N := 11) (As := [.int a1, .int a2, .int a3, .int a4, .int a5]) (c_X11_append hl (fun q hq => hG q ((by decide : ∀ q ∈ [(0, 0), (5, 0)], q ∈ lawG) q hq)) h) (cwV 5 (cx_ts C) gL_append_X11_append rfl rfl rfl (by decide +kernel) ⟨(Nat.le_of_ble_eq_true rfl), (Nat.le_of_ble_eq_true rfl)⟩) rfl (hG _ lawG_0) (of0_0 _) (ce0 T ad _ _) rfl (st := [.int 0, .ref (ad 11 0 0)]) rfl (Nat.le_of_ble_eq_true rfl) ⟨(Nat.le_of_ble_eq_true rfl), (Nat.le_of_ble_eq_true rfl)⟩ dL_append_11 ?_
    refine fw_i2l C dL_append_14 rfl ?_
    refine fw_last C (x := v) rfl (hG _ lawG_11) dL_append_15 ?_
    refine fw_goto C dL_append_16 (tgt := 23) rfl ?_
    refine fw_iconst C dL_append_23 (v := 0) rfl ?_
    exact fw_iret C hrt (up Y1 11 0 0 0 v) ⟨rfl, rfl⟩ (fun t ht => ht) dL_append_24
end
theorem c_L_append {l : Launch} {N0 : Nat} {T : Nat → ClassId} {D : va_G} {gr : List (Nat × Nat)} {ad : Nat → Nat → Nat → Nat} {Y : Mem} {a1 : Int32} {a2 : Int32} {a3 : Int32} {a4 : Int32} {a5 : Int32} {res : (Nat × Mem) ⊕ (Int32 × Mem)} (hl : l.stackTraces = false) (hG : ∀ q ∈ lawG, q ∈ gr) (h : X11_append Y a1 a2 a3 a4 a5 = some res) (hn : ∀ n Y1, res = .inl (n, Y1) → c1_ n ≠ 0) : CH l yL_append wsL_append (Rx 7 1) N0 T D gr ad Y [.ref (ad 0 0 0), .int a1, .int a2, .int a3, .int a4, .int a5, .ref (ad 11 0 0)] 1 (hR c1_ res) (hM res) :=
  fw_hbody (by decide +kernel) rfl (Nat.le_of_ble_eq_true rfl) (fun p e s m below meth c C hE hrt htab => w_L_append C hE hrt htab hl hG h hn)
theorem lk_L_truncate_19 : Cond.classLink RL 19 "java/lang/IllegalArgumentException" ∈ wsL_truncate := by decide +kernel
section
variable {p : Program} {l : Launch} {e : Env} {s : State} {m : MethodId} {below : List Frame} {meth : Method} {c : Code} {N0 : Nat} {T : Nat → ClassId} {D : va_G} {gr : List (Nat × Nat)} {ad : Nat → Nat → Nat → Nat}
set_option maxHeartbeats 4000000 in
theorem w_L_truncate {Y : Mem} {a1 : Int32} (C : Cx p s m [.ref (ad 0 0 0), .int a1, .ref (ad 11 0 0)].toArray meth c cL_truncate 4 wsL_truncate RL N0 T D gr ad) (hE : Exw s) (hrt : meth.sig.returnType = (some .int)) (htab : c.exceptionTable.toList = tableOf [(0, 9, 12, 19)]) (hl : l.stackTraces = false) (hG : ∀ q ∈ lawG, q ∈ gr) {res : (Nat × Mem) ⊕ (Int32 × Mem)} (h : X11_truncate Y a1 = some res) (hn : ∀ n Y1, res = .inl (n, Y1) → c2_ n ≠ 0) : FW p l e (Rx 7 1) s m [.ref (ad 0 0 0), .int a1, .ref (ad 11 0 0)].toArray below meth c 4 N0 T D gr ad 0 0 (MQ below (va_Qi (fun r1 Y1 => r1 = hR c2_ res ∧ Y1 = hM res) (WB T D gr ad) (fun q => N0 ≤ q)) [.ref (ad 0 0 0), .int a1, .ref (ad 11 0 0)].toArray s 1 6 (fun q => N0 ≤ q)) Y 0 [(0, .ref (ad 0 0 0)), (1, .int a1), (2, .ref (ad 11 0 0))] [] := by
  refine fw_aload_n C dL_truncate_0 rfl 2 rfl ?_
  refine fw_iconst C dL_truncate_1 (v := 0) rfl ?_
  refine fw_aload_n C dL_truncate_2 rfl 0 rfl ?_
  refine fw_iload_n C dL_truncate_3 rfl 1 rfl ?_
  rcases res with ⟨n, Y1⟩ | ⟨v, Y1⟩
  · rcases c2__inv (hn n Y1 rfl) with rfl
    · refine fw_callXVi_c C (ci := 9) (Cn := RX11) (Tc := TX11) (N := 11) (As := [.int a1]) (c_X11_truncate hl (fun q hq => hG q ((by decide : ∀ q ∈ [(0, 0), (5, 0)], q ∈ lawG) q hq)) h) (cwV 1 (cx_ts C) gL_truncate_X11_truncate rfl rfl rfl (by decide +kernel) ⟨(Nat.le_of_ble_eq_true rfl), (Nat.le_of_ble_eq_true rfl)⟩) rfl (hG _ lawG_0) (of0_0 _) (ce0 T ad _ _) rfl (st := [.int 0, .ref (ad 11 0 0)]) rfl (Nat.le_of_ble_eq_true rfl) ⟨(Nat.le_of_ble_eq_true rfl), (Nat.le_of_ble_eq_true rfl)⟩ dL_truncate_4 [] ⟨0, 9, 12, 19⟩ [] htab (fun z hz => nomatch hz) rfl (by decide) (cx_ts C _ lk_L_truncate_19) (Nst_use' (cx_nst C) cst_2) (fun q => ?_)
      refine fw_astore_n C dL_truncate_12 rfl (by decide) rfl ?_
      refine fw_iconst C dL_truncate_13 (v := 1) rfl ?_
      exact fw_iret C hrt Y1 ⟨rfl, rfl⟩ (fun t ht => ht) dL_truncate_14
  · refine fw_callXVi_r C (ci := 9) (Cn := RX11) (Tc := TX11) (N := 11) (As := [.int a1]) (c_X11_truncate hl (fun q hq => hG q ((by decide : ∀ q ∈ [(0, 0), (5, 0)], q ∈ lawG) q hq)) h) (cwV 1 (cx_ts C) gL_truncate_X11_truncate rfl rfl rfl (by decide +kernel) ⟨(Nat.le_of_ble_eq_true rfl), (Nat.le_of_ble_eq_true rfl)⟩) rfl (hG _ lawG_0) (of0_0 _) (ce0 T ad _ _) rfl (st := [.int 0, .ref (ad 11 0 0)]) rfl (Nat.le_of_ble_eq_true rfl) ⟨(Nat.le_of_ble_eq_true rfl), (Nat.le_of_ble_eq_true rfl)⟩ dL_truncate_4 ?_
    refine fw_i2l C dL_truncate_7 rfl ?_
    refine fw_last C (x := v) rfl (hG _ lawG_11) dL_truncate_8 ?_
    refine fw_goto C dL_truncate_9 (tgt := 15) rfl ?_
    refine fw_iconst C dL_truncate_15 (v := 0) rfl ?_
    exact fw_iret C hrt (up Y1 11 0 0 0 v) ⟨rfl, rfl⟩ (fun t ht => ht) dL_truncate_16
end
theorem c_L_truncate {l : Launch} {N0 : Nat} {T : Nat → ClassId} {D : va_G} {gr : List (Nat × Nat)} {ad : Nat → Nat → Nat → Nat} {Y : Mem} {a1 : Int32} {res : (Nat × Mem) ⊕ (Int32 × Mem)} (hl : l.stackTraces = false) (hG : ∀ q ∈ lawG, q ∈ gr) (h : X11_truncate Y a1 = some res) (hn : ∀ n Y1, res = .inl (n, Y1) → c2_ n ≠ 0) : CH l yL_truncate wsL_truncate (Rx 7 1) N0 T D gr ad Y [.ref (ad 0 0 0), .int a1, .ref (ad 11 0 0)] 1 (hR c2_ res) (hM res) :=
  fw_hbody (by decide +kernel) rfl (Nat.le_of_ble_eq_true rfl) (fun p e s m below meth c C hE hrt htab => w_L_truncate C hE hrt htab hl hG h hn)
theorem lk_L_load_19 : Cond.classLink RL 19 "java/lang/IllegalArgumentException" ∈ wsL_load := by decide +kernel
section
variable {p : Program} {l : Launch} {e : Env} {s : State} {m : MethodId} {below : List Frame} {meth : Method} {c : Code} {N0 : Nat} {T : Nat → ClassId} {D : va_G} {gr : List (Nat × Nat)} {ad : Nat → Nat → Nat → Nat}
set_option maxHeartbeats 4000000 in
theorem w_L_load {Y : Mem} (C : Cx p s m [.ref (ad 0 0 0), .ref (ad 11 0 0)].toArray meth c cL_load 3 wsL_load RL N0 T D gr ad) (hE : Exw s) (hrt : meth.sig.returnType = (some .int)) (htab : c.exceptionTable.toList = tableOf [(0, 8, 11, 19)]) (hl : l.stackTraces = false) (hG : ∀ q ∈ lawG, q ∈ gr) {res : (Nat × Mem) ⊕ (Int32 × Mem)} (h : X11_load Y = some res) (hn : ∀ n Y1, res = .inl (n, Y1) → c2_ n ≠ 0) : FW p l e (Rx 10 1) s m [.ref (ad 0 0 0), .ref (ad 11 0 0)].toArray below meth c 3 N0 T D gr ad 0 0 (MQ below (va_Qi (fun r1 Y1 => r1 = hR c2_ res ∧ Y1 = hM res) (WB T D gr ad) (fun q => N0 ≤ q)) [.ref (ad 0 0 0), .ref (ad 11 0 0)].toArray s 1 6 (fun q => N0 ≤ q)) Y 0 [(0, .ref (ad 0 0 0)), (1, .ref (ad 11 0 0))] [] := by
  refine fw_aload_n C dL_load_0 rfl 1 rfl ?_
  refine fw_iconst C dL_load_1 (v := 0) rfl ?_
  refine fw_aload_n C dL_load_2 rfl 0 rfl ?_
  rcases res with ⟨n, Y1⟩ | ⟨v, Y1⟩
  · rcases c2__inv (hn n Y1 rfl) with rfl
    · refine fw_callXVi_c C (ci := 9) (Cn := RX11) (Tc := TX11) (N := 11) (As := []) (c_X11_load hl (fun q hq => hG q ((by decide : ∀ q ∈ ([(0, 0), (6, 0), (5, 0), (7, 0), (1, 0), (2, 0), (9, 0)] ++ allG), q ∈ lawG) q hq)) h) (cwV 0 (cx_ts C) gL_load_X11_load rfl rfl rfl (by decide +kernel) ⟨(Nat.le_of_ble_eq_true rfl), (Nat.le_of_ble_eq_true rfl)⟩) rfl (hG _ lawG_0) (of0_0 _) (ce0 T ad _ _) rfl (st := [.int 0, .ref (ad 11 0 0)]) rfl (Nat.le_of_ble_eq_true rfl) ⟨(Nat.le_of_ble_eq_true rfl), (Nat.le_of_ble_eq_true rfl)⟩ dL_load_3 [] ⟨0, 8, 11, 19⟩ [] htab (fun z hz => nomatch hz) rfl (by decide) (cx_ts C _ lk_L_load_19) (Nst_use' (cx_nst C) cst_2) (fun q => ?_)
      refine fw_astore_n C dL_load_11 rfl (by decide) rfl ?_
      refine fw_iconst C dL_load_12 (v := 1) rfl ?_
      exact fw_iret C hrt Y1 ⟨rfl, rfl⟩ (fun t ht => ht) dL_load_13
  · refine fw_callXVi_r C (ci := 9) (Cn := RX11) (Tc := TX11) (N := 11) (As := []) (c_X11_load hl (fun q hq => hG q ((by decide : ∀ q ∈ ([(0, 0), (6, 0), (5, 0), (7, 0), (1, 0), (2, 0), (9, 0)] ++ allG), q ∈ lawG) q hq)) h) (cwV 0 (cx_ts C) gL_load_X11_load rfl rfl rfl (by decide +kernel) ⟨(Nat.le_of_ble_eq_true rfl), (Nat.le_of_ble_eq_true rfl)⟩) rfl (hG _ lawG_0) (of0_0 _) (ce0 T ad _ _) rfl (st := [.int 0, .ref (ad 11 0 0)]) rfl (Nat.le_of_ble_eq_true rfl) ⟨(Nat.le_of_ble_eq_true rfl), (Nat.le_of_ble_eq_true rfl)⟩ dL_load_3 ?_
    refine fw_i2l C dL_load_6 rfl ?_
    refine fw_last C (x := v) rfl (hG _ lawG_11) dL_load_7 ?_
    refine fw_goto C dL_load_8 (tgt := 14) rfl ?_
    refine fw_iconst C dL_load_14 (v := 0) rfl ?_
    exact fw_iret C hrt (up Y1 11 0 0 0 v) ⟨rfl, rfl⟩ (fun t ht => ht) dL_load_15
end
theorem c_L_load {l : Launch} {N0 : Nat} {T : Nat → ClassId} {D : va_G} {gr : List (Nat × Nat)} {ad : Nat → Nat → Nat → Nat} {Y : Mem} {res : (Nat × Mem) ⊕ (Int32 × Mem)} (hl : l.stackTraces = false) (hG : ∀ q ∈ lawG, q ∈ gr) (h : X11_load Y = some res) (hn : ∀ n Y1, res = .inl (n, Y1) → c2_ n ≠ 0) : CH l yL_load wsL_load (Rx 10 1) N0 T D gr ad Y [.ref (ad 0 0 0), .ref (ad 11 0 0)] 1 (hR c2_ res) (hM res) :=
  fw_hbody (by decide +kernel) rfl (Nat.le_of_ble_eq_true rfl) (fun p e s m below meth c C hE hrt htab => w_L_load C hE hrt htab hl hG h hn)
theorem lk_L_countWithStatus_19 : Cond.classLink RL 19 "java/lang/IllegalArgumentException" ∈ wsL_countWithStatus := by decide +kernel
section
variable {p : Program} {l : Launch} {e : Env} {s : State} {m : MethodId} {below : List Frame} {meth : Method} {c : Code} {N0 : Nat} {T : Nat → ClassId} {D : va_G} {gr : List (Nat × Nat)} {ad : Nat → Nat → Nat → Nat}
set_option maxHeartbeats 4000000 in
theorem w_L_countWithStatus {Y : Mem} {a1 : Int32} (C : Cx p s m [.ref (ad 0 0 0), .int a1, .ref (ad 11 0 0)].toArray meth c cL_countWithStatus 4 wsL_countWithStatus RL N0 T D gr ad) (hE : Exw s) (hrt : meth.sig.returnType = (some .int)) (htab : c.exceptionTable.toList = tableOf [(0, 9, 12, 19)]) (hl : l.stackTraces = false) (hG : ∀ q ∈ lawG, q ∈ gr) {res : (Nat × Mem) ⊕ (Int32 × Mem)} (h : X11_countWithStatus Y a1 = some res) (hn : ∀ n Y1, res = .inl (n, Y1) → c2_ n ≠ 0) : FW p l e (Rx 7 1) s m [.ref (ad 0 0 0), .int a1, .ref (ad 11 0 0)].toArray below meth c 4 N0 T D gr ad 0 0 (MQ below (va_Qi (fun r1 Y1 => r1 = hR c2_ res ∧ Y1 = hM res) (WB T D gr ad) (fun q => N0 ≤ q)) [.ref (ad 0 0 0), .int a1, .ref (ad 11 0 0)].toArray s 1 6 (fun q => N0 ≤ q)) Y 0 [(0, .ref (ad 0 0 0)), (1, .int a1), (2, .ref (ad 11 0 0))] [] := by
  refine fw_aload_n C dL_countWithStatus_0 rfl 2 rfl ?_
  refine fw_iconst C dL_countWithStatus_1 (v := 0) rfl ?_
  refine fw_aload_n C dL_countWithStatus_2 rfl 0 rfl ?_
  refine fw_iload_n C dL_countWithStatus_3 rfl 1 rfl ?_
  rcases res with ⟨n, Y1⟩ | ⟨v, Y1⟩
  · rcases c2__inv (hn n Y1 rfl) with rfl
    · refine fw_callXVi_c C (ci := 9) (Cn := RX11) (Tc := TX11) (N := 11) (As := [.int a1]) (c_X11_countWithStatus hl (fun q hq => hG q ((by decide : ∀ q ∈ ([(0, 0), (1, 0), (2, 0)] ++ allG), q ∈ lawG) q hq)) h) (cwV 1 (cx_ts C) gL_countWithStatus_X11_countWithStatus rfl rfl rfl (by decide +kernel) ⟨(Nat.le_of_ble_eq_true rfl), (Nat.le_of_ble_eq_true rfl)⟩) rfl (hG _ lawG_0) (of0_0 _) (ce0 T ad _ _) rfl (st := [.int 0, .ref (ad 11 0 0)]) rfl (Nat.le_of_ble_eq_true rfl) ⟨(Nat.le_of_ble_eq_true rfl), (Nat.le_of_ble_eq_true rfl)⟩ dL_countWithStatus_4 [] ⟨0, 9, 12, 19⟩ [] htab (fun z hz => nomatch hz) rfl (by decide) (cx_ts C _ lk_L_countWithStatus_19) (Nst_use' (cx_nst C) cst_2) (fun q => ?_)
      refine fw_astore_n C dL_countWithStatus_12 rfl (by decide) rfl ?_
      refine fw_iconst C dL_countWithStatus_13 (v := 1) rfl ?_
      exact fw_iret C hrt Y1 ⟨rfl, rfl⟩ (fun t ht => ht) dL_countWithStatus_14
  · refine fw_callXVi_r C (ci := 9) (Cn := RX11) (Tc := TX11) (N := 11) (As := [.int a1]) (c_X11_countWithStatus hl (fun q hq => hG q ((by decide : ∀ q ∈ ([(0, 0), (1, 0), (2, 0)] ++ allG), q ∈ lawG) q hq)) h) (cwV 1 (cx_ts C) gL_countWithStatus_X11_countWithStatus rfl rfl rfl (by decide +kernel) ⟨(Nat.le_of_ble_eq_true rfl), (Nat.le_of_ble_eq_true rfl)⟩) rfl (hG _ lawG_0) (of0_0 _) (ce0 T ad _ _) rfl (st := [.int 0, .ref (ad 11 0 0)]) rfl (Nat.le_of_ble_eq_true rfl) ⟨(Nat.le_of_ble_eq_true rfl), (Nat.le_of_ble_eq_true rfl)⟩ dL_countWithStatus_4 ?_
    refine fw_i2l C dL_countWithStatus_7 rfl ?_
    refine fw_last C (x := v) rfl (hG _ lawG_11) dL_countWithStatus_8 ?_
    refine fw_goto C dL_countWithStatus_9 (tgt := 15) rfl ?_
    refine fw_iconst C dL_countWithStatus_15 (v := 0) rfl ?_
    exact fw_iret C hrt (up Y1 11 0 0 0 v) ⟨rfl, rfl⟩ (fun t ht => ht) dL_countWithStatus_16
end
theorem c_L_countWithStatus {l : Launch} {N0 : Nat} {T : Nat → ClassId} {D : va_G} {gr : List (Nat × Nat)} {ad : Nat → Nat → Nat → Nat} {Y : Mem} {a1 : Int32} {res : (Nat × Mem) ⊕ (Int32 × Mem)} (hl : l.stackTraces = false) (hG : ∀ q ∈ lawG, q ∈ gr) (h : X11_countWithStatus Y a1 = some res) (hn : ∀ n Y1, res = .inl (n, Y1) → c2_ n ≠ 0) : CH l yL_countWithStatus wsL_countWithStatus (Rx 7 1) N0 T D gr ad Y [.ref (ad 0 0 0), .int a1, .ref (ad 11 0 0)] 1 (hR c2_ res) (hM res) :=
  fw_hbody (by decide +kernel) rfl (Nat.le_of_ble_eq_true rfl) (fun p e s m below meth c C hE hrt htab => w_L_countWithStatus C hE hrt htab hl hG h hn)
theorem lk_L_panCapacity_31 : Cond.classLink RL 31 "java/lang/IndexOutOfBoundsException" ∈ wsL_panCapacity := by decide +kernel
section
variable {p : Program} {l : Launch} {e : Env} {s : State} {m : MethodId} {below : List Frame} {meth : Method} {c : Code} {N0 : Nat} {T : Nat → ClassId} {D : va_G} {gr : List (Nat × Nat)} {ad : Nat → Nat → Nat → Nat}
set_option maxHeartbeats 4000000 in
theorem w_L_panCapacity {Y : Mem} {a1 : Int32} (C : Cx p s m [.ref (ad 0 0 0), .int a1, .ref (ad 11 0 0)].toArray meth c cL_panCapacity 4 wsL_panCapacity RL N0 T D gr ad) (hE : Exw s) (hrt : meth.sig.returnType = (some .int)) (htab : c.exceptionTable.toList = tableOf [(0, 9, 12, 31)]) (hl : l.stackTraces = false) (hG : ∀ q ∈ lawG, q ∈ gr) {res : (Nat × Mem) ⊕ (Int32 × Mem)} (h : X11_panCapacity Y a1 = some res) (hn : ∀ n Y1, res = .inl (n, Y1) → c3 n ≠ 0) : FW p l e (Rx 8 1) s m [.ref (ad 0 0 0), .int a1, .ref (ad 11 0 0)].toArray below meth c 4 N0 T D gr ad 0 0 (MQ below (va_Qi (fun r1 Y1 => r1 = hR c3 res ∧ Y1 = hM res) (WB T D gr ad) (fun q => N0 ≤ q)) [.ref (ad 0 0 0), .int a1, .ref (ad 11 0 0)].toArray s 1 6 (fun q => N0 ≤ q)) Y 0 [(0, .ref (ad 0 0 0)), (1, .int a1), (2, .ref (ad 11 0 0))] [] := by
  refine fw_aload_n C dL_panCapacity_0 rfl 2 rfl ?_
  refine fw_iconst C dL_panCapacity_1 (v := 0) rfl ?_
  refine fw_aload_n C dL_panCapacity_2 rfl 0 rfl ?_
  refine fw_iload_n C dL_panCapacity_3 rfl 1 rfl ?_
  rcases res with ⟨n, Y1⟩ | ⟨v, Y1⟩
  · rcases c3_inv (hn n Y1 rfl) with rfl
    · refine fw_callXVi_c C (ci := 9) (Cn := RX11) (Tc := TX11) (N := 11) (As := [.int a1]) (c_X11_panCapacity hl (fun q hq => hG q ((by decide : ∀ q ∈ ([(1, 0), (0, 0)] ++ allG), q ∈ lawG) q hq)) h) (cwV 1 (cx_ts C) gL_panCapacity_X11_panCapacity rfl rfl rfl (by decide +kernel) ⟨(Nat.le_of_ble_eq_true rfl), (Nat.le_of_ble_eq_true rfl)⟩) rfl (hG _ lawG_0) (of0_0 _) (ce0 T ad _ _) rfl (st := [.int 0, .ref (ad 11 0 0)]) rfl (Nat.le_of_ble_eq_true rfl) ⟨(Nat.le_of_ble_eq_true rfl), (Nat.le_of_ble_eq_true rfl)⟩ dL_panCapacity_4 [] ⟨0, 9, 12, 31⟩ [] htab (fun z hz => nomatch hz) rfl (by decide) (cx_ts C _ lk_L_panCapacity_31) (Nst_use' (cx_nst C) cst_3) (fun q => ?_)
      refine fw_astore_n C dL_panCapacity_12 rfl (by decide) rfl ?_
      refine fw_iconst C dL_panCapacity_13 (v := 1) rfl ?_
      exact fw_iret C hrt Y1 ⟨rfl, rfl⟩ (fun t ht => ht) dL_panCapacity_14
  · refine fw_callXVi_r C (ci := 9) (Cn := RX11) (Tc := TX11) (N := 11) (As := [.int a1]) (c_X11_panCapacity hl (fun q hq => hG q ((by decide : ∀ q ∈ ([(1, 0), (0, 0)] ++ allG), q ∈ lawG) q hq)) h) (cwV 1 (cx_ts C) gL_panCapacity_X11_panCapacity rfl rfl rfl (by decide +kernel) ⟨(Nat.le_of_ble_eq_true rfl), (Nat.le_of_ble_eq_true rfl)⟩) rfl (hG _ lawG_0) (of0_0 _) (ce0 T ad _ _) rfl (st := [.int 0, .ref (ad 11 0 0)]) rfl (Nat.le_of_ble_eq_true rfl) ⟨(Nat.le_of_ble_eq_true rfl), (Nat.le_of_ble_eq_true rfl)⟩ dL_panCapacity_4 ?_
    refine fw_i2l C dL_panCapacity_7 rfl ?_
    refine fw_last C (x := v) rfl (hG _ lawG_11) dL_panCapacity_8 ?_
    refine fw_goto C dL_panCapacity_9 (tgt := 15) rfl ?_
    refine fw_iconst C dL_panCapacity_15 (v := 0) rfl ?_
    exact fw_iret C hrt (up Y1 11 0 0 0 v) ⟨rfl, rfl⟩ (fun t ht => ht) dL_panCapacity_16
end
theorem c_L_panCapacity {l : Launch} {N0 : Nat} {T : Nat → ClassId} {D : va_G} {gr : List (Nat × Nat)} {ad : Nat → Nat → Nat → Nat} {Y : Mem} {a1 : Int32} {res : (Nat × Mem) ⊕ (Int32 × Mem)} (hl : l.stackTraces = false) (hG : ∀ q ∈ lawG, q ∈ gr) (h : X11_panCapacity Y a1 = some res) (hn : ∀ n Y1, res = .inl (n, Y1) → c3 n ≠ 0) : CH l yL_panCapacity wsL_panCapacity (Rx 8 1) N0 T D gr ad Y [.ref (ad 0 0 0), .int a1, .ref (ad 11 0 0)] 1 (hR c3 res) (hM res) :=
  fw_hbody (by decide +kernel) rfl (Nat.le_of_ble_eq_true rfl) (fun p e s m below meth c C hE hrt htab => w_L_panCapacity C hE hrt htab hl hG h hn)
theorem lk_L_pansInUse_31 : Cond.classLink RL 31 "java/lang/IndexOutOfBoundsException" ∈ wsL_pansInUse := by decide +kernel
section
variable {p : Program} {l : Launch} {e : Env} {s : State} {m : MethodId} {below : List Frame} {meth : Method} {c : Code} {N0 : Nat} {T : Nat → ClassId} {D : va_G} {gr : List (Nat × Nat)} {ad : Nat → Nat → Nat → Nat}
set_option maxHeartbeats 4000000 in
theorem w_L_pansInUse {Y : Mem} {a1 : Int32} (C : Cx p s m [.ref (ad 0 0 0), .int a1, .ref (ad 11 0 0)].toArray meth c cL_pansInUse 4 wsL_pansInUse RL N0 T D gr ad) (hE : Exw s) (hrt : meth.sig.returnType = (some .int)) (htab : c.exceptionTable.toList = tableOf [(0, 9, 12, 31)]) (hl : l.stackTraces = false) (hG : ∀ q ∈ lawG, q ∈ gr) {res : (Nat × Mem) ⊕ (Int32 × Mem)} (h : X11_pansInUse Y a1 = some res) (hn : ∀ n Y1, res = .inl (n, Y1) → c3 n ≠ 0) : FW p l e (Rx 8 1) s m [.ref (ad 0 0 0), .int a1, .ref (ad 11 0 0)].toArray below meth c 4 N0 T D gr ad 0 0 (MQ below (va_Qi (fun r1 Y1 => r1 = hR c3 res ∧ Y1 = hM res) (WB T D gr ad) (fun q => N0 ≤ q)) [.ref (ad 0 0 0), .int a1, .ref (ad 11 0 0)].toArray s 1 6 (fun q => N0 ≤ q)) Y 0 [(0, .ref (ad 0 0 0)), (1, .int a1), (2, .ref (ad 11 0 0))] [] := by
  refine fw_aload_n C dL_pansInUse_0 rfl 2 rfl ?_
  refine fw_iconst C dL_pansInUse_1 (v := 0) rfl ?_
  refine fw_aload_n C dL_pansInUse_2 rfl 0 rfl ?_
  refine fw_iload_n C dL_pansInUse_3 rfl 1 rfl ?_
  rcases res with ⟨n, Y1⟩ | ⟨v, Y1⟩
  · rcases c3_inv (hn n Y1 rfl) with rfl
    · refine fw_callXVi_c C (ci := 9) (Cn := RX11) (Tc := TX11) (N := 11) (As := [.int a1]) (c_X11_pansInUse hl (fun q hq => hG q ((by decide : ∀ q ∈ ([(1, 0), (0, 0), (2, 0)] ++ allG), q ∈ lawG) q hq)) h) (cwV 1 (cx_ts C) gL_pansInUse_X11_pansInUse rfl rfl rfl (by decide +kernel) ⟨(Nat.le_of_ble_eq_true rfl), (Nat.le_of_ble_eq_true rfl)⟩) rfl (hG _ lawG_0) (of0_0 _) (ce0 T ad _ _) rfl (st := [.int 0, .ref (ad 11 0 0)]) rfl (Nat.le_of_ble_eq_true rfl) ⟨(Nat.le_of_ble_eq_true rfl), (Nat.le_of_ble_eq_true rfl)⟩ dL_pansInUse_4 [] ⟨0, 9, 12, 31⟩ [] htab (fun z hz => nomatch hz) rfl (by decide) (cx_ts C _ lk_L_pansInUse_31) (Nst_use' (cx_nst C) cst_3) (fun q => ?_)
      refine fw_astore_n C dL_pansInUse_12 rfl (by decide) rfl ?_
      refine fw_iconst C dL_pansInUse_13 (v := 1) rfl ?_
      exact fw_iret C hrt Y1 ⟨rfl, rfl⟩ (fun t ht => ht) dL_pansInUse_14
  · refine fw_callXVi_r C (ci := 9) (Cn := RX11) (Tc := TX11) (N := 11) (As := [.int a1]) (c_X11_pansInUse hl (fun q hq => hG q ((by decide : ∀ q ∈ ([(1, 0), (0, 0), (2, 0)] ++ allG), q ∈ lawG) q hq)) h) (cwV 1 (cx_ts C) gL_pansInUse_X11_pansInUse rfl rfl rfl (by decide +kernel) ⟨(Nat.le_of_ble_eq_true rfl), (Nat.le_of_ble_eq_true rfl)⟩) rfl (hG _ lawG_0) (of0_0 _) (ce0 T ad _ _) rfl (st := [.int 0, .ref (ad 11 0 0)]) rfl (Nat.le_of_ble_eq_true rfl) ⟨(Nat.le_of_ble_eq_true rfl), (Nat.le_of_ble_eq_true rfl)⟩ dL_pansInUse_4 ?_
    refine fw_i2l C dL_pansInUse_7 rfl ?_
    refine fw_last C (x := v) rfl (hG _ lawG_11) dL_pansInUse_8 ?_
    refine fw_goto C dL_pansInUse_9 (tgt := 15) rfl ?_
    refine fw_iconst C dL_pansInUse_15 (v := 0) rfl ?_
    exact fw_iret C hrt (up Y1 11 0 0 0 v) ⟨rfl, rfl⟩ (fun t ht => ht) dL_pansInUse_16
end
theorem c_L_pansInUse {l : Launch} {N0 : Nat} {T : Nat → ClassId} {D : va_G} {gr : List (Nat × Nat)} {ad : Nat → Nat → Nat → Nat} {Y : Mem} {a1 : Int32} {res : (Nat × Mem) ⊕ (Int32 × Mem)} (hl : l.stackTraces = false) (hG : ∀ q ∈ lawG, q ∈ gr) (h : X11_pansInUse Y a1 = some res) (hn : ∀ n Y1, res = .inl (n, Y1) → c3 n ≠ 0) : CH l yL_pansInUse wsL_pansInUse (Rx 8 1) N0 T D gr ad Y [.ref (ad 0 0 0), .int a1, .ref (ad 11 0 0)] 1 (hR c3 res) (hM res) :=
  fw_hbody (by decide +kernel) rfl (Nat.le_of_ble_eq_true rfl) (fun p e s m below meth c C hE hrt htab => w_L_pansInUse C hE hrt htab hl hG h hn)
theorem lk_L_duration_31 : Cond.classLink RL 31 "java/lang/IndexOutOfBoundsException" ∈ wsL_duration := by decide +kernel
section
variable {p : Program} {l : Launch} {e : Env} {s : State} {m : MethodId} {below : List Frame} {meth : Method} {c : Code} {N0 : Nat} {T : Nat → ClassId} {D : va_G} {gr : List (Nat × Nat)} {ad : Nat → Nat → Nat → Nat}
set_option maxHeartbeats 4000000 in
theorem w_L_duration {Y : Mem} {a1 : Int32} (C : Cx p s m [.ref (ad 0 0 0), .int a1, .ref (ad 11 0 0)].toArray meth c cL_duration 4 wsL_duration RL N0 T D gr ad) (hE : Exw s) (hrt : meth.sig.returnType = (some .int)) (htab : c.exceptionTable.toList = tableOf [(0, 9, 12, 31)]) (hl : l.stackTraces = false) (hG : ∀ q ∈ lawG, q ∈ gr) {res : (Nat × Mem) ⊕ (Int32 × Mem)} (h : X11_duration Y a1 = some res) (hn : ∀ n Y1, res = .inl (n, Y1) → c3 n ≠ 0) : FW p l e (Rx 8 1) s m [.ref (ad 0 0 0), .int a1, .ref (ad 11 0 0)].toArray below meth c 4 N0 T D gr ad 0 0 (MQ below (va_Qi (fun r1 Y1 => r1 = hR c3 res ∧ Y1 = hM res) (WB T D gr ad) (fun q => N0 ≤ q)) [.ref (ad 0 0 0), .int a1, .ref (ad 11 0 0)].toArray s 1 6 (fun q => N0 ≤ q)) Y 0 [(0, .ref (ad 0 0 0)), (1, .int a1), (2, .ref (ad 11 0 0))] [] := by
  refine fw_aload_n C dL_duration_0 rfl 2 rfl ?_
  refine fw_iconst C dL_duration_1 (v := 0) rfl ?_
  refine fw_aload_n C dL_duration_2 rfl 0 rfl ?_
  refine fw_iload_n C dL_duration_3 rfl 1 rfl ?_
  rcases res with ⟨n, Y1⟩ | ⟨v, Y1⟩
  · rcases c3_inv (hn n Y1 rfl) with rfl
    · refine fw_callXVi_c C (ci := 9) (Cn := RX11) (Tc := TX11) (N := 11) (As := [.int a1]) (c_X11_duration hl (fun q hq => hG q ((by decide : ∀ q ∈ ([(1, 0), (0, 0), (2, 0)] ++ allG), q ∈ lawG) q hq)) h) (cwV 1 (cx_ts C) gL_duration_X11_duration rfl rfl rfl (by decide +kernel) ⟨(Nat.le_of_ble_eq_true rfl), (Nat.le_of_ble_eq_true rfl)⟩) rfl (hG _ lawG_0) (of0_0 _) (ce0 T ad _ _) rfl (st := [.int 0, .ref (ad 11 0 0)]) rfl (Nat.le_of_ble_eq_true rfl) ⟨(Nat.le_of_ble_eq_true rfl), (Nat.le_of_ble_eq_true rfl)⟩ dL_duration_4 [] ⟨0, 9, 12, 31⟩ [] htab (fun z hz => nomatch hz) rfl (by decide) (cx_ts C _ lk_L_duration_31) (Nst_use' (cx_nst C) cst_3) (fun q => ?_)
      refine fw_astore_n C dL_duration_12 rfl (by decide) rfl ?_
      refine fw_iconst C dL_duration_13 (v := 1) rfl ?_
      exact fw_iret C hrt Y1 ⟨rfl, rfl⟩ (fun t ht => ht) dL_duration_14
  · refine fw_callXVi_r C (ci := 9) (Cn := RX11) (Tc := TX11) (N := 11) (As := [.int a1]) (c_X11_duration hl (fun q hq => hG q ((by decide : ∀ q ∈ ([(1, 0), (0, 0), (2, 0)] ++ allG), q ∈ lawG) q hq)) h) (cwV 1 (cx_ts C) gL_duration_X11_duration rfl rfl rfl (by decide +kernel) ⟨(Nat.le_of_ble_eq_true rfl), (Nat.le_of_ble_eq_true rfl)⟩) rfl (hG _ lawG_0) (of0_0 _) (ce0 T ad _ _) rfl (st := [.int 0, .ref (ad 11 0 0)]) rfl (Nat.le_of_ble_eq_true rfl) ⟨(Nat.le_of_ble_eq_true rfl), (Nat.le_of_ble_eq_true rfl)⟩ dL_duration_4 ?_
    refine fw_i2l C dL_duration_7 rfl ?_
    refine fw_last C (x := v) rfl (hG _ lawG_11) dL_duration_8 ?_
    refine fw_goto C dL_duration_9 (tgt := 15) rfl ?_
    refine fw_iconst C dL_duration_15 (v := 0) rfl ?_
    exact fw_iret C hrt (up Y1 11 0 0 0 v) ⟨rfl, rfl⟩ (fun t ht => ht) dL_duration_16
end
theorem c_L_duration {l : Launch} {N0 : Nat} {T : Nat → ClassId} {D : va_G} {gr : List (Nat × Nat)} {ad : Nat → Nat → Nat → Nat} {Y : Mem} {a1 : Int32} {res : (Nat × Mem) ⊕ (Int32 × Mem)} (hl : l.stackTraces = false) (hG : ∀ q ∈ lawG, q ∈ gr) (h : X11_duration Y a1 = some res) (hn : ∀ n Y1, res = .inl (n, Y1) → c3 n ≠ 0) : CH l yL_duration wsL_duration (Rx 8 1) N0 T D gr ad Y [.ref (ad 0 0 0), .int a1, .ref (ad 11 0 0)] 1 (hR c3 res) (hM res) :=
  fw_hbody (by decide +kernel) rfl (Nat.le_of_ble_eq_true rfl) (fun p e s m below meth c C hE hrt htab => w_L_duration C hE hrt htab hl hG h hn)
theorem lk_L_stepTaste_31 : Cond.classLink RL 31 "java/lang/IndexOutOfBoundsException" ∈ wsL_stepTaste := by decide +kernel
section
variable {p : Program} {l : Launch} {e : Env} {s : State} {m : MethodId} {below : List Frame} {meth : Method} {c : Code} {N0 : Nat} {T : Nat → ClassId} {D : va_G} {gr : List (Nat × Nat)} {ad : Nat → Nat → Nat → Nat}
set_option maxHeartbeats 4000000 in
theorem w_L_stepTaste {Y : Mem} {a1 : Int32} (C : Cx p s m [.ref (ad 0 0 0), .int a1, .ref (ad 11 0 0)].toArray meth c cL_stepTaste 4 wsL_stepTaste RL N0 T D gr ad) (hE : Exw s) (hrt : meth.sig.returnType = (some .int)) (htab : c.exceptionTable.toList = tableOf [(0, 9, 12, 31)]) (hl : l.stackTraces = false) (hG : ∀ q ∈ lawG, q ∈ gr) {res : (Nat × Mem) ⊕ (Int32 × Mem)} (h : X11_stepTaste Y a1 = some res) (hn : ∀ n Y1, res = .inl (n, Y1) → c3 n ≠ 0) : FW p l e (Rx 8 1) s m [.ref (ad 0 0 0), .int a1, .ref (ad 11 0 0)].toArray below meth c 4 N0 T D gr ad 0 0 (MQ below (va_Qi (fun r1 Y1 => r1 = hR c3 res ∧ Y1 = hM res) (WB T D gr ad) (fun q => N0 ≤ q)) [.ref (ad 0 0 0), .int a1, .ref (ad 11 0 0)].toArray s 1 6 (fun q => N0 ≤ q)) Y 0 [(0, .ref (ad 0 0 0)), (1, .int a1), (2, .ref (ad 11 0 0))] [] := by
  refine fw_aload_n C dL_stepTaste_0 rfl 2 rfl ?_
  refine fw_iconst C dL_stepTaste_1 (v := 0) rfl ?_
  refine fw_aload_n C dL_stepTaste_2 rfl 0 rfl ?_
  refine fw_iload_n C dL_stepTaste_3 rfl 1 rfl ?_
  rcases res with ⟨n, Y1⟩ | ⟨v, Y1⟩
  · rcases c3_inv (hn n Y1 rfl) with rfl
    · refine fw_callXVi_c C (ci := 9) (Cn := RX11) (Tc := TX11) (N := 11) (As := [.int a1]) (c_X11_stepTaste hl (fun q hq => hG q ((by decide : ∀ q ∈ ([(1, 0), (0, 0)] ++ allG), q ∈ lawG) q hq)) h) (cwV 1 (cx_ts C) gL_stepTaste_X11_stepTaste rfl rfl rfl (by decide +kernel) ⟨(Nat.le_of_ble_eq_true rfl), (Nat.le_of_ble_eq_true rfl)⟩) rfl (hG _ lawG_0) (of0_0 _) (ce0 T ad _ _) rfl (st := [.int 0, .ref (ad 11 0 0)]) rfl (Nat.le_of_ble_eq_true rfl) ⟨(Nat.le_of_ble_eq_true rfl), (Nat.le_of_ble_eq_true rfl)⟩ dL_stepTaste_4 [] ⟨0, 9, 12, 31⟩ [] htab (fun z hz => nomatch hz) rfl (by decide) (cx_ts C _ lk_L_stepTaste_31) (Nst_use' (cx_nst C) cst_3) (fun q => ?_)
      refine fw_astore_n C dL_stepTaste_12 rfl (by decide) rfl ?_
      refine fw_iconst C dL_stepTaste_13 (v := 1) rfl ?_
      exact fw_iret C hrt Y1 ⟨rfl, rfl⟩ (fun t ht => ht) dL_stepTaste_14
  · refine fw_callXVi_r C (ci := 9) (Cn := RX11) (Tc := TX11) (N := 11) (As := [.int a1]) (c_X11_stepTaste hl (fun q hq => hG q ((by decide : ∀ q ∈ ([(1, 0), (0, 0)] ++ allG), q ∈ lawG) q hq)) h) (cwV 1 (cx_ts C) gL_stepTaste_X11_stepTaste rfl rfl rfl (by decide +kernel) ⟨(Nat.le_of_ble_eq_true rfl), (Nat.le_of_ble_eq_true rfl)⟩) rfl (hG _ lawG_0) (of0_0 _) (ce0 T ad _ _) rfl (st := [.int 0, .ref (ad 11 0 0)]) rfl (Nat.le_of_ble_eq_true rfl) ⟨(Nat.le_of_ble_eq_true rfl), (Nat.le_of_ble_eq_true rfl)⟩ dL_stepTaste_4 ?_
    refine fw_i2l C dL_stepTaste_7 rfl ?_
    refine fw_last C (x := v) rfl (hG _ lawG_11) dL_stepTaste_8 ?_
    refine fw_goto C dL_stepTaste_9 (tgt := 15) rfl ?_
    refine fw_iconst C dL_stepTaste_15 (v := 0) rfl ?_
    exact fw_iret C hrt (up Y1 11 0 0 0 v) ⟨rfl, rfl⟩ (fun t ht => ht) dL_stepTaste_16
end
theorem c_L_stepTaste {l : Launch} {N0 : Nat} {T : Nat → ClassId} {D : va_G} {gr : List (Nat × Nat)} {ad : Nat → Nat → Nat → Nat} {Y : Mem} {a1 : Int32} {res : (Nat × Mem) ⊕ (Int32 × Mem)} (hl : l.stackTraces = false) (hG : ∀ q ∈ lawG, q ∈ gr) (h : X11_stepTaste Y a1 = some res) (hn : ∀ n Y1, res = .inl (n, Y1) → c3 n ≠ 0) : CH l yL_stepTaste wsL_stepTaste (Rx 8 1) N0 T D gr ad Y [.ref (ad 0 0 0), .int a1, .ref (ad 11 0 0)] 1 (hR c3 res) (hM res) :=
  fw_hbody (by decide +kernel) rfl (Nat.le_of_ble_eq_true rfl) (fun p e s m below meth c C hE hrt htab => w_L_stepTaste C hE hrt htab hl hG h hn)
