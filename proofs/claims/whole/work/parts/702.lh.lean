theorem lk_L_append_13 : Cond.classLink RL 13 "java/lang/IllegalStateException" ∈ wsL_append := by decide +kernel
section
variable {p : Program} {l : Launch} {e : Env} {s : State} {m : MethodId} {below : List Frame} {meth : Method} {c : Code} {N0 : Nat} {T : Nat → ClassId} {D : va_G} {gr : List (Nat × Nat)} {ad : Nat → Nat → Nat → Nat}
set_option maxHeartbeats 4000000 in
theorem w_L_append {Y : Mem} {a1 : Int32} {a2 : Int32} {a3 : Int32} {a4 : Int32} {a5 : Int32} (C : Cx p s m [.ref (ad 0 0 0), .int a1, .int a2, .int a3, .int a4, .int a5, .ref (ad 11 0 0)].toArray meth c cL_append 8 wsL_append RL N0 T D gr ad) (hE : Exw s) (hrt : meth.sig.returnType = (some .int)) (htab : c.exceptionTable.toList = tableOf [(0, 16, 19, 13)]) (hl : l.stackTraces = false) (hG : ∀ q ∈ lawG, q ∈ gr) {res : (Nat × Mem) ⊕ (Int32 × Mem)} (h : X11_append Y a1 a2 a3 a4 a5 = some res) (hn : ∀ n Y1, res = .inl (n, Y1) → c1_ n ≠ 0) : FW p l e (Rx 7 1) s m [.ref (ad 0 0 0), .int a1, .int a2, .int a3, .int a4, .int a5, .ref (ad 11 0 0)].toArray below meth c 8 N0 T D gr ad 0 0 (MQ below (va_Qi (fun r1 Y1 => r1 = hR c1_ res ∧ Y1 = hM res) (WB T D gr ad) (fun q => N0 ≤ q)) [.ref (ad 0 0 0), .int a1, .int a2, .int a3, .int a4, .int a5, .ref (ad 11 0 0)].toArray s 1 6 (fun q => N0 ≤ q)) Y 0 [(0, .ref (ad 0 0 0)), (1, .int a1), (2, .int a2), (3, .int a3), (4, .int a4), (5, .int a5), (6, .ref (ad 11 0 0))] [] := by
  refine fw_aload C dL_append_0 6 rfl ?_
  refine fw_iconst C dL_append_2 (v := 0) rfl ?_
  refine fw_aload_n C dL_append_3 rfl 0 rfl ?_
  refine fw_iload_n C dL_append_4 rfl 1 rfl ?_
  refine fw_iload_n C dL_append_5 rfl 2 rfl ?_
  refine fw_iload_n C dL_append_6 rfl 3 rfl ?_
  refine fw_iload C dL_append_7 4 rfl ?_
  refine fw_iload C dL_append_9 5 rfl ?_
  rcases res with ⟨n, Y1⟩ | ⟨v, Y1⟩
  · rcases c1__inv (hn n Y1 rfl) with rfl
    · refine fw_callXVi_c C (ci := 9) (Cn := RX11) (Tc := TX11) (N := 11) (As := [.int a1, .int a2, .int a3, .int a4, .int a5]) (c_X11_append hl (fun q hq => hG q ((by decide : ∀ q ∈ [(0, 0), (5, 0)], q ∈ lawG) q hq)) h) (cwV 5 (cx_ts C) gL_append_X11_append rfl rfl rfl (by decide +kernel) ⟨(Nat.le_of_ble_eq_true rfl), (Nat.le_of_ble_eq_true rfl)⟩) rfl (hG _ lawG_0) (of0_0 _) (ce0 T ad _ _) rfl (st := [.int 0, .ref (ad 11 0 0)]) rfl (Nat.le_of_ble_eq_true rfl) ⟨(Nat.le_of_ble_eq_true rfl), (Nat.le_of_ble_eq_true rfl)⟩ dL_append_11 [] ⟨0, 16, 19, 13⟩ [] htab (fun z hz => nomatch hz) rfl (by decide) (cx_ts C _ lk_L_append_13) (Nst_use' (cx_nst C) cst_1) (fun q => ?_)
      refine fw_astore C dL_append_19 (by decide) rfl ?_
      refine fw_iconst C dL_append_21 (v := 1) rfl ?_
      exact fw_iret C hrt Y1 ⟨rfl, rfl⟩ (fun t ht => ht) dL_append_22
  · refine fw_callXVi_r C (ci := 9) (Cn := RX11) (Tc := TX11) (N := 11) (As := [.int a1, .int a2, .int a3, .int a4, .int a5]) (c_X11_append hl (fun q hq => hG q ((by decide : ∀ q ∈ [(0, 0), (5, 0)], q ∈ lawG) q hq)) h) (cwV 5 (cx_ts C) gL_append_X11_append rfl rfl rfl (by decide +kernel) ⟨(Nat.le_of_ble_eq_true rfl), (Nat.le_of_ble_eq_true rfl)⟩) rfl (hG _ lawG_0) (of0_0 _) (ce0 T ad _ _) rfl (st := [.int 0, .ref (ad 11 0 0)]) rfl (Nat.le_of_ble_eq_true rfl) ⟨(Nat.le_of_ble_eq_true rfl), (Nat.le_of_ble_eq_true rfl)⟩ dL_append_11 ?_
    refine fw_i2l C dL_append_14 rfl ?_
    refine fw_last C (x := v) rfl (hG _ lawG_11) dL_append_15 ?_
    refine fw_goto C dL_append_16 (tgt := 23) rfl ?_
    refine fw_iconst C dL_append_23 (v := 0) rfl ?_
    exact fw_iret C hrt (up Y1 11 0 0 0 v) ⟨rfl, rfl⟩ (fun t ht => ht) dL_append_24
end
theorem c_L_append {l : Launch} {N0 : Nat} {T : Nat → ClassId} {D : va_G} {gr : List (Nat × Nat)} {ad : Nat → Nat → Nat → Nat} {Y : Mem} {a1 : Int32} {a2 : Int32} {a3 : Int32} {a4 : Int32} {a5 : Int32} {res : (Nat × Mem) ⊕ (Int32 × Mem)} (hl : l.stackTraces = false) (hG : ∀ q ∈ lawG, q ∈ gr) (h : X11_append Y a1 a2 a3 a4 a5 = some res) (hn : ∀ n Y1, res = .inl (n, Y1) → c1_ n ≠ 0) : CH l yL_append wsL_append (Rx 7 1) N0 T D gr ad Y [.ref (ad 0 0 0), .int a1, .int a2, .int a3, .int a4, .int a5, .ref (ad 11 0 0)] (hR c1_ res) (hM res) :=
  fw_hbody (by decide +kernel) rfl (Nat.le_of_ble_eq_true rfl) (fun p e s m below meth c C hE hrt htab => w_L_append C hE hrt htab hl hG h hn)
theorem lk_L_truncate_19 : Cond.classLink RL 19 "java/lang/IllegalArgumentException" ∈ wsL_truncate := by decide +kernel
section
variable {p : Program} {l : Launch} {e : Env} {s : State} {m : MethodId} {below : List Frame} {meth : Method} {c : Code} {N0 : Nat} {T : Nat → ClassId} {D : va_G} {gr : List (Nat × Nat)} {ad : Nat → Nat → Nat → Nat}
set_option maxHeartbeats 4000000 in
theorem w_L_truncate {Y : Mem} {a1 : Int32} (C : Cx p s m [.ref (ad 0 0 0), .int a1, .ref (ad 11 0 0)].toArray meth c cL_truncate 4 wsL_truncate RL N0 T D gr ad) (hE : Exw s) (hrt : meth.sig.returnType = (some .int)) (htab : c.exceptionTable.toList = tableOf [(0, 9, 12, 19)]) (hl : l.stackTraces = false) (hG : ∀ q ∈ lawG, q ∈ gr) {res : (Nat × Mem) ⊕ (Int32 × Mem)} (h : X11_truncate Y a1 = some res) (hn : ∀ n Y1, res = .inl (n, Y1) → c2_ n ≠ 0) : FW p l e (Rx 7 1) s m [.ref (ad 0 0 0), .int a1, .ref (ad 11 0 0)].toArray below meth c 4 N0 T D gr ad 0 0 (MQ below (va_Qi (fun r1 Y1 => r1 = hR c2_ res ∧ Y1 = hM res) (WB T D gr ad) (fun q => N0 ≤ q)) [.ref (ad 0 0 0), .int a1, .ref (ad 11 0 0)].toArray s 1 6 (fun q => N0 ≤ q)) Y 0 [(0, .ref (ad 0 0 0)), (1, .int a1), (2, .ref (ad 11 0 0))] [] := by
  refine fw_aload_n C dL_truncate_0 rfl 2 rfl ?_
  refine fw_iconst C dL_truncate_1 (v := 0) rfl ?_
  refine fw_aload_n C dL_truncate_2 rfl 0 rfl ?_
  refine fw_iload_n C dL_truncate_3 rfl 1 rfl ?_
  rcases res with ⟨n, Y1⟩ | ⟨v, Y1⟩
  · rcases c2__inv (hn n Y1 rfl) with rfl
    · refine fw_callXVi_c C (ci := 9) (Cn := RX11) (Tc := TX11) (N := 11) (As := [.int a1]) (c_X11_truncate hl (fun q hq => hG q ((by decide : ∀ q ∈ [(0, 0), (5, 0)], q ∈ lawG) q hq)) h) (cwV 1 (cx_ts C) gL_truncate_X11_truncate rfl rfl rfl (by decide +kernel) ⟨(Nat.le_of_ble_eq_true rfl), (Nat.le_of_ble_eq_true rfl)⟩) rfl (hG _ lawG_0) (of0_0 _) (ce0 T ad _ _) rfl (st := [.int 0, .ref (ad 11 0 0)]) rfl (Nat.le_of_ble_eq_true rfl) ⟨(Nat.le_of_ble_eq_true rfl), (Nat.le_of_ble_eq_true rfl)⟩ dL_truncate_4 [] ⟨0, 9, 12, 19⟩ [] htab (fun z hz => nomatch hz) rfl (by decide) (cx_ts C _ lk_L_truncate_19) (Nst_use' (cx_nst C) cst_2) (fun q => ?_)
      refine fw_astore_n C dL_truncate_12 rfl (by decide) rfl ?_
      refine fw_iconst C dL_truncate_13 (v := 1) rfl ?_
      exact fw_iret C hrt Y1 ⟨rfl, rfl⟩ (fun t ht => ht) dL_truncate_14
  · refine fw_callXVi_r C (ci := 9) (Cn := RX11) (Tc := TX11) (N := 11) (As := [.int a1]) (c_X11_truncate hl (fun q hq => hG q ((by decide : ∀ q ∈ [(0, 0), (5, 0)], q ∈ lawG) q hq)) h) (cwV 1 (cx_ts C) gL_truncate_X11_truncate rfl rfl rfl (by decide +kernel) ⟨(Nat.le_of_ble_eq_true rfl), (Nat.le_of_ble_eq_true rfl)⟩) rfl (hG _ lawG_0) (of0_0 _) (ce0 T ad _ _) rfl (st := [.int 0, .ref (ad 11 0 0)]) rfl (Nat.le_of_ble_eq_true rfl) ⟨(Nat.le_of_ble_eq_true rfl), (Nat.le_of_ble_eq_true rfl)⟩ dL_truncate_4 ?_
    refine fw_i2l C dL_truncate_7 rfl ?_
    refine fw_last C (x := v) rfl (hG _ lawG_11) dL_truncate_8 ?_
    refine fw_goto C dL_truncate_9 (tgt := 15) rfl ?_
    refine fw_iconst C dL_truncate_15 (v := 0) rfl ?_
    exact fw_iret C hrt (up Y1 11 0 0 0 v) ⟨rfl, rfl⟩ (fun t ht => ht) dL_truncate_16
end
theorem c_L_truncate {l : Launch} {N0 : Nat} {T : Nat → ClassId} {D : va_G} {gr : List (Nat × Nat)} {ad : Nat → Nat → Nat → Nat} {Y : Mem} {a1 : Int32} {res : (Nat × Mem) ⊕ (Int32 × Mem)} (hl : l.stackTraces = false) (hG : ∀ q ∈ lawG, q ∈ gr) (h : X11_truncate Y a1 = some res) (hn : ∀ n Y1, res = .inl (n, Y1) → c2_ n ≠ 0) : CH l yL_truncate wsL_truncate (Rx 7 1) N0 T D gr ad Y [.ref (ad 0 0 0), .int a1, .ref (ad 11 0 0)] (hR c2_ res) (hM res) :=
  fw_hbody (by decide +kernel) rfl (Nat.le_of_ble_eq_true rfl) (fun p e s m below meth c C hE hrt htab => w_L_truncate C hE hrt htab hl hG h hn)
