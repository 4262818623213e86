theorem lk_L_status_31 : Cond.classLink RL 31 "java/lang/IndexOutOfBoundsException" ∈ wsL_status := by decide +kernel
section
variable {p : Program} {l : Launch} {e : Env} {s : State} {m : MethodId} {below : List Frame} {meth : Method} {c : Code} {N0 : Nat} {T : Nat → ClassId} {D : va_G} {gr : List (Nat × Nat)} {ad : Nat → Nat → Nat → Nat}
set_option maxHeartbeats 4000000 in
theorem w_L_status {Y : Mem} {a1 : Int32} (C : Cx p s m [.ref (ad 0 0 0), .int a1, .ref (ad 11 0 0)].toArray meth c cL_status 4 wsL_status RL N0 T D gr ad) (hE : Exw s) (hrt : meth.sig.returnType = (some .int)) (htab : c.exceptionTable.toList = tableOf [(0, 9, 12, 31)]) (hl : l.stackTraces = false) (hG : ∀ q ∈ lawG, q ∈ gr) {res : (Nat × Mem) ⊕ (Int32 × Mem)} (h : X11_status Y a1 = some res) (hn : ∀ n Y1, res = .inl (n, Y1) → c3 n ≠ 0) : FW p l e (Rx 8 1) s m [.ref (ad 0 0 0), .int a1, .ref (ad 11 0 0)].toArray below meth c 4 N0 T D gr ad 0 0 (MQ below (va_Qi (fun r1 Y1 => r1 = hR c3 res ∧ Y1 = hM res) (WB T D gr ad) (fun q => N0 ≤ q)) [.ref (ad 0 0 0), .int a1, .ref (ad 11 0 0)].toArray s 1 6 (fun q => N0 ≤ q)) Y 0 [(0, .ref (ad 0 0 0)), (1, .int a1), (2, .ref (ad 11 0 0))] [] := by
  refine fw_aload_n C dL_status_0 rfl 2 rfl ?_
  refine fw_iconst C dL_status_1 (v := 0) rfl ?_
  refine fw_aload_n C dL_status_2 rfl 0 rfl ?_
  refine fw_iload_n C dL_status_3 rfl 1 rfl ?_
  rcases res with ⟨n, Y1⟩ | ⟨v, Y1⟩
  · rcases c3_inv (hn n Y1 rfl) with rfl
    · refine fw_callXVi_c C (ci := 9) (Cn := RX11) (Tc := TX11) (N := 11) (As := [.int a1]) (c_X11_status hl (fun q hq => hG q ((by decide : ∀ q ∈ ([(1, 0), (0, 0), (2, 0)] ++ allG), q ∈ lawG) q hq)) h) (cwV 1 (cx_ts C) gL_status_X11_status rfl rfl rfl (by decide +kernel) ⟨(Nat.le_of_ble_eq_true rfl), (Nat.le_of_ble_eq_true rfl)⟩) rfl (hG _ lawG_0) (of0_0 _) (ce0 T ad _ _) rfl (st := [.int 0, .ref (ad 11 0 0)]) rfl (Nat.le_of_ble_eq_true rfl) ⟨(Nat.le_of_ble_eq_true rfl), (Nat.le_of_ble_eq_true rfl)⟩ dL_status_4 [] ⟨0, 9, 12, 31⟩ [] htab (fun z hz => nomatch hz) rfl (by decide) (cx_ts C _ lk_L_status_31) (Nst_use' (cx_nst C) cst_3) (fun q => ?_)
      refine fw_astore_n C dL_status_12 rfl (by decide) rfl ?_
      refine fw_iconst C dL_status_13 (v := 1) rfl ?_
      exact fw_iret C hrt Y1 ⟨rfl, rfl⟩ (fun t ht => ht) dL_status_14
  · refine fw_callXVi_r C (ci := 9) (Cn := RX11) (Tc := TX11) (N := 11) (As := [.int a1]) (c_X11_status hl (fun q hq => hG q ((by decide : ∀ q ∈ ([(1, 0), (0, 0), (2, 0)] ++ allG), q ∈ lawG) q hq)) h) (cwV 1 (cx_ts C) gL_status_X11_status rfl rfl rfl (by decide +kernel) ⟨(Nat.le_of_ble_eq_true rfl), (Nat.le_of_ble_eq_true rfl)⟩) rfl (hG _ lawG_0) (of0_0 _) (ce0 T ad _ _) rfl (st := [.int 0, .ref (ad 11 0 0)]) rfl (Nat.le_of_ble_eq_true rfl) ⟨(Nat.le_of_ble_eq_true rfl), (Nat.le_of_ble_eq_true rfl)⟩ dL_status_4 ?_
    refine fw_i2l C dL_status_7 rfl ?_
    refine fw_last C (x := v) rfl (hG _ lawG_11) dL_status_8 ?_
    refine fw_goto C dL_status_9 (tgt := 15) rfl ?_
    refine fw_iconst C dL_status_15 (v := 0) rfl ?_
    exact fw_iret C hrt (up Y1 11 0 0 0 v) ⟨rfl, rfl⟩ (fun t ht => ht) dL_status_16
end
theorem c_L_status {l : Launch} {N0 : Nat} {T : Nat → ClassId} {D : va_G} {gr : List (Nat × Nat)} {ad : Nat → Nat → Nat → Nat} {Y : Mem} {a1 : Int32} {res : (Nat × Mem) ⊕ (Int32 × Mem)} (hl : l.stackTraces = false) (hG : ∀ q ∈ lawG, q ∈ gr) (h : X11_status Y a1 = some res) (hn : ∀ n Y1, res = .inl (n, Y1) → c3 n ≠ 0) : CH l yL_status wsL_status (Rx 8 1) N0 T D gr ad Y [.ref (ad 0 0 0), .int a1, .ref (ad 11 0 0)] 1 (hR c3 res) (hM res) :=
  fw_hbody (by decide +kernel) rfl (Nat.le_of_ble_eq_true rfl) (fun p e s m below meth c C hE hrt htab => w_L_status C hE hrt htab hl hG h hn)
theorem lk_L_remaining_31 : Cond.classLink RL 31 "java/lang/IndexOutOfBoundsException" ∈ wsL_remaining := by decide +kernel
section
variable {p : Program} {l : Launch} {e : Env} {s : State} {m : MethodId} {below : List Frame} {meth : Method} {c : Code} {N0 : Nat} {T : Nat → ClassId} {D : va_G} {gr : List (Nat × Nat)} {ad : Nat → Nat → Nat → Nat}
set_option maxHeartbeats 4000000 in
theorem w_L_remaining {Y : Mem} {a1 : Int32} (C : Cx p s m [.ref (ad 0 0 0), .int a1, .ref (ad 11 0 0)].toArray meth c cL_remaining 4 wsL_remaining RL N0 T D gr ad) (hE : Exw s) (hrt : meth.sig.returnType = (some .int)) (htab : c.exceptionTable.toList = tableOf [(0, 9, 12, 31)]) (hl : l.stackTraces = false) (hG : ∀ q ∈ lawG, q ∈ gr) {res : (Nat × Mem) ⊕ (Int32 × Mem)} (h : X11_remaining Y a1 = some res) (hn : ∀ n Y1, res = .inl (n, Y1) → c3 n ≠ 0) : FW p l e (Rx 8 1) s m [.ref (ad 0 0 0), .int a1, .ref (ad 11 0 0)].toArray below meth c 4 N0 T D gr ad 0 0 (MQ below (va_Qi (fun r1 Y1 => r1 = hR c3 res ∧ Y1 = hM res) (WB T D gr ad) (fun q => N0 ≤ q)) [.ref (ad 0 0 0), .int a1, .ref (ad 11 0 0)].toArray s 1 6 (fun q => N0 ≤ q)) Y 0 [(0, .ref (ad 0 0 0)), (1, .int a1), (2, .ref (ad 11 0 0))] [] := by
  refine fw_aload_n C dL_remaining_0 rfl 2 rfl ?_
  refine fw_iconst C dL_remaining_1 (v := 0) rfl ?_
  refine fw_aload_n C dL_remaining_2 rfl 0 rfl ?_
  refine fw_iload_n C dL_remaining_3 rfl 1 rfl ?_
  rcases res with ⟨n, Y1⟩ | ⟨v, Y1⟩
  · rcases c3_inv (hn n Y1 rfl) with rfl
    · refine fw_callXVi_c C (ci := 9) (Cn := RX11) (Tc := TX11) (N := 11) (As := [.int a1]) (c_X11_remaining hl (fun q hq => hG q ((by decide : ∀ q ∈ ([(1, 0), (0, 0), (2, 0)] ++ allG), q ∈ lawG) q hq)) h) (cwV 1 (cx_ts C) gL_remaining_X11_remaining rfl rfl rfl (by decide +kernel) ⟨(Nat.le_of_ble_eq_true rfl), (Nat.le_of_ble_eq_true rfl)⟩) rfl (hG _ lawG_0) (of0_0 _) (ce0 T ad _ _) rfl (st := [.int 0, .ref (ad 11 0 0)]) rfl (Nat.le_of_ble_eq_true rfl) ⟨(Nat.le_of_ble_eq_true rfl), (Nat.le_of_ble_eq_true rfl)⟩ dL_remaining_4 [] ⟨0, 9, 12, 31⟩ [] htab (fun z hz => nomatch hz) rfl (by decide) (cx_ts C _ lk_L_remaining_31) (Nst_use' (cx_nst C) cst_3) (fun q => ?_)
      refine fw_astore_n C dL_remaining_12 rfl (by decide) rfl ?_
      refine fw_iconst C dL_remaining_13 (v := 1) rfl ?_
      exact fw_iret C hrt Y1 ⟨rfl, rfl⟩ (fun t ht => ht) dL_remaining_14
  · refine fw_callXVi_r C (ci := 9) (Cn := RX11) (Tc := TX11) (N := 11) (As := [.int a1]) (c_X11_remaining hl (fun q hq => hG q ((by decide : ∀ q ∈ ([(1, 0), (0, 0), (2, 0)] ++ allG), q ∈ lawG) q hq)) h) (cwV 1 (cx_ts C) gL_remaining_X11_remaining rfl rfl rfl (by decide +kernel) ⟨(Nat.le_of_ble_eq_true rfl), (Nat.le_of_ble_eq_true rfl)⟩) rfl (hG _ lawG_0) (of0_0 _) (ce0 T ad _ _) rfl (st := [.int 0, .ref (ad 11 0 0)]) rfl (Nat.le_of_ble_eq_true rfl) ⟨(Nat.le_of_ble_eq_true rfl), (Nat.le_of_ble_eq_true rfl)⟩ dL_remaining_4 ?_
    refine fw_i2l C dL_remaining_7 rfl ?_
    refine fw_last C (x := v) rfl (hG _ lawG_11) dL_remaining_8 ?_
    refine fw_goto C dL_remaining_9 (tgt := 15) rfl ?_
    refine fw_iconst C dL_remaining_15 (v := 0) rfl ?_
    exact fw_iret C hrt (up Y1 11 0 0 0 v) ⟨rfl, rfl⟩ (fun t ht => ht) dL_remaining_16
end
theorem c_L_remaining {l : Launch} {N0 : Nat} {T : Nat → ClassId} {D : va_G} {gr : List (Nat × Nat)} {ad : Nat → Nat → Nat → Nat} {Y : Mem} {a1 : Int32} {res : (Nat × Mem) ⊕ (Int32 × Mem)} (hl : l.stackTraces = false) (hG : ∀ q ∈ lawG, q ∈ gr) (h : X11_remaining Y a1 = some res) (hn : ∀ n Y1, res = .inl (n, Y1) → c3 n ≠ 0) : CH l yL_remaining wsL_remaining (Rx 8 1) N0 T D gr ad Y [.ref (ad 0 0 0), .int a1, .ref (ad 11 0 0)] 1 (hR c3 res) (hM res) :=
  fw_hbody (by decide +kernel) rfl (Nat.le_of_ble_eq_true rfl) (fun p e s m below meth c C hE hrt htab => w_L_remaining C hE hrt htab hl hG h hn)
theorem lk_L_age_31 : Cond.classLink RL 31 "java/lang/IndexOutOfBoundsException" ∈ wsL_age := by decide +kernel
section
variable {p : Program} {l : Launch} {e : Env} {s : State} {m : MethodId} {below : List Frame} {meth : Method} {c : Code} {N0 : Nat} {T : Nat → ClassId} {D : va_G} {gr : List (Nat × Nat)} {ad : Nat → Nat → Nat → Nat}
set_option maxHeartbeats 4000000 in
theorem w_L_age {Y : Mem} {a1 : Int32} (C : Cx p s m [.ref (ad 0 0 0), .int a1, .ref (ad 11 0 0)].toArray meth c cL_age 4 wsL_age RL N0 T D gr ad) (hE : Exw s) (hrt : meth.sig.returnType = (some .int)) (htab : c.exceptionTable.toList = tableOf [(0, 9, 12, 31)]) (hl : l.stackTraces = false) (hG : ∀ q ∈ lawG, q ∈ gr) {res : (Nat × Mem) ⊕ (Int32 × Mem)} (h : X11_age Y a1 = some res) (hn : ∀ n Y1, res = .inl (n, Y1) → c3 n ≠ 0) : FW p l e (Rx 8 1) s m [.ref (ad 0 0 0), .int a1, .ref (ad 11 0 0)].toArray below meth c 4 N0 T D gr ad 0 0 (MQ below (va_Qi (fun r1 Y1 => r1 = hR c3 res ∧ Y1 = hM res) (WB T D gr ad) (fun q => N0 ≤ q)) [.ref (ad 0 0 0), .int a1, .ref (ad 11 0 0)].toArray s 1 6 (fun q => N0 ≤ q)) Y 0 [(0, .ref (ad 0 0 0)), (1, .int a1), (2, .ref (ad 11 0 0))] [] := by
  refine fw_aload_n C dL_age_0 rfl 2 rfl ?_
  refine fw_iconst C dL_age_1 (v := 0) rfl ?_
  refine fw_aload_n C dL_age_2 rfl 0 rfl ?_
  refine fw_iload_n C dL_age_3 rfl 1 rfl ?_
  rcases res with ⟨n, Y1⟩ | ⟨v, Y1⟩
  · rcases c3_inv (hn n Y1 rfl) with rfl
    · refine fw_callXVi_c C (ci := 9) (Cn := RX11) (Tc := TX11) (N := 11) (As := [.int a1]) (c_X11_age hl (fun q hq => hG q ((by decide : ∀ q ∈ ([(1, 0), (0, 0), (2, 0)] ++ allG), q ∈ lawG) q hq)) h) (cwV 1 (cx_ts C) gL_age_X11_age rfl rfl rfl (by decide +kernel) ⟨(Nat.le_of_ble_eq_true rfl), (Nat.le_of_ble_eq_true rfl)⟩) rfl (hG _ lawG_0) (of0_0 _) (ce0 T ad _ _) rfl (st := [.int 0, .ref (ad 11 0 0)]) rfl (Nat.le_of_ble_eq_true rfl) ⟨(Nat.le_of_ble_eq_true rfl), (Nat.le_of_ble_eq_true rfl)⟩ dL_age_4 [] ⟨0, 9, 12, 31⟩ [] htab (fun z hz => nomatch hz) rfl (by decide) (cx_ts C _ lk_L_age_31) (Nst_use' (cx_nst C) cst_3) (fun q => ?_)
      refine fw_astore_n C dL_age_12 rfl (by decide) rfl ?_
      refine fw_iconst C dL_age_13 (v := 1) rfl ?_
      exact fw_iret C hrt Y1 ⟨rfl, rfl⟩ (fun t ht => ht) dL_age_14
  · refine fw_callXVi_r C (ci := 9) (Cn := RX11) (Tc := TX11) (N := 11) (As := [.int a1]) (c_X11_age hl (fun q hq => hG q ((by decide : ∀ q ∈ ([(1, 0), (0, 0), (2, 0)] ++ allG), q ∈ lawG) q hq)) h) (cwV 1 (cx_ts C) gL_age_X11_age rfl rfl rfl (by decide +kernel) ⟨(Nat.le_of_ble_eq_true rfl), (Nat.le_of_ble_eq_true rfl)⟩) rfl (hG _ lawG_0) (of0_0 _) (ce0 T ad _ _) rfl (st := [.int 0, .ref (ad 11 0 0)]) rfl (Nat.le_of_ble_eq_true rfl) ⟨(Nat.le_of_ble_eq_true rfl), (Nat.le_of_ble_eq_true rfl)⟩ dL_age_4 ?_
    refine fw_i2l C dL_age_7 rfl ?_
    refine fw_last C (x := v) rfl (hG _ lawG_11) dL_age_8 ?_
    refine fw_goto C dL_age_9 (tgt := 15) rfl ?_
    refine fw_iconst C dL_age_15 (v := 0) rfl ?_
    exact fw_iret C hrt (up Y1 11 0 0 0 v) ⟨rfl, rfl⟩ (fun t ht => ht) dL_age_16
end
theorem c_L_age {l : Launch} {N0 : Nat} {T : Nat → ClassId} {D : va_G} {gr : List (Nat × Nat)} {ad : Nat → Nat → Nat → Nat} {Y : Mem} {a1 : Int32} {res : (Nat × Mem) ⊕ (Int32 × Mem)} (hl : l.stackTraces = false) (hG : ∀ q ∈ lawG, q ∈ gr) (h : X11_age Y a1 = some res) (hn : ∀ n Y1, res = .inl (n, Y1) → c3 n ≠ 0) : CH l yL_age wsL_age (Rx 8 1) N0 T D gr ad Y [.ref (ad 0 0 0), .int a1, .ref (ad 11 0 0)] 1 (hR c3 res) (hM res) :=
  fw_hbody (by decide +kernel) rfl (Nat.le_of_ble_eq_true rfl) (fun p e s m below meth c C hE hrt htab => w_L_age C hE hrt htab hl hG h hn)
theorem lk_L_startsOf_31 : Cond.classLink RL 31 "java/lang/IndexOutOfBoundsException" ∈ wsL_startsOf := by decide +kernel
section
variable {p : Program} {l : Launch} {e : Env} {s : State} {m : MethodId} {below : List Frame} {meth : Method} {c : Code} {N0 : Nat} {T : Nat → ClassId} {D : va_G} {gr : List (Nat × Nat)} {ad : Nat → Nat → Nat → Nat}
set_option maxHeartbeats 4000000 in
theorem w_L_startsOf {Y : Mem} {a1 : Int32} (C : Cx p s m [.ref (ad 0 0 0), .int a1, .ref (ad 11 0 0)].toArray meth c cL_startsOf 4 wsL_startsOf RL N0 T D gr ad) (hE : Exw s) (hrt : meth.sig.returnType = (some .int)) (htab : c.exceptionTable.toList = tableOf [(0, 9, 12, 31)]) (hl : l.stackTraces = false) (hG : ∀ q ∈ lawG, q ∈ gr) {res : (Nat × Mem) ⊕ (Int32 × Mem)} (h : X11_startsOf Y a1 = some res) (hn : ∀ n Y1, res = .inl (n, Y1) → c3 n ≠ 0) : FW p l e (Rx 8 1) s m [.ref (ad 0 0 0), .int a1, .ref (ad 11 0 0)].toArray below meth c 4 N0 T D gr ad 0 0 (MQ below (va_Qi (fun r1 Y1 => r1 = hR c3 res ∧ Y1 = hM res) (WB T D gr ad) (fun q => N0 ≤ q)) [.ref (ad 0 0 0), .int a1, .ref (ad 11 0 0)].toArray s 1 6 (fun q => N0 ≤ q)) Y 0 [(0, .ref (ad 0 0 0)), (1, .int a1), (2, .ref (ad 11 0 0))] [] := by
  refine fw_aload_n C dL_startsOf_0 rfl 2 rfl ?_
  refine fw_iconst C dL_startsOf_1 (v := 0) rfl ?_
  refine fw_aload_n C dL_startsOf_2 rfl 0 rfl ?_
  refine fw_iload_n C dL_startsOf_3 rfl 1 rfl ?_
  rcases res with ⟨n, Y1⟩ | ⟨v, Y1⟩
  · rcases c3_inv (hn n Y1 rfl) with rfl
    · refine fw_callXVi_c C (ci := 9) (Cn := RX11) (Tc := TX11) (N := 11) (As := [.int a1]) (c_X11_startsOf hl (fun q hq => hG q ((by decide : ∀ q ∈ ([(1, 0), (0, 0), (2, 0)] ++ allG), q ∈ lawG) q hq)) h) (cwV 1 (cx_ts C) gL_startsOf_X11_startsOf rfl rfl rfl (by decide +kernel) ⟨(Nat.le_of_ble_eq_true rfl), (Nat.le_of_ble_eq_true rfl)⟩) rfl (hG _ lawG_0) (of0_0 _) (ce0 T ad _ _) rfl (st := [.int 0, .ref (ad 11 0 0)]) rfl (Nat.le_of_ble_eq_true rfl) ⟨(Nat.le_of_ble_eq_true rfl), (Nat.le_of_ble_eq_true rfl)⟩ dL_startsOf_4 [] ⟨0, 9, 12, 31⟩ [] htab (fun z hz => nomatch hz) rfl (by decide) (cx_ts C _ lk_L_startsOf_31) (Nst_use' (cx_nst C) cst_3) (fun q => ?_)
      refine fw_astore_n C dL_startsOf_12 rfl (by decide) rfl ?_
      refine fw_iconst C dL_startsOf_13 (v := 1) rfl ?_
      exact fw_iret C hrt Y1 ⟨rfl, rfl⟩ (fun t ht => ht) dL_startsOf_14
  · refine fw_callXVi_r C (ci := 9) (Cn := RX11) (Tc := TX11) (N := 11) (As := [.int a1]) (c_X11_startsOf hl (fun q hq => hG q ((by decide : ∀ q ∈ ([(1, 0), (0, 0), (2, 0)] ++ allG), q ∈ lawG) q hq)) h) (cwV 1 (cx_ts C) gL_startsOf_X11_startsOf rfl rfl rfl (by decide +kernel) ⟨(Nat.le_of_ble_eq_true rfl), (Nat.le_of_ble_eq_true rfl)⟩) rfl (hG _ lawG_0) (of0_0 _) (ce0 T ad _ _) rfl (st := [.int 0, .ref (ad 11 0 0)]) rfl (Nat.le_of_ble_eq_true rfl) ⟨(Nat.le_of_ble_eq_true rfl), (Nat.le_of_ble_eq_true rfl)⟩ dL_startsOf_4 ?_
    refine fw_i2l C dL_startsOf_7 rfl ?_
    refine fw_last C (x := v) rfl (hG _ lawG_11) dL_startsOf_8 ?_
    refine fw_goto C dL_startsOf_9 (tgt := 15) rfl ?_
    refine fw_iconst C dL_startsOf_15 (v := 0) rfl ?_
    exact fw_iret C hrt (up Y1 11 0 0 0 v) ⟨rfl, rfl⟩ (fun t ht => ht) dL_startsOf_16
end
theorem c_L_startsOf {l : Launch} {N0 : Nat} {T : Nat → ClassId} {D : va_G} {gr : List (Nat × Nat)} {ad : Nat → Nat → Nat → Nat} {Y : Mem} {a1 : Int32} {res : (Nat × Mem) ⊕ (Int32 × Mem)} (hl : l.stackTraces = false) (hG : ∀ q ∈ lawG, q ∈ gr) (h : X11_startsOf Y a1 = some res) (hn : ∀ n Y1, res = .inl (n, Y1) → c3 n ≠ 0) : CH l yL_startsOf wsL_startsOf (Rx 8 1) N0 T D gr ad Y [.ref (ad 0 0 0), .int a1, .ref (ad 11 0 0)] 1 (hR c3 res) (hM res) :=
  fw_hbody (by decide +kernel) rfl (Nat.le_of_ble_eq_true rfl) (fun p e s m below meth c C hE hrt htab => w_L_startsOf C hE hrt htab hl hG h hn)
theorem lk_L_isTakenUp_31 : Cond.classLink RL 31 "java/lang/IndexOutOfBoundsException" ∈ wsL_isTakenUp := by decide +kernel
section
variable {p : Program} {l : Launch} {e : Env} {s : State} {m : MethodId} {below : List Frame} {meth : Method} {c : Code} {N0 : Nat} {T : Nat → ClassId} {D : va_G} {gr : List (Nat × Nat)} {ad : Nat → Nat → Nat → Nat}
set_option maxHeartbeats 4000000 in
theorem w_L_isTakenUp {Y : Mem} {a1 : Int32} (C : Cx p s m [.ref (ad 0 0 0), .int a1, .ref (ad 11 0 0)].toArray meth c cL_isTakenUp 4 wsL_isTakenUp RL N0 T D gr ad) (hE : Exw s) (hrt : meth.sig.returnType = (some .int)) (htab : c.exceptionTable.toList = tableOf [(0, 16, 19, 31)]) (hl : l.stackTraces = false) (hG : ∀ q ∈ lawG, q ∈ gr) {res : (Nat × Mem) ⊕ (Int32 × Mem)} (h : X11_isTakenUp Y a1 = some res) (hn : ∀ n Y1, res = .inl (n, Y1) → c3 n ≠ 0) : FW p l e (Rx 8 1) s m [.ref (ad 0 0 0), .int a1, .ref (ad 11 0 0)].toArray below meth c 4 N0 T D gr ad 0 0 (MQ below (va_Qi (fun r1 Y1 => r1 = hR c3 res ∧ Y1 = hMb res) (WB T D gr ad) (fun q => N0 ≤ q)) [.ref (ad 0 0 0), .int a1, .ref (ad 11 0 0)].toArray s 1 6 (fun q => N0 ≤ q)) Y 0 [(0, .ref (ad 0 0 0)), (1, .int a1), (2, .ref (ad 11 0 0))] [] := by
  refine fw_aload_n C dL_isTakenUp_0 rfl 2 rfl ?_
  refine fw_iconst C dL_isTakenUp_1 (v := 0) rfl ?_
  refine fw_aload_n C dL_isTakenUp_2 rfl 0 rfl ?_
  refine fw_iload_n C dL_isTakenUp_3 rfl 1 rfl ?_
  rcases res with ⟨n, Y1⟩ | ⟨v, Y1⟩
  · rcases c3_inv (hn n Y1 rfl) with rfl
    · refine fw_callXVi_c C (ci := 9) (Cn := RX11) (Tc := TX11) (N := 11) (As := [.int a1]) (c_X11_isTakenUp hl (fun q hq => hG q ((by decide : ∀ q ∈ ([(1, 0), (0, 0), (2, 0)] ++ allG), q ∈ lawG) q hq)) h) (cwV 1 (cx_ts C) gL_isTakenUp_X11_isTakenUp rfl rfl rfl (by decide +kernel) ⟨(Nat.le_of_ble_eq_true rfl), (Nat.le_of_ble_eq_true rfl)⟩) rfl (hG _ lawG_0) (of0_0 _) (ce0 T ad _ _) rfl (st := [.int 0, .ref (ad 11 0 0)]) rfl (Nat.le_of_ble_eq_true rfl) ⟨(Nat.le_of_ble_eq_true rfl), (Nat.le_of_ble_eq_true rfl)⟩ dL_isTakenUp_4 [] ⟨0, 16, 19, 31⟩ [] htab (fun z hz => nomatch hz) rfl (by decide) (cx_ts C _ lk_L_isTakenUp_31) (Nst_use' (cx_nst C) cst_3) (fun q => ?_)
      refine fw_astore_n C dL_isTakenUp_19 rfl (by decide) rfl ?_
      refine fw_iconst C dL_isTakenUp_20 (v := 1) rfl ?_
      exact fw_iret C hrt Y1 ⟨rfl, rfl⟩ (fun t ht => ht) dL_isTakenUp_21
  · refine fw_callXVi_r C (ci := 9) (Cn := RX11) (Tc := TX11) (N := 11) (As := [.int a1]) (c_X11_isTakenUp hl (fun q hq => hG q ((by decide : ∀ q ∈ ([(1, 0), (0, 0), (2, 0)] ++ allG), q ∈ lawG) q hq)) h) (cwV 1 (cx_ts C) gL_isTakenUp_X11_isTakenUp rfl rfl rfl (by decide +kernel) ⟨(Nat.le_of_ble_eq_true rfl), (Nat.le_of_ble_eq_true rfl)⟩) rfl (hG _ lawG_0) (of0_0 _) (ce0 T ad _ _) rfl (st := [.int 0, .ref (ad 11 0 0)]) rfl (Nat.le_of_ble_eq_true rfl) ⟨(Nat.le_of_ble_eq_true rfl), (Nat.le_of_ble_eq_true rfl)⟩ dL_isTakenUp_4 ?_
    refine fw_if_eq C dL_isTakenUp_7 (tgt := 14) rfl (fun c1 => ?_) (fun c1 => ?_)
    · refine fw_lconst C dL_isTakenUp_14 (v := 0) rfl ?_
      refine fw_last C (x := 0) rfl (hG _ lawG_11) dL_isTakenUp_15 ?_
      refine fw_goto C dL_isTakenUp_16 (tgt := 22) rfl ?_
      refine fw_iconst C dL_isTakenUp_22 (v := 0) rfl ?_
      exact fw_iret C hrt (up Y1 11 0 0 0 0) ⟨rfl, by subst c1; rfl⟩ (fun t ht => ht) dL_isTakenUp_23
    · refine fw_lconst C dL_isTakenUp_10 (v := 1) rfl ?_
      refine fw_goto C dL_isTakenUp_11 (tgt := 15) rfl ?_
      refine fw_last C (x := 1) rfl (hG _ lawG_11) dL_isTakenUp_15 ?_
      refine fw_goto C dL_isTakenUp_16 (tgt := 22) rfl ?_
      refine fw_iconst C dL_isTakenUp_22 (v := 0) rfl ?_
      exact fw_iret C hrt (up Y1 11 0 0 0 1) ⟨rfl, (hMb_1 c1).symm⟩ (fun t ht => ht) dL_isTakenUp_23
end
theorem c_L_isTakenUp {l : Launch} {N0 : Nat} {T : Nat → ClassId} {D : va_G} {gr : List (Nat × Nat)} {ad : Nat → Nat → Nat → Nat} {Y : Mem} {a1 : Int32} {res : (Nat × Mem) ⊕ (Int32 × Mem)} (hl : l.stackTraces = false) (hG : ∀ q ∈ lawG, q ∈ gr) (h : X11_isTakenUp Y a1 = some res) (hn : ∀ n Y1, res = .inl (n, Y1) → c3 n ≠ 0) : CH l yL_isTakenUp wsL_isTakenUp (Rx 8 1) N0 T D gr ad Y [.ref (ad 0 0 0), .int a1, .ref (ad 11 0 0)] 1 (hR c3 res) (hMb res) :=
  fw_hbody (by decide +kernel) rfl (Nat.le_of_ble_eq_true rfl) (fun p e s m below meth c C hE hrt htab => w_L_isTakenUp C hE hrt htab hl hG h hn)
theorem lk_L_whyNotRunning_31 : Cond.classLink RL 31 "java/lang/IndexOutOfBoundsException" ∈ wsL_whyNotRunning := by decide +kernel
section
variable {p : Program} {l : Launch} {e : Env} {s : State} {m : MethodId} {below : List Frame} {meth : Method} {c : Code} {N0 : Nat} {T : Nat → ClassId} {D : va_G} {gr : List (Nat × Nat)} {ad : Nat → Nat → Nat → Nat}
set_option maxHeartbeats 4000000 in
theorem w_L_whyNotRunning {Y : Mem} {a1 : Int32} (C : Cx p s m [.ref (ad 0 0 0), .int a1, .ref (ad 11 0 0)].toArray meth c cL_whyNotRunning 4 wsL_whyNotRunning RL N0 T D gr ad) (hE : Exw s) (hrt : meth.sig.returnType = (some .int)) (htab : c.exceptionTable.toList = tableOf [(0, 9, 12, 31)]) (hl : l.stackTraces = false) (hG : ∀ q ∈ lawG, q ∈ gr) {res : (Nat × Mem) ⊕ (Int32 × Mem)} (h : X11_whyNotRunning Y a1 = some res) (hn : ∀ n Y1, res = .inl (n, Y1) → c3 n ≠ 0) : FW p l e (Rx 8 1) s m [.ref (ad 0 0 0), .int a1, .ref (ad 11 0 0)].toArray below meth c 4 N0 T D gr ad 0 0 (MQ below (va_Qi (fun r1 Y1 => r1 = hR c3 res ∧ Y1 = hM res) (WB T D gr ad) (fun q => N0 ≤ q)) [.ref (ad 0 0 0), .int a1, .ref (ad 11 0 0)].toArray s 1 6 (fun q => N0 ≤ q)) Y 0 [(0, .ref (ad 0 0 0)), (1, .int a1), (2, .ref (ad 11 0 0))] [] := by
  refine fw_aload_n C dL_whyNotRunning_0 rfl 2 rfl ?_
  refine fw_iconst C dL_whyNotRunning_1 (v := 0) rfl ?_
  refine fw_aload_n C dL_whyNotRunning_2 rfl 0 rfl ?_
  refine fw_iload_n C dL_whyNotRunning_3 rfl 1 rfl ?_
  rcases res with ⟨n, Y1⟩ | ⟨v, Y1⟩
  · rcases c3_inv (hn n Y1 rfl) with rfl
    · refine fw_callXVi_c C (ci := 9) (Cn := RX11) (Tc := TX11) (N := 11) (As := [.int a1]) (c_X11_whyNotRunning hl (fun q hq => hG q ((by decide : ∀ q ∈ ([(1, 0), (0, 0), (2, 0)] ++ allG), q ∈ lawG) q hq)) h) (cwV 1 (cx_ts C) gL_whyNotRunning_X11_whyNotRunning rfl rfl rfl (by decide +kernel) ⟨(Nat.le_of_ble_eq_true rfl), (Nat.le_of_ble_eq_true rfl)⟩) rfl (hG _ lawG_0) (of0_0 _) (ce0 T ad _ _) rfl (st := [.int 0, .ref (ad 11 0 0)]) rfl (Nat.le_of_ble_eq_true rfl) ⟨(Nat.le_of_ble_eq_true rfl), (Nat.le_of_ble_eq_true rfl)⟩ dL_whyNotRunning_4 [] ⟨0, 9, 12, 31⟩ [] htab (fun z hz => nomatch hz) rfl (by decide) (cx_ts C _ lk_L_whyNotRunning_31) (Nst_use' (cx_nst C) cst_3) (fun q => ?_)
      refine fw_astore_n C dL_whyNotRunning_12 rfl (by decide) rfl ?_
      refine fw_iconst C dL_whyNotRunning_13 (v := 1) rfl ?_
      exact fw_iret C hrt Y1 ⟨rfl, rfl⟩ (fun t ht => ht) dL_whyNotRunning_14
  · refine fw_callXVi_r C (ci := 9) (Cn := RX11) (Tc := TX11) (N := 11) (As := [.int a1]) (c_X11_whyNotRunning hl (fun q hq => hG q ((by decide : ∀ q ∈ ([(1, 0), (0, 0), (2, 0)] ++ allG), q ∈ lawG) q hq)) h) (cwV 1 (cx_ts C) gL_whyNotRunning_X11_whyNotRunning rfl rfl rfl (by decide +kernel) ⟨(Nat.le_of_ble_eq_true rfl), (Nat.le_of_ble_eq_true rfl)⟩) rfl (hG _ lawG_0) (of0_0 _) (ce0 T ad _ _) rfl (st := [.int 0, .ref (ad 11 0 0)]) rfl (Nat.le_of_ble_eq_true rfl) ⟨(Nat.le_of_ble_eq_true rfl), (Nat.le_of_ble_eq_true rfl)⟩ dL_whyNotRunning_4 ?_
    refine fw_i2l C dL_whyNotRunning_7 rfl ?_
    refine fw_last C (x := v) rfl (hG _ lawG_11) dL_whyNotRunning_8 ?_
    refine fw_goto C dL_whyNotRunning_9 (tgt := 15) rfl ?_
    refine fw_iconst C dL_whyNotRunning_15 (v := 0) rfl ?_
    exact fw_iret C hrt (up Y1 11 0 0 0 v) ⟨rfl, rfl⟩ (fun t ht => ht) dL_whyNotRunning_16
end
theorem c_L_whyNotRunning {l : Launch} {N0 : Nat} {T : Nat → ClassId} {D : va_G} {gr : List (Nat × Nat)} {ad : Nat → Nat → Nat → Nat} {Y : Mem} {a1 : Int32} {res : (Nat × Mem) ⊕ (Int32 × Mem)} (hl : l.stackTraces = false) (hG : ∀ q ∈ lawG, q ∈ gr) (h : X11_whyNotRunning Y a1 = some res) (hn : ∀ n Y1, res = .inl (n, Y1) → c3 n ≠ 0) : CH l yL_whyNotRunning wsL_whyNotRunning (Rx 8 1) N0 T D gr ad Y [.ref (ad 0 0 0), .int a1, .ref (ad 11 0 0)] 1 (hR c3 res) (hM res) :=
  fw_hbody (by decide +kernel) rfl (Nat.le_of_ble_eq_true rfl) (fun p e s m below meth c C hE hrt htab => w_L_whyNotRunning C hE hrt htab hl hG h hn)
theorem lk_L_blockingStep_31 : Cond.classLink RL 31 "java/lang/IndexOutOfBoundsException" ∈ wsL_blockingStep := by decide +kernel
section
variable {p : Program} {l : Launch} {e : Env} {s : State} {m : MethodId} {below : List Frame} {meth : Method} {c : Code} {N0 : Nat} {T : Nat → ClassId} {D : va_G} {gr : List (Nat × Nat)} {ad : Nat → Nat → Nat → Nat}
set_option maxHeartbeats 4000000 in
theorem w_L_blockingStep {Y : Mem} {a1 : Int32} (C : Cx p s m [.ref (ad 0 0 0), .int a1, .ref (ad 11 0 0)].toArray meth c cL_blockingStep 4 wsL_blockingStep RL N0 T D gr ad) (hE : Exw s) (hrt : meth.sig.returnType = (some .int)) (htab : c.exceptionTable.toList = tableOf [(0, 9, 12, 31)]) (hl : l.stackTraces = false) (hG : ∀ q ∈ lawG, q ∈ gr) {res : (Nat × Mem) ⊕ (Int32 × Mem)} (h : X11_blockingStep Y a1 = some res) (hn : ∀ n Y1, res = .inl (n, Y1) → c3 n ≠ 0) : FW p l e (Rx 8 1) s m [.ref (ad 0 0 0), .int a1, .ref (ad 11 0 0)].toArray below meth c 4 N0 T D gr ad 0 0 (MQ below (va_Qi (fun r1 Y1 => r1 = hR c3 res ∧ Y1 = hM res) (WB T D gr ad) (fun q => N0 ≤ q)) [.ref (ad 0 0 0), .int a1, .ref (ad 11 0 0)].toArray s 1 6 (fun q => N0 ≤ q)) Y 0 [(0, .ref (ad 0 0 0)), (1, .int a1), (2, .ref (ad 11 0 0))] [] := by
  refine fw_aload_n C dL_blockingStep_0 rfl 2 rfl ?_
  refine fw_iconst C dL_blockingStep_1 (v := 0) rfl ?_
  refine fw_aload_n C dL_blockingStep_2 rfl 0 rfl ?_
  refine fw_iload_n C dL_blockingStep_3 rfl 1 rfl ?_
  rcases res with ⟨n, Y1⟩ | ⟨v, Y1⟩
  · rcases c3_inv (hn n Y1 rfl) with rfl
    · refine fw_callXVi_c C (ci := 9) (Cn := RX11) (Tc := TX11) (N := 11) (As := [.int a1]) (c_X11_blockingStep hl (fun q hq => hG q ((by decide : ∀ q ∈ ([(1, 0), (0, 0), (2, 0)] ++ allG), q ∈ lawG) q hq)) h) (cwV 1 (cx_ts C) gL_blockingStep_X11_blockingStep rfl rfl rfl (by decide +kernel) ⟨(Nat.le_of_ble_eq_true rfl), (Nat.le_of_ble_eq_true rfl)⟩) rfl (hG _ lawG_0) (of0_0 _) (ce0 T ad _ _) rfl (st := [.int 0, .ref (ad 11 0 0)]) rfl (Nat.le_of_ble_eq_true rfl) ⟨(Nat.le_of_ble_eq_true rfl), (Nat.le_of_ble_eq_true rfl)⟩ dL_blockingStep_4 [] ⟨0, 9, 12, 31⟩ [] htab (fun z hz => nomatch hz) rfl (by decide) (cx_ts C _ lk_L_blockingStep_31) (Nst_use' (cx_nst C) cst_3) (fun q => ?_)
      refine fw_astore_n C dL_blockingStep_12 rfl (by decide) rfl ?_
      refine fw_iconst C dL_blockingStep_13 (v := 1) rfl ?_
      exact fw_iret C hrt Y1 ⟨rfl, rfl⟩ (fun t ht => ht) dL_blockingStep_14
  · refine fw_callXVi_r C (ci := 9) (Cn := RX11) (Tc := TX11) (N := 11) (As := [.int a1]) (c_X11_blockingStep hl (fun q hq => hG q ((by decide : ∀ q ∈ ([(1, 0), (0, 0), (2, 0)] ++ allG), q ∈ lawG) q hq)) h) (cwV 1 (cx_ts C) gL_blockingStep_X11_blockingStep rfl rfl rfl (by decide +kernel) ⟨(Nat.le_of_ble_eq_true rfl), (Nat.le_of_ble_eq_true rfl)⟩) rfl (hG _ lawG_0) (of0_0 _) (ce0 T ad _ _) rfl (st := [.int 0, .ref (ad 11 0 0)]) rfl (Nat.le_of_ble_eq_true rfl) ⟨(Nat.le_of_ble_eq_true rfl), (Nat.le_of_ble_eq_true rfl)⟩ dL_blockingStep_4 ?_
    refine fw_i2l C dL_blockingStep_7 rfl ?_
    refine fw_last C (x := v) rfl (hG _ lawG_11) dL_blockingStep_8 ?_
    refine fw_goto C dL_blockingStep_9 (tgt := 15) rfl ?_
    refine fw_iconst C dL_blockingStep_15 (v := 0) rfl ?_
    exact fw_iret C hrt (up Y1 11 0 0 0 v) ⟨rfl, rfl⟩ (fun t ht => ht) dL_blockingStep_16
end
theorem c_L_blockingStep {l : Launch} {N0 : Nat} {T : Nat → ClassId} {D : va_G} {gr : List (Nat × Nat)} {ad : Nat → Nat → Nat → Nat} {Y : Mem} {a1 : Int32} {res : (Nat × Mem) ⊕ (Int32 × Mem)} (hl : l.stackTraces = false) (hG : ∀ q ∈ lawG, q ∈ gr) (h : X11_blockingStep Y a1 = some res) (hn : ∀ n Y1, res = .inl (n, Y1) → c3 n ≠ 0) : CH l yL_blockingStep wsL_blockingStep (Rx 8 1) N0 T D gr ad Y [.ref (ad 0 0 0), .int a1, .ref (ad 11 0 0)] 1 (hR c3 res) (hM res) :=
  fw_hbody (by decide +kernel) rfl (Nat.le_of_ble_eq_true rfl) (fun p e s m below meth c C hE hrt htab => w_L_blockingStep C hE hrt htab hl hG h hn)
theorem lk_L_rootBlocker_31 : Cond.classLink RL 31 "java/lang/IndexOutOfBoundsException" ∈ wsL_rootBlocker := by decide +kernel
section
variable {p : Program} {l : Launch} {e : Env} {s : State} {m : MethodId} {below : List Frame} {meth : Method} {c : Code} {N0 : Nat} {T : Nat → ClassId} {D : va_G} {gr : List (Nat × Nat)} {ad : Nat → Nat → Nat → Nat}
set_option maxHeartbeats 4000000 in
theorem w_L_rootBlocker {Y : Mem} {a1 : Int32} (C : Cx p s m [.ref (ad 0 0 0), .int a1, .ref (ad 11 0 0)].toArray meth c cL_rootBlocker 4 wsL_rootBlocker RL N0 T D gr ad) (hE : Exw s) (hrt : meth.sig.returnType = (some .int)) (htab : c.exceptionTable.toList = tableOf [(0, 9, 12, 31)]) (hl : l.stackTraces = false) (hG : ∀ q ∈ lawG, q ∈ gr) {res : (Nat × Mem) ⊕ (Int32 × Mem)} (h : X11_rootBlocker Y a1 = some res) (hn : ∀ n Y1, res = .inl (n, Y1) → c3 n ≠ 0) : FW p l e (Rx 8 1) s m [.ref (ad 0 0 0), .int a1, .ref (ad 11 0 0)].toArray below meth c 4 N0 T D gr ad 0 0 (MQ below (va_Qi (fun r1 Y1 => r1 = hR c3 res ∧ Y1 = hM res) (WB T D gr ad) (fun q => N0 ≤ q)) [.ref (ad 0 0 0), .int a1, .ref (ad 11 0 0)].toArray s 1 6 (fun q => N0 ≤ q)) Y 0 [(0, .ref (ad 0 0 0)), (1, .int a1), (2, .ref (ad 11 0 0))] [] := by
  refine fw_aload_n C dL_rootBlocker_0 rfl 2 rfl ?_
  refine fw_iconst C dL_rootBlocker_1 (v := 0) rfl ?_
  refine fw_aload_n C dL_rootBlocker_2 rfl 0 rfl ?_
  refine fw_iload_n C dL_rootBlocker_3 rfl 1 rfl ?_
  rcases res with ⟨n, Y1⟩ | ⟨v, Y1⟩
  · rcases c3_inv (hn n Y1 rfl) with rfl
    · refine fw_callXVi_c C (ci := 9) (Cn := RX11) (Tc := TX11) (N := 11) (As := [.int a1]) (c_X11_rootBlocker hl (fun q hq => hG q ((by decide : ∀ q ∈ ([(1, 0), (0, 0), (2, 0)] ++ allG), q ∈ lawG) q hq)) h) (cwV 1 (cx_ts C) gL_rootBlocker_X11_rootBlocker rfl rfl rfl (by decide +kernel) ⟨(Nat.le_of_ble_eq_true rfl), (Nat.le_of_ble_eq_true rfl)⟩) rfl (hG _ lawG_0) (of0_0 _) (ce0 T ad _ _) rfl (st := [.int 0, .ref (ad 11 0 0)]) rfl (Nat.le_of_ble_eq_true rfl) ⟨(Nat.le_of_ble_eq_true rfl), (Nat.le_of_ble_eq_true rfl)⟩ dL_rootBlocker_4 [] ⟨0, 9, 12, 31⟩ [] htab (fun z hz => nomatch hz) rfl (by decide) (cx_ts C _ lk_L_rootBlocker_31) (Nst_use' (cx_nst C) cst_3) (fun q => ?_)
      refine fw_astore_n C dL_rootBlocker_12 rfl (by decide) rfl ?_
      refine fw_iconst C dL_rootBlocker_13 (v := 1) rfl ?_
      exact fw_iret C hrt Y1 ⟨rfl, rfl⟩ (fun t ht => ht) dL_rootBlocker_14
  · refine fw_callXVi_r C (ci := 9) (Cn := RX11) (Tc := TX11) (N := 11) (As := [.int a1]) (c_X11_rootBlocker hl (fun q hq => hG q ((by decide : ∀ q ∈ ([(1, 0), (0, 0), (2, 0)] ++ allG), q ∈ lawG) q hq)) h) (cwV 1 (cx_ts C) gL_rootBlocker_X11_rootBlocker rfl rfl rfl (by decide +kernel) ⟨(Nat.le_of_ble_eq_true rfl), (Nat.le_of_ble_eq_true rfl)⟩) rfl (hG _ lawG_0) (of0_0 _) (ce0 T ad _ _) rfl (st := [.int 0, .ref (ad 11 0 0)]) rfl (Nat.le_of_ble_eq_true rfl) ⟨(Nat.le_of_ble_eq_true rfl), (Nat.le_of_ble_eq_true rfl)⟩ dL_rootBlocker_4 ?_
    refine fw_i2l C dL_rootBlocker_7 rfl ?_
    refine fw_last C (x := v) rfl (hG _ lawG_11) dL_rootBlocker_8 ?_
    refine fw_goto C dL_rootBlocker_9 (tgt := 15) rfl ?_
    refine fw_iconst C dL_rootBlocker_15 (v := 0) rfl ?_
    exact fw_iret C hrt (up Y1 11 0 0 0 v) ⟨rfl, rfl⟩ (fun t ht => ht) dL_rootBlocker_16
end
theorem c_L_rootBlocker {l : Launch} {N0 : Nat} {T : Nat → ClassId} {D : va_G} {gr : List (Nat × Nat)} {ad : Nat → Nat → Nat → Nat} {Y : Mem} {a1 : Int32} {res : (Nat × Mem) ⊕ (Int32 × Mem)} (hl : l.stackTraces = false) (hG : ∀ q ∈ lawG, q ∈ gr) (h : X11_rootBlocker Y a1 = some res) (hn : ∀ n Y1, res = .inl (n, Y1) → c3 n ≠ 0) : CH l yL_rootBlocker wsL_rootBlocker (Rx 8 1) N0 T D gr ad Y [.ref (ad 0 0 0), .int a1, .ref (ad 11 0 0)] 1 (hR c3 res) (hM res) :=
  fw_hbody (by decide +kernel) rfl (Nat.le_of_ble_eq_true rfl) (fun p e s m below meth c C hE hrt htab => w_L_rootBlocker C hE hrt htab hl hG h hn)
