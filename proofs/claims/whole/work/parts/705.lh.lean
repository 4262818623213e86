theorem lk_L_slack_31 : Cond.classLink RL 31 "java/lang/IndexOutOfBoundsException" ∈ wsL_slack := by decide +kernel
section
variable {p : Program} {l : Launch} {e : Env} {s : State} {m : MethodId} {below : List Frame} {meth : Method} {c : Code} {N0 : Nat} {T : Nat → ClassId} {D : va_G} {gr : List (Nat × Nat)} {ad : Nat → Nat → Nat → Nat}
set_option maxHeartbeats 4000000 in
theorem w_L_slack {Y : Mem} {a1 : Int32} (C : Cx p s m [.ref (ad 0 0 0), .int a1, .ref (ad 11 0 0)].toArray meth c cL_slack 4 wsL_slack RL N0 T D gr ad) (hE : Exw s) (hrt : meth.sig.returnType = (some .int)) (htab : c.exceptionTable.toList = tableOf [(0, 9, 12, 31)]) (hl : l.stackTraces = false) (hG : ∀ q ∈ lawG, q ∈ gr) {res : (Nat × Mem) ⊕ (Int32 × Mem)} (h : X11_slack Y a1 = some res) (hn : ∀ n Y1, res = .inl (n, Y1) → c3 n ≠ 0) : FW p l e (Rx 8 1) s m [.ref (ad 0 0 0), .int a1, .ref (ad 11 0 0)].toArray below meth c 4 N0 T D gr ad 0 0 (MQ below (va_Qi (fun r1 Y1 => r1 = hR c3 res ∧ Y1 = hM res) (WB T D gr ad) (fun q => N0 ≤ q)) [.ref (ad 0 0 0), .int a1, .ref (ad 11 0 0)].toArray s 1 6 (fun q => N0 ≤ q)) Y 0 [(0, .ref (ad 0 0 0)), (1, .int a1), (2, .ref (ad 11 0 0))] [] := by
  refine fw_aload_n C dL_slack_0 rfl 2 rfl ?_
  refine fw_iconst C dL_slack_1 (v := 0) rfl ?_
  refine fw_aload_n C dL_slack_2 rfl 0 rfl ?_
  refine fw_iload_n C dL_slack_3 rfl 1 rfl ?_
  rcases res with ⟨n, Y1⟩ | ⟨v, Y1⟩
  · rcases c3_inv (hn n Y1 rfl) with rfl
    · refine fw_callXVi_c C (ci := 9) (Cn := RX11) (Tc := TX11) (N := 11) (As := [.int a1]) (c_X11_slack hl (fun q hq => hG q ((by decide : ∀ q ∈ ([(1, 0), (0, 0), (2, 0)] ++ allG), q ∈ lawG) q hq)) h) (cwV 1 (cx_ts C) gL_slack_X11_slack rfl rfl rfl (by decide +kernel) ⟨(Nat.le_of_ble_eq_true rfl), (Nat.le_of_ble_eq_true rfl)⟩) rfl (hG _ lawG_0) (of0_0 _) (ce0 T ad _ _) rfl (st := [.int 0, .ref (ad 11 0 0)]) rfl (Nat.le_of_ble_eq_true rfl) ⟨(Nat.le_of_ble_eq_true rfl), (Nat.le_of_ble_eq_true rfl)⟩ dL_slack_4 [] ⟨0, 9, 12, 31⟩ [] htab (fun z hz => nomatch hz) rfl (by decide) (cx_ts C _ lk_L_slack_31) (Nst_use' (cx_nst C) cst_3) (fun q => ?_)
      refine fw_astore_n C dL_slack_12 rfl (by decide) rfl ?_
      refine fw_iconst C dL_slack_13 (v := 1) rfl ?_
      exact fw_iret C hrt Y1 ⟨rfl, rfl⟩ (fun t ht => ht) dL_slack_14
  · refine fw_callXVi_r C (ci := 9) (Cn := RX11) (Tc := TX11) (N := 11) (As := [.int a1]) (c_X11_slack hl (fun q hq => hG q ((by decide : ∀ q ∈ ([(1, 0), (0, 0), (2, 0)] ++ allG), q ∈ lawG) q hq)) h) (cwV 1 (cx_ts C) gL_slack_X11_slack rfl rfl rfl (by decide +kernel) ⟨(Nat.le_of_ble_eq_true rfl), (Nat.le_of_ble_eq_true rfl)⟩) rfl (hG _ lawG_0) (of0_0 _) (ce0 T ad _ _) rfl (st := [.int 0, .ref (ad 11 0 0)]) rfl (Nat.le_of_ble_eq_true rfl) ⟨(Nat.le_of_ble_eq_true rfl), (Nat.le_of_ble_eq_true rfl)⟩ dL_slack_4 ?_
    refine fw_i2l C dL_slack_7 rfl ?_
    refine fw_last C (x := v) rfl (hG _ lawG_11) dL_slack_8 ?_
    refine fw_goto C dL_slack_9 (tgt := 15) rfl ?_
    refine fw_iconst C dL_slack_15 (v := 0) rfl ?_
    exact fw_iret C hrt (up Y1 11 0 0 0 v) ⟨rfl, rfl⟩ (fun t ht => ht) dL_slack_16
end
theorem c_L_slack {l : Launch} {N0 : Nat} {T : Nat → ClassId} {D : va_G} {gr : List (Nat × Nat)} {ad : Nat → Nat → Nat → Nat} {Y : Mem} {a1 : Int32} {res : (Nat × Mem) ⊕ (Int32 × Mem)} (hl : l.stackTraces = false) (hG : ∀ q ∈ lawG, q ∈ gr) (h : X11_slack Y a1 = some res) (hn : ∀ n Y1, res = .inl (n, Y1) → c3 n ≠ 0) : CH l yL_slack wsL_slack (Rx 8 1) N0 T D gr ad Y [.ref (ad 0 0 0), .int a1, .ref (ad 11 0 0)] 1 (hR c3 res) (hM res) :=
  fw_hbody (by decide +kernel) rfl (Nat.le_of_ble_eq_true rfl) (fun p e s m below meth c C hE hrt htab => w_L_slack C hE hrt htab hl hG h hn)
def wsLx_statusAfter : List Cond := wsL_statusAfter ++ [Cond.classLink RL 19 "java/lang/IllegalArgumentException"]
theorem lk_L_statusAfter_31 : Cond.classLink RL 31 "java/lang/IndexOutOfBoundsException" ∈ wsLx_statusAfter := by decide +kernel
theorem lk_L_statusAfter_19 : Cond.classLink RL 19 "java/lang/IllegalArgumentException" ∈ wsLx_statusAfter := by decide +kernel
section
variable {p : Program} {l : Launch} {e : Env} {s : State} {m : MethodId} {below : List Frame} {meth : Method} {c : Code} {N0 : Nat} {T : Nat → ClassId} {D : va_G} {gr : List (Nat × Nat)} {ad : Nat → Nat → Nat → Nat}
set_option maxHeartbeats 4000000 in
theorem w_L_statusAfter {Y : Mem} {a1 : Int32} {a2 : Int32} (C : Cx p s m [.ref (ad 0 0 0), .int a1, .int a2, .ref (ad 11 0 0)].toArray meth c cL_statusAfter 5 wsLx_statusAfter RL N0 T D gr ad) (hE : Exw s) (hrt : meth.sig.returnType = (some .int)) (htab : c.exceptionTable.toList = tableOf [(0, 10, 13, 31), (0, 10, 17, 19)]) (hl : l.stackTraces = false) (hG : ∀ q ∈ lawG, q ∈ gr) {res : (Nat × Mem) ⊕ (Int32 × Mem)} (h : X11_statusAfter Y a1 a2 = some res) (hn : ∀ n Y1, res = .inl (n, Y1) → c32 n ≠ 0) : FW p l e (Rx 8 2) s m [.ref (ad 0 0 0), .int a1, .int a2, .ref (ad 11 0 0)].toArray below meth c 5 N0 T D gr ad 0 0 (MQ below (va_Qi (fun r1 Y1 => r1 = hR c32 res ∧ Y1 = hM res) (WB T D gr ad) (fun q => N0 ≤ q)) [.ref (ad 0 0 0), .int a1, .int a2, .ref (ad 11 0 0)].toArray s 2 12 (fun q => N0 ≤ q)) Y 0 [(0, .ref (ad 0 0 0)), (1, .int a1), (2, .int a2), (3, .ref (ad 11 0 0))] [] := by
  refine fw_aload_n C dL_statusAfter_0 rfl 3 rfl ?_
  refine fw_iconst C dL_statusAfter_1 (v := 0) rfl ?_
  refine fw_aload_n C dL_statusAfter_2 rfl 0 rfl ?_
  refine fw_iload_n C dL_statusAfter_3 rfl 1 rfl ?_
  refine fw_iload_n C dL_statusAfter_4 rfl 2 rfl ?_
  rcases res with ⟨n, Y1⟩ | ⟨v, Y1⟩
  · rcases c32_inv (hn n Y1 rfl) with rfl | rfl
    · refine fw_callXVi_c C (ci := 9) (Cn := RX11) (Tc := TX11) (N := 11) (As := [.int a1, .int a2]) (c_X11_statusAfter hl (fun q hq => hG q ((by decide : ∀ q ∈ ([(1, 0), (0, 0), (2, 0), (2, 1), (1, 1)] ++ allG), q ∈ lawG) q hq)) h) (cwV 2 (cx_ts C) (goodIn_l gL_statusAfter_X11_statusAfter) rfl rfl rfl (by decide +kernel) ⟨(Nat.le_of_ble_eq_true rfl), (Nat.le_of_ble_eq_true rfl)⟩) rfl (hG _ lawG_0) (of0_0 _) (ce0 T ad _ _) rfl (st := [.int 0, .ref (ad 11 0 0)]) rfl (Nat.le_of_ble_eq_true rfl) ⟨(Nat.le_of_ble_eq_true rfl), (Nat.le_of_ble_eq_true rfl)⟩ dL_statusAfter_5 [] ⟨0, 10, 13, 31⟩ [⟨0, 10, 17, 19⟩] htab (fun z hz => nomatch hz) rfl (by decide) (cx_ts C _ lk_L_statusAfter_31) (Nst_use' (cx_nst C) cst_3) (fun q => ?_)
      refine fw_astore C dL_statusAfter_13 (by decide) rfl ?_
      refine fw_iconst C dL_statusAfter_15 (v := 1) rfl ?_
      exact fw_iret C hrt Y1 ⟨rfl, rfl⟩ (fun t ht => ht) dL_statusAfter_16
    · refine fw_callXVi_c C (ci := 9) (Cn := RX11) (Tc := TX11) (N := 11) (As := [.int a1, .int a2]) (c_X11_statusAfter hl (fun q hq => hG q ((by decide : ∀ q ∈ ([(1, 0), (0, 0), (2, 0), (2, 1), (1, 1)] ++ allG), q ∈ lawG) q hq)) h) (cwV 2 (cx_ts C) (goodIn_l gL_statusAfter_X11_statusAfter) rfl rfl rfl (by decide +kernel) ⟨(Nat.le_of_ble_eq_true rfl), (Nat.le_of_ble_eq_true rfl)⟩) rfl (hG _ lawG_0) (of0_0 _) (ce0 T ad _ _) rfl (st := [.int 0, .ref (ad 11 0 0)]) rfl (Nat.le_of_ble_eq_true rfl) ⟨(Nat.le_of_ble_eq_true rfl), (Nat.le_of_ble_eq_true rfl)⟩ dL_statusAfter_5 [⟨0, 10, 13, 31⟩] ⟨0, 10, 17, 19⟩ [] htab (fun z hz => by rw [List.mem_singleton.mp hz]; exact Or.inr ⟨by decide, _, cx_ts C _ lk_L_statusAfter_31, hE.1⟩) rfl (by decide) (cx_ts C _ lk_L_statusAfter_19) (Nst_use' (cx_nst C) cst_2) (fun q => ?_)
      refine fw_astore C dL_statusAfter_17 (by decide) rfl ?_
      refine fw_iconst C dL_statusAfter_19 (v := 2) rfl ?_
      exact fw_iret C hrt Y1 ⟨rfl, rfl⟩ (fun t ht => ht) dL_statusAfter_20
  · refine fw_callXVi_r C (ci := 9) (Cn := RX11) (Tc := TX11) (N := 11) (As := [.int a1, .int a2]) (c_X11_statusAfter hl (fun q hq => hG q ((by decide : ∀ q ∈ ([(1, 0), (0, 0), (2, 0), (2, 1), (1, 1)] ++ allG), q ∈ lawG) q hq)) h) (cwV 2 (cx_ts C) (goodIn_l gL_statusAfter_X11_statusAfter) rfl rfl rfl (by decide +kernel) ⟨(Nat.le_of_ble_eq_true rfl), (Nat.le_of_ble_eq_true rfl)⟩) rfl (hG _ lawG_0) (of0_0 _) (ce0 T ad _ _) rfl (st := [.int 0, .ref (ad 11 0 0)]) rfl (Nat.le_of_ble_eq_true rfl) ⟨(Nat.le_of_ble_eq_true rfl), (Nat.le_of_ble_eq_true rfl)⟩ dL_statusAfter_5 ?_
    refine fw_i2l C dL_statusAfter_8 rfl ?_
    refine fw_last C (x := v) rfl (hG _ lawG_11) dL_statusAfter_9 ?_
    refine fw_goto C dL_statusAfter_10 (tgt := 21) rfl ?_
    refine fw_iconst C dL_statusAfter_21 (v := 0) rfl ?_
    exact fw_iret C hrt (up Y1 11 0 0 0 v) ⟨rfl, rfl⟩ (fun t ht => ht) dL_statusAfter_22
end
theorem c_L_statusAfter {l : Launch} {N0 : Nat} {T : Nat → ClassId} {D : va_G} {gr : List (Nat × Nat)} {ad : Nat → Nat → Nat → Nat} {Y : Mem} {a1 : Int32} {a2 : Int32} {res : (Nat × Mem) ⊕ (Int32 × Mem)} (hl : l.stackTraces = false) (hG : ∀ q ∈ lawG, q ∈ gr) (h : X11_statusAfter Y a1 a2 = some res) (hn : ∀ n Y1, res = .inl (n, Y1) → c32 n ≠ 0) : CH l yL_statusAfter wsLx_statusAfter (Rx 8 2) N0 T D gr ad Y [.ref (ad 0 0 0), .int a1, .int a2, .ref (ad 11 0 0)] 2 (hR c32 res) (hM res) :=
  fw_hbody (by decide +kernel) rfl (Nat.le_of_ble_eq_true rfl) (fun p e s m below meth c C hE hrt htab => w_L_statusAfter C hE hrt htab hl hG h hn)
theorem lk_L_minutesToBurn_31 : Cond.classLink RL 31 "java/lang/IndexOutOfBoundsException" ∈ wsL_minutesToBurn := by decide +kernel
section
variable {p : Program} {l : Launch} {e : Env} {s : State} {m : MethodId} {below : List Frame} {meth : Method} {c : Code} {N0 : Nat} {T : Nat → ClassId} {D : va_G} {gr : List (Nat × Nat)} {ad : Nat → Nat → Nat → Nat}
set_option maxHeartbeats 4000000 in
theorem w_L_minutesToBurn {Y : Mem} {a1 : Int32} (C : Cx p s m [.ref (ad 0 0 0), .int a1, .ref (ad 11 0 0)].toArray meth c cL_minutesToBurn 4 wsL_minutesToBurn RL N0 T D gr ad) (hE : Exw s) (hrt : meth.sig.returnType = (some .int)) (htab : c.exceptionTable.toList = tableOf [(0, 9, 12, 31)]) (hl : l.stackTraces = false) (hG : ∀ q ∈ lawG, q ∈ gr) {res : (Nat × Mem) ⊕ (Int32 × Mem)} (h : X11_minutesToBurn Y a1 = some res) (hn : ∀ n Y1, res = .inl (n, Y1) → c3 n ≠ 0) : FW p l e (Rx 8 1) s m [.ref (ad 0 0 0), .int a1, .ref (ad 11 0 0)].toArray below meth c 4 N0 T D gr ad 0 0 (MQ below (va_Qi (fun r1 Y1 => r1 = hR c3 res ∧ Y1 = hM res) (WB T D gr ad) (fun q => N0 ≤ q)) [.ref (ad 0 0 0), .int a1, .ref (ad 11 0 0)].toArray s 1 6 (fun q => N0 ≤ q)) Y 0 [(0, .ref (ad 0 0 0)), (1, .int a1), (2, .ref (ad 11 0 0))] [] := by
  refine fw_aload_n C dL_minutesToBurn_0 rfl 2 rfl ?_
  refine fw_iconst C dL_minutesToBurn_1 (v := 0) rfl ?_
  refine fw_aload_n C dL_minutesToBurn_2 rfl 0 rfl ?_
  refine fw_iload_n C dL_minutesToBurn_3 rfl 1 rfl ?_
  rcases res with ⟨n, Y1⟩ | ⟨v, Y1⟩
  · rcases c3_inv (hn n Y1 rfl) with rfl
    · refine fw_callXVi_c C (ci := 9) (Cn := RX11) (Tc := TX11) (N := 11) (As := [.int a1]) (c_X11_minutesToBurn hl (fun q hq => hG q ((by decide : ∀ q ∈ ([(1, 0), (0, 0), (2, 0), (2, 1), (1, 1)] ++ allG), q ∈ lawG) q hq)) h) (cwV 1 (cx_ts C) gL_minutesToBurn_X11_minutesToBurn rfl rfl rfl (by decide +kernel) ⟨(Nat.le_of_ble_eq_true rfl), (Nat.le_of_ble_eq_true rfl)⟩) rfl (hG _ lawG_0) (of0_0 _) (ce0 T ad _ _) rfl (st := [.int 0, .ref (ad 11 0 0)]) rfl (Nat.le_of_ble_eq_true rfl) ⟨(Nat.le_of_ble_eq_true rfl), (Nat.le_of_ble_eq_true rfl)⟩ dL_minutesToBurn_4 [] ⟨0, 9, 12, 31⟩ [] htab (fun z hz => nomatch hz) rfl (by decide) (cx_ts C _ lk_L_minutesToBurn_31) (Nst_use' (cx_nst C) cst_3) (fun q => ?_)
      refine fw_astore_n C dL_minutesToBurn_12 rfl (by decide) rfl ?_
      refine fw_iconst C dL_minutesToBurn_13 (v := 1) rfl ?_
      exact fw_iret C hrt Y1 ⟨rfl, rfl⟩ (fun t ht => ht) dL_minutesToBurn_14
  · refine fw_callXVi_r C (ci := 9) (Cn := RX11) (Tc := TX11) (N := 11) (As := [.int a1]) (c_X11_minutesToBurn hl (fun q hq => hG q ((by decide : ∀ q ∈ ([(1, 0), (0, 0), (2, 0), (2, 1), (1, 1)] ++ allG), q ∈ lawG) q hq)) h) (cwV 1 (cx_ts C) gL_minutesToBurn_X11_minutesToBurn rfl rfl rfl (by decide +kernel) ⟨(Nat.le_of_ble_eq_true rfl), (Nat.le_of_ble_eq_true rfl)⟩) rfl (hG _ lawG_0) (of0_0 _) (ce0 T ad _ _) rfl (st := [.int 0, .ref (ad 11 0 0)]) rfl (Nat.le_of_ble_eq_true rfl) ⟨(Nat.le_of_ble_eq_true rfl), (Nat.le_of_ble_eq_true rfl)⟩ dL_minutesToBurn_4 ?_
    refine fw_i2l C dL_minutesToBurn_7 rfl ?_
    refine fw_last C (x := v) rfl (hG _ lawG_11) dL_minutesToBurn_8 ?_
    refine fw_goto C dL_minutesToBurn_9 (tgt := 15) rfl ?_
    refine fw_iconst C dL_minutesToBurn_15 (v := 0) rfl ?_
    exact fw_iret C hrt (up Y1 11 0 0 0 v) ⟨rfl, rfl⟩ (fun t ht => ht) dL_minutesToBurn_16
end
theorem c_L_minutesToBurn {l : Launch} {N0 : Nat} {T : Nat → ClassId} {D : va_G} {gr : List (Nat × Nat)} {ad : Nat → Nat → Nat → Nat} {Y : Mem} {a1 : Int32} {res : (Nat × Mem) ⊕ (Int32 × Mem)} (hl : l.stackTraces = false) (hG : ∀ q ∈ lawG, q ∈ gr) (h : X11_minutesToBurn Y a1 = some res) (hn : ∀ n Y1, res = .inl (n, Y1) → c3 n ≠ 0) : CH l yL_minutesToBurn wsL_minutesToBurn (Rx 8 1) N0 T D gr ad Y [.ref (ad 0 0 0), .int a1, .ref (ad 11 0 0)] 1 (hR c3 res) (hM res) :=
  fw_hbody (by decide +kernel) rfl (Nat.le_of_ble_eq_true rfl) (fun p e s m below meth c C hE hrt htab => w_L_minutesToBurn C hE hrt htab hl hG h hn)
theorem lk_L_minutesWithCooks_19 : Cond.classLink RL 19 "java/lang/IllegalArgumentException" ∈ wsL_minutesWithCooks := by decide +kernel
section
variable {p : Program} {l : Launch} {e : Env} {s : State} {m : MethodId} {below : List Frame} {meth : Method} {c : Code} {N0 : Nat} {T : Nat → ClassId} {D : va_G} {gr : List (Nat × Nat)} {ad : Nat → Nat → Nat → Nat}
set_option maxHeartbeats 4000000 in
theorem w_L_minutesWithCooks {Y : Mem} {a1 : Int32} (C : Cx p s m [.ref (ad 0 0 0), .int a1, .ref (ad 11 0 0)].toArray meth c cL_minutesWithCooks 4 wsL_minutesWithCooks RL N0 T D gr ad) (hE : Exw s) (hrt : meth.sig.returnType = (some .int)) (htab : c.exceptionTable.toList = tableOf [(0, 9, 12, 19)]) (hl : l.stackTraces = false) (hG : ∀ q ∈ lawG, q ∈ gr) {res : (Nat × Mem) ⊕ (Int32 × Mem)} (h : X11_minutesWithCooks Y a1 = some res) (hn : ∀ n Y1, res = .inl (n, Y1) → c2_ n ≠ 0) : FW p l e (Rx 8 1) s m [.ref (ad 0 0 0), .int a1, .ref (ad 11 0 0)].toArray below meth c 4 N0 T D gr ad 0 0 (MQ below (va_Qi (fun r1 Y1 => r1 = hR c2_ res ∧ Y1 = hM res) (WB T D gr ad) (fun q => N0 ≤ q)) [.ref (ad 0 0 0), .int a1, .ref (ad 11 0 0)].toArray s 1 6 (fun q => N0 ≤ q)) Y 0 [(0, .ref (ad 0 0 0)), (1, .int a1), (2, .ref (ad 11 0 0))] [] := by
  refine fw_aload_n C dL_minutesWithCooks_0 rfl 2 rfl ?_
  refine fw_iconst C dL_minutesWithCooks_1 (v := 0) rfl ?_
  refine fw_aload_n C dL_minutesWithCooks_2 rfl 0 rfl ?_
  refine fw_iload_n C dL_minutesWithCooks_3 rfl 1 rfl ?_
  rcases res with ⟨n, Y1⟩ | ⟨v, Y1⟩
  · rcases c2__inv (hn n Y1 rfl) with rfl
    · refine fw_callXVi_c C (ci := 9) (Cn := RX11) (Tc := TX11) (N := 11) (As := [.int a1]) (c_X11_minutesWithCooks hl (fun q hq => hG q ((by decide : ∀ q ∈ ([(0, 0), (1, 0), (1, 1), (2, 1), (2, 0)] ++ allG), q ∈ lawG) q hq)) h) (cwV 1 (cx_ts C) gL_minutesWithCooks_X11_minutesWithCooks rfl rfl rfl (by decide +kernel) ⟨(Nat.le_of_ble_eq_true rfl), (Nat.le_of_ble_eq_true rfl)⟩) rfl (hG _ lawG_0) (of0_0 _) (ce0 T ad _ _) rfl (st := [.int 0, .ref (ad 11 0 0)]) rfl (Nat.le_of_ble_eq_true rfl) ⟨(Nat.le_of_ble_eq_true rfl), (Nat.le_of_ble_eq_true rfl)⟩ dL_minutesWithCooks_4 [] ⟨0, 9, 12, 19⟩ [] htab (fun z hz => nomatch hz) rfl (by decide) (cx_ts C _ lk_L_minutesWithCooks_19) (Nst_use' (cx_nst C) cst_2) (fun q => ?_)
      refine fw_astore_n C dL_minutesWithCooks_12 rfl (by decide) rfl ?_
      refine fw_iconst C dL_minutesWithCooks_13 (v := 1) rfl ?_
      exact fw_iret C hrt Y1 ⟨rfl, rfl⟩ (fun t ht => ht) dL_minutesWithCooks_14
  · refine fw_callXVi_r C (ci := 9) (Cn := RX11) (Tc := TX11) (N := 11) (As := [.int a1]) (c_X11_minutesWithCooks hl (fun q hq => hG q ((by decide : ∀ q ∈ ([(0, 0), (1, 0), (1, 1), (2, 1), (2, 0)] ++ allG), q ∈ lawG) q hq)) h) (cwV 1 (cx_ts C) gL_minutesWithCooks_X11_minutesWithCooks rfl rfl rfl (by decide +kernel) ⟨(Nat.le_of_ble_eq_true rfl), (Nat.le_of_ble_eq_true rfl)⟩) rfl (hG _ lawG_0) (of0_0 _) (ce0 T ad _ _) rfl (st := [.int 0, .ref (ad 11 0 0)]) rfl (Nat.le_of_ble_eq_true rfl) ⟨(Nat.le_of_ble_eq_true rfl), (Nat.le_of_ble_eq_true rfl)⟩ dL_minutesWithCooks_4 ?_
    refine fw_i2l C dL_minutesWithCooks_7 rfl ?_
    refine fw_last C (x := v) rfl (hG _ lawG_11) dL_minutesWithCooks_8 ?_
    refine fw_goto C dL_minutesWithCooks_9 (tgt := 15) rfl ?_
    refine fw_iconst C dL_minutesWithCooks_15 (v := 0) rfl ?_
    exact fw_iret C hrt (up Y1 11 0 0 0 v) ⟨rfl, rfl⟩ (fun t ht => ht) dL_minutesWithCooks_16
end
theorem c_L_minutesWithCooks {l : Launch} {N0 : Nat} {T : Nat → ClassId} {D : va_G} {gr : List (Nat × Nat)} {ad : Nat → Nat → Nat → Nat} {Y : Mem} {a1 : Int32} {res : (Nat × Mem) ⊕ (Int32 × Mem)} (hl : l.stackTraces = false) (hG : ∀ q ∈ lawG, q ∈ gr) (h : X11_minutesWithCooks Y a1 = some res) (hn : ∀ n Y1, res = .inl (n, Y1) → c2_ n ≠ 0) : CH l yL_minutesWithCooks wsL_minutesWithCooks (Rx 8 1) N0 T D gr ad Y [.ref (ad 0 0 0), .int a1, .ref (ad 11 0 0)] 1 (hR c2_ res) (hM res) :=
  fw_hbody (by decide +kernel) rfl (Nat.le_of_ble_eq_true rfl) (fun p e s m below meth c C hE hrt htab => w_L_minutesWithCooks C hE hrt htab hl hG h hn)
def wsLx_pass : List Cond := wsL_pass ++ [Cond.classLink RL 13 "java/lang/IllegalStateException"]
theorem lk_L_pass_19 : Cond.classLink RL 19 "java/lang/IllegalArgumentException" ∈ wsLx_pass := by decide +kernel
theorem lk_L_pass_13 : Cond.classLink RL 13 "java/lang/IllegalStateException" ∈ wsLx_pass := by decide +kernel
section
variable {p : Program} {l : Launch} {e : Env} {s : State} {m : MethodId} {below : List Frame} {meth : Method} {c : Code} {N0 : Nat} {T : Nat → ClassId} {D : va_G} {gr : List (Nat × Nat)} {ad : Nat → Nat → Nat → Nat}
set_option maxHeartbeats 4000000 in
theorem w_L_pass {Y : Mem} {a1 : Int32} (C : Cx p s m [.ref (ad 0 0 0), .int a1, .ref (ad 11 0 0)].toArray meth c cL_pass 4 wsLx_pass RL N0 T D gr ad) (hE : Exw s) (hrt : meth.sig.returnType = (some .int)) (htab : c.exceptionTable.toList = tableOf [(0, 9, 12, 19), (0, 9, 15, 13)]) (hl : l.stackTraces = false) (hG : ∀ q ∈ lawG, q ∈ gr) {res : (Nat × Mem) ⊕ (Int32 × Mem)} (h : X11_pass Y a1 = some res) (hn : ∀ n Y1, res = .inl (n, Y1) → c21 n ≠ 0) : FW p l e (Rx 7 1) s m [.ref (ad 0 0 0), .int a1, .ref (ad 11 0 0)].toArray below meth c 4 N0 T D gr ad 0 0 (MQ below (va_Qi (fun r1 Y1 => r1 = hR c21 res ∧ Y1 = hM res) (WB T D gr ad) (fun q => N0 ≤ q)) [.ref (ad 0 0 0), .int a1, .ref (ad 11 0 0)].toArray s 1 6 (fun q => N0 ≤ q)) Y 0 [(0, .ref (ad 0 0 0)), (1, .int a1), (2, .ref (ad 11 0 0))] [] := by
  refine fw_aload_n C dL_pass_0 rfl 2 rfl ?_
  refine fw_iconst C dL_pass_1 (v := 0) rfl ?_
  refine fw_aload_n C dL_pass_2 rfl 0 rfl ?_
  refine fw_iload_n C dL_pass_3 rfl 1 rfl ?_
  rcases res with ⟨n, Y1⟩ | ⟨v, Y1⟩
  · rcases c21_inv (hn n Y1 rfl) with rfl | rfl
    · refine fw_callXVi_c C (ci := 9) (Cn := RX11) (Tc := TX11) (N := 11) (As := [.int a1]) (c_X11_pass hl (fun q hq => hG q ((by decide : ∀ q ∈ ([(0, 0), (2, 0), (1, 0), (9, 0)] ++ allG), q ∈ lawG) q hq)) h) (cwV 1 (cx_ts C) (goodIn_l gL_pass_X11_pass) rfl rfl rfl (by decide +kernel) ⟨(Nat.le_of_ble_eq_true rfl), (Nat.le_of_ble_eq_true rfl)⟩) rfl (hG _ lawG_0) (of0_0 _) (ce0 T ad _ _) rfl (st := [.int 0, .ref (ad 11 0 0)]) rfl (Nat.le_of_ble_eq_true rfl) ⟨(Nat.le_of_ble_eq_true rfl), (Nat.le_of_ble_eq_true rfl)⟩ dL_pass_4 [] ⟨0, 9, 12, 19⟩ [⟨0, 9, 15, 13⟩] htab (fun z hz => nomatch hz) rfl (by decide) (cx_ts C _ lk_L_pass_19) (Nst_use' (cx_nst C) cst_2) (fun q => ?_)
      refine fw_astore_n C dL_pass_12 rfl (by decide) rfl ?_
      refine fw_iconst C dL_pass_13 (v := 1) rfl ?_
      exact fw_iret C hrt Y1 ⟨rfl, rfl⟩ (fun t ht => ht) dL_pass_14
    · refine fw_callXVi_c C (ci := 9) (Cn := RX11) (Tc := TX11) (N := 11) (As := [.int a1]) (c_X11_pass hl (fun q hq => hG q ((by decide : ∀ q ∈ ([(0, 0), (2, 0), (1, 0), (9, 0)] ++ allG), q ∈ lawG) q hq)) h) (cwV 1 (cx_ts C) (goodIn_l gL_pass_X11_pass) rfl rfl rfl (by decide +kernel) ⟨(Nat.le_of_ble_eq_true rfl), (Nat.le_of_ble_eq_true rfl)⟩) rfl (hG _ lawG_0) (of0_0 _) (ce0 T ad _ _) rfl (st := [.int 0, .ref (ad 11 0 0)]) rfl (Nat.le_of_ble_eq_true rfl) ⟨(Nat.le_of_ble_eq_true rfl), (Nat.le_of_ble_eq_true rfl)⟩ dL_pass_4 [⟨0, 9, 12, 19⟩] ⟨0, 9, 15, 13⟩ [] htab (fun z hz => by rw [List.mem_singleton.mp hz]; exact Or.inr ⟨by decide, _, cx_ts C _ lk_L_pass_19, hE.2.1⟩) rfl (by decide) (cx_ts C _ lk_L_pass_13) (Nst_use' (cx_nst C) cst_1) (fun q => ?_)
      refine fw_astore_n C dL_pass_15 rfl (by decide) rfl ?_
      refine fw_iconst C dL_pass_16 (v := 2) rfl ?_
      exact fw_iret C hrt Y1 ⟨rfl, rfl⟩ (fun t ht => ht) dL_pass_17
  · refine fw_callXVi_r C (ci := 9) (Cn := RX11) (Tc := TX11) (N := 11) (As := [.int a1]) (c_X11_pass hl (fun q hq => hG q ((by decide : ∀ q ∈ ([(0, 0), (2, 0), (1, 0), (9, 0)] ++ allG), q ∈ lawG) q hq)) h) (cwV 1 (cx_ts C) (goodIn_l gL_pass_X11_pass) rfl rfl rfl (by decide +kernel) ⟨(Nat.le_of_ble_eq_true rfl), (Nat.le_of_ble_eq_true rfl)⟩) rfl (hG _ lawG_0) (of0_0 _) (ce0 T ad _ _) rfl (st := [.int 0, .ref (ad 11 0 0)]) rfl (Nat.le_of_ble_eq_true rfl) ⟨(Nat.le_of_ble_eq_true rfl), (Nat.le_of_ble_eq_true rfl)⟩ dL_pass_4 ?_
    refine fw_i2l C dL_pass_7 rfl ?_
    refine fw_last C (x := v) rfl (hG _ lawG_11) dL_pass_8 ?_
    refine fw_goto C dL_pass_9 (tgt := 18) rfl ?_
    refine fw_iconst C dL_pass_18 (v := 0) rfl ?_
    exact fw_iret C hrt (up Y1 11 0 0 0 v) ⟨rfl, rfl⟩ (fun t ht => ht) dL_pass_19
end
theorem c_L_pass {l : Launch} {N0 : Nat} {T : Nat → ClassId} {D : va_G} {gr : List (Nat × Nat)} {ad : Nat → Nat → Nat → Nat} {Y : Mem} {a1 : Int32} {res : (Nat × Mem) ⊕ (Int32 × Mem)} (hl : l.stackTraces = false) (hG : ∀ q ∈ lawG, q ∈ gr) (h : X11_pass Y a1 = some res) (hn : ∀ n Y1, res = .inl (n, Y1) → c21 n ≠ 0) : CH l yL_pass wsLx_pass (Rx 7 1) N0 T D gr ad Y [.ref (ad 0 0 0), .int a1, .ref (ad 11 0 0)] 1 (hR c21 res) (hM res) :=
  fw_hbody (by decide +kernel) rfl (Nat.le_of_ble_eq_true rfl) (fun p e s m below meth c C hE hrt htab => w_L_pass C hE hrt htab hl hG h hn)
def wsLx_addSalt : List Cond := wsL_addSalt ++ [Cond.classLink RL 13 "java/lang/IllegalStateException"]
theorem lk_L_addSalt_19 : Cond.classLink RL 19 "java/lang/IllegalArgumentException" ∈ wsLx_addSalt := by decide +kernel
theorem lk_L_addSalt_13 : Cond.classLink RL 13 "java/lang/IllegalStateException" ∈ wsLx_addSalt := by decide +kernel
section
variable {p : Program} {l : Launch} {e : Env} {s : State} {m : MethodId} {below : List Frame} {meth : Method} {c : Code} {N0 : Nat} {T : Nat → ClassId} {D : va_G} {gr : List (Nat × Nat)} {ad : Nat → Nat → Nat → Nat}
set_option maxHeartbeats 4000000 in
theorem w_L_addSalt {Y : Mem} {a1 : Int32} (C : Cx p s m [.ref (ad 0 0 0), .int a1, .ref (ad 11 0 0)].toArray meth c cL_addSalt 4 wsLx_addSalt RL N0 T D gr ad) (hE : Exw s) (hrt : meth.sig.returnType = (some .int)) (htab : c.exceptionTable.toList = tableOf [(0, 9, 12, 19), (0, 9, 15, 13)]) (hl : l.stackTraces = false) (hG : ∀ q ∈ lawG, q ∈ gr) {res : (Nat × Mem) ⊕ (Int32 × Mem)} (h : X11_addSalt Y a1 = some res) (hn : ∀ n Y1, res = .inl (n, Y1) → c21 n ≠ 0) : FW p l e (Rx 7 1) s m [.ref (ad 0 0 0), .int a1, .ref (ad 11 0 0)].toArray below meth c 4 N0 T D gr ad 0 0 (MQ below (va_Qi (fun r1 Y1 => r1 = hR c21 res ∧ Y1 = hM res) (WB T D gr ad) (fun q => N0 ≤ q)) [.ref (ad 0 0 0), .int a1, .ref (ad 11 0 0)].toArray s 1 6 (fun q => N0 ≤ q)) Y 0 [(0, .ref (ad 0 0 0)), (1, .int a1), (2, .ref (ad 11 0 0))] [] := by
  refine fw_aload_n C dL_addSalt_0 rfl 2 rfl ?_
  refine fw_iconst C dL_addSalt_1 (v := 0) rfl ?_
  refine fw_aload_n C dL_addSalt_2 rfl 0 rfl ?_
  refine fw_iload_n C dL_addSalt_3 rfl 1 rfl ?_
  rcases res with ⟨n, Y1⟩ | ⟨v, Y1⟩
  · rcases c21_inv (hn n Y1 rfl) with rfl | rfl
    · refine fw_callXVi_c C (ci := 9) (Cn := RX11) (Tc := TX11) (N := 11) (As := [.int a1]) (c_X11_addSalt hl (fun q hq => hG q ((by decide : ∀ q ∈ ([(0, 0), (1, 0), (2, 0), (9, 0)] ++ allG), q ∈ lawG) q hq)) h) (cwV 1 (cx_ts C) (goodIn_l gL_addSalt_X11_addSalt) rfl rfl rfl (by decide +kernel) ⟨(Nat.le_of_ble_eq_true rfl), (Nat.le_of_ble_eq_true rfl)⟩) rfl (hG _ lawG_0) (of0_0 _) (ce0 T ad _ _) rfl (st := [.int 0, .ref (ad 11 0 0)]) rfl (Nat.le_of_ble_eq_true rfl) ⟨(Nat.le_of_ble_eq_true rfl), (Nat.le_of_ble_eq_true rfl)⟩ dL_addSalt_4 [] ⟨0, 9, 12, 19⟩ [⟨0, 9, 15, 13⟩] htab (fun z hz => nomatch hz) rfl (by decide) (cx_ts C _ lk_L_addSalt_19) (Nst_use' (cx_nst C) cst_2) (fun q => ?_)
      refine fw_astore_n C dL_addSalt_12 rfl (by decide) rfl ?_
      refine fw_iconst C dL_addSalt_13 (v := 1) rfl ?_
      exact fw_iret C hrt Y1 ⟨rfl, rfl⟩ (fun t ht => ht) dL_addSalt_14
    · refine fw_callXVi_c C (ci := 9) (Cn := RX11) (Tc := TX11) (N := 11) (As := [.int a1]) (c_X11_addSalt hl (fun q hq => hG q ((by decide : ∀ q ∈ ([(0, 0), (1, 0), (2, 0), (9, 0)] ++ allG), q ∈ lawG) q hq)) h) (cwV 1 (cx_ts C) (goodIn_l gL_addSalt_X11_addSalt) rfl rfl rfl (by decide +kernel) ⟨(Nat.le_of_ble_eq_true rfl), (Nat.le_of_ble_eq_true rfl)⟩) rfl (hG _ lawG_0) (of0_0 _) (ce0 T ad _ _) rfl (st := [.int 0, .ref (ad 11 0 0)]) rfl (Nat.le_of_ble_eq_true rfl) ⟨(Nat.le_of_ble_eq_true rfl), (Nat.le_of_ble_eq_true rfl)⟩ dL_addSalt_4 [⟨0, 9, 12, 19⟩] ⟨0, 9, 15, 13⟩ [] htab (fun z hz => by rw [List.mem_singleton.mp hz]; exact Or.inr ⟨by decide, _, cx_ts C _ lk_L_addSalt_19, hE.2.1⟩) rfl (by decide) (cx_ts C _ lk_L_addSalt_13) (Nst_use' (cx_nst C) cst_1) (fun q => ?_)
      refine fw_astore_n C dL_addSalt_15 rfl (by decide) rfl ?_
      refine fw_iconst C dL_addSalt_16 (v := 2) rfl ?_
      exact fw_iret C hrt Y1 ⟨rfl, rfl⟩ (fun t ht => ht) dL_addSalt_17
  · refine fw_callXVi_r C (ci := 9) (Cn := RX11) (Tc := TX11) (N := 11) (As := [.int a1]) (c_X11_addSalt hl (fun q hq => hG q ((by decide : ∀ q ∈ ([(0, 0), (1, 0), (2, 0), (9, 0)] ++ allG), q ∈ lawG) q hq)) h) (cwV 1 (cx_ts C) (goodIn_l gL_addSalt_X11_addSalt) rfl rfl rfl (by decide +kernel) ⟨(Nat.le_of_ble_eq_true rfl), (Nat.le_of_ble_eq_true rfl)⟩) rfl (hG _ lawG_0) (of0_0 _) (ce0 T ad _ _) rfl (st := [.int 0, .ref (ad 11 0 0)]) rfl (Nat.le_of_ble_eq_true rfl) ⟨(Nat.le_of_ble_eq_true rfl), (Nat.le_of_ble_eq_true rfl)⟩ dL_addSalt_4 ?_
    refine fw_i2l C dL_addSalt_7 rfl ?_
    refine fw_last C (x := v) rfl (hG _ lawG_11) dL_addSalt_8 ?_
    refine fw_goto C dL_addSalt_9 (tgt := 18) rfl ?_
    refine fw_iconst C dL_addSalt_18 (v := 0) rfl ?_
    exact fw_iret C hrt (up Y1 11 0 0 0 v) ⟨rfl, rfl⟩ (fun t ht => ht) dL_addSalt_19
end
theorem c_L_addSalt {l : Launch} {N0 : Nat} {T : Nat → ClassId} {D : va_G} {gr : List (Nat × Nat)} {ad : Nat → Nat → Nat → Nat} {Y : Mem} {a1 : Int32} {res : (Nat × Mem) ⊕ (Int32 × Mem)} (hl : l.stackTraces = false) (hG : ∀ q ∈ lawG, q ∈ gr) (h : X11_addSalt Y a1 = some res) (hn : ∀ n Y1, res = .inl (n, Y1) → c21 n ≠ 0) : CH l yL_addSalt wsLx_addSalt (Rx 7 1) N0 T D gr ad Y [.ref (ad 0 0 0), .int a1, .ref (ad 11 0 0)] 1 (hR c21 res) (hM res) :=
  fw_hbody (by decide +kernel) rfl (Nat.le_of_ble_eq_true rfl) (fun p e s m below meth c C hE hrt htab => w_L_addSalt C hE hrt htab hl hG h hn)
def wsLx_stop : List Cond := wsL_stop ++ [Cond.classLink RL 13 "java/lang/IllegalStateException"]
theorem lk_L_stop_31 : Cond.classLink RL 31 "java/lang/IndexOutOfBoundsException" ∈ wsLx_stop := by decide +kernel
theorem lk_L_stop_13 : Cond.classLink RL 13 "java/lang/IllegalStateException" ∈ wsLx_stop := by decide +kernel
section
variable {p : Program} {l : Launch} {e : Env} {s : State} {m : MethodId} {below : List Frame} {meth : Method} {c : Code} {N0 : Nat} {T : Nat → ClassId} {D : va_G} {gr : List (Nat × Nat)} {ad : Nat → Nat → Nat → Nat}
set_option maxHeartbeats 4000000 in
theorem w_L_stop {Y : Mem} {a1 : Int32} (C : Cx p s m [.ref (ad 0 0 0), .int a1, .ref (ad 11 0 0)].toArray meth c cL_stop 4 wsLx_stop RL N0 T D gr ad) (hE : Exw s) (hrt : meth.sig.returnType = (some .int)) (htab : c.exceptionTable.toList = tableOf [(0, 9, 12, 31), (0, 9, 15, 13)]) (hl : l.stackTraces = false) (hG : ∀ q ∈ lawG, q ∈ gr) {res : (Nat × Mem) ⊕ (Int32 × Mem)} (h : X11_stop Y a1 = some res) (hn : ∀ n Y1, res = .inl (n, Y1) → c31 n ≠ 0) : FW p l e (Rx 8 2) s m [.ref (ad 0 0 0), .int a1, .ref (ad 11 0 0)].toArray below meth c 4 N0 T D gr ad 0 0 (MQ below (va_Qi (fun r1 Y1 => r1 = hR c31 res ∧ Y1 = hM res) (WB T D gr ad) (fun q => N0 ≤ q)) [.ref (ad 0 0 0), .int a1, .ref (ad 11 0 0)].toArray s 2 12 (fun q => N0 ≤ q)) Y 0 [(0, .ref (ad 0 0 0)), (1, .int a1), (2, .ref (ad 11 0 0))] [] := by
  refine fw_aload_n C dL_stop_0 rfl 2 rfl ?_
  refine fw_iconst C dL_stop_1 (v := 0) rfl ?_
  refine fw_aload_n C dL_stop_2 rfl 0 rfl ?_
  refine fw_iload_n C dL_stop_3 rfl 1 rfl ?_
  rcases res with ⟨n, Y1⟩ | ⟨v, Y1⟩
  · rcases c31_inv (hn n Y1 rfl) with rfl | rfl
    · refine fw_callXVi_c C (ci := 9) (Cn := RX11) (Tc := TX11) (N := 11) (As := [.int a1]) (c_X11_stop hl (fun q hq => hG q ((by decide : ∀ q ∈ ([(1, 0), (0, 0), (2, 0), (9, 0)] ++ allG), q ∈ lawG) q hq)) h) (cwV 1 (cx_ts C) (goodIn_l gL_stop_X11_stop) rfl rfl rfl (by decide +kernel) ⟨(Nat.le_of_ble_eq_true rfl), (Nat.le_of_ble_eq_true rfl)⟩) rfl (hG _ lawG_0) (of0_0 _) (ce0 T ad _ _) rfl (st := [.int 0, .ref (ad 11 0 0)]) rfl (Nat.le_of_ble_eq_true rfl) ⟨(Nat.le_of_ble_eq_true rfl), (Nat.le_of_ble_eq_true rfl)⟩ dL_stop_4 [] ⟨0, 9, 12, 31⟩ [⟨0, 9, 15, 13⟩] htab (fun z hz => nomatch hz) rfl (by decide) (cx_ts C _ lk_L_stop_31) (Nst_use' (cx_nst C) cst_3) (fun q => ?_)
      refine fw_astore_n C dL_stop_12 rfl (by decide) rfl ?_
      refine fw_iconst C dL_stop_13 (v := 1) rfl ?_
      exact fw_iret C hrt Y1 ⟨rfl, rfl⟩ (fun t ht => ht) dL_stop_14
    · refine fw_callXVi_c C (ci := 9) (Cn := RX11) (Tc := TX11) (N := 11) (As := [.int a1]) (c_X11_stop hl (fun q hq => hG q ((by decide : ∀ q ∈ ([(1, 0), (0, 0), (2, 0), (9, 0)] ++ allG), q ∈ lawG) q hq)) h) (cwV 1 (cx_ts C) (goodIn_l gL_stop_X11_stop) rfl rfl rfl (by decide +kernel) ⟨(Nat.le_of_ble_eq_true rfl), (Nat.le_of_ble_eq_true rfl)⟩) rfl (hG _ lawG_0) (of0_0 _) (ce0 T ad _ _) rfl (st := [.int 0, .ref (ad 11 0 0)]) rfl (Nat.le_of_ble_eq_true rfl) ⟨(Nat.le_of_ble_eq_true rfl), (Nat.le_of_ble_eq_true rfl)⟩ dL_stop_4 [⟨0, 9, 12, 31⟩] ⟨0, 9, 15, 13⟩ [] htab (fun z hz => by rw [List.mem_singleton.mp hz]; exact Or.inr ⟨by decide, _, cx_ts C _ lk_L_stop_31, hE.2.2⟩) rfl (by decide) (cx_ts C _ lk_L_stop_13) (Nst_use' (cx_nst C) cst_1) (fun q => ?_)
      refine fw_astore_n C dL_stop_15 rfl (by decide) rfl ?_
      refine fw_iconst C dL_stop_16 (v := 2) rfl ?_
      exact fw_iret C hrt Y1 ⟨rfl, rfl⟩ (fun t ht => ht) dL_stop_17
  · refine fw_callXVi_r C (ci := 9) (Cn := RX11) (Tc := TX11) (N := 11) (As := [.int a1]) (c_X11_stop hl (fun q hq => hG q ((by decide : ∀ q ∈ ([(1, 0), (0, 0), (2, 0), (9, 0)] ++ allG), q ∈ lawG) q hq)) h) (cwV 1 (cx_ts C) (goodIn_l gL_stop_X11_stop) rfl rfl rfl (by decide +kernel) ⟨(Nat.le_of_ble_eq_true rfl), (Nat.le_of_ble_eq_true rfl)⟩) rfl (hG _ lawG_0) (of0_0 _) (ce0 T ad _ _) rfl (st := [.int 0, .ref (ad 11 0 0)]) rfl (Nat.le_of_ble_eq_true rfl) ⟨(Nat.le_of_ble_eq_true rfl), (Nat.le_of_ble_eq_true rfl)⟩ dL_stop_4 ?_
    refine fw_i2l C dL_stop_7 rfl ?_
    refine fw_last C (x := v) rfl (hG _ lawG_11) dL_stop_8 ?_
    refine fw_goto C dL_stop_9 (tgt := 18) rfl ?_
    refine fw_iconst C dL_stop_18 (v := 0) rfl ?_
    exact fw_iret C hrt (up Y1 11 0 0 0 v) ⟨rfl, rfl⟩ (fun t ht => ht) dL_stop_19
end
theorem c_L_stop {l : Launch} {N0 : Nat} {T : Nat → ClassId} {D : va_G} {gr : List (Nat × Nat)} {ad : Nat → Nat → Nat → Nat} {Y : Mem} {a1 : Int32} {res : (Nat × Mem) ⊕ (Int32 × Mem)} (hl : l.stackTraces = false) (hG : ∀ q ∈ lawG, q ∈ gr) (h : X11_stop Y a1 = some res) (hn : ∀ n Y1, res = .inl (n, Y1) → c31 n ≠ 0) : CH l yL_stop wsLx_stop (Rx 8 2) N0 T D gr ad Y [.ref (ad 0 0 0), .int a1, .ref (ad 11 0 0)] 2 (hR c31 res) (hM res) :=
  fw_hbody (by decide +kernel) rfl (Nat.le_of_ble_eq_true rfl) (fun p e s m below meth c C hE hrt htab => w_L_stop C hE hrt htab hl hG h hn)
def wsLx_redo : List Cond := wsL_redo ++ [Cond.classLink RL 13 "java/lang/IllegalStateException"]
theorem lk_L_redo_31 : Cond.classLink RL 31 "java/lang/IndexOutOfBoundsException" ∈ wsLx_redo := by decide +kernel
theorem lk_L_redo_13 : Cond.classLink RL 13 "java/lang/IllegalStateException" ∈ wsLx_redo := by decide +kernel
section
variable {p : Program} {l : Launch} {e : Env} {s : State} {m : MethodId} {below : List Frame} {meth : Method} {c : Code} {N0 : Nat} {T : Nat → ClassId} {D : va_G} {gr : List (Nat × Nat)} {ad : Nat → Nat → Nat → Nat}
set_option maxHeartbeats 4000000 in
theorem w_L_redo {Y : Mem} {a1 : Int32} (C : Cx p s m [.ref (ad 0 0 0), .int a1, .ref (ad 11 0 0)].toArray meth c cL_redo 4 wsLx_redo RL N0 T D gr ad) (hE : Exw s) (hrt : meth.sig.returnType = (some .int)) (htab : c.exceptionTable.toList = tableOf [(0, 9, 12, 31), (0, 9, 15, 13)]) (hl : l.stackTraces = false) (hG : ∀ q ∈ lawG, q ∈ gr) {res : (Nat × Mem) ⊕ (Int32 × Mem)} (h : X11_redo Y a1 = some res) (hn : ∀ n Y1, res = .inl (n, Y1) → c31 n ≠ 0) : FW p l e (Rx 8 2) s m [.ref (ad 0 0 0), .int a1, .ref (ad 11 0 0)].toArray below meth c 4 N0 T D gr ad 0 0 (MQ below (va_Qi (fun r1 Y1 => r1 = hR c31 res ∧ Y1 = hM res) (WB T D gr ad) (fun q => N0 ≤ q)) [.ref (ad 0 0 0), .int a1, .ref (ad 11 0 0)].toArray s 2 12 (fun q => N0 ≤ q)) Y 0 [(0, .ref (ad 0 0 0)), (1, .int a1), (2, .ref (ad 11 0 0))] [] := by
  refine fw_aload_n C dL_redo_0 rfl 2 rfl ?_
  refine fw_iconst C dL_redo_1 (v := 0) rfl ?_
  refine fw_aload_n C dL_redo_2 rfl 0 rfl ?_
  refine fw_iload_n C dL_redo_3 rfl 1 rfl ?_
  rcases res with ⟨n, Y1⟩ | ⟨v, Y1⟩
  · rcases c31_inv (hn n Y1 rfl) with rfl | rfl
    · refine fw_callXVi_c C (ci := 9) (Cn := RX11) (Tc := TX11) (N := 11) (As := [.int a1]) (c_X11_redo hl (fun q hq => hG q ((by decide : ∀ q ∈ ([(1, 0), (0, 0), (2, 0), (9, 0)] ++ allG), q ∈ lawG) q hq)) h) (cwV 1 (cx_ts C) (goodIn_l gL_redo_X11_redo) rfl rfl rfl (by decide +kernel) ⟨(Nat.le_of_ble_eq_true rfl), (Nat.le_of_ble_eq_true rfl)⟩) rfl (hG _ lawG_0) (of0_0 _) (ce0 T ad _ _) rfl (st := [.int 0, .ref (ad 11 0 0)]) rfl (Nat.le_of_ble_eq_true rfl) ⟨(Nat.le_of_ble_eq_true rfl), (Nat.le_of_ble_eq_true rfl)⟩ dL_redo_4 [] ⟨0, 9, 12, 31⟩ [⟨0, 9, 15, 13⟩] htab (fun z hz => nomatch hz) rfl (by decide) (cx_ts C _ lk_L_redo_31) (Nst_use' (cx_nst C) cst_3) (fun q => ?_)
      refine fw_astore_n C dL_redo_12 rfl (by decide) rfl ?_
      refine fw_iconst C dL_redo_13 (v := 1) rfl ?_
      exact fw_iret C hrt Y1 ⟨rfl, rfl⟩ (fun t ht => ht) dL_redo_14
    · refine fw_callXVi_c C (ci := 9) (Cn := RX11) (Tc := TX11) (N := 11) (As := [.int a1]) (c_X11_redo hl (fun q hq => hG q ((by decide : ∀ q ∈ ([(1, 0), (0, 0), (2, 0), (9, 0)] ++ allG), q ∈ lawG) q hq)) h) (cwV 1 (cx_ts C) (goodIn_l gL_redo_X11_redo) rfl rfl rfl (by decide +kernel) ⟨(Nat.le_of_ble_eq_true rfl), (Nat.le_of_ble_eq_true rfl)⟩) rfl (hG _ lawG_0) (of0_0 _) (ce0 T ad _ _) rfl (st := [.int 0, .ref (ad 11 0 0)]) rfl (Nat.le_of_ble_eq_true rfl) ⟨(Nat.le_of_ble_eq_true rfl), (Nat.le_of_ble_eq_true rfl)⟩ dL_redo_4 [⟨0, 9, 12, 31⟩] ⟨0, 9, 15, 13⟩ [] htab (fun z hz => by rw [List.mem_singleton.mp hz]; exact Or.inr ⟨by decide, _, cx_ts C _ lk_L_redo_31, hE.2.2⟩) rfl (by decide) (cx_ts C _ lk_L_redo_13) (Nst_use' (cx_nst C) cst_1) (fun q => ?_)
      refine fw_astore_n C dL_redo_15 rfl (by decide) rfl ?_
      refine fw_iconst C dL_redo_16 (v := 2) rfl ?_
      exact fw_iret C hrt Y1 ⟨rfl, rfl⟩ (fun t ht => ht) dL_redo_17
  · refine fw_callXVi_r C (ci := 9) (Cn := RX11) (Tc := TX11) (N := 11) (As := [.int a1]) (c_X11_redo hl (fun q hq => hG q ((by decide : ∀ q ∈ ([(1, 0), (0, 0), (2, 0), (9, 0)] ++ allG), q ∈ lawG) q hq)) h) (cwV 1 (cx_ts C) (goodIn_l gL_redo_X11_redo) rfl rfl rfl (by decide +kernel) ⟨(Nat.le_of_ble_eq_true rfl), (Nat.le_of_ble_eq_true rfl)⟩) rfl (hG _ lawG_0) (of0_0 _) (ce0 T ad _ _) rfl (st := [.int 0, .ref (ad 11 0 0)]) rfl (Nat.le_of_ble_eq_true rfl) ⟨(Nat.le_of_ble_eq_true rfl), (Nat.le_of_ble_eq_true rfl)⟩ dL_redo_4 ?_
    refine fw_i2l C dL_redo_7 rfl ?_
    refine fw_last C (x := v) rfl (hG _ lawG_11) dL_redo_8 ?_
    refine fw_goto C dL_redo_9 (tgt := 18) rfl ?_
    refine fw_iconst C dL_redo_18 (v := 0) rfl ?_
    exact fw_iret C hrt (up Y1 11 0 0 0 v) ⟨rfl, rfl⟩ (fun t ht => ht) dL_redo_19
end
theorem c_L_redo {l : Launch} {N0 : Nat} {T : Nat → ClassId} {D : va_G} {gr : List (Nat × Nat)} {ad : Nat → Nat → Nat → Nat} {Y : Mem} {a1 : Int32} {res : (Nat × Mem) ⊕ (Int32 × Mem)} (hl : l.stackTraces = false) (hG : ∀ q ∈ lawG, q ∈ gr) (h : X11_redo Y a1 = some res) (hn : ∀ n Y1, res = .inl (n, Y1) → c31 n ≠ 0) : CH l yL_redo wsLx_redo (Rx 8 2) N0 T D gr ad Y [.ref (ad 0 0 0), .int a1, .ref (ad 11 0 0)] 2 (hR c31 res) (hM res) :=
  fw_hbody (by decide +kernel) rfl (Nat.le_of_ble_eq_true rfl) (fun p e s m below meth c C hE hrt htab => w_L_redo C hE hrt htab hl hG h hn)
