theorem lk_L_setCooks_19 : Cond.classLink RL 19 "java/lang/IllegalArgumentException" ∈ wsL_setCooks := by decide +kernel
section
variable {p : Program} {l : Launch} {e : Env} {s : State} {m : MethodId} {below : List Frame} {meth : Method} {c : Code} {N0 : Nat} {T : Nat → ClassId} {D : va_G} {gr : List (Nat × Nat)} {ad : Nat → Nat → Nat → Nat}
set_option maxHeartbeats 4000000 in
theorem w_L_setCooks {Y : Mem} {a1 : Int32} (C : Cx p s m [.ref (ad 0 0 0), .int a1, .ref (ad 11 0 0)].toArray meth c cL_setCooks 4 wsL_setCooks RL N0 T D gr ad) (hE : Exw s) (hrt : meth.sig.returnType = (some .int)) (htab : c.exceptionTable.toList = tableOf [(0, 9, 12, 19)]) (hl : l.stackTraces = false) (hG : ∀ q ∈ lawG, q ∈ gr) {res : (Nat × Mem) ⊕ (Int32 × Mem)} (h : X11_setCooks Y a1 = some res) (hn : ∀ n Y1, res = .inl (n, Y1) → c2_ n ≠ 0) : FW p l e (Rx 8 1) s m [.ref (ad 0 0 0), .int a1, .ref (ad 11 0 0)].toArray below meth c 4 N0 T D gr ad 0 0 (MQ below (va_Qi (fun r1 Y1 => r1 = hR c2_ res ∧ Y1 = hM res) (WB T D gr ad) (fun q => N0 ≤ q)) [.ref (ad 0 0 0), .int a1, .ref (ad 11 0 0)].toArray s 1 6 (fun q => N0 ≤ q)) Y 0 [(0, .ref (ad 0 0 0)), (1, .int a1), (2, .ref (ad 11 0 0))] [] := by
  refine fw_aload_n C dL_setCooks_0 rfl 2 rfl ?_
  refine fw_iconst C dL_setCooks_1 (v := 0) rfl ?_
  refine fw_aload_n C dL_setCooks_2 rfl 0 rfl ?_
  refine fw_iload_n C dL_setCooks_3 rfl 1 rfl ?_
  rcases res with ⟨n, Y1⟩ | ⟨v, Y1⟩
  · rcases c2__inv (hn n Y1 rfl) with rfl
    · refine fw_callXVi_c C (ci := 9) (Cn := RX11) (Tc := TX11) (N := 11) (As := [.int a1]) (c_X11_setCooks hl (fun q hq => hG q ((by decide : ∀ q ∈ ([(0, 0), (1, 0), (2, 0), (9, 0)] ++ allG), q ∈ lawG) q hq)) h) (cwV 1 (cx_ts C) gL_setCooks_X11_setCooks rfl rfl rfl (by decide +kernel) ⟨(Nat.le_of_ble_eq_true rfl), (Nat.le_of_ble_eq_true rfl)⟩) rfl (hG _ lawG_0) (of0_0 _) (ce0 T ad _ _) rfl (st := [.int 0, .ref (ad 11 0 0)]) rfl (Nat.le_of_ble_eq_true rfl) ⟨(Nat.le_of_ble_eq_true rfl), (Nat.le_of_ble_eq_true rfl)⟩ dL_setCooks_4 [] ⟨0, 9, 12, 19⟩ [] htab (fun z hz => nomatch hz) rfl (by decide) (cx_ts C _ lk_L_setCooks_19) (Nst_use' (cx_nst C) cst_2) (fun q => ?_)
      refine fw_astore_n C dL_setCooks_12 rfl (by decide) rfl ?_
      refine fw_iconst C dL_setCooks_13 (v := 1) rfl ?_
      exact fw_iret C hrt Y1 ⟨rfl, rfl⟩ (fun t ht => ht) dL_setCooks_14
  · refine fw_callXVi_r C (ci := 9) (Cn := RX11) (Tc := TX11) (N := 11) (As := [.int a1]) (c_X11_setCooks hl (fun q hq => hG q ((by decide : ∀ q ∈ ([(0, 0), (1, 0), (2, 0), (9, 0)] ++ allG), q ∈ lawG) q hq)) h) (cwV 1 (cx_ts C) gL_setCooks_X11_setCooks rfl rfl rfl (by decide +kernel) ⟨(Nat.le_of_ble_eq_true rfl), (Nat.le_of_ble_eq_true rfl)⟩) rfl (hG _ lawG_0) (of0_0 _) (ce0 T ad _ _) rfl (st := [.int 0, .ref (ad 11 0 0)]) rfl (Nat.le_of_ble_eq_true rfl) ⟨(Nat.le_of_ble_eq_true rfl), (Nat.le_of_ble_eq_true rfl)⟩ dL_setCooks_4 ?_
    refine fw_i2l C dL_setCooks_7 rfl ?_
    refine fw_last C (x := v) rfl (hG _ lawG_11) dL_setCooks_8 ?_
    refine fw_goto C dL_setCooks_9 (tgt := 15) rfl ?_
    refine fw_iconst C dL_setCooks_15 (v := 0) rfl ?_
    exact fw_iret C hrt (up Y1 11 0 0 0 v) ⟨rfl, rfl⟩ (fun t ht => ht) dL_setCooks_16
end
theorem c_L_setCooks {l : Launch} {N0 : Nat} {T : Nat → ClassId} {D : va_G} {gr : List (Nat × Nat)} {ad : Nat → Nat → Nat → Nat} {Y : Mem} {a1 : Int32} {res : (Nat × Mem) ⊕ (Int32 × Mem)} (hl : l.stackTraces = false) (hG : ∀ q ∈ lawG, q ∈ gr) (h : X11_setCooks Y a1 = some res) (hn : ∀ n Y1, res = .inl (n, Y1) → c2_ n ≠ 0) : CH l yL_setCooks wsL_setCooks (Rx 8 1) N0 T D gr ad Y [.ref (ad 0 0 0), .int a1, .ref (ad 11 0 0)] 1 (hR c2_ res) (hM res) :=
  fw_hbody (by decide +kernel) rfl (Nat.le_of_ble_eq_true rfl) (fun p e s m below meth c C hE hrt htab => w_L_setCooks C hE hrt htab hl hG h hn)
def wsLx_setDuration : List Cond := wsL_setDuration ++ [Cond.classLink RL 19 "java/lang/IllegalArgumentException"]
theorem lk_L_setDuration_31 : Cond.classLink RL 31 "java/lang/IndexOutOfBoundsException" ∈ wsLx_setDuration := by decide +kernel
theorem lk_L_setDuration_19 : Cond.classLink RL 19 "java/lang/IllegalArgumentException" ∈ wsLx_setDuration := by decide +kernel
section
variable {p : Program} {l : Launch} {e : Env} {s : State} {m : MethodId} {below : List Frame} {meth : Method} {c : Code} {N0 : Nat} {T : Nat → ClassId} {D : va_G} {gr : List (Nat × Nat)} {ad : Nat → Nat → Nat → Nat}
set_option maxHeartbeats 4000000 in
theorem w_L_setDuration {Y : Mem} {a1 : Int32} {a2 : Int32} (C : Cx p s m [.ref (ad 0 0 0), .int a1, .int a2, .ref (ad 11 0 0)].toArray meth c cL_setDuration 5 wsLx_setDuration RL N0 T D gr ad) (hE : Exw s) (hrt : meth.sig.returnType = (some .int)) (htab : c.exceptionTable.toList = tableOf [(0, 10, 13, 31), (0, 10, 17, 19)]) (hl : l.stackTraces = false) (hG : ∀ q ∈ lawG, q ∈ gr) {res : (Nat × Mem) ⊕ (Int32 × Mem)} (h : X11_setDuration Y a1 a2 = some res) (hn : ∀ n Y1, res = .inl (n, Y1) → c32 n ≠ 0) : FW p l e (Rx 8 2) s m [.ref (ad 0 0 0), .int a1, .int a2, .ref (ad 11 0 0)].toArray below meth c 5 N0 T D gr ad 0 0 (MQ below (va_Qi (fun r1 Y1 => r1 = hR c32 res ∧ Y1 = hM res) (WB T D gr ad) (fun q => N0 ≤ q)) [.ref (ad 0 0 0), .int a1, .int a2, .ref (ad 11 0 0)].toArray s 2 12 (fun q => N0 ≤ q)) Y 0 [(0, .ref (ad 0 0 0)), (1, .int a1), (2, .int a2), (3, .ref (ad 11 0 0))] [] := by
  refine fw_aload_n C dL_setDuration_0 rfl 3 rfl ?_
  refine fw_iconst C dL_setDuration_1 (v := 0) rfl ?_
  refine fw_aload_n C dL_setDuration_2 rfl 0 rfl ?_
  refine fw_iload_n C dL_setDuration_3 rfl 1 rfl ?_
  refine fw_iload_n C dL_setDuration_4 rfl 2 rfl ?_
  rcases res with ⟨n, Y1⟩ | ⟨v, Y1⟩
  · rcases c32_inv (hn n Y1 rfl) with rfl | rfl
    · refine fw_callXVi_c C (ci := 9) (Cn := RX11) (Tc := TX11) (N := 11) (As := [.int a1, .int a2]) (c_X11_setDuration hl (fun q hq => hG q ((by decide : ∀ q ∈ ([(1, 0), (0, 0), (2, 0), (9, 0)] ++ allG), q ∈ lawG) q hq)) h) (cwV 2 (cx_ts C) (goodIn_l gL_setDuration_X11_setDuration) rfl rfl rfl (by decide +kernel) ⟨(Nat.le_of_ble_eq_true rfl), (Nat.le_of_ble_eq_true rfl)⟩) rfl (hG _ lawG_0) (of0_0 _) (ce0 T ad _ _) rfl (st := [.int 0, .ref (ad 11 0 0)]) rfl (Nat.le_of_ble_eq_true rfl) ⟨(Nat.le_of_ble_eq_true rfl), (Nat.le_of_ble_eq_true rfl)⟩ dL_setDuration_5 [] ⟨0, 10, 13, 31⟩ [⟨0, 10, 17, 19⟩] htab (fun z hz => nomatch hz) rfl (by decide) (cx_ts C _ lk_L_setDuration_31) (Nst_use' (cx_nst C) cst_3) (fun q => ?_)
      refine fw_astore C dL_setDuration_13 (by decide) rfl ?_
      refine fw_iconst C dL_setDuration_15 (v := 1) rfl ?_
      exact fw_iret C hrt Y1 ⟨rfl, rfl⟩ (fun t ht => ht) dL_setDuration_16
    · refine fw_callXVi_c C (ci := 9) (Cn := RX11) (Tc := TX11) (N := 11) (As := [.int a1, .int a2]) (c_X11_setDuration hl (fun q hq => hG q ((by decide : ∀ q ∈ ([(1, 0), (0, 0), (2, 0), (9, 0)] ++ allG), q ∈ lawG) q hq)) h) (cwV 2 (cx_ts C) (goodIn_l gL_setDuration_X11_setDuration) rfl rfl rfl (by decide +kernel) ⟨(Nat.le_of_ble_eq_true rfl), (Nat.le_of_ble_eq_true rfl)⟩) rfl (hG _ lawG_0) (of0_0 _) (ce0 T ad _ _) rfl (st := [.int 0, .ref (ad 11 0 0)]) rfl (Nat.le_of_ble_eq_true rfl) ⟨(Nat.le_of_ble_eq_true rfl), (Nat.le_of_ble_eq_true rfl)⟩ dL_setDuration_5 [⟨0, 10, 13, 31⟩] ⟨0, 10, 17, 19⟩ [] htab (fun z hz => by rw [List.mem_singleton.mp hz]; exact Or.inr ⟨by decide, _, cx_ts C _ lk_L_setDuration_31, hE.1⟩) rfl (by decide) (cx_ts C _ lk_L_setDuration_19) (Nst_use' (cx_nst C) cst_2) (fun q => ?_)
      refine fw_astore C dL_setDuration_17 (by decide) rfl ?_
      refine fw_iconst C dL_setDuration_19 (v := 2) rfl ?_
      exact fw_iret C hrt Y1 ⟨rfl, rfl⟩ (fun t ht => ht) dL_setDuration_20
  · refine fw_callXVi_r C (ci := 9) (Cn := RX11) (Tc := TX11) (N := 11) (As := [.int a1, .int a2]) (c_X11_setDuration hl (fun q hq => hG q ((by decide : ∀ q ∈ ([(1, 0), (0, 0), (2, 0), (9, 0)] ++ allG), q ∈ lawG) q hq)) h) (cwV 2 (cx_ts C) (goodIn_l gL_setDuration_X11_setDuration) rfl rfl rfl (by decide +kernel) ⟨(Nat.le_of_ble_eq_true rfl), (Nat.le_of_ble_eq_true rfl)⟩) rfl (hG _ lawG_0) (of0_0 _) (ce0 T ad _ _) rfl (st := [.int 0, .ref (ad 11 0 0)]) rfl (Nat.le_of_ble_eq_true rfl) ⟨(Nat.le_of_ble_eq_true rfl), (Nat.le_of_ble_eq_true rfl)⟩ dL_setDuration_5 ?_
    refine fw_i2l C dL_setDuration_8 rfl ?_
    refine fw_last C (x := v) rfl (hG _ lawG_11) dL_setDuration_9 ?_
    refine fw_goto C dL_setDuration_10 (tgt := 21) rfl ?_
    refine fw_iconst C dL_setDuration_21 (v := 0) rfl ?_
    exact fw_iret C hrt (up Y1 11 0 0 0 v) ⟨rfl, rfl⟩ (fun t ht => ht) dL_setDuration_22
end
theorem c_L_setDuration {l : Launch} {N0 : Nat} {T : Nat → ClassId} {D : va_G} {gr : List (Nat × Nat)} {ad : Nat → Nat → Nat → Nat} {Y : Mem} {a1 : Int32} {a2 : Int32} {res : (Nat × Mem) ⊕ (Int32 × Mem)} (hl : l.stackTraces = false) (hG : ∀ q ∈ lawG, q ∈ gr) (h : X11_setDuration Y a1 a2 = some res) (hn : ∀ n Y1, res = .inl (n, Y1) → c32 n ≠ 0) : CH l yL_setDuration wsLx_setDuration (Rx 8 2) N0 T D gr ad Y [.ref (ad 0 0 0), .int a1, .int a2, .ref (ad 11 0 0)] 2 (hR c32 res) (hM res) :=
  fw_hbody (by decide +kernel) rfl (Nat.le_of_ble_eq_true rfl) (fun p e s m below meth c C hE hrt htab => w_L_setDuration C hE hrt htab hl hG h hn)
theorem lk_L_serve_13 : Cond.classLink RL 13 "java/lang/IllegalStateException" ∈ wsL_serve := by decide +kernel
section
variable {p : Program} {l : Launch} {e : Env} {s : State} {m : MethodId} {below : List Frame} {meth : Method} {c : Code} {N0 : Nat} {T : Nat → ClassId} {D : va_G} {gr : List (Nat × Nat)} {ad : Nat → Nat → Nat → Nat}
set_option maxHeartbeats 4000000 in
theorem w_L_serve {Y : Mem} (C : Cx p s m [.ref (ad 0 0 0), .ref (ad 11 0 0)].toArray meth c cL_serve 3 wsL_serve RL N0 T D gr ad) (hE : Exw s) (hrt : meth.sig.returnType = (some .int)) (htab : c.exceptionTable.toList = tableOf [(0, 8, 11, 13)]) (hl : l.stackTraces = false) (hG : ∀ q ∈ lawG, q ∈ gr) {res : (Nat × Mem) ⊕ (Int32 × Mem)} (h : X11_serve Y = some res) (hn : ∀ n Y1, res = .inl (n, Y1) → c1_ n ≠ 0) : FW p l e (Rx 7 1) s m [.ref (ad 0 0 0), .ref (ad 11 0 0)].toArray below meth c 3 N0 T D gr ad 0 0 (MQ below (va_Qi (fun r1 Y1 => r1 = hR c1_ res ∧ Y1 = hM res) (WB T D gr ad) (fun q => N0 ≤ q)) [.ref (ad 0 0 0), .ref (ad 11 0 0)].toArray s 1 6 (fun q => N0 ≤ q)) Y 0 [(0, .ref (ad 0 0 0)), (1, .ref (ad 11 0 0))] [] := by
  refine fw_aload_n C dL_serve_0 rfl 1 rfl ?_
  refine fw_iconst C dL_serve_1 (v := 0) rfl ?_
  refine fw_aload_n C dL_serve_2 rfl 0 rfl ?_
  rcases res with ⟨n, Y1⟩ | ⟨v, Y1⟩
  · rcases c1__inv (hn n Y1 rfl) with rfl
    · refine fw_callXVi_c C (ci := 9) (Cn := RX11) (Tc := TX11) (N := 11) (As := []) (c_X11_serve hl (fun q hq => hG q ((by decide : ∀ q ∈ ([(0, 0), (2, 0), (1, 0), (9, 0)] ++ allG), q ∈ lawG) q hq)) h) (cwV 0 (cx_ts C) gL_serve_X11_serve rfl rfl rfl (by decide +kernel) ⟨(Nat.le_of_ble_eq_true rfl), (Nat.le_of_ble_eq_true rfl)⟩) rfl (hG _ lawG_0) (of0_0 _) (ce0 T ad _ _) rfl (st := [.int 0, .ref (ad 11 0 0)]) rfl (Nat.le_of_ble_eq_true rfl) ⟨(Nat.le_of_ble_eq_true rfl), (Nat.le_of_ble_eq_true rfl)⟩ dL_serve_3 [] ⟨0, 8, 11, 13⟩ [] htab (fun z hz => nomatch hz) rfl (by decide) (cx_ts C _ lk_L_serve_13) (Nst_use' (cx_nst C) cst_1) (fun q => ?_)
      refine fw_astore_n C dL_serve_11 rfl (by decide) rfl ?_
      refine fw_iconst C dL_serve_12 (v := 1) rfl ?_
      exact fw_iret C hrt Y1 ⟨rfl, rfl⟩ (fun t ht => ht) dL_serve_13
  · refine fw_callXVi_r C (ci := 9) (Cn := RX11) (Tc := TX11) (N := 11) (As := []) (c_X11_serve hl (fun q hq => hG q ((by decide : ∀ q ∈ ([(0, 0), (2, 0), (1, 0), (9, 0)] ++ allG), q ∈ lawG) q hq)) h) (cwV 0 (cx_ts C) gL_serve_X11_serve rfl rfl rfl (by decide +kernel) ⟨(Nat.le_of_ble_eq_true rfl), (Nat.le_of_ble_eq_true rfl)⟩) rfl (hG _ lawG_0) (of0_0 _) (ce0 T ad _ _) rfl (st := [.int 0, .ref (ad 11 0 0)]) rfl (Nat.le_of_ble_eq_true rfl) ⟨(Nat.le_of_ble_eq_true rfl), (Nat.le_of_ble_eq_true rfl)⟩ dL_serve_3 ?_
    refine fw_i2l C dL_serve_6 rfl ?_
    refine fw_last C (x := v) rfl (hG _ lawG_11) dL_serve_7 ?_
    refine fw_goto C dL_serve_8 (tgt := 14) rfl ?_
    refine fw_iconst C dL_serve_14 (v := 0) rfl ?_
    exact fw_iret C hrt (up Y1 11 0 0 0 v) ⟨rfl, rfl⟩ (fun t ht => ht) dL_serve_15
end
theorem c_L_serve {l : Launch} {N0 : Nat} {T : Nat → ClassId} {D : va_G} {gr : List (Nat × Nat)} {ad : Nat → Nat → Nat → Nat} {Y : Mem} {res : (Nat × Mem) ⊕ (Int32 × Mem)} (hl : l.stackTraces = false) (hG : ∀ q ∈ lawG, q ∈ gr) (h : X11_serve Y = some res) (hn : ∀ n Y1, res = .inl (n, Y1) → c1_ n ≠ 0) : CH l yL_serve wsL_serve (Rx 7 1) N0 T D gr ad Y [.ref (ad 0 0 0), .ref (ad 11 0 0)] 1 (hR c1_ res) (hM res) :=
  fw_hbody (by decide +kernel) rfl (Nat.le_of_ble_eq_true rfl) (fun p e s m below meth c C hE hrt htab => w_L_serve C hE hrt htab hl hG h hn)
theorem lk_L_runScript_19 : Cond.classLink RL 19 "java/lang/IllegalArgumentException" ∈ wsL_runScript := by decide +kernel
section
variable {p : Program} {l : Launch} {e : Env} {s : State} {m : MethodId} {below : List Frame} {meth : Method} {c : Code} {N0 : Nat} {T : Nat → ClassId} {D : va_G} {gr : List (Nat × Nat)} {ad : Nat → Nat → Nat → Nat}
set_option maxHeartbeats 4000000 in
theorem w_L_runScript {Y : Mem} (C : Cx p s m [.ref (ad 0 0 0), .ref (ad 11 0 0)].toArray meth c cL_runScript 3 wsL_runScript RL N0 T D gr ad) (hE : Exw s) (hrt : meth.sig.returnType = (some .int)) (htab : c.exceptionTable.toList = tableOf [(0, 8, 11, 19)]) (hl : l.stackTraces = false) (hG : ∀ q ∈ lawG, q ∈ gr) {res : (Nat × Mem) ⊕ (Int32 × Mem)} (h : X11_runScript Y = some res) (hn : ∀ n Y1, res = .inl (n, Y1) → c2_ n ≠ 0) : FW p l e (Rx 9 1) s m [.ref (ad 0 0 0), .ref (ad 11 0 0)].toArray below meth c 3 N0 T D gr ad 0 0 (MQ below (va_Qi (fun r1 Y1 => r1 = hR c2_ res ∧ Y1 = hM res) (WB T D gr ad) (fun q => N0 ≤ q)) [.ref (ad 0 0 0), .ref (ad 11 0 0)].toArray s 1 6 (fun q => N0 ≤ q)) Y 0 [(0, .ref (ad 0 0 0)), (1, .ref (ad 11 0 0))] [] := by
  refine fw_aload_n C dL_runScript_0 rfl 1 rfl ?_
  refine fw_iconst C dL_runScript_1 (v := 0) rfl ?_
  refine fw_aload_n C dL_runScript_2 rfl 0 rfl ?_
  rcases res with ⟨n, Y1⟩ | ⟨v, Y1⟩
  · rcases c2__inv (hn n Y1 rfl) with rfl
    · refine fw_callXVi_c C (ci := 9) (Cn := RX11) (Tc := TX11) (N := 11) (As := []) (c_X11_runScript hl (fun q hq => hG q ((by decide : ∀ q ∈ ([(0, 0), (1, 0), (6, 0), (5, 0), (8, 0), (2, 0), (9, 0)] ++ allG), q ∈ lawG) q hq)) h) (cwV 0 (cx_ts C) gL_runScript_X11_runScript rfl rfl rfl (by decide +kernel) ⟨(Nat.le_of_ble_eq_true rfl), (Nat.le_of_ble_eq_true rfl)⟩) rfl (hG _ lawG_0) (of0_0 _) (ce0 T ad _ _) rfl (st := [.int 0, .ref (ad 11 0 0)]) rfl (Nat.le_of_ble_eq_true rfl) ⟨(Nat.le_of_ble_eq_true rfl), (Nat.le_of_ble_eq_true rfl)⟩ dL_runScript_3 [] ⟨0, 8, 11, 19⟩ [] htab (fun z hz => nomatch hz) rfl (by decide) (cx_ts C _ lk_L_runScript_19) (Nst_use' (cx_nst C) cst_2) (fun q => ?_)
      refine fw_astore_n C dL_runScript_11 rfl (by decide) rfl ?_
      refine fw_iconst C dL_runScript_12 (v := 1) rfl ?_
      exact fw_iret C hrt Y1 ⟨rfl, rfl⟩ (fun t ht => ht) dL_runScript_13
  · refine fw_callXVi_r C (ci := 9) (Cn := RX11) (Tc := TX11) (N := 11) (As := []) (c_X11_runScript hl (fun q hq => hG q ((by decide : ∀ q ∈ ([(0, 0), (1, 0), (6, 0), (5, 0), (8, 0), (2, 0), (9, 0)] ++ allG), q ∈ lawG) q hq)) h) (cwV 0 (cx_ts C) gL_runScript_X11_runScript rfl rfl rfl (by decide +kernel) ⟨(Nat.le_of_ble_eq_true rfl), (Nat.le_of_ble_eq_true rfl)⟩) rfl (hG _ lawG_0) (of0_0 _) (ce0 T ad _ _) rfl (st := [.int 0, .ref (ad 11 0 0)]) rfl (Nat.le_of_ble_eq_true rfl) ⟨(Nat.le_of_ble_eq_true rfl), (Nat.le_of_ble_eq_true rfl)⟩ dL_runScript_3 ?_
    refine fw_i2l C dL_runScript_6 rfl ?_
    refine fw_last C (x := v) rfl (hG _ lawG_11) dL_runScript_7 ?_
    refine fw_goto C dL_runScript_8 (tgt := 14) rfl ?_
    refine fw_iconst C dL_runScript_14 (v := 0) rfl ?_
    exact fw_iret C hrt (up Y1 11 0 0 0 v) ⟨rfl, rfl⟩ (fun t ht => ht) dL_runScript_15
end
theorem c_L_runScript {l : Launch} {N0 : Nat} {T : Nat → ClassId} {D : va_G} {gr : List (Nat × Nat)} {ad : Nat → Nat → Nat → Nat} {Y : Mem} {res : (Nat × Mem) ⊕ (Int32 × Mem)} (hl : l.stackTraces = false) (hG : ∀ q ∈ lawG, q ∈ gr) (h : X11_runScript Y = some res) (hn : ∀ n Y1, res = .inl (n, Y1) → c2_ n ≠ 0) : CH l yL_runScript wsL_runScript (Rx 9 1) N0 T D gr ad Y [.ref (ad 0 0 0), .ref (ad 11 0 0)] 1 (hR c2_ res) (hM res) :=
  fw_hbody (by decide +kernel) rfl (Nat.le_of_ble_eq_true rfl) (fun p e s m below meth c C hE hrt htab => w_L_runScript C hE hrt htab hl hG h hn)
theorem lk_L_undo_13 : Cond.classLink RL 13 "java/lang/IllegalStateException" ∈ wsL_undo := by decide +kernel
section
variable {p : Program} {l : Launch} {e : Env} {s : State} {m : MethodId} {below : List Frame} {meth : Method} {c : Code} {N0 : Nat} {T : Nat → ClassId} {D : va_G} {gr : List (Nat × Nat)} {ad : Nat → Nat → Nat → Nat}
set_option maxHeartbeats 4000000 in
theorem w_L_undo {Y : Mem} (C : Cx p s m [.ref (ad 0 0 0), .ref (ad 11 0 0)].toArray meth c cL_undo 3 wsL_undo RL N0 T D gr ad) (hE : Exw s) (hrt : meth.sig.returnType = (some .int)) (htab : c.exceptionTable.toList = tableOf [(0, 8, 11, 13)]) (hl : l.stackTraces = false) (hG : ∀ q ∈ lawG, q ∈ gr) {res : (Nat × Mem) ⊕ (Int32 × Mem)} (h : X11_undo Y = some res) (hn : ∀ n Y1, res = .inl (n, Y1) → c1_ n ≠ 0) : FW p l e (Rx 7 1) s m [.ref (ad 0 0 0), .ref (ad 11 0 0)].toArray below meth c 3 N0 T D gr ad 0 0 (MQ below (va_Qi (fun r1 Y1 => r1 = hR c1_ res ∧ Y1 = hM res) (WB T D gr ad) (fun q => N0 ≤ q)) [.ref (ad 0 0 0), .ref (ad 11 0 0)].toArray s 1 6 (fun q => N0 ≤ q)) Y 0 [(0, .ref (ad 0 0 0)), (1, .ref (ad 11 0 0))] [] := by
  refine fw_aload_n C dL_undo_0 rfl 1 rfl ?_
  refine fw_iconst C dL_undo_1 (v := 0) rfl ?_
  refine fw_aload_n C dL_undo_2 rfl 0 rfl ?_
  rcases res with ⟨n, Y1⟩ | ⟨v, Y1⟩
  · rcases c1__inv (hn n Y1 rfl) with rfl
    · refine fw_callXVi_c C (ci := 9) (Cn := RX11) (Tc := TX11) (N := 11) (As := []) (c_X11_undo hl (fun q hq => hG q ((by decide : ∀ q ∈ ([(0, 0), (9, 0), (1, 0), (2, 0)] ++ allG), q ∈ lawG) q hq)) h) (cwV 0 (cx_ts C) gL_undo_X11_undo rfl rfl rfl (by decide +kernel) ⟨(Nat.le_of_ble_eq_true rfl), (Nat.le_of_ble_eq_true rfl)⟩) rfl (hG _ lawG_0) (of0_0 _) (ce0 T ad _ _) rfl (st := [.int 0, .ref (ad 11 0 0)]) rfl (Nat.le_of_ble_eq_true rfl) ⟨(Nat.le_of_ble_eq_true rfl), (Nat.le_of_ble_eq_true rfl)⟩ dL_undo_3 [] ⟨0, 8, 11, 13⟩ [] htab (fun z hz => nomatch hz) rfl (by decide) (cx_ts C _ lk_L_undo_13) (Nst_use' (cx_nst C) cst_1) (fun q => ?_)
      refine fw_astore_n C dL_undo_11 rfl (by decide) rfl ?_
      refine fw_iconst C dL_undo_12 (v := 1) rfl ?_
      exact fw_iret C hrt Y1 ⟨rfl, rfl⟩ (fun t ht => ht) dL_undo_13
  · refine fw_callXVi_r C (ci := 9) (Cn := RX11) (Tc := TX11) (N := 11) (As := []) (c_X11_undo hl (fun q hq => hG q ((by decide : ∀ q ∈ ([(0, 0), (9, 0), (1, 0), (2, 0)] ++ allG), q ∈ lawG) q hq)) h) (cwV 0 (cx_ts C) gL_undo_X11_undo rfl rfl rfl (by decide +kernel) ⟨(Nat.le_of_ble_eq_true rfl), (Nat.le_of_ble_eq_true rfl)⟩) rfl (hG _ lawG_0) (of0_0 _) (ce0 T ad _ _) rfl (st := [.int 0, .ref (ad 11 0 0)]) rfl (Nat.le_of_ble_eq_true rfl) ⟨(Nat.le_of_ble_eq_true rfl), (Nat.le_of_ble_eq_true rfl)⟩ dL_undo_3 ?_
    refine fw_i2l C dL_undo_6 rfl ?_
    refine fw_last C (x := v) rfl (hG _ lawG_11) dL_undo_7 ?_
    refine fw_goto C dL_undo_8 (tgt := 14) rfl ?_
    refine fw_iconst C dL_undo_14 (v := 0) rfl ?_
    exact fw_iret C hrt (up Y1 11 0 0 0 v) ⟨rfl, rfl⟩ (fun t ht => ht) dL_undo_15
end
theorem c_L_undo {l : Launch} {N0 : Nat} {T : Nat → ClassId} {D : va_G} {gr : List (Nat × Nat)} {ad : Nat → Nat → Nat → Nat} {Y : Mem} {res : (Nat × Mem) ⊕ (Int32 × Mem)} (hl : l.stackTraces = false) (hG : ∀ q ∈ lawG, q ∈ gr) (h : X11_undo Y = some res) (hn : ∀ n Y1, res = .inl (n, Y1) → c1_ n ≠ 0) : CH l yL_undo wsL_undo (Rx 7 1) N0 T D gr ad Y [.ref (ad 0 0 0), .ref (ad 11 0 0)] 1 (hR c1_ res) (hM res) :=
  fw_hbody (by decide +kernel) rfl (Nat.le_of_ble_eq_true rfl) (fun p e s m below meth c C hE hrt htab => w_L_undo C hE hrt htab hl hG h hn)
theorem lk_L_save_31 : Cond.classLink RL 31 "java/lang/IndexOutOfBoundsException" ∈ wsL_save := by decide +kernel
section
variable {p : Program} {l : Launch} {e : Env} {s : State} {m : MethodId} {below : List Frame} {meth : Method} {c : Code} {N0 : Nat} {T : Nat → ClassId} {D : va_G} {gr : List (Nat × Nat)} {ad : Nat → Nat → Nat → Nat}
set_option maxHeartbeats 4000000 in
theorem w_L_save {Y : Mem} {a1 : Int32} (C : Cx p s m [.ref (ad 0 0 0), .int a1, .ref (ad 11 0 0)].toArray meth c cL_save 4 wsL_save RL N0 T D gr ad) (hE : Exw s) (hrt : meth.sig.returnType = (some .int)) (htab : c.exceptionTable.toList = tableOf [(0, 9, 12, 31)]) (hl : l.stackTraces = false) (hG : ∀ q ∈ lawG, q ∈ gr) {res : (Nat × Mem) ⊕ (Int32 × Mem)} (h : X11_save Y a1 = some res) (hn : ∀ n Y1, res = .inl (n, Y1) → c3 n ≠ 0) : FW p l e (Rx 8 1) s m [.ref (ad 0 0 0), .int a1, .ref (ad 11 0 0)].toArray below meth c 4 N0 T D gr ad 0 0 (MQ below (va_Qi (fun r1 Y1 => r1 = hR c3 res ∧ Y1 = hM res) (WB T D gr ad) (fun q => N0 ≤ q)) [.ref (ad 0 0 0), .int a1, .ref (ad 11 0 0)].toArray s 1 6 (fun q => N0 ≤ q)) Y 0 [(0, .ref (ad 0 0 0)), (1, .int a1), (2, .ref (ad 11 0 0))] [] := by
  refine fw_aload_n C dL_save_0 rfl 2 rfl ?_
  refine fw_iconst C dL_save_1 (v := 0) rfl ?_
  refine fw_aload_n C dL_save_2 rfl 0 rfl ?_
  refine fw_iload_n C dL_save_3 rfl 1 rfl ?_
  rcases res with ⟨n, Y1⟩ | ⟨v, Y1⟩
  · rcases c3_inv (hn n Y1 rfl) with rfl
    · refine fw_callXVi_c C (ci := 9) (Cn := RX11) (Tc := TX11) (N := 11) (As := [.int a1]) (c_X11_save hl (fun q hq => hG q ((by decide : ∀ q ∈ ([(0, 0), (1, 0), (2, 0)] ++ allG), q ∈ lawG) q hq)) h) (cwV 1 (cx_ts C) gL_save_X11_save rfl rfl rfl (by decide +kernel) ⟨(Nat.le_of_ble_eq_true rfl), (Nat.le_of_ble_eq_true rfl)⟩) rfl (hG _ lawG_0) (of0_0 _) (ce0 T ad _ _) rfl (st := [.int 0, .ref (ad 11 0 0)]) rfl (Nat.le_of_ble_eq_true rfl) ⟨(Nat.le_of_ble_eq_true rfl), (Nat.le_of_ble_eq_true rfl)⟩ dL_save_4 [] ⟨0, 9, 12, 31⟩ [] htab (fun z hz => nomatch hz) rfl (by decide) (cx_ts C _ lk_L_save_31) (Nst_use' (cx_nst C) cst_3) (fun q => ?_)
      refine fw_astore_n C dL_save_12 rfl (by decide) rfl ?_
      refine fw_iconst C dL_save_13 (v := 1) rfl ?_
      exact fw_iret C hrt Y1 ⟨rfl, rfl⟩ (fun t ht => ht) dL_save_14
  · refine fw_callXVi_r C (ci := 9) (Cn := RX11) (Tc := TX11) (N := 11) (As := [.int a1]) (c_X11_save hl (fun q hq => hG q ((by decide : ∀ q ∈ ([(0, 0), (1, 0), (2, 0)] ++ allG), q ∈ lawG) q hq)) h) (cwV 1 (cx_ts C) gL_save_X11_save rfl rfl rfl (by decide +kernel) ⟨(Nat.le_of_ble_eq_true rfl), (Nat.le_of_ble_eq_true rfl)⟩) rfl (hG _ lawG_0) (of0_0 _) (ce0 T ad _ _) rfl (st := [.int 0, .ref (ad 11 0 0)]) rfl (Nat.le_of_ble_eq_true rfl) ⟨(Nat.le_of_ble_eq_true rfl), (Nat.le_of_ble_eq_true rfl)⟩ dL_save_4 ?_
    refine fw_i2l C dL_save_7 rfl ?_
    refine fw_last C (x := v) rfl (hG _ lawG_11) dL_save_8 ?_
    refine fw_goto C dL_save_9 (tgt := 15) rfl ?_
    refine fw_iconst C dL_save_15 (v := 0) rfl ?_
    exact fw_iret C hrt (up Y1 11 0 0 0 v) ⟨rfl, rfl⟩ (fun t ht => ht) dL_save_16
end
theorem c_L_save {l : Launch} {N0 : Nat} {T : Nat → ClassId} {D : va_G} {gr : List (Nat × Nat)} {ad : Nat → Nat → Nat → Nat} {Y : Mem} {a1 : Int32} {res : (Nat × Mem) ⊕ (Int32 × Mem)} (hl : l.stackTraces = false) (hG : ∀ q ∈ lawG, q ∈ gr) (h : X11_save Y a1 = some res) (hn : ∀ n Y1, res = .inl (n, Y1) → c3 n ≠ 0) : CH l yL_save wsL_save (Rx 8 1) N0 T D gr ad Y [.ref (ad 0 0 0), .int a1, .ref (ad 11 0 0)] 1 (hR c3 res) (hM res) :=
  fw_hbody (by decide +kernel) rfl (Nat.le_of_ble_eq_true rfl) (fun p e s m below meth c C hE hrt htab => w_L_save C hE hrt htab hl hG h hn)
def wsLx_restore : List Cond := wsL_restore ++ [Cond.classLink RL 13 "java/lang/IllegalStateException"]
theorem lk_L_restore_31 : Cond.classLink RL 31 "java/lang/IndexOutOfBoundsException" ∈ wsLx_restore := by decide +kernel
theorem lk_L_restore_13 : Cond.classLink RL 13 "java/lang/IllegalStateException" ∈ wsLx_restore := by decide +kernel
section
variable {p : Program} {l : Launch} {e : Env} {s : State} {m : MethodId} {below : List Frame} {meth : Method} {c : Code} {N0 : Nat} {T : Nat → ClassId} {D : va_G} {gr : List (Nat × Nat)} {ad : Nat → Nat → Nat → Nat}
set_option maxHeartbeats 4000000 in
theorem w_L_restore {Y : Mem} {a1 : Int32} (C : Cx p s m [.ref (ad 0 0 0), .int a1, .ref (ad 11 0 0)].toArray meth c cL_restore 4 wsLx_restore RL N0 T D gr ad) (hE : Exw s) (hrt : meth.sig.returnType = (some .int)) (htab : c.exceptionTable.toList = tableOf [(0, 9, 12, 31), (0, 9, 15, 13)]) (hl : l.stackTraces = false) (hG : ∀ q ∈ lawG, q ∈ gr) {res : (Nat × Mem) ⊕ (Int32 × Mem)} (h : X11_restore Y a1 = some res) (hn : ∀ n Y1, res = .inl (n, Y1) → c31 n ≠ 0) : FW p l e (Rx 8 2) s m [.ref (ad 0 0 0), .int a1, .ref (ad 11 0 0)].toArray below meth c 4 N0 T D gr ad 0 0 (MQ below (va_Qi (fun r1 Y1 => r1 = hR c31 res ∧ Y1 = hM res) (WB T D gr ad) (fun q => N0 ≤ q)) [.ref (ad 0 0 0), .int a1, .ref (ad 11 0 0)].toArray s 2 12 (fun q => N0 ≤ q)) Y 0 [(0, .ref (ad 0 0 0)), (1, .int a1), (2, .ref (ad 11 0 0))] [] := by
  refine fw_aload_n C dL_restore_0 rfl 2 rfl ?_
  refine fw_iconst C dL_restore_1 (v := 0) rfl ?_
  refine fw_aload_n C dL_restore_2 rfl 0 rfl ?_
  refine fw_iload_n C dL_restore_3 rfl 1 rfl ?_
  rcases res with ⟨n, Y1⟩ | ⟨v, Y1⟩
  · rcases c31_inv (hn n Y1 rfl) with rfl | rfl
    · refine fw_callXVi_c C (ci := 9) (Cn := RX11) (Tc := TX11) (N := 11) (As := [.int a1]) (c_X11_restore hl (fun q hq => hG q ((by decide : ∀ q ∈ ([(0, 0), (1, 0), (2, 0), (9, 0)] ++ allG), q ∈ lawG) q hq)) h) (cwV 1 (cx_ts C) (goodIn_l gL_restore_X11_restore) rfl rfl rfl (by decide +kernel) ⟨(Nat.le_of_ble_eq_true rfl), (Nat.le_of_ble_eq_true rfl)⟩) rfl (hG _ lawG_0) (of0_0 _) (ce0 T ad _ _) rfl (st := [.int 0, .ref (ad 11 0 0)]) rfl (Nat.le_of_ble_eq_true rfl) ⟨(Nat.le_of_ble_eq_true rfl), (Nat.le_of_ble_eq_true rfl)⟩ dL_restore_4 [] ⟨0, 9, 12, 31⟩ [⟨0, 9, 15, 13⟩] htab (fun z hz => nomatch hz) rfl (by decide) (cx_ts C _ lk_L_restore_31) (Nst_use' (cx_nst C) cst_3) (fun q => ?_)
      refine fw_astore_n C dL_restore_12 rfl (by decide) rfl ?_
      refine fw_iconst C dL_restore_13 (v := 1) rfl ?_
      exact fw_iret C hrt Y1 ⟨rfl, rfl⟩ (fun t ht => ht) dL_restore_14
    · refine fw_callXVi_c C (ci := 9) (Cn := RX11) (Tc := TX11) (N := 11) (As := [.int a1]) (c_X11_restore hl (fun q hq => hG q ((by decide : ∀ q ∈ ([(0, 0), (1, 0), (2, 0), (9, 0)] ++ allG), q ∈ lawG) q hq)) h) (cwV 1 (cx_ts C) (goodIn_l gL_restore_X11_restore) rfl rfl rfl (by decide +kernel) ⟨(Nat.le_of_ble_eq_true rfl), (Nat.le_of_ble_eq_true rfl)⟩) rfl (hG _ lawG_0) (of0_0 _) (ce0 T ad _ _) rfl (st := [.int 0, .ref (ad 11 0 0)]) rfl (Nat.le_of_ble_eq_true rfl) ⟨(Nat.le_of_ble_eq_true rfl), (Nat.le_of_ble_eq_true rfl)⟩ dL_restore_4 [⟨0, 9, 12, 31⟩] ⟨0, 9, 15, 13⟩ [] htab (fun z hz => by rw [List.mem_singleton.mp hz]; exact Or.inr ⟨by decide, _, cx_ts C _ lk_L_restore_31, hE.2.2⟩) rfl (by decide) (cx_ts C _ lk_L_restore_13) (Nst_use' (cx_nst C) cst_1) (fun q => ?_)
      refine fw_astore_n C dL_restore_15 rfl (by decide) rfl ?_
      refine fw_iconst C dL_restore_16 (v := 2) rfl ?_
      exact fw_iret C hrt Y1 ⟨rfl, rfl⟩ (fun t ht => ht) dL_restore_17
  · refine fw_callXVi_r C (ci := 9) (Cn := RX11) (Tc := TX11) (N := 11) (As := [.int a1]) (c_X11_restore hl (fun q hq => hG q ((by decide : ∀ q ∈ ([(0, 0), (1, 0), (2, 0), (9, 0)] ++ allG), q ∈ lawG) q hq)) h) (cwV 1 (cx_ts C) (goodIn_l gL_restore_X11_restore) rfl rfl rfl (by decide +kernel) ⟨(Nat.le_of_ble_eq_true rfl), (Nat.le_of_ble_eq_true rfl)⟩) rfl (hG _ lawG_0) (of0_0 _) (ce0 T ad _ _) rfl (st := [.int 0, .ref (ad 11 0 0)]) rfl (Nat.le_of_ble_eq_true rfl) ⟨(Nat.le_of_ble_eq_true rfl), (Nat.le_of_ble_eq_true rfl)⟩ dL_restore_4 ?_
    refine fw_i2l C dL_restore_7 rfl ?_
    refine fw_last C (x := v) rfl (hG _ lawG_11) dL_restore_8 ?_
    refine fw_goto C dL_restore_9 (tgt := 18) rfl ?_
    refine fw_iconst C dL_restore_18 (v := 0) rfl ?_
    exact fw_iret C hrt (up Y1 11 0 0 0 v) ⟨rfl, rfl⟩ (fun t ht => ht) dL_restore_19
end
theorem c_L_restore {l : Launch} {N0 : Nat} {T : Nat → ClassId} {D : va_G} {gr : List (Nat × Nat)} {ad : Nat → Nat → Nat → Nat} {Y : Mem} {a1 : Int32} {res : (Nat × Mem) ⊕ (Int32 × Mem)} (hl : l.stackTraces = false) (hG : ∀ q ∈ lawG, q ∈ gr) (h : X11_restore Y a1 = some res) (hn : ∀ n Y1, res = .inl (n, Y1) → c31 n ≠ 0) : CH l yL_restore wsLx_restore (Rx 8 2) N0 T D gr ad Y [.ref (ad 0 0 0), .int a1, .ref (ad 11 0 0)] 2 (hR c31 res) (hM res) :=
  fw_hbody (by decide +kernel) rfl (Nat.le_of_ble_eq_true rfl) (fun p e s m below meth c C hE hrt htab => w_L_restore C hE hrt htab hl hG h hn)
theorem lk_L_outputByte_31 : Cond.classLink RL 31 "java/lang/IndexOutOfBoundsException" ∈ wsL_outputByte := by decide +kernel
section
variable {p : Program} {l : Launch} {e : Env} {s : State} {m : MethodId} {below : List Frame} {meth : Method} {c : Code} {N0 : Nat} {T : Nat → ClassId} {D : va_G} {gr : List (Nat × Nat)} {ad : Nat → Nat → Nat → Nat}
set_option maxHeartbeats 4000000 in
theorem w_L_outputByte {Y : Mem} {a1 : Int32} (C : Cx p s m [.ref (ad 0 0 0), .int a1, .ref (ad 11 0 0)].toArray meth c cL_outputByte 4 wsL_outputByte RL N0 T D gr ad) (hE : Exw s) (hrt : meth.sig.returnType = (some .int)) (htab : c.exceptionTable.toList = tableOf [(0, 9, 12, 31)]) (hl : l.stackTraces = false) (hG : ∀ q ∈ lawG, q ∈ gr) {res : (Nat × Mem) ⊕ (Int32 × Mem)} (h : X11_outputByte Y a1 = some res) (hn : ∀ n Y1, res = .inl (n, Y1) → c3 n ≠ 0) : FW p l e (Rx 7 1) s m [.ref (ad 0 0 0), .int a1, .ref (ad 11 0 0)].toArray below meth c 4 N0 T D gr ad 0 0 (MQ below (va_Qi (fun r1 Y1 => r1 = hR c3 res ∧ Y1 = hM res) (WB T D gr ad) (fun q => N0 ≤ q)) [.ref (ad 0 0 0), .int a1, .ref (ad 11 0 0)].toArray s 1 6 (fun q => N0 ≤ q)) Y 0 [(0, .ref (ad 0 0 0)), (1, .int a1), (2, .ref (ad 11 0 0))] [] := by
  refine fw_aload_n C dL_outputByte_0 rfl 2 rfl ?_
  refine fw_iconst C dL_outputByte_1 (v := 0) rfl ?_
  refine fw_aload_n C dL_outputByte_2 rfl 0 rfl ?_
  refine fw_iload_n C dL_outputByte_3 rfl 1 rfl ?_
  rcases res with ⟨n, Y1⟩ | ⟨v, Y1⟩
  · rcases c3_inv (hn n Y1 rfl) with rfl
    · refine fw_callXVi_c C (ci := 9) (Cn := RX11) (Tc := TX11) (N := 11) (As := [.int a1]) (c_X11_outputByte hl (fun q hq => hG q ((by decide : ∀ q ∈ [(0, 0), (5, 1)], q ∈ lawG) q hq)) h) (cwV 1 (cx_ts C) gL_outputByte_X11_outputByte rfl rfl rfl (by decide +kernel) ⟨(Nat.le_of_ble_eq_true rfl), (Nat.le_of_ble_eq_true rfl)⟩) rfl (hG _ lawG_0) (of0_0 _) (ce0 T ad _ _) rfl (st := [.int 0, .ref (ad 11 0 0)]) rfl (Nat.le_of_ble_eq_true rfl) ⟨(Nat.le_of_ble_eq_true rfl), (Nat.le_of_ble_eq_true rfl)⟩ dL_outputByte_4 [] ⟨0, 9, 12, 31⟩ [] htab (fun z hz => nomatch hz) rfl (by decide) (cx_ts C _ lk_L_outputByte_31) (Nst_use' (cx_nst C) cst_3) (fun q => ?_)
      refine fw_astore_n C dL_outputByte_12 rfl (by decide) rfl ?_
      refine fw_iconst C dL_outputByte_13 (v := 1) rfl ?_
      exact fw_iret C hrt Y1 ⟨rfl, rfl⟩ (fun t ht => ht) dL_outputByte_14
  · refine fw_callXVi_r C (ci := 9) (Cn := RX11) (Tc := TX11) (N := 11) (As := [.int a1]) (c_X11_outputByte hl (fun q hq => hG q ((by decide : ∀ q ∈ [(0, 0), (5, 1)], q ∈ lawG) q hq)) h) (cwV 1 (cx_ts C) gL_outputByte_X11_outputByte rfl rfl rfl (by decide +kernel) ⟨(Nat.le_of_ble_eq_true rfl), (Nat.le_of_ble_eq_true rfl)⟩) rfl (hG _ lawG_0) (of0_0 _) (ce0 T ad _ _) rfl (st := [.int 0, .ref (ad 11 0 0)]) rfl (Nat.le_of_ble_eq_true rfl) ⟨(Nat.le_of_ble_eq_true rfl), (Nat.le_of_ble_eq_true rfl)⟩ dL_outputByte_4 ?_
    refine fw_i2l C dL_outputByte_7 rfl ?_
    refine fw_last C (x := v) rfl (hG _ lawG_11) dL_outputByte_8 ?_
    refine fw_goto C dL_outputByte_9 (tgt := 15) rfl ?_
    refine fw_iconst C dL_outputByte_15 (v := 0) rfl ?_
    exact fw_iret C hrt (up Y1 11 0 0 0 v) ⟨rfl, rfl⟩ (fun t ht => ht) dL_outputByte_16
end
theorem c_L_outputByte {l : Launch} {N0 : Nat} {T : Nat → ClassId} {D : va_G} {gr : List (Nat × Nat)} {ad : Nat → Nat → Nat → Nat} {Y : Mem} {a1 : Int32} {res : (Nat × Mem) ⊕ (Int32 × Mem)} (hl : l.stackTraces = false) (hG : ∀ q ∈ lawG, q ∈ gr) (h : X11_outputByte Y a1 = some res) (hn : ∀ n Y1, res = .inl (n, Y1) → c3 n ≠ 0) : CH l yL_outputByte wsL_outputByte (Rx 7 1) N0 T D gr ad Y [.ref (ad 0 0 0), .int a1, .ref (ad 11 0 0)] 1 (hR c3 res) (hM res) :=
  fw_hbody (by decide +kernel) rfl (Nat.le_of_ble_eq_true rfl) (fun p e s m below meth c C hE hrt htab => w_L_outputByte C hE hrt htab hl hG h hn)
