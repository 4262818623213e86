/-! PHASE 3: THE LAW: cases -/
section
variable {p : Program} {l : Launch} {e : Env} {s : State} {m : MethodId} {args : Array Value} {below : List Frame} {meth : Method} {c : Code} {N0 : Nat} {T : Nat → ClassId} {D : va_G} {ad : Nat → Nat → Nat → Nat} {cells slots : Nat} {Q : State → Prop} {Y : Mem} {b Ln : Nat} {xs : Nat → Int32} {i : Int32}
set_option maxHeartbeats 4000000 in
theorem law_48 (X : LX p s m args meth c N0 T D ad l b Ln xs i cells slots) (hI : Inv Y) (k : ∀ Y' : Mem, Inv Y' → LO p l e s m args below meth c N0 T D ad b i (cells + 2) (slots + 12) Q Y' 3079) : LO p l e s m args below meth c N0 T D ad b i cells slots Q Y 2364 := by
  obtain ⟨C, hE, hl, hS, ⟨h1, h2, h3, h4, h5⟩, hc2, hs2⟩ := X
  have hc1 : cells + 1 ≤ 601024 := Nat.le_of_succ_le hc2
  have hs1 : slots + 6 ≤ 7293034 := Nat.le_trans (Nat.add_le_add_left (by decide) _) hs2
  have hc : cells ≤ 601024 := Nat.le_of_succ_le hc1
  have hs : slots ≤ 7293034 := Nat.le_trans (Nat.le_add_right _ _) hs1
  refine fw_aload_n C dL_law_2364 rfl 1 rfl ?_
  obtain ⟨r, Ym, e1, e2, hI2⟩ := q_meanDuration hI
  have ho := nn_meanDuration hI e1
  refine fw_callVd C (ci := 9) (Cn := RX11) (Tc := TX11) (N := 11) (As := []) (c_X11_meanDuration (lawg (by decide)) e1) (cwV 0 (cx_ts C) gL_law_X11_meanDuration rfl rfl rfl (by decide +kernel) ⟨(Nat.le_of_ble_eq_true rfl), (Nat.le_of_ble_eq_true rfl)⟩) rfl (lawg (g := [(0, 0)]) (by decide) _ List.mem_cons_self) (of0_0 _) (ce0 T ad _ _) rfl (st := []) rfl (Nat.le_of_ble_eq_true rfl) ⟨hc, hs⟩ dL_law_2365 (pp2 ?_)
  refine fw_dstore C dL_law_2368 (by decide) (L' := [(5, .double r), (0, .ref b), (1, .ref (ad 0 0 0)), (2, .ref (ad 10 0 0)), (3, .ref (ad 11 0 0)), (4, .int i)]) rfl ?_
  refine fw_aload_n C dL_law_2370 rfl 3 rfl ?_
  refine fw_callVd C (ci := 10) (Cn := RX12) (Tc := TX12) (N := 19) (As := []) (c_X12_meanDuration (lawg (by decide)) e2) (cwV 0 (cx_ts C) gL_law_X12_meanDuration rfl rfl rfl (by decide +kernel) ⟨(Nat.le_of_ble_eq_true rfl), (Nat.le_of_ble_eq_true rfl)⟩) rfl (lawg (g := [(10, 0)]) (by decide) _ List.mem_cons_self) (of10_0 _) (ce10 T ad _ _) rfl (st := []) rfl (Nat.le_of_ble_eq_true rfl) ⟨hc, hs⟩ dL_law_2371 (ppw ?_)
  refine fw_dstore C dL_law_2374 (by decide) (L' := [(7, .double r), (5, .double r), (0, .ref b), (1, .ref (ad 0 0 0)), (2, .ref (ad 10 0 0)), (3, .ref (ad 11 0 0)), (4, .int i)]) rfl ?_
  refine fw_dload C dL_law_2376 1 rfl ?_
  refine fw_dload C dL_law_2378 0 rfl ?_
  refine fw_dcmp C dL_law_2380 ?_
  refine fw_topi (v' := 0) (dc_self ho _) ?_
  refine fw_if_eq C dL_law_2381 (tgt := 2402) rfl (fun _ => ?_) (fun c1 => absurd rfl c1)
  refine fw_goto C dL_law_2402 (tgt := 3079) rfl ?_
  exact fw_widen (Nat.le_add_right _ _) (Nat.le_add_right _ _) (fw_sub [2, 3, 4, 5, 6] rfl (k _ hI2))
set_option maxHeartbeats 4000000 in
theorem law_49 (X : LX p s m args meth c N0 T D ad l b Ln xs i cells slots) (hI : Inv Y) (k : ∀ Y' : Mem, Inv Y' → LO p l e s m args below meth c N0 T D ad b i (cells + 2) (slots + 12) Q Y' 3079) : LO p l e s m args below meth c N0 T D ad b i cells slots Q Y 2405 := by
  obtain ⟨C, hE, hl, hS, ⟨h1, h2, h3, h4, h5⟩, hc2, hs2⟩ := X
  have hc1 : cells + 1 ≤ 601024 := Nat.le_of_succ_le hc2
  have hs1 : slots + 6 ≤ 7293034 := Nat.le_trans (Nat.add_le_add_left (by decide) _) hs2
  have hc : cells ≤ 601024 := Nat.le_of_succ_le hc1
  have hs : slots ≤ 7293034 := Nat.le_trans (Nat.le_add_right _ _) hs1
  refine fw_aload_n C dL_law_2405 rfl 1 rfl ?_
  obtain ⟨r, Ym, e1, e2, hI2⟩ := q_inconsistencies hI
  refine fw_callVi C (ci := 9) (Cn := RX11) (Tc := TX11) (N := 11) (As := []) (c_X11_inconsistencies (lawg (by decide)) e1) (cwV 0 (cx_ts C) gL_law_X11_inconsistencies rfl rfl rfl (by decide +kernel) ⟨(Nat.le_of_ble_eq_true rfl), (Nat.le_of_ble_eq_true rfl)⟩) rfl (lawg (g := [(0, 0)]) (by decide) _ List.mem_cons_self) (of0_0 _) (ce0 T ad _ _) rfl (st := []) rfl (Nat.le_of_ble_eq_true rfl) ⟨hc, hs⟩ dL_law_2406 (pp2 ?_)
  refine fw_aload_n C dL_law_2409 rfl 2 rfl ?_
  refine fw_callVi C (ci := 10) (Cn := RX12) (Tc := TX12) (N := 19) (As := []) (c_X12_inconsistencies (lawg (by decide)) e2) (cwV 0 (cx_ts C) gL_law_X12_inconsistencies rfl rfl rfl (by decide +kernel) ⟨(Nat.le_of_ble_eq_true rfl), (Nat.le_of_ble_eq_true rfl)⟩) rfl (lawg (g := [(10, 0)]) (by decide) _ List.mem_cons_self) (of10_0 _) (ce10 T ad _ _) rfl (st := [.int r]) rfl (Nat.le_of_ble_eq_true rfl) ⟨hc, hs⟩ dL_law_2410 (ppw ?_)
  refine fw_icmp_eq C dL_law_2413 (tgt := 3079) rfl (fun _ => ?_) (fun c1 => absurd rfl c1)
  exact fw_widen (Nat.le_add_right _ _) (Nat.le_add_right _ _) (k _ hI2)
set_option maxHeartbeats 4000000 in
theorem law_50 (X : LX p s m args meth c N0 T D ad l b Ln xs i cells slots) (hI : Inv Y) (k : ∀ Y' : Mem, Inv Y' → LO p l e s m args below meth c N0 T D ad b i (cells + 2) (slots + 12) Q Y' 3079) : LO p l e s m args below meth c N0 T D ad b i cells slots Q Y 2418 := by
  obtain ⟨C, hE, hl, hS, ⟨h1, h2, h3, h4, h5⟩, hc2, hs2⟩ := X
  have hc1 : cells + 1 ≤ 601024 := Nat.le_of_succ_le hc2
  have hs1 : slots + 6 ≤ 7293034 := Nat.le_trans (Nat.add_le_add_left (by decide) _) hs2
  have hc : cells ≤ 601024 := Nat.le_of_succ_le hc1
  have hs : slots ≤ 7293034 := Nat.le_trans (Nat.le_add_right _ _) hs1
  refine fw_aload_n C dL_law_2418 rfl 1 rfl ?_
  refine fw_aload_n C dL_law_2419 rfl 0 rfl ?_
  refine fw_iload C dL_law_2420 4 rfl ?_
  refine fw_iconst C dL_law_2422 (v := 1) rfl ?_
  refine fw_iadd C dL_law_2423 ?_
  refine fw_sld C hS h1 dL_law_2424 ?_
  refine fw_aload_n C dL_law_2425 rfl 3 rfl ?_
  rcases q_pass hI (xs (i + 1).toNatClampNeg) with ⟨n, Yc, e1, hn, bb, Ym, e2, e3, hI2⟩ | ⟨r, Yc, e1, Ym, e2, e3, hI2⟩
  · have e2 : X12_pass Yc (xs (i + 1).toNatClampNeg) = some (bb, Ym) := e2
    refine fw_callH C hE (c_L_pass hl (fun q hq => hq) e1 (fun n1 Y1 q => by cases q; exact hn)) (vx_cwSW 3 (cx_ts C) gL_law_L_pass rfl rfl rfl (by decide +kernel) ⟨(Nat.le_of_ble_eq_true rfl), (Nat.le_of_ble_eq_true rfl)⟩) rfl (st := []) rfl (Nat.le_of_ble_eq_true rfl) ⟨hc1, hs1⟩ dL_law_2426 ?_
    refine fw_mem (Y' := Yc) rfl ?_
    refine fw_topi (v' := c21 n) rfl ?_
    refine fw_istore C dL_law_2429 (by decide) (L' := [(5, .int (c21 n)), (0, .ref b), (1, .ref (ad 0 0 0)), (2, .ref (ad 10 0 0)), (3, .ref (ad 11 0 0)), (4, .int i)]) rfl ?_
    refine fw_aload_n C dL_law_2431 rfl 3 rfl ?_
    refine fw_aload_n C dL_law_2432 rfl 1 rfl ?_
    refine fw_iload C dL_law_2433 5 rfl ?_
    refine fw_iconst C dL_law_2435 (v := 1) rfl ?_
    refine fw_iadd C dL_law_2436 ?_
    refine fw_sld C hS h1 dL_law_2437 ?_
    refine fw_callVi C (ci := 10) (Cn := RX12) (Tc := TX12) (N := 19) (As := [.int (xs (i + 1).toNatClampNeg)]) (c_X12_pass (lawg (by decide)) e2) (cwV 1 (cx_ts C) gL_law_X12_pass rfl rfl rfl (by decide +kernel) ⟨(Nat.le_of_ble_eq_true rfl), (Nat.le_of_ble_eq_true rfl)⟩) rfl (lawg (g := [(10, 0)]) (by decide) _ List.mem_cons_self) (of10_0 _) (ce10 T ad _ _) rfl (st := []) rfl (Nat.le_of_ble_eq_true rfl) ⟨hc1, hs1⟩ dL_law_2438 (ppw ?_)
    refine fw_istore C dL_law_2441 (by decide) (L' := [(6, .int bb), (5, .int (c21 n)), (0, .ref b), (1, .ref (ad 0 0 0)), (2, .ref (ad 10 0 0)), (3, .ref (ad 11 0 0)), (4, .int i)]) rfl ?_
    refine fw_aload_n C dL_law_2443 rfl 4 rfl ?_
    refine fw_callVi C (ci := 10) (Cn := RX12) (Tc := TX12) (N := 19) (As := []) (c_X12_thrown (lawg (by decide)) (thr_ok e3)) (cwV 0 (cx_ts C) gL_law_X12_thrown rfl rfl rfl (by decide +kernel) ⟨(Nat.le_of_ble_eq_true rfl), (Nat.le_of_ble_eq_true rfl)⟩) rfl (lawg (g := [(10, 0)]) (by decide) _ List.mem_cons_self) (of10_0 _) (ce10 T ad _ _) rfl (st := []) rfl (Nat.le_of_ble_eq_true rfl) ⟨hc1, hs1⟩ dL_law_2444 (pp2 ?_)
    refine fw_iload C dL_law_2447 1 rfl ?_
    refine fw_icmp_eq C dL_law_2449 (tgt := 2454) rfl (fun _ => ?_) (fun c1 => absurd rfl c1)
    refine fw_iload C dL_law_2454 1 rfl ?_
    refine fw_if_ne C dL_law_2456 (tgt := 2471) rfl (fun _ => ?_) (fun c1 => absurd c1 hn)
    refine fw_goto C dL_law_2471 (tgt := 3079) rfl ?_
    exact fw_widen (Nat.add_le_add_left (by decide) _) (Nat.add_le_add_left (by decide) _) (fw_sub [2, 3, 4, 5, 6] rfl (k _ hI2))
  · have e2 : X12_pass Yc (xs (i + 1).toNatClampNeg) = some (r, Ym) := e2
    refine fw_callH C hE (c_L_pass hl (fun q hq => hq) e1 (fun n1 Y1 q => nomatch q)) (vx_cwSW 3 (cx_ts C) gL_law_L_pass rfl rfl rfl (by decide +kernel) ⟨(Nat.le_of_ble_eq_true rfl), (Nat.le_of_ble_eq_true rfl)⟩) rfl (st := []) rfl (Nat.le_of_ble_eq_true rfl) ⟨hc1, hs1⟩ dL_law_2426 ?_
    refine fw_mem (Y' := s11 r Yc) rfl ?_
    refine fw_topi (v' := 0) rfl ?_
    have e4 : X12_pass (s11 r Yc) (xs (i + 1).toNatClampNeg) = some (r, s11 r Ym) := s11_some (f := fun Z => X12_pass Z (xs (i + 1).toNatClampNeg)) (fun _ Z => k_X12_pass Z (xs (i + 1).toNatClampNeg)) _ e2
    refine fw_istore C dL_law_2429 (by decide) (L' := [(5, .int 0), (0, .ref b), (1, .ref (ad 0 0 0)), (2, .ref (ad 10 0 0)), (3, .ref (ad 11 0 0)), (4, .int i)]) rfl ?_
    refine fw_aload_n C dL_law_2431 rfl 3 rfl ?_
    refine fw_aload_n C dL_law_2432 rfl 1 rfl ?_
    refine fw_iload C dL_law_2433 5 rfl ?_
    refine fw_iconst C dL_law_2435 (v := 1) rfl ?_
    refine fw_iadd C dL_law_2436 ?_
    refine fw_sld C hS h1 dL_law_2437 ?_
    refine fw_callVi C (ci := 10) (Cn := RX12) (Tc := TX12) (N := 19) (As := [.int (xs (i + 1).toNatClampNeg)]) (c_X12_pass (lawg (by decide)) e4) (cwV 1 (cx_ts C) gL_law_X12_pass rfl rfl rfl (by decide +kernel) ⟨(Nat.le_of_ble_eq_true rfl), (Nat.le_of_ble_eq_true rfl)⟩) rfl (lawg (g := [(10, 0)]) (by decide) _ List.mem_cons_self) (of10_0 _) (ce10 T ad _ _) rfl (st := []) rfl (Nat.le_of_ble_eq_true rfl) ⟨hc1, hs1⟩ dL_law_2438 (ppw ?_)
    refine fw_istore C dL_law_2441 (by decide) (L' := [(6, .int r), (5, .int 0), (0, .ref b), (1, .ref (ad 0 0 0)), (2, .ref (ad 10 0 0)), (3, .ref (ad 11 0 0)), (4, .int i)]) rfl ?_
    refine fw_aload_n C dL_law_2443 rfl 4 rfl ?_
    refine fw_callVi C (ci := 10) (Cn := RX12) (Tc := TX12) (N := 19) (As := []) (c_X12_thrown (lawg (by decide)) (thr_s11 r e3)) (cwV 0 (cx_ts C) gL_law_X12_thrown rfl rfl rfl (by decide +kernel) ⟨(Nat.le_of_ble_eq_true rfl), (Nat.le_of_ble_eq_true rfl)⟩) rfl (lawg (g := [(10, 0)]) (by decide) _ List.mem_cons_self) (of10_0 _) (ce10 T ad _ _) rfl (st := []) rfl (Nat.le_of_ble_eq_true rfl) ⟨hc1, hs1⟩ dL_law_2444 (pp2 ?_)
    refine fw_iload C dL_law_2447 1 rfl ?_
    refine fw_icmp_eq C dL_law_2449 (tgt := 2454) rfl (fun _ => ?_) (fun c1 => absurd rfl c1)
    refine fw_iload C dL_law_2454 1 rfl ?_
    refine fw_if_ne C dL_law_2456 (tgt := 2471) rfl (fun c1 => absurd rfl c1) (fun _ => ?_)
    refine fw_aload_n C dL_law_2459 rfl 5 rfl ?_
    refine fw_iconst C dL_law_2460 (v := 0) rfl ?_
    refine fw_lald0 C (lawg (g := [(11, 0)]) (by decide) _ List.mem_cons_self) dL_law_2461 ?_
    refine fw_top (v' := .long (r : Int32).toInt64) (by rw [s11_11]) ?_
    refine fw_iload C dL_law_2462 0 rfl ?_
    refine fw_i2l C dL_law_2464 rfl ?_
    refine fw_lcmp C dL_law_2465 ?_
    refine fw_topi (v' := 0) (lg_self _) ?_
    refine fw_if_eq C dL_law_2466 (tgt := 2471) rfl (fun _ => ?_) (fun c1 => absurd rfl c1)
    refine fw_goto C dL_law_2471 (tgt := 3079) rfl ?_
    exact fw_widen (Nat.add_le_add_left (by decide) _) (Nat.add_le_add_left (by decide) _) (fw_sub [2, 3, 4, 5, 6] rfl (k _ (Inv_s11 _ hI2)))
set_option maxHeartbeats 4000000 in
theorem law_51 (X : LX p s m args meth c N0 T D ad l b Ln xs i cells slots) (hI : Inv Y) (k : ∀ Y' : Mem, Inv Y' → LO p l e s m args below meth c N0 T D ad b i (cells + 2) (slots + 12) Q Y' 3079) : LO p l e s m args below meth c N0 T D ad b i cells slots Q Y 2474 := by
  obtain ⟨C, hE, hl, hS, ⟨h1, h2, h3, h4, h5⟩, hc2, hs2⟩ := X
  have hc1 : cells + 1 ≤ 601024 := Nat.le_of_succ_le hc2
  have hs1 : slots + 6 ≤ 7293034 := Nat.le_trans (Nat.add_le_add_left (by decide) _) hs2
  have hc : cells ≤ 601024 := Nat.le_of_succ_le hc1
  have hs : slots ≤ 7293034 := Nat.le_trans (Nat.le_add_right _ _) hs1
  refine fw_aload_n C dL_law_2474 rfl 1 rfl ?_
  refine fw_aload_n C dL_law_2475 rfl 0 rfl ?_
  refine fw_iload C dL_law_2476 4 rfl ?_
  refine fw_iconst C dL_law_2478 (v := 1) rfl ?_
  refine fw_iadd C dL_law_2479 ?_
  refine fw_sld C hS h1 dL_law_2480 ?_
  refine fw_aload_n C dL_law_2481 rfl 3 rfl ?_
  rcases q_addSalt hI (xs (i + 1).toNatClampNeg) with ⟨n, Yc, e1, hn, bb, Ym, e2, e3, hI2⟩ | ⟨r, Yc, e1, Ym, e2, e3, hI2⟩
  · have e2 : X12_addSalt Yc (xs (i + 1).toNatClampNeg) = some (bb, Ym) := e2
    refine fw_callH C hE (c_L_addSalt hl (fun q hq => hq) e1 (fun n1 Y1 q => by cases q; exact hn)) (vx_cwSW 3 (cx_ts C) gL_law_L_addSalt rfl rfl rfl (by decide +kernel) ⟨(Nat.le_of_ble_eq_true rfl), (Nat.le_of_ble_eq_true rfl)⟩) rfl (st := []) rfl (Nat.le_of_ble_eq_true rfl) ⟨hc1, hs1⟩ dL_law_2482 ?_
    refine fw_mem (Y' := Yc) rfl ?_
    refine fw_topi (v' := c21 n) rfl ?_
    refine fw_istore C dL_law_2485 (by decide) (L' := [(5, .int (c21 n)), (0, .ref b), (1, .ref (ad 0 0 0)), (2, .ref (ad 10 0 0)), (3, .ref (ad 11 0 0)), (4, .int i)]) rfl ?_
    refine fw_aload_n C dL_law_2487 rfl 3 rfl ?_
    refine fw_aload_n C dL_law_2488 rfl 1 rfl ?_
    refine fw_iload C dL_law_2489 5 rfl ?_
    refine fw_iconst C dL_law_2491 (v := 1) rfl ?_
    refine fw_iadd C dL_law_2492 ?_
    refine fw_sld C hS h1 dL_law_2493 ?_
    refine fw_callVi C (ci := 10) (Cn := RX12) (Tc := TX12) (N := 19) (As := [.int (xs (i + 1).toNatClampNeg)]) (c_X12_addSalt (lawg (by decide)) e2) (cwV 1 (cx_ts C) gL_law_X12_addSalt rfl rfl rfl (by decide +kernel) ⟨(Nat.le_of_ble_eq_true rfl), (Nat.le_of_ble_eq_true rfl)⟩) rfl (lawg (g := [(10, 0)]) (by decide) _ List.mem_cons_self) (of10_0 _) (ce10 T ad _ _) rfl (st := []) rfl (Nat.le_of_ble_eq_true rfl) ⟨hc1, hs1⟩ dL_law_2494 (ppw ?_)
    refine fw_istore C dL_law_2497 (by decide) (L' := [(6, .int bb), (5, .int (c21 n)), (0, .ref b), (1, .ref (ad 0 0 0)), (2, .ref (ad 10 0 0)), (3, .ref (ad 11 0 0)), (4, .int i)]) rfl ?_
    refine fw_aload_n C dL_law_2499 rfl 4 rfl ?_
    refine fw_callVi C (ci := 10) (Cn := RX12) (Tc := TX12) (N := 19) (As := []) (c_X12_thrown (lawg (by decide)) (thr_ok e3)) (cwV 0 (cx_ts C) gL_law_X12_thrown rfl rfl rfl (by decide +kernel) ⟨(Nat.le_of_ble_eq_true rfl), (Nat.le_of_ble_eq_true rfl)⟩) rfl (lawg (g := [(10, 0)]) (by decide) _ List.mem_cons_self) (of10_0 _) (ce10 T ad _ _) rfl (st := []) rfl (Nat.le_of_ble_eq_true rfl) ⟨hc1, hs1⟩ dL_law_2500 (pp2 ?_)
    refine fw_iload C dL_law_2503 1 rfl ?_
    refine fw_icmp_eq C dL_law_2505 (tgt := 2510) rfl (fun _ => ?_) (fun c1 => absurd rfl c1)
    refine fw_iload C dL_law_2510 1 rfl ?_
    refine fw_if_ne C dL_law_2512 (tgt := 2527) rfl (fun _ => ?_) (fun c1 => absurd c1 hn)
    refine fw_goto C dL_law_2527 (tgt := 3079) rfl ?_
    exact fw_widen (Nat.add_le_add_left (by decide) _) (Nat.add_le_add_left (by decide) _) (fw_sub [2, 3, 4, 5, 6] rfl (k _ hI2))
  · have e2 : X12_addSalt Yc (xs (i + 1).toNatClampNeg) = some (r, Ym) := e2
    refine fw_callH C hE (c_L_addSalt hl (fun q hq => hq) e1 (fun n1 Y1 q => nomatch q)) (vx_cwSW 3 (cx_ts C) gL_law_L_addSalt rfl rfl rfl (by decide +kernel) ⟨(Nat.le_of_ble_eq_true rfl), (Nat.le_of_ble_eq_true rfl)⟩) rfl (st := []) rfl (Nat.le_of_ble_eq_true rfl) ⟨hc1, hs1⟩ dL_law_2482 ?_
    refine fw_mem (Y' := s11 r Yc) rfl ?_
    refine fw_topi (v' := 0) rfl ?_
    have e4 : X12_addSalt (s11 r Yc) (xs (i + 1).toNatClampNeg) = some (r, s11 r Ym) := s11_some (f := fun Z => X12_addSalt Z (xs (i + 1).toNatClampNeg)) (fun _ Z => k_X12_addSalt Z (xs (i + 1).toNatClampNeg)) _ e2
    refine fw_istore C dL_law_2485 (by decide) (L' := [(5, .int 0), (0, .ref b), (1, .ref (ad 0 0 0)), (2, .ref (ad 10 0 0)), (3, .ref (ad 11 0 0)), (4, .int i)]) rfl ?_
    refine fw_aload_n C dL_law_2487 rfl 3 rfl ?_
    refine fw_aload_n C dL_law_2488 rfl 1 rfl ?_
    refine fw_iload C dL_law_2489 5 rfl ?_
    refine fw_iconst C dL_law_2491 (v := 1) rfl ?_
    refine fw_iadd C dL_law_2492 ?_
    refine fw_sld C hS h1 dL_law_2493 ?_
    refine fw_callVi C (ci := 10) (Cn := RX12) (Tc := TX12) (N := 19) (As := [.int (xs (i + 1).toNatClampNeg)]) (c_X12_addSalt (lawg (by decide)) e4) (cwV 1 (cx_ts C) gL_law_X12_addSalt rfl rfl rfl (by decide +kernel) ⟨(Nat.le_of_ble_eq_true rfl), (Nat.le_of_ble_eq_true rfl)⟩) rfl (lawg (g := [(10, 0)]) (by decide) _ List.mem_cons_self) (of10_0 _) (ce10 T ad _ _) rfl (st := []) rfl (Nat.le_of_ble_eq_true rfl) ⟨hc1, hs1⟩ dL_law_2494 (ppw ?_)
    refine fw_istore C dL_law_2497 (by decide) (L' := [(6, .int r), (5, .int 0), (0, .ref b), (1, .ref (ad 0 0 0)), (2, .ref (ad 10 0 0)), (3, .ref (ad 11 0 0)), (4, .int i)]) rfl ?_
    refine fw_aload_n C dL_law_2499 rfl 4 rfl ?_
    refine fw_callVi C (ci := 10) (Cn := RX12) (Tc := TX12) (N := 19) (As := []) (c_X12_thrown (lawg (by decide)) (thr_s11 r e3)) (cwV 0 (cx_ts C) gL_law_X12_thrown rfl rfl rfl (by decide +kernel) ⟨(Nat.le_of_ble_eq_true rfl), (Nat.le_of_ble_eq_true rfl)⟩) rfl (lawg (g := [(10, 0)]) (by decide) _ List.mem_cons_self) (of10_0 _) (ce10 T ad _ _) rfl (st := []) rfl (Nat.le_of_ble_eq_true rfl) ⟨hc1, hs1⟩ dL_law_2500 (pp2 ?_)
    refine fw_iload C dL_law_2503 1 rfl ?_
    refine fw_icmp_eq C dL_law_2505 (tgt := 2510) rfl (fun _ => ?_) (fun c1 => absurd rfl c1)
    refine fw_iload C dL_law_2510 1 rfl ?_
    refine fw_if_ne C dL_law_2512 (tgt := 2527) rfl (fun c1 => absurd rfl c1) (fun _ => ?_)
    refine fw_aload_n C dL_law_2515 rfl 5 rfl ?_
    refine fw_iconst C dL_law_2516 (v := 0) rfl ?_
    refine fw_lald0 C (lawg (g := [(11, 0)]) (by decide) _ List.mem_cons_self) dL_law_2517 ?_
    refine fw_top (v' := .long (r : Int32).toInt64) (by rw [s11_11]) ?_
    refine fw_iload C dL_law_2518 0 rfl ?_
    refine fw_i2l C dL_law_2520 rfl ?_
    refine fw_lcmp C dL_law_2521 ?_
    refine fw_topi (v' := 0) (lg_self _) ?_
    refine fw_if_eq C dL_law_2522 (tgt := 2527) rfl (fun _ => ?_) (fun c1 => absurd rfl c1)
    refine fw_goto C dL_law_2527 (tgt := 3079) rfl ?_
    exact fw_widen (Nat.add_le_add_left (by decide) _) (Nat.add_le_add_left (by decide) _) (fw_sub [2, 3, 4, 5, 6] rfl (k _ (Inv_s11 _ hI2)))
set_option maxHeartbeats 4000000 in
theorem law_52 (X : LX p s m args meth c N0 T D ad l b Ln xs i cells slots) (hI : Inv Y) (k : ∀ Y' : Mem, Inv Y' → LO p l e s m args below meth c N0 T D ad b i (cells + 2) (slots + 12) Q Y' 3079) : LO p l e s m args below meth c N0 T D ad b i cells slots Q Y 2530 := by
  obtain ⟨C, hE, hl, hS, ⟨h1, h2, h3, h4, h5⟩, hc2, hs2⟩ := X
  have hc1 : cells + 1 ≤ 601024 := Nat.le_of_succ_le hc2
  have hs1 : slots + 6 ≤ 7293034 := Nat.le_trans (Nat.add_le_add_left (by decide) _) hs2
  have hc : cells ≤ 601024 := Nat.le_of_succ_le hc1
  have hs : slots ≤ 7293034 := Nat.le_trans (Nat.le_add_right _ _) hs1
  refine fw_aload_n C dL_law_2530 rfl 1 rfl ?_
  refine fw_aload_n C dL_law_2531 rfl 0 rfl ?_
  refine fw_iload C dL_law_2532 4 rfl ?_
  refine fw_iconst C dL_law_2534 (v := 1) rfl ?_
  refine fw_iadd C dL_law_2535 ?_
  refine fw_sld C hS h1 dL_law_2536 ?_
  refine fw_aload_n C dL_law_2537 rfl 3 rfl ?_
  rcases q_stop hI (xs (i + 1).toNatClampNeg) with ⟨n, Yc, e1, hn, bb, Ym, e2, e3, hI2⟩ | ⟨r, Yc, e1, Ym, e2, e3, hI2⟩
  · have e2 : X12_stop Yc (xs (i + 1).toNatClampNeg) = some (bb, Ym) := e2
    refine fw_callH C hE (c_L_stop hl (fun q hq => hq) e1 (fun n1 Y1 q => by cases q; exact hn)) (vx_cwSW 3 (cx_ts C) gL_law_L_stop rfl rfl rfl (by decide +kernel) ⟨(Nat.le_of_ble_eq_true rfl), (Nat.le_of_ble_eq_true rfl)⟩) rfl (st := []) rfl (Nat.le_of_ble_eq_true rfl) ⟨hc2, hs2⟩ dL_law_2538 ?_
    refine fw_mem (Y' := Yc) rfl ?_
    refine fw_topi (v' := c31 n) rfl ?_
    refine fw_istore C dL_law_2541 (by decide) (L' := [(5, .int (c31 n)), (0, .ref b), (1, .ref (ad 0 0 0)), (2, .ref (ad 10 0 0)), (3, .ref (ad 11 0 0)), (4, .int i)]) rfl ?_
    refine fw_aload_n C dL_law_2543 rfl 3 rfl ?_
    refine fw_aload_n C dL_law_2544 rfl 1 rfl ?_
    refine fw_iload C dL_law_2545 5 rfl ?_
    refine fw_iconst C dL_law_2547 (v := 1) rfl ?_
    refine fw_iadd C dL_law_2548 ?_
    refine fw_sld C hS h1 dL_law_2549 ?_
    refine fw_callVi C (ci := 10) (Cn := RX12) (Tc := TX12) (N := 19) (As := [.int (xs (i + 1).toNatClampNeg)]) (c_X12_stop (lawg (by decide)) e2) (cwV 1 (cx_ts C) gL_law_X12_stop rfl rfl rfl (by decide +kernel) ⟨(Nat.le_of_ble_eq_true rfl), (Nat.le_of_ble_eq_true rfl)⟩) rfl (lawg (g := [(10, 0)]) (by decide) _ List.mem_cons_self) (of10_0 _) (ce10 T ad _ _) rfl (st := []) rfl (Nat.le_of_ble_eq_true rfl) ⟨hc2, hs2⟩ dL_law_2550 (ppw ?_)
    refine fw_istore C dL_law_2553 (by decide) (L' := [(6, .int bb), (5, .int (c31 n)), (0, .ref b), (1, .ref (ad 0 0 0)), (2, .ref (ad 10 0 0)), (3, .ref (ad 11 0 0)), (4, .int i)]) rfl ?_
    refine fw_aload_n C dL_law_2555 rfl 4 rfl ?_
    refine fw_callVi C (ci := 10) (Cn := RX12) (Tc := TX12) (N := 19) (As := []) (c_X12_thrown (lawg (by decide)) (thr_ok e3)) (cwV 0 (cx_ts C) gL_law_X12_thrown rfl rfl rfl (by decide +kernel) ⟨(Nat.le_of_ble_eq_true rfl), (Nat.le_of_ble_eq_true rfl)⟩) rfl (lawg (g := [(10, 0)]) (by decide) _ List.mem_cons_self) (of10_0 _) (ce10 T ad _ _) rfl (st := []) rfl (Nat.le_of_ble_eq_true rfl) ⟨hc2, hs2⟩ dL_law_2556 (pp2 ?_)
    refine fw_iload C dL_law_2559 1 rfl ?_
    refine fw_icmp_eq C dL_law_2561 (tgt := 2566) rfl (fun _ => ?_) (fun c1 => absurd rfl c1)
    refine fw_iload C dL_law_2566 1 rfl ?_
    refine fw_if_ne C dL_law_2568 (tgt := 2583) rfl (fun _ => ?_) (fun c1 => absurd c1 hn)
    refine fw_goto C dL_law_2583 (tgt := 3079) rfl ?_
    exact fw_widen (Nat.add_le_add_left (by decide) _) (Nat.add_le_add_left (by decide) _) (fw_sub [2, 3, 4, 5, 6] rfl (k _ hI2))
  · have e2 : X12_stop Yc (xs (i + 1).toNatClampNeg) = some (r, Ym) := e2
    refine fw_callH C hE (c_L_stop hl (fun q hq => hq) e1 (fun n1 Y1 q => nomatch q)) (vx_cwSW 3 (cx_ts C) gL_law_L_stop rfl rfl rfl (by decide +kernel) ⟨(Nat.le_of_ble_eq_true rfl), (Nat.le_of_ble_eq_true rfl)⟩) rfl (st := []) rfl (Nat.le_of_ble_eq_true rfl) ⟨hc2, hs2⟩ dL_law_2538 ?_
    refine fw_mem (Y' := s11 r Yc) rfl ?_
    refine fw_topi (v' := 0) rfl ?_
    have e4 : X12_stop (s11 r Yc) (xs (i + 1).toNatClampNeg) = some (r, s11 r Ym) := s11_some (f := fun Z => X12_stop Z (xs (i + 1).toNatClampNeg)) (fun _ Z => k_X12_stop Z (xs (i + 1).toNatClampNeg)) _ e2
    refine fw_istore C dL_law_2541 (by decide) (L' := [(5, .int 0), (0, .ref b), (1, .ref (ad 0 0 0)), (2, .ref (ad 10 0 0)), (3, .ref (ad 11 0 0)), (4, .int i)]) rfl ?_
    refine fw_aload_n C dL_law_2543 rfl 3 rfl ?_
    refine fw_aload_n C dL_law_2544 rfl 1 rfl ?_
    refine fw_iload C dL_law_2545 5 rfl ?_
    refine fw_iconst C dL_law_2547 (v := 1) rfl ?_
    refine fw_iadd C dL_law_2548 ?_
    refine fw_sld C hS h1 dL_law_2549 ?_
    refine fw_callVi C (ci := 10) (Cn := RX12) (Tc := TX12) (N := 19) (As := [.int (xs (i + 1).toNatClampNeg)]) (c_X12_stop (lawg (by decide)) e4) (cwV 1 (cx_ts C) gL_law_X12_stop rfl rfl rfl (by decide +kernel) ⟨(Nat.le_of_ble_eq_true rfl), (Nat.le_of_ble_eq_true rfl)⟩) rfl (lawg (g := [(10, 0)]) (by decide) _ List.mem_cons_self) (of10_0 _) (ce10 T ad _ _) rfl (st := []) rfl (Nat.le_of_ble_eq_true rfl) ⟨hc2, hs2⟩ dL_law_2550 (ppw ?_)
    refine fw_istore C dL_law_2553 (by decide) (L' := [(6, .int r), (5, .int 0), (0, .ref b), (1, .ref (ad 0 0 0)), (2, .ref (ad 10 0 0)), (3, .ref (ad 11 0 0)), (4, .int i)]) rfl ?_
    refine fw_aload_n C dL_law_2555 rfl 4 rfl ?_
    refine fw_callVi C (ci := 10) (Cn := RX12) (Tc := TX12) (N := 19) (As := []) (c_X12_thrown (lawg (by decide)) (thr_s11 r e3)) (cwV 0 (cx_ts C) gL_law_X12_thrown rfl rfl rfl (by decide +kernel) ⟨(Nat.le_of_ble_eq_true rfl), (Nat.le_of_ble_eq_true rfl)⟩) rfl (lawg (g := [(10, 0)]) (by decide) _ List.mem_cons_self) (of10_0 _) (ce10 T ad _ _) rfl (st := []) rfl (Nat.le_of_ble_eq_true rfl) ⟨hc2, hs2⟩ dL_law_2556 (pp2 ?_)
    refine fw_iload C dL_law_2559 1 rfl ?_
    refine fw_icmp_eq C dL_law_2561 (tgt := 2566) rfl (fun _ => ?_) (fun c1 => absurd rfl c1)
    refine fw_iload C dL_law_2566 1 rfl ?_
    refine fw_if_ne C dL_law_2568 (tgt := 2583) rfl (fun c1 => absurd rfl c1) (fun _ => ?_)
    refine fw_aload_n C dL_law_2571 rfl 5 rfl ?_
    refine fw_iconst C dL_law_2572 (v := 0) rfl ?_
    refine fw_lald0 C (lawg (g := [(11, 0)]) (by decide) _ List.mem_cons_self) dL_law_2573 ?_
    refine fw_top (v' := .long (r : Int32).toInt64) (by rw [s11_11]) ?_
    refine fw_iload C dL_law_2574 0 rfl ?_
    refine fw_i2l C dL_law_2576 rfl ?_
    refine fw_lcmp C dL_law_2577 ?_
    refine fw_topi (v' := 0) (lg_self _) ?_
    refine fw_if_eq C dL_law_2578 (tgt := 2583) rfl (fun _ => ?_) (fun c1 => absurd rfl c1)
    refine fw_goto C dL_law_2583 (tgt := 3079) rfl ?_
    exact fw_widen (Nat.add_le_add_left (by decide) _) (Nat.add_le_add_left (by decide) _) (fw_sub [2, 3, 4, 5, 6] rfl (k _ (Inv_s11 _ hI2)))
set_option maxHeartbeats 4000000 in
theorem law_53 (X : LX p s m args meth c N0 T D ad l b Ln xs i cells slots) (hI : Inv Y) (k : ∀ Y' : Mem, Inv Y' → LO p l e s m args below meth c N0 T D ad b i (cells + 2) (slots + 12) Q Y' 3079) : LO p l e s m args below meth c N0 T D ad b i cells slots Q Y 2586 := by
  obtain ⟨C, hE, hl, hS, ⟨h1, h2, h3, h4, h5⟩, hc2, hs2⟩ := X
  have hc1 : cells + 1 ≤ 601024 := Nat.le_of_succ_le hc2
  have hs1 : slots + 6 ≤ 7293034 := Nat.le_trans (Nat.add_le_add_left (by decide) _) hs2
  have hc : cells ≤ 601024 := Nat.le_of_succ_le hc1
  have hs : slots ≤ 7293034 := Nat.le_trans (Nat.le_add_right _ _) hs1
  refine fw_aload_n C dL_law_2586 rfl 1 rfl ?_
  refine fw_aload_n C dL_law_2587 rfl 0 rfl ?_
  refine fw_iload C dL_law_2588 4 rfl ?_
  refine fw_iconst C dL_law_2590 (v := 1) rfl ?_
  refine fw_iadd C dL_law_2591 ?_
  refine fw_sld C hS h1 dL_law_2592 ?_
  refine fw_aload_n C dL_law_2593 rfl 3 rfl ?_
  rcases q_redo hI (xs (i + 1).toNatClampNeg) with ⟨n, Yc, e1, hn, bb, Ym, e2, e3, hI2⟩ | ⟨r, Yc, e1, Ym, e2, e3, hI2⟩
  · have e2 : X12_redo Yc (xs (i + 1).toNatClampNeg) = some (bb, Ym) := e2
    refine fw_callH C hE (c_L_redo hl (fun q hq => hq) e1 (fun n1 Y1 q => by cases q; exact hn)) (vx_cwSW 3 (cx_ts C) gL_law_L_redo rfl rfl rfl (by decide +kernel) ⟨(Nat.le_of_ble_eq_true rfl), (Nat.le_of_ble_eq_true rfl)⟩) rfl (st := []) rfl (Nat.le_of_ble_eq_true rfl) ⟨hc2, hs2⟩ dL_law_2594 ?_
    refine fw_mem (Y' := Yc) rfl ?_
    refine fw_topi (v' := c31 n) rfl ?_
    refine fw_istore C dL_law_2597 (by decide) (L' := [(5, .int (c31 n)), (0, .ref b), (1, .ref (ad 0 0 0)), (2, .ref (ad 10 0 0)), (3, .ref (ad 11 0 0)), (4, .int i)]) rfl ?_
    refine fw_aload_n C dL_law_2599 rfl 3 rfl ?_
    refine fw_aload_n C dL_law_2600 rfl 1 rfl ?_
    refine fw_iload C dL_law_2601 5 rfl ?_
    refine fw_iconst C dL_law_2603 (v := 1) rfl ?_
    refine fw_iadd C dL_law_2604 ?_
    refine fw_sld C hS h1 dL_law_2605 ?_
    refine fw_callVi C (ci := 10) (Cn := RX12) (Tc := TX12) (N := 19) (As := [.int (xs (i + 1).toNatClampNeg)]) (c_X12_redo (lawg (by decide)) e2) (cwV 1 (cx_ts C) gL_law_X12_redo rfl rfl rfl (by decide +kernel) ⟨(Nat.le_of_ble_eq_true rfl), (Nat.le_of_ble_eq_true rfl)⟩) rfl (lawg (g := [(10, 0)]) (by decide) _ List.mem_cons_self) (of10_0 _) (ce10 T ad _ _) rfl (st := []) rfl (Nat.le_of_ble_eq_true rfl) ⟨hc2, hs2⟩ dL_law_2606 (ppw ?_)
    refine fw_istore C dL_law_2609 (by decide) (L' := [(6, .int bb), (5, .int (c31 n)), (0, .ref b), (1, .ref (ad 0 0 0)), (2, .ref (ad 10 0 0)), (3, .ref (ad 11 0 0)), (4, .int i)]) rfl ?_
    refine fw_aload_n C dL_law_2611 rfl 4 rfl ?_
    refine fw_callVi C (ci := 10) (Cn := RX12) (Tc := TX12) (N := 19) (As := []) (c_X12_thrown (lawg (by decide)) (thr_ok e3)) (cwV 0 (cx_ts C) gL_law_X12_thrown rfl rfl rfl (by decide +kernel) ⟨(Nat.le_of_ble_eq_true rfl), (Nat.le_of_ble_eq_true rfl)⟩) rfl (lawg (g := [(10, 0)]) (by decide) _ List.mem_cons_self) (of10_0 _) (ce10 T ad _ _) rfl (st := []) rfl (Nat.le_of_ble_eq_true rfl) ⟨hc2, hs2⟩ dL_law_2612 (pp2 ?_)
    refine fw_iload C dL_law_2615 1 rfl ?_
    refine fw_icmp_eq C dL_law_2617 (tgt := 2622) rfl (fun _ => ?_) (fun c1 => absurd rfl c1)
    refine fw_iload C dL_law_2622 1 rfl ?_
    refine fw_if_ne C dL_law_2624 (tgt := 2639) rfl (fun _ => ?_) (fun c1 => absurd c1 hn)
    refine fw_goto C dL_law_2639 (tgt := 3079) rfl ?_
    exact fw_widen (Nat.add_le_add_left (by decide) _) (Nat.add_le_add_left (by decide) _) (fw_sub [2, 3, 4, 5, 6] rfl (k _ hI2))
  · have e2 : X12_redo Yc (xs (i + 1).toNatClampNeg) = some (r, Ym) := e2
    refine fw_callH C hE (c_L_redo hl (fun q hq => hq) e1 (fun n1 Y1 q => nomatch q)) (vx_cwSW 3 (cx_ts C) gL_law_L_redo rfl rfl rfl (by decide +kernel) ⟨(Nat.le_of_ble_eq_true rfl), (Nat.le_of_ble_eq_true rfl)⟩) rfl (st := []) rfl (Nat.le_of_ble_eq_true rfl) ⟨hc2, hs2⟩ dL_law_2594 ?_
    refine fw_mem (Y' := s11 r Yc) rfl ?_
    refine fw_topi (v' := 0) rfl ?_
    have e4 : X12_redo (s11 r Yc) (xs (i + 1).toNatClampNeg) = some (r, s11 r Ym) := s11_some (f := fun Z => X12_redo Z (xs (i + 1).toNatClampNeg)) (fun _ Z => k_X12_redo Z (xs (i + 1).toNatClampNeg)) _ e2
    refine fw_istore C dL_law_2597 (by decide) (L' := [(5, .int 0), (0, .ref b), (1, .ref (ad 0 0 0)), (2, .ref (ad 10 0 0)), (3, .ref (ad 11 0 0)), (4, .int i)]) rfl ?_
    refine fw_aload_n C dL_law_2599 rfl 3 rfl ?_
    refine fw_aload_n C dL_law_2600 rfl 1 rfl ?_
    refine fw_iload C dL_law_2601 5 rfl ?_
    refine fw_iconst C dL_law_2603 (v := 1) rfl ?_
    refine fw_iadd C dL_law_2604 ?_
    refine fw_sld C hS h1 dL_law_2605 ?_
    refine fw_callVi C (ci := 10) (Cn := RX12) (Tc := TX12) (N := 19) (As := [.int (xs (i + 1).toNatClampNeg)]) (c_X12_redo (lawg (by decide)) e4) (cwV 1 (cx_ts C) gL_law_X12_redo rfl rfl rfl (by decide +kernel) ⟨(Nat.le_of_ble_eq_true rfl), (Nat.le_of_ble_eq_true rfl)⟩) rfl (lawg (g := [(10, 0)]) (by decide) _ List.mem_cons_self) (of10_0 _) (ce10 T ad _ _) rfl (st := []) rfl (Nat.le_of_ble_eq_true rfl) ⟨hc2, hs2⟩ dL_law_2606 (ppw ?_)
    refine fw_istore C dL_law_2609 (by decide) (L' := [(6, .int r), (5, .int 0), (0, .ref b), (1, .ref (ad 0 0 0)), (2, .ref (ad 10 0 0)), (3, .ref (ad 11 0 0)), (4, .int i)]) rfl ?_
    refine fw_aload_n C dL_law_2611 rfl 4 rfl ?_
    refine fw_callVi C (ci := 10) (Cn := RX12) (Tc := TX12) (N := 19) (As := []) (c_X12_thrown (lawg (by decide)) (thr_s11 r e3)) (cwV 0 (cx_ts C) gL_law_X12_thrown rfl rfl rfl (by decide +kernel) ⟨(Nat.le_of_ble_eq_true rfl), (Nat.le_of_ble_eq_true rfl)⟩) rfl (lawg (g := [(10, 0)]) (by decide) _ List.mem_cons_self) (of10_0 _) (ce10 T ad _ _) rfl (st := []) rfl (Nat.le_of_ble_eq_true rfl) ⟨hc2, hs2⟩ dL_law_2612 (pp2 ?_)
    refine fw_iload C dL_law_2615 1 rfl ?_
    refine fw_icmp_eq C dL_law_2617 (tgt := 2622) rfl (fun _ => ?_) (fun c1 => absurd rfl c1)
    refine fw_iload C dL_law_2622 1 rfl ?_
    refine fw_if_ne C dL_law_2624 (tgt := 2639) rfl (fun c1 => absurd rfl c1) (fun _ => ?_)
    refine fw_aload_n C dL_law_2627 rfl 5 rfl ?_
    refine fw_iconst C dL_law_2628 (v := 0) rfl ?_
    refine fw_lald0 C (lawg (g := [(11, 0)]) (by decide) _ List.mem_cons_self) dL_law_2629 ?_
    refine fw_top (v' := .long (r : Int32).toInt64) (by rw [s11_11]) ?_
    refine fw_iload C dL_law_2630 0 rfl ?_
    refine fw_i2l C dL_law_2632 rfl ?_
    refine fw_lcmp C dL_law_2633 ?_
    refine fw_topi (v' := 0) (lg_self _) ?_
    refine fw_if_eq C dL_law_2634 (tgt := 2639) rfl (fun _ => ?_) (fun c1 => absurd rfl c1)
    refine fw_goto C dL_law_2639 (tgt := 3079) rfl ?_
    exact fw_widen (Nat.add_le_add_left (by decide) _) (Nat.add_le_add_left (by decide) _) (fw_sub [2, 3, 4, 5, 6] rfl (k _ (Inv_s11 _ hI2)))
set_option maxHeartbeats 4000000 in
theorem law_54 (X : LX p s m args meth c N0 T D ad l b Ln xs i cells slots) (hI : Inv Y) (k : ∀ Y' : Mem, Inv Y' → LO p l e s m args below meth c N0 T D ad b i (cells + 2) (slots + 12) Q Y' 3079) : LO p l e s m args below meth c N0 T D ad b i cells slots Q Y 2642 := by
  obtain ⟨C, hE, hl, hS, ⟨h1, h2, h3, h4, h5⟩, hc2, hs2⟩ := X
  have hc1 : cells + 1 ≤ 601024 := Nat.le_of_succ_le hc2
  have hs1 : slots + 6 ≤ 7293034 := Nat.le_trans (Nat.add_le_add_left (by decide) _) hs2
  have hc : cells ≤ 601024 := Nat.le_of_succ_le hc1
  have hs : slots ≤ 7293034 := Nat.le_trans (Nat.le_add_right _ _) hs1
  refine fw_aload_n C dL_law_2642 rfl 1 rfl ?_
  refine fw_aload_n C dL_law_2643 rfl 0 rfl ?_
  refine fw_iload C dL_law_2644 4 rfl ?_
  refine fw_iconst C dL_law_2646 (v := 1) rfl ?_
  refine fw_iadd C dL_law_2647 ?_
  refine fw_sld C hS h1 dL_law_2648 ?_
  refine fw_aload_n C dL_law_2649 rfl 3 rfl ?_
  rcases q_setCooks hI (xs (i + 1).toNatClampNeg) with ⟨n, Yc, e1, hn, bb, Ym, e2, e3, hI2⟩ | ⟨r, Yc, e1, Ym, e2, e3, hI2⟩
  · have e2 : X12_setCooks Yc (xs (i + 1).toNatClampNeg) = some (bb, Ym) := e2
    refine fw_callH C hE (c_L_setCooks hl (fun q hq => hq) e1 (fun n1 Y1 q => by cases q; exact hn)) (vx_cwSW 3 (cx_ts C) gL_law_L_setCooks rfl rfl rfl (by decide +kernel) ⟨(Nat.le_of_ble_eq_true rfl), (Nat.le_of_ble_eq_true rfl)⟩) rfl (st := []) rfl (Nat.le_of_ble_eq_true rfl) ⟨hc1, hs1⟩ dL_law_2650 ?_
    refine fw_mem (Y' := Yc) rfl ?_
    refine fw_topi (v' := c2_ n) rfl ?_
    refine fw_istore C dL_law_2653 (by decide) (L' := [(5, .int (c2_ n)), (0, .ref b), (1, .ref (ad 0 0 0)), (2, .ref (ad 10 0 0)), (3, .ref (ad 11 0 0)), (4, .int i)]) rfl ?_
    refine fw_aload_n C dL_law_2655 rfl 3 rfl ?_
    refine fw_aload_n C dL_law_2656 rfl 1 rfl ?_
    refine fw_iload C dL_law_2657 5 rfl ?_
    refine fw_iconst C dL_law_2659 (v := 1) rfl ?_
    refine fw_iadd C dL_law_2660 ?_
    refine fw_sld C hS h1 dL_law_2661 ?_
    refine fw_callVi C (ci := 10) (Cn := RX12) (Tc := TX12) (N := 19) (As := [.int (xs (i + 1).toNatClampNeg)]) (c_X12_setCooks (lawg (by decide)) e2) (cwV 1 (cx_ts C) gL_law_X12_setCooks rfl rfl rfl (by decide +kernel) ⟨(Nat.le_of_ble_eq_true rfl), (Nat.le_of_ble_eq_true rfl)⟩) rfl (lawg (g := [(10, 0)]) (by decide) _ List.mem_cons_self) (of10_0 _) (ce10 T ad _ _) rfl (st := []) rfl (Nat.le_of_ble_eq_true rfl) ⟨hc1, hs1⟩ dL_law_2662 (ppw ?_)
    refine fw_istore C dL_law_2665 (by decide) (L' := [(6, .int bb), (5, .int (c2_ n)), (0, .ref b), (1, .ref (ad 0 0 0)), (2, .ref (ad 10 0 0)), (3, .ref (ad 11 0 0)), (4, .int i)]) rfl ?_
    refine fw_aload_n C dL_law_2667 rfl 4 rfl ?_
    refine fw_callVi C (ci := 10) (Cn := RX12) (Tc := TX12) (N := 19) (As := []) (c_X12_thrown (lawg (by decide)) (thr_ok e3)) (cwV 0 (cx_ts C) gL_law_X12_thrown rfl rfl rfl (by decide +kernel) ⟨(Nat.le_of_ble_eq_true rfl), (Nat.le_of_ble_eq_true rfl)⟩) rfl (lawg (g := [(10, 0)]) (by decide) _ List.mem_cons_self) (of10_0 _) (ce10 T ad _ _) rfl (st := []) rfl (Nat.le_of_ble_eq_true rfl) ⟨hc1, hs1⟩ dL_law_2668 (pp2 ?_)
    refine fw_iload C dL_law_2671 1 rfl ?_
    refine fw_icmp_eq C dL_law_2673 (tgt := 2678) rfl (fun _ => ?_) (fun c1 => absurd rfl c1)
    refine fw_iload C dL_law_2678 1 rfl ?_
    refine fw_if_ne C dL_law_2680 (tgt := 2695) rfl (fun _ => ?_) (fun c1 => absurd c1 hn)
    refine fw_goto C dL_law_2695 (tgt := 3079) rfl ?_
    exact fw_widen (Nat.add_le_add_left (by decide) _) (Nat.add_le_add_left (by decide) _) (fw_sub [2, 3, 4, 5, 6] rfl (k _ hI2))
  · have e2 : X12_setCooks Yc (xs (i + 1).toNatClampNeg) = some (r, Ym) := e2
    refine fw_callH C hE (c_L_setCooks hl (fun q hq => hq) e1 (fun n1 Y1 q => nomatch q)) (vx_cwSW 3 (cx_ts C) gL_law_L_setCooks rfl rfl rfl (by decide +kernel) ⟨(Nat.le_of_ble_eq_true rfl), (Nat.le_of_ble_eq_true rfl)⟩) rfl (st := []) rfl (Nat.le_of_ble_eq_true rfl) ⟨hc1, hs1⟩ dL_law_2650 ?_
    refine fw_mem (Y' := s11 r Yc) rfl ?_
    refine fw_topi (v' := 0) rfl ?_
    have e4 : X12_setCooks (s11 r Yc) (xs (i + 1).toNatClampNeg) = some (r, s11 r Ym) := s11_some (f := fun Z => X12_setCooks Z (xs (i + 1).toNatClampNeg)) (fun _ Z => k_X12_setCooks Z (xs (i + 1).toNatClampNeg)) _ e2
    refine fw_istore C dL_law_2653 (by decide) (L' := [(5, .int 0), (0, .ref b), (1, .ref (ad 0 0 0)), (2, .ref (ad 10 0 0)), (3, .ref (ad 11 0 0)), (4, .int i)]) rfl ?_
    refine fw_aload_n C dL_law_2655 rfl 3 rfl ?_
    refine fw_aload_n C dL_law_2656 rfl 1 rfl ?_
    refine fw_iload C dL_law_2657 5 rfl ?_
    refine fw_iconst C dL_law_2659 (v := 1) rfl ?_
    refine fw_iadd C dL_law_2660 ?_
    refine fw_sld C hS h1 dL_law_2661 ?_
    refine fw_callVi C (ci := 10) (Cn := RX12) (Tc := TX12) (N := 19) (As := [.int (xs (i + 1).toNatClampNeg)]) (c_X12_setCooks (lawg (by decide)) e4) (cwV 1 (cx_ts C) gL_law_X12_setCooks rfl rfl rfl (by decide +kernel) ⟨(Nat.le_of_ble_eq_true rfl), (Nat.le_of_ble_eq_true rfl)⟩) rfl (lawg (g := [(10, 0)]) (by decide) _ List.mem_cons_self) (of10_0 _) (ce10 T ad _ _) rfl (st := []) rfl (Nat.le_of_ble_eq_true rfl) ⟨hc1, hs1⟩ dL_law_2662 (ppw ?_)
    refine fw_istore C dL_law_2665 (by decide) (L' := [(6, .int r), (5, .int 0), (0, .ref b), (1, .ref (ad 0 0 0)), (2, .ref (ad 10 0 0)), (3, .ref (ad 11 0 0)), (4, .int i)]) rfl ?_
    refine fw_aload_n C dL_law_2667 rfl 4 rfl ?_
    refine fw_callVi C (ci := 10) (Cn := RX12) (Tc := TX12) (N := 19) (As := []) (c_X12_thrown (lawg (by decide)) (thr_s11 r e3)) (cwV 0 (cx_ts C) gL_law_X12_thrown rfl rfl rfl (by decide +kernel) ⟨(Nat.le_of_ble_eq_true rfl), (Nat.le_of_ble_eq_true rfl)⟩) rfl (lawg (g := [(10, 0)]) (by decide) _ List.mem_cons_self) (of10_0 _) (ce10 T ad _ _) rfl (st := []) rfl (Nat.le_of_ble_eq_true rfl) ⟨hc1, hs1⟩ dL_law_2668 (pp2 ?_)
    refine fw_iload C dL_law_2671 1 rfl ?_
    refine fw_icmp_eq C dL_law_2673 (tgt := 2678) rfl (fun _ => ?_) (fun c1 => absurd rfl c1)
    refine fw_iload C dL_law_2678 1 rfl ?_
    refine fw_if_ne C dL_law_2680 (tgt := 2695) rfl (fun c1 => absurd rfl c1) (fun _ => ?_)
    refine fw_aload_n C dL_law_2683 rfl 5 rfl ?_
    refine fw_iconst C dL_law_2684 (v := 0) rfl ?_
    refine fw_lald0 C (lawg (g := [(11, 0)]) (by decide) _ List.mem_cons_self) dL_law_2685 ?_
    refine fw_top (v' := .long (r : Int32).toInt64) (by rw [s11_11]) ?_
    refine fw_iload C dL_law_2686 0 rfl ?_
    refine fw_i2l C dL_law_2688 rfl ?_
    refine fw_lcmp C dL_law_2689 ?_
    refine fw_topi (v' := 0) (lg_self _) ?_
    refine fw_if_eq C dL_law_2690 (tgt := 2695) rfl (fun _ => ?_) (fun c1 => absurd rfl c1)
    refine fw_goto C dL_law_2695 (tgt := 3079) rfl ?_
    exact fw_widen (Nat.add_le_add_left (by decide) _) (Nat.add_le_add_left (by decide) _) (fw_sub [2, 3, 4, 5, 6] rfl (k _ (Inv_s11 _ hI2)))
set_option maxHeartbeats 4000000 in
theorem law_55 (X : LX p s m args meth c N0 T D ad l b Ln xs i cells slots) (hI : Inv Y) (k : ∀ Y' : Mem, Inv Y' → LO p l e s m args below meth c N0 T D ad b i (cells + 2) (slots + 12) Q Y' 3079) : LO p l e s m args below meth c N0 T D ad b i cells slots Q Y 2698 := by
  obtain ⟨C, hE, hl, hS, ⟨h1, h2, h3, h4, h5⟩, hc2, hs2⟩ := X
  have hc1 : cells + 1 ≤ 601024 := Nat.le_of_succ_le hc2
  have hs1 : slots + 6 ≤ 7293034 := Nat.le_trans (Nat.add_le_add_left (by decide) _) hs2
  have hc : cells ≤ 601024 := Nat.le_of_succ_le hc1
  have hs : slots ≤ 7293034 := Nat.le_trans (Nat.le_add_right _ _) hs1
  refine fw_aload_n C dL_law_2698 rfl 1 rfl ?_
  refine fw_aload_n C dL_law_2699 rfl 0 rfl ?_
  refine fw_iload C dL_law_2700 4 rfl ?_
  refine fw_iconst C dL_law_2702 (v := 1) rfl ?_
  refine fw_iadd C dL_law_2703 ?_
  refine fw_sld C hS h1 dL_law_2704 ?_
  refine fw_aload_n C dL_law_2705 rfl 0 rfl ?_
  refine fw_iload C dL_law_2706 4 rfl ?_
  refine fw_iconst C dL_law_2708 (v := 2) rfl ?_
  refine fw_iadd C dL_law_2709 ?_
  refine fw_sld C hS h2 dL_law_2710 ?_
  refine fw_aload_n C dL_law_2711 rfl 3 rfl ?_
  rcases q_setDuration hI (xs (i + 1).toNatClampNeg) (xs (i + 2).toNatClampNeg) with ⟨n, Yc, e1, hn, bb, Ym, e2, e3, hI2⟩ | ⟨r, Yc, e1, Ym, e2, e3, hI2⟩
  · have e2 : X12_setDuration Yc (xs (i + 1).toNatClampNeg) (xs (i + 2).toNatClampNeg) = some (bb, Ym) := e2
    refine fw_callH C hE (c_L_setDuration hl (fun q hq => hq) e1 (fun n1 Y1 q => by cases q; exact hn)) (vx_cwSW 4 (cx_ts C) gL_law_L_setDuration rfl rfl rfl (by decide +kernel) ⟨(Nat.le_of_ble_eq_true rfl), (Nat.le_of_ble_eq_true rfl)⟩) rfl (st := []) rfl (Nat.le_of_ble_eq_true rfl) ⟨hc2, hs2⟩ dL_law_2712 ?_
    refine fw_mem (Y' := Yc) rfl ?_
    refine fw_topi (v' := c32 n) rfl ?_
    refine fw_istore C dL_law_2715 (by decide) (L' := [(5, .int (c32 n)), (0, .ref b), (1, .ref (ad 0 0 0)), (2, .ref (ad 10 0 0)), (3, .ref (ad 11 0 0)), (4, .int i)]) rfl ?_
    refine fw_aload_n C dL_law_2717 rfl 3 rfl ?_
    refine fw_aload_n C dL_law_2718 rfl 1 rfl ?_
    refine fw_iload C dL_law_2719 5 rfl ?_
    refine fw_iconst C dL_law_2721 (v := 1) rfl ?_
    refine fw_iadd C dL_law_2722 ?_
    refine fw_sld C hS h1 dL_law_2723 ?_
    refine fw_aload_n C dL_law_2724 rfl 1 rfl ?_
    refine fw_iload C dL_law_2725 5 rfl ?_
    refine fw_iconst C dL_law_2727 (v := 2) rfl ?_
    refine fw_iadd C dL_law_2728 ?_
    refine fw_sld C hS h2 dL_law_2729 ?_
    refine fw_callVi C (ci := 10) (Cn := RX12) (Tc := TX12) (N := 19) (As := [.int (xs (i + 1).toNatClampNeg), .int (xs (i + 2).toNatClampNeg)]) (c_X12_setDuration (lawg (by decide)) e2) (cwV 2 (cx_ts C) gL_law_X12_setDuration rfl rfl rfl (by decide +kernel) ⟨(Nat.le_of_ble_eq_true rfl), (Nat.le_of_ble_eq_true rfl)⟩) rfl (lawg (g := [(10, 0)]) (by decide) _ List.mem_cons_self) (of10_0 _) (ce10 T ad _ _) rfl (st := []) rfl (Nat.le_of_ble_eq_true rfl) ⟨hc2, hs2⟩ dL_law_2730 (ppw ?_)
    refine fw_istore C dL_law_2733 (by decide) (L' := [(6, .int bb), (5, .int (c32 n)), (0, .ref b), (1, .ref (ad 0 0 0)), (2, .ref (ad 10 0 0)), (3, .ref (ad 11 0 0)), (4, .int i)]) rfl ?_
    refine fw_aload_n C dL_law_2735 rfl 4 rfl ?_
    refine fw_callVi C (ci := 10) (Cn := RX12) (Tc := TX12) (N := 19) (As := []) (c_X12_thrown (lawg (by decide)) (thr_ok e3)) (cwV 0 (cx_ts C) gL_law_X12_thrown rfl rfl rfl (by decide +kernel) ⟨(Nat.le_of_ble_eq_true rfl), (Nat.le_of_ble_eq_true rfl)⟩) rfl (lawg (g := [(10, 0)]) (by decide) _ List.mem_cons_self) (of10_0 _) (ce10 T ad _ _) rfl (st := []) rfl (Nat.le_of_ble_eq_true rfl) ⟨hc2, hs2⟩ dL_law_2736 (pp2 ?_)
    refine fw_iload C dL_law_2739 1 rfl ?_
    refine fw_icmp_eq C dL_law_2741 (tgt := 2746) rfl (fun _ => ?_) (fun c1 => absurd rfl c1)
    refine fw_iload C dL_law_2746 1 rfl ?_
    refine fw_if_ne C dL_law_2748 (tgt := 2763) rfl (fun _ => ?_) (fun c1 => absurd c1 hn)
    refine fw_goto C dL_law_2763 (tgt := 3079) rfl ?_
    exact fw_widen (Nat.add_le_add_left (by decide) _) (Nat.add_le_add_left (by decide) _) (fw_sub [2, 3, 4, 5, 6] rfl (k _ hI2))
  · have e2 : X12_setDuration Yc (xs (i + 1).toNatClampNeg) (xs (i + 2).toNatClampNeg) = some (r, Ym) := e2
    refine fw_callH C hE (c_L_setDuration hl (fun q hq => hq) e1 (fun n1 Y1 q => nomatch q)) (vx_cwSW 4 (cx_ts C) gL_law_L_setDuration rfl rfl rfl (by decide +kernel) ⟨(Nat.le_of_ble_eq_true rfl), (Nat.le_of_ble_eq_true rfl)⟩) rfl (st := []) rfl (Nat.le_of_ble_eq_true rfl) ⟨hc2, hs2⟩ dL_law_2712 ?_
    refine fw_mem (Y' := s11 r Yc) rfl ?_
    refine fw_topi (v' := 0) rfl ?_
    have e4 : X12_setDuration (s11 r Yc) (xs (i + 1).toNatClampNeg) (xs (i + 2).toNatClampNeg) = some (r, s11 r Ym) := s11_some (f := fun Z => X12_setDuration Z (xs (i + 1).toNatClampNeg) (xs (i + 2).toNatClampNeg)) (fun _ Z => k_X12_setDuration Z (xs (i + 1).toNatClampNeg) (xs (i + 2).toNatClampNeg)) _ e2
    refine fw_istore C dL_law_2715 (by decide) (L' := [(5, .int 0), (0, .ref b), (1, .ref (ad 0 0 0)), (2, .ref (ad 10 0 0)), (3, .ref (ad 11 0 0)), (4, .int i)]) rfl ?_
    refine fw_aload_n C dL_law_2717 rfl 3 rfl ?_
    refine fw_aload_n C dL_law_2718 rfl 1 rfl ?_
    refine fw_iload C dL_law_2719 5 rfl ?_
    refine fw_iconst C dL_law_2721 (v := 1) rfl ?_
    refine fw_iadd C dL_law_2722 ?_
    refine fw_sld C hS h1 dL_law_2723 ?_
    refine fw_aload_n C dL_law_2724 rfl 1 rfl ?_
    refine fw_iload C dL_law_2725 5 rfl ?_
    refine fw_iconst C dL_law_2727 (v := 2) rfl ?_
    refine fw_iadd C dL_law_2728 ?_
    refine fw_sld C hS h2 dL_law_2729 ?_
    refine fw_callVi C (ci := 10) (Cn := RX12) (Tc := TX12) (N := 19) (As := [.int (xs (i + 1).toNatClampNeg), .int (xs (i + 2).toNatClampNeg)]) (c_X12_setDuration (lawg (by decide)) e4) (cwV 2 (cx_ts C) gL_law_X12_setDuration rfl rfl rfl (by decide +kernel) ⟨(Nat.le_of_ble_eq_true rfl), (Nat.le_of_ble_eq_true rfl)⟩) rfl (lawg (g := [(10, 0)]) (by decide) _ List.mem_cons_self) (of10_0 _) (ce10 T ad _ _) rfl (st := []) rfl (Nat.le_of_ble_eq_true rfl) ⟨hc2, hs2⟩ dL_law_2730 (ppw ?_)
    refine fw_istore C dL_law_2733 (by decide) (L' := [(6, .int r), (5, .int 0), (0, .ref b), (1, .ref (ad 0 0 0)), (2, .ref (ad 10 0 0)), (3, .ref (ad 11 0 0)), (4, .int i)]) rfl ?_
    refine fw_aload_n C dL_law_2735 rfl 4 rfl ?_
    refine fw_callVi C (ci := 10) (Cn := RX12) (Tc := TX12) (N := 19) (As := []) (c_X12_thrown (lawg (by decide)) (thr_s11 r e3)) (cwV 0 (cx_ts C) gL_law_X12_thrown rfl rfl rfl (by decide +kernel) ⟨(Nat.le_of_ble_eq_true rfl), (Nat.le_of_ble_eq_true rfl)⟩) rfl (lawg (g := [(10, 0)]) (by decide) _ List.mem_cons_self) (of10_0 _) (ce10 T ad _ _) rfl (st := []) rfl (Nat.le_of_ble_eq_true rfl) ⟨hc2, hs2⟩ dL_law_2736 (pp2 ?_)
    refine fw_iload C dL_law_2739 1 rfl ?_
    refine fw_icmp_eq C dL_law_2741 (tgt := 2746) rfl (fun _ => ?_) (fun c1 => absurd rfl c1)
    refine fw_iload C dL_law_2746 1 rfl ?_
    refine fw_if_ne C dL_law_2748 (tgt := 2763) rfl (fun c1 => absurd rfl c1) (fun _ => ?_)
    refine fw_aload_n C dL_law_2751 rfl 5 rfl ?_
    refine fw_iconst C dL_law_2752 (v := 0) rfl ?_
    refine fw_lald0 C (lawg (g := [(11, 0)]) (by decide) _ List.mem_cons_self) dL_law_2753 ?_
    refine fw_top (v' := .long (r : Int32).toInt64) (by rw [s11_11]) ?_
    refine fw_iload C dL_law_2754 0 rfl ?_
    refine fw_i2l C dL_law_2756 rfl ?_
    refine fw_lcmp C dL_law_2757 ?_
    refine fw_topi (v' := 0) (lg_self _) ?_
    refine fw_if_eq C dL_law_2758 (tgt := 2763) rfl (fun _ => ?_) (fun c1 => absurd rfl c1)
    refine fw_goto C dL_law_2763 (tgt := 3079) rfl ?_
    exact fw_widen (Nat.add_le_add_left (by decide) _) (Nat.add_le_add_left (by decide) _) (fw_sub [2, 3, 4, 5, 6] rfl (k _ (Inv_s11 _ hI2)))
set_option maxHeartbeats 4000000 in
theorem law_56 (X : LX p s m args meth c N0 T D ad l b Ln xs i cells slots) (hI : Inv Y) (k : ∀ Y' : Mem, Inv Y' → LO p l e s m args below meth c N0 T D ad b i (cells + 2) (slots + 12) Q Y' 3079) : LO p l e s m args below meth c N0 T D ad b i cells slots Q Y 2766 := by
  obtain ⟨C, hE, hl, hS, ⟨h1, h2, h3, h4, h5⟩, hc2, hs2⟩ := X
  have hc1 : cells + 1 ≤ 601024 := Nat.le_of_succ_le hc2
  have hs1 : slots + 6 ≤ 7293034 := Nat.le_trans (Nat.add_le_add_left (by decide) _) hs2
  have hc : cells ≤ 601024 := Nat.le_of_succ_le hc1
  have hs : slots ≤ 7293034 := Nat.le_trans (Nat.le_add_right _ _) hs1
  refine fw_aload_n C dL_law_2766 rfl 1 rfl ?_
  refine fw_aload_n C dL_law_2767 rfl 3 rfl ?_
  rcases q_serve hI with ⟨n, Yc, e1, hn, bb, Ym, e2, e3, hI2⟩ | ⟨r, Yc, e1, Ym, e2, e3, hI2⟩
  · have e2 : X12_serve Yc = some (bb, Ym) := e2
    refine fw_callH C hE (c_L_serve hl (fun q hq => hq) e1 (fun n1 Y1 q => by cases q; exact hn)) (vx_cwSW 2 (cx_ts C) gL_law_L_serve rfl rfl rfl (by decide +kernel) ⟨(Nat.le_of_ble_eq_true rfl), (Nat.le_of_ble_eq_true rfl)⟩) rfl (st := []) rfl (Nat.le_of_ble_eq_true rfl) ⟨hc1, hs1⟩ dL_law_2768 ?_
    refine fw_mem (Y' := Yc) rfl ?_
    refine fw_topi (v' := c1_ n) rfl ?_
    refine fw_istore C dL_law_2771 (by decide) (L' := [(5, .int (c1_ n)), (0, .ref b), (1, .ref (ad 0 0 0)), (2, .ref (ad 10 0 0)), (3, .ref (ad 11 0 0)), (4, .int i)]) rfl ?_
    refine fw_aload_n C dL_law_2773 rfl 3 rfl ?_
    refine fw_callVi C (ci := 10) (Cn := RX12) (Tc := TX12) (N := 19) (As := []) (c_X12_serve (lawg (by decide)) e2) (cwV 0 (cx_ts C) gL_law_X12_serve rfl rfl rfl (by decide +kernel) ⟨(Nat.le_of_ble_eq_true rfl), (Nat.le_of_ble_eq_true rfl)⟩) rfl (lawg (g := [(10, 0)]) (by decide) _ List.mem_cons_self) (of10_0 _) (ce10 T ad _ _) rfl (st := []) rfl (Nat.le_of_ble_eq_true rfl) ⟨hc1, hs1⟩ dL_law_2774 (ppw ?_)
    refine fw_istore C dL_law_2777 (by decide) (L' := [(6, .int bb), (5, .int (c1_ n)), (0, .ref b), (1, .ref (ad 0 0 0)), (2, .ref (ad 10 0 0)), (3, .ref (ad 11 0 0)), (4, .int i)]) rfl ?_
    refine fw_aload_n C dL_law_2779 rfl 4 rfl ?_
    refine fw_callVi C (ci := 10) (Cn := RX12) (Tc := TX12) (N := 19) (As := []) (c_X12_thrown (lawg (by decide)) (thr_ok e3)) (cwV 0 (cx_ts C) gL_law_X12_thrown rfl rfl rfl (by decide +kernel) ⟨(Nat.le_of_ble_eq_true rfl), (Nat.le_of_ble_eq_true rfl)⟩) rfl (lawg (g := [(10, 0)]) (by decide) _ List.mem_cons_self) (of10_0 _) (ce10 T ad _ _) rfl (st := []) rfl (Nat.le_of_ble_eq_true rfl) ⟨hc1, hs1⟩ dL_law_2780 (pp2 ?_)
    refine fw_iload C dL_law_2783 1 rfl ?_
    refine fw_icmp_eq C dL_law_2785 (tgt := 2790) rfl (fun _ => ?_) (fun c1 => absurd rfl c1)
    refine fw_iload C dL_law_2790 1 rfl ?_
    refine fw_if_ne C dL_law_2792 (tgt := 2807) rfl (fun _ => ?_) (fun c1 => absurd c1 hn)
    refine fw_goto C dL_law_2807 (tgt := 3079) rfl ?_
    exact fw_widen (Nat.add_le_add_left (by decide) _) (Nat.add_le_add_left (by decide) _) (fw_sub [2, 3, 4, 5, 6] rfl (k _ hI2))
  · have e2 : X12_serve Yc = some (r, Ym) := e2
    refine fw_callH C hE (c_L_serve hl (fun q hq => hq) e1 (fun n1 Y1 q => nomatch q)) (vx_cwSW 2 (cx_ts C) gL_law_L_serve rfl rfl rfl (by decide +kernel) ⟨(Nat.le_of_ble_eq_true rfl), (Nat.le_of_ble_eq_true rfl)⟩) rfl (st := []) rfl (Nat.le_of_ble_eq_true rfl) ⟨hc1, hs1⟩ dL_law_2768 ?_
    refine fw_mem (Y' := s11 r Yc) rfl ?_
    refine fw_topi (v' := 0) rfl ?_
    have e4 : X12_serve (s11 r Yc) = some (r, s11 r Ym) := s11_some (f := fun Z => X12_serve Z) (fun _ Z => k_X12_serve Z) _ e2
    refine fw_istore C dL_law_2771 (by decide) (L' := [(5, .int 0), (0, .ref b), (1, .ref (ad 0 0 0)), (2, .ref (ad 10 0 0)), (3, .ref (ad 11 0 0)), (4, .int i)]) rfl ?_
    refine fw_aload_n C dL_law_2773 rfl 3 rfl ?_
    refine fw_callVi C (ci := 10) (Cn := RX12) (Tc := TX12) (N := 19) (As := []) (c_X12_serve (lawg (by decide)) e4) (cwV 0 (cx_ts C) gL_law_X12_serve rfl rfl rfl (by decide +kernel) ⟨(Nat.le_of_ble_eq_true rfl), (Nat.le_of_ble_eq_true rfl)⟩) rfl (lawg (g := [(10, 0)]) (by decide) _ List.mem_cons_self) (of10_0 _) (ce10 T ad _ _) rfl (st := []) rfl (Nat.le_of_ble_eq_true rfl) ⟨hc1, hs1⟩ dL_law_2774 (ppw ?_)
    refine fw_istore C dL_law_2777 (by decide) (L' := [(6, .int r), (5, .int 0), (0, .ref b), (1, .ref (ad 0 0 0)), (2, .ref (ad 10 0 0)), (3, .ref (ad 11 0 0)), (4, .int i)]) rfl ?_
    refine fw_aload_n C dL_law_2779 rfl 4 rfl ?_
    refine fw_callVi C (ci := 10) (Cn := RX12) (Tc := TX12) (N := 19) (As := []) (c_X12_thrown (lawg (by decide)) (thr_s11 r e3)) (cwV 0 (cx_ts C) gL_law_X12_thrown rfl rfl rfl (by decide +kernel) ⟨(Nat.le_of_ble_eq_true rfl), (Nat.le_of_ble_eq_true rfl)⟩) rfl (lawg (g := [(10, 0)]) (by decide) _ List.mem_cons_self) (of10_0 _) (ce10 T ad _ _) rfl (st := []) rfl (Nat.le_of_ble_eq_true rfl) ⟨hc1, hs1⟩ dL_law_2780 (pp2 ?_)
    refine fw_iload C dL_law_2783 1 rfl ?_
    refine fw_icmp_eq C dL_law_2785 (tgt := 2790) rfl (fun _ => ?_) (fun c1 => absurd rfl c1)
    refine fw_iload C dL_law_2790 1 rfl ?_
    refine fw_if_ne C dL_law_2792 (tgt := 2807) rfl (fun c1 => absurd rfl c1) (fun _ => ?_)
    refine fw_aload_n C dL_law_2795 rfl 5 rfl ?_
    refine fw_iconst C dL_law_2796 (v := 0) rfl ?_
    refine fw_lald0 C (lawg (g := [(11, 0)]) (by decide) _ List.mem_cons_self) dL_law_2797 ?_
    refine fw_top (v' := .long (r : Int32).toInt64) (by rw [s11_11]) ?_
    refine fw_iload C dL_law_2798 0 rfl ?_
    refine fw_i2l C dL_law_2800 rfl ?_
    refine fw_lcmp C dL_law_2801 ?_
    refine fw_topi (v' := 0) (lg_self _) ?_
    refine fw_if_eq C dL_law_2802 (tgt := 2807) rfl (fun _ => ?_) (fun c1 => absurd rfl c1)
    refine fw_goto C dL_law_2807 (tgt := 3079) rfl ?_
    exact fw_widen (Nat.add_le_add_left (by decide) _) (Nat.add_le_add_left (by decide) _) (fw_sub [2, 3, 4, 5, 6] rfl (k _ (Inv_s11 _ hI2)))
set_option maxHeartbeats 4000000 in
theorem law_57 (X : LX p s m args meth c N0 T D ad l b Ln xs i cells slots) (hI : Inv Y) (k : ∀ Y' : Mem, Inv Y' → LO p l e s m args below meth c N0 T D ad b i (cells + 2) (slots + 12) Q Y' 3079) : LO p l e s m args below meth c N0 T D ad b i cells slots Q Y 2810 := by
  obtain ⟨C, hE, hl, hS, ⟨h1, h2, h3, h4, h5⟩, hc2, hs2⟩ := X
  have hc1 : cells + 1 ≤ 601024 := Nat.le_of_succ_le hc2
  have hs1 : slots + 6 ≤ 7293034 := Nat.le_trans (Nat.add_le_add_left (by decide) _) hs2
  have hc : cells ≤ 601024 := Nat.le_of_succ_le hc1
  have hs : slots ≤ 7293034 := Nat.le_trans (Nat.le_add_right _ _) hs1
  refine fw_aload_n C dL_law_2810 rfl 1 rfl ?_
  refine fw_aload_n C dL_law_2811 rfl 3 rfl ?_
  rcases q_runScript hI with ⟨n, Yc, e1, hn, bb, Ym, e2, e3, hI2⟩ | ⟨r, Yc, e1, Ym, e2, e3, hI2⟩
  · have e2 : X12_runScript Yc = some (bb, Ym) := e2
    refine fw_callH C hE (cO_L_runScript hl (fun q hq => hq) e1 (fun n1 Y1 q => by cases q; exact hn)) (vx_cwSW 2 (cx_ts C) gL_law_L_runScript rfl rfl rfl (by decide +kernel) ⟨(Nat.le_of_ble_eq_true rfl), (Nat.le_of_ble_eq_true rfl)⟩) rfl (st := []) rfl (Nat.le_of_ble_eq_true rfl) ⟨hc1, hs1⟩ dL_law_2812 ?_
    refine fw_mem (Y' := Yc) rfl ?_
    refine fw_topi (v' := c2_ n) rfl ?_
    refine fw_istore C dL_law_2815 (by decide) (L' := [(5, .int (c2_ n)), (0, .ref b), (1, .ref (ad 0 0 0)), (2, .ref (ad 10 0 0)), (3, .ref (ad 11 0 0)), (4, .int i)]) rfl ?_
    refine fw_aload_n C dL_law_2817 rfl 3 rfl ?_
    refine fw_callVi C (ci := 10) (Cn := RX12) (Tc := TX12) (N := 19) (As := []) (c_X12_runScript (lawg (by decide)) e2) (cwV 0 (cx_ts C) gL_law_X12_runScript rfl rfl rfl (by decide +kernel) ⟨(Nat.le_of_ble_eq_true rfl), (Nat.le_of_ble_eq_true rfl)⟩) rfl (lawg (g := [(10, 0)]) (by decide) _ List.mem_cons_self) (of10_0 _) (ce10 T ad _ _) rfl (st := []) rfl (Nat.le_of_ble_eq_true rfl) ⟨hc1, hs1⟩ dL_law_2818 (ppw ?_)
    refine fw_istore C dL_law_2821 (by decide) (L' := [(6, .int bb), (5, .int (c2_ n)), (0, .ref b), (1, .ref (ad 0 0 0)), (2, .ref (ad 10 0 0)), (3, .ref (ad 11 0 0)), (4, .int i)]) rfl ?_
    refine fw_aload_n C dL_law_2823 rfl 4 rfl ?_
    refine fw_callVi C (ci := 10) (Cn := RX12) (Tc := TX12) (N := 19) (As := []) (c_X12_thrown (lawg (by decide)) (thr_ok e3)) (cwV 0 (cx_ts C) gL_law_X12_thrown rfl rfl rfl (by decide +kernel) ⟨(Nat.le_of_ble_eq_true rfl), (Nat.le_of_ble_eq_true rfl)⟩) rfl (lawg (g := [(10, 0)]) (by decide) _ List.mem_cons_self) (of10_0 _) (ce10 T ad _ _) rfl (st := []) rfl (Nat.le_of_ble_eq_true rfl) ⟨hc1, hs1⟩ dL_law_2824 (pp2 ?_)
    refine fw_iload C dL_law_2827 1 rfl ?_
    refine fw_icmp_eq C dL_law_2829 (tgt := 2834) rfl (fun _ => ?_) (fun c1 => absurd rfl c1)
    refine fw_iload C dL_law_2834 1 rfl ?_
    refine fw_if_ne C dL_law_2836 (tgt := 2851) rfl (fun _ => ?_) (fun c1 => absurd c1 hn)
    refine fw_goto C dL_law_2851 (tgt := 3079) rfl ?_
    exact fw_widen (Nat.add_le_add_left (by decide) _) (Nat.add_le_add_left (by decide) _) (fw_sub [2, 3, 4, 5, 6] rfl (k _ hI2))
  · have e2 : X12_runScript Yc = some (r, Ym) := e2
    refine fw_callH C hE (cO_L_runScript hl (fun q hq => hq) e1 (fun n1 Y1 q => nomatch q)) (vx_cwSW 2 (cx_ts C) gL_law_L_runScript rfl rfl rfl (by decide +kernel) ⟨(Nat.le_of_ble_eq_true rfl), (Nat.le_of_ble_eq_true rfl)⟩) rfl (st := []) rfl (Nat.le_of_ble_eq_true rfl) ⟨hc1, hs1⟩ dL_law_2812 ?_
    refine fw_mem (Y' := s11 r Yc) rfl ?_
    refine fw_topi (v' := 0) rfl ?_
    have e4 : X12_runScript (s11 r Yc) = some (r, s11 r Ym) := s11_some (f := fun Z => X12_runScript Z) (fun _ Z => k_X12_runScript Z) _ e2
    refine fw_istore C dL_law_2815 (by decide) (L' := [(5, .int 0), (0, .ref b), (1, .ref (ad 0 0 0)), (2, .ref (ad 10 0 0)), (3, .ref (ad 11 0 0)), (4, .int i)]) rfl ?_
    refine fw_aload_n C dL_law_2817 rfl 3 rfl ?_
    refine fw_callVi C (ci := 10) (Cn := RX12) (Tc := TX12) (N := 19) (As := []) (c_X12_runScript (lawg (by decide)) e4) (cwV 0 (cx_ts C) gL_law_X12_runScript rfl rfl rfl (by decide +kernel) ⟨(Nat.le_of_ble_eq_true rfl), (Nat.le_of_ble_eq_true rfl)⟩) rfl (lawg (g := [(10, 0)]) (by decide) _ List.mem_cons_self) (of10_0 _) (ce10 T ad _ _) rfl (st := []) rfl (Nat.le_of_ble_eq_true rfl) ⟨hc1, hs1⟩ dL_law_2818 (ppw ?_)
    refine fw_istore C dL_law_2821 (by decide) (L' := [(6, .int r), (5, .int 0), (0, .ref b), (1, .ref (ad 0 0 0)), (2, .ref (ad 10 0 0)), (3, .ref (ad 11 0 0)), (4, .int i)]) rfl ?_
    refine fw_aload_n C dL_law_2823 rfl 4 rfl ?_
    refine fw_callVi C (ci := 10) (Cn := RX12) (Tc := TX12) (N := 19) (As := []) (c_X12_thrown (lawg (by decide)) (thr_s11 r e3)) (cwV 0 (cx_ts C) gL_law_X12_thrown rfl rfl rfl (by decide +kernel) ⟨(Nat.le_of_ble_eq_true rfl), (Nat.le_of_ble_eq_true rfl)⟩) rfl (lawg (g := [(10, 0)]) (by decide) _ List.mem_cons_self) (of10_0 _) (ce10 T ad _ _) rfl (st := []) rfl (Nat.le_of_ble_eq_true rfl) ⟨hc1, hs1⟩ dL_law_2824 (pp2 ?_)
    refine fw_iload C dL_law_2827 1 rfl ?_
    refine fw_icmp_eq C dL_law_2829 (tgt := 2834) rfl (fun _ => ?_) (fun c1 => absurd rfl c1)
    refine fw_iload C dL_law_2834 1 rfl ?_
    refine fw_if_ne C dL_law_2836 (tgt := 2851) rfl (fun c1 => absurd rfl c1) (fun _ => ?_)
    refine fw_aload_n C dL_law_2839 rfl 5 rfl ?_
    refine fw_iconst C dL_law_2840 (v := 0) rfl ?_
    refine fw_lald0 C (lawg (g := [(11, 0)]) (by decide) _ List.mem_cons_self) dL_law_2841 ?_
    refine fw_top (v' := .long (r : Int32).toInt64) (by rw [s11_11]) ?_
    refine fw_iload C dL_law_2842 0 rfl ?_
    refine fw_i2l C dL_law_2844 rfl ?_
    refine fw_lcmp C dL_law_2845 ?_
    refine fw_topi (v' := 0) (lg_self _) ?_
    refine fw_if_eq C dL_law_2846 (tgt := 2851) rfl (fun _ => ?_) (fun c1 => absurd rfl c1)
    refine fw_goto C dL_law_2851 (tgt := 3079) rfl ?_
    exact fw_widen (Nat.add_le_add_left (by decide) _) (Nat.add_le_add_left (by decide) _) (fw_sub [2, 3, 4, 5, 6] rfl (k _ (Inv_s11 _ hI2)))
set_option maxHeartbeats 4000000 in
theorem law_58 (X : LX p s m args meth c N0 T D ad l b Ln xs i cells slots) (hI : Inv Y) (k : ∀ Y' : Mem, Inv Y' → LO p l e s m args below meth c N0 T D ad b i (cells + 2) (slots + 12) Q Y' 3079) : LO p l e s m args below meth c N0 T D ad b i cells slots Q Y 2854 := by
  obtain ⟨C, hE, hl, hS, ⟨h1, h2, h3, h4, h5⟩, hc2, hs2⟩ := X
  have hc1 : cells + 1 ≤ 601024 := Nat.le_of_succ_le hc2
  have hs1 : slots + 6 ≤ 7293034 := Nat.le_trans (Nat.add_le_add_left (by decide) _) hs2
  have hc : cells ≤ 601024 := Nat.le_of_succ_le hc1
  have hs : slots ≤ 7293034 := Nat.le_trans (Nat.le_add_right _ _) hs1
  refine fw_aload_n C dL_law_2854 rfl 1 rfl ?_
  refine fw_aload_n C dL_law_2855 rfl 3 rfl ?_
  rcases q_undo hI with ⟨n, Yc, e1, hn, bb, Ym, e2, e3, hI2⟩ | ⟨r, Yc, e1, Ym, e2, e3, hI2⟩
  · have e2 : X12_undo Yc = some (bb, Ym) := e2
    refine fw_callH C hE (c_L_undo hl (fun q hq => hq) e1 (fun n1 Y1 q => by cases q; exact hn)) (vx_cwSW 2 (cx_ts C) gL_law_L_undo rfl rfl rfl (by decide +kernel) ⟨(Nat.le_of_ble_eq_true rfl), (Nat.le_of_ble_eq_true rfl)⟩) rfl (st := []) rfl (Nat.le_of_ble_eq_true rfl) ⟨hc1, hs1⟩ dL_law_2856 ?_
    refine fw_mem (Y' := Yc) rfl ?_
    refine fw_topi (v' := c1_ n) rfl ?_
    refine fw_istore C dL_law_2859 (by decide) (L' := [(5, .int (c1_ n)), (0, .ref b), (1, .ref (ad 0 0 0)), (2, .ref (ad 10 0 0)), (3, .ref (ad 11 0 0)), (4, .int i)]) rfl ?_
    refine fw_aload_n C dL_law_2861 rfl 3 rfl ?_
    refine fw_callVi C (ci := 10) (Cn := RX12) (Tc := TX12) (N := 19) (As := []) (c_X12_undo (lawg (by decide)) e2) (cwV 0 (cx_ts C) gL_law_X12_undo rfl rfl rfl (by decide +kernel) ⟨(Nat.le_of_ble_eq_true rfl), (Nat.le_of_ble_eq_true rfl)⟩) rfl (lawg (g := [(10, 0)]) (by decide) _ List.mem_cons_self) (of10_0 _) (ce10 T ad _ _) rfl (st := []) rfl (Nat.le_of_ble_eq_true rfl) ⟨hc1, hs1⟩ dL_law_2862 (ppw ?_)
    refine fw_istore C dL_law_2865 (by decide) (L' := [(6, .int bb), (5, .int (c1_ n)), (0, .ref b), (1, .ref (ad 0 0 0)), (2, .ref (ad 10 0 0)), (3, .ref (ad 11 0 0)), (4, .int i)]) rfl ?_
    refine fw_aload_n C dL_law_2867 rfl 4 rfl ?_
    refine fw_callVi C (ci := 10) (Cn := RX12) (Tc := TX12) (N := 19) (As := []) (c_X12_thrown (lawg (by decide)) (thr_ok e3)) (cwV 0 (cx_ts C) gL_law_X12_thrown rfl rfl rfl (by decide +kernel) ⟨(Nat.le_of_ble_eq_true rfl), (Nat.le_of_ble_eq_true rfl)⟩) rfl (lawg (g := [(10, 0)]) (by decide) _ List.mem_cons_self) (of10_0 _) (ce10 T ad _ _) rfl (st := []) rfl (Nat.le_of_ble_eq_true rfl) ⟨hc1, hs1⟩ dL_law_2868 (pp2 ?_)
    refine fw_iload C dL_law_2871 1 rfl ?_
    refine fw_icmp_eq C dL_law_2873 (tgt := 2878) rfl (fun _ => ?_) (fun c1 => absurd rfl c1)
    refine fw_iload C dL_law_2878 1 rfl ?_
    refine fw_if_ne C dL_law_2880 (tgt := 2895) rfl (fun _ => ?_) (fun c1 => absurd c1 hn)
    refine fw_goto C dL_law_2895 (tgt := 3079) rfl ?_
    exact fw_widen (Nat.add_le_add_left (by decide) _) (Nat.add_le_add_left (by decide) _) (fw_sub [2, 3, 4, 5, 6] rfl (k _ hI2))
  · have e2 : X12_undo Yc = some (r, Ym) := e2
    refine fw_callH C hE (c_L_undo hl (fun q hq => hq) e1 (fun n1 Y1 q => nomatch q)) (vx_cwSW 2 (cx_ts C) gL_law_L_undo rfl rfl rfl (by decide +kernel) ⟨(Nat.le_of_ble_eq_true rfl), (Nat.le_of_ble_eq_true rfl)⟩) rfl (st := []) rfl (Nat.le_of_ble_eq_true rfl) ⟨hc1, hs1⟩ dL_law_2856 ?_
    refine fw_mem (Y' := s11 r Yc) rfl ?_
    refine fw_topi (v' := 0) rfl ?_
    have e4 : X12_undo (s11 r Yc) = some (r, s11 r Ym) := s11_some (f := fun Z => X12_undo Z) (fun _ Z => k_X12_undo Z) _ e2
    refine fw_istore C dL_law_2859 (by decide) (L' := [(5, .int 0), (0, .ref b), (1, .ref (ad 0 0 0)), (2, .ref (ad 10 0 0)), (3, .ref (ad 11 0 0)), (4, .int i)]) rfl ?_
    refine fw_aload_n C dL_law_2861 rfl 3 rfl ?_
    refine fw_callVi C (ci := 10) (Cn := RX12) (Tc := TX12) (N := 19) (As := []) (c_X12_undo (lawg (by decide)) e4) (cwV 0 (cx_ts C) gL_law_X12_undo rfl rfl rfl (by decide +kernel) ⟨(Nat.le_of_ble_eq_true rfl), (Nat.le_of_ble_eq_true rfl)⟩) rfl (lawg (g := [(10, 0)]) (by decide) _ List.mem_cons_self) (of10_0 _) (ce10 T ad _ _) rfl (st := []) rfl (Nat.le_of_ble_eq_true rfl) ⟨hc1, hs1⟩ dL_law_2862 (ppw ?_)
    refine fw_istore C dL_law_2865 (by decide) (L' := [(6, .int r), (5, .int 0), (0, .ref b), (1, .ref (ad 0 0 0)), (2, .ref (ad 10 0 0)), (3, .ref (ad 11 0 0)), (4, .int i)]) rfl ?_
    refine fw_aload_n C dL_law_2867 rfl 4 rfl ?_
    refine fw_callVi C (ci := 10) (Cn := RX12) (Tc := TX12) (N := 19) (As := []) (c_X12_thrown (lawg (by decide)) (thr_s11 r e3)) (cwV 0 (cx_ts C) gL_law_X12_thrown rfl rfl rfl (by decide +kernel) ⟨(Nat.le_of_ble_eq_true rfl), (Nat.le_of_ble_eq_true rfl)⟩) rfl (lawg (g := [(10, 0)]) (by decide) _ List.mem_cons_self) (of10_0 _) (ce10 T ad _ _) rfl (st := []) rfl (Nat.le_of_ble_eq_true rfl) ⟨hc1, hs1⟩ dL_law_2868 (pp2 ?_)
    refine fw_iload C dL_law_2871 1 rfl ?_
    refine fw_icmp_eq C dL_law_2873 (tgt := 2878) rfl (fun _ => ?_) (fun c1 => absurd rfl c1)
    refine fw_iload C dL_law_2878 1 rfl ?_
    refine fw_if_ne C dL_law_2880 (tgt := 2895) rfl (fun c1 => absurd rfl c1) (fun _ => ?_)
    refine fw_aload_n C dL_law_2883 rfl 5 rfl ?_
    refine fw_iconst C dL_law_2884 (v := 0) rfl ?_
    refine fw_lald0 C (lawg (g := [(11, 0)]) (by decide) _ List.mem_cons_self) dL_law_2885 ?_
    refine fw_top (v' := .long (r : Int32).toInt64) (by rw [s11_11]) ?_
    refine fw_iload C dL_law_2886 0 rfl ?_
    refine fw_i2l C dL_law_2888 rfl ?_
    refine fw_lcmp C dL_law_2889 ?_
    refine fw_topi (v' := 0) (lg_self _) ?_
    refine fw_if_eq C dL_law_2890 (tgt := 2895) rfl (fun _ => ?_) (fun c1 => absurd rfl c1)
    refine fw_goto C dL_law_2895 (tgt := 3079) rfl ?_
    exact fw_widen (Nat.add_le_add_left (by decide) _) (Nat.add_le_add_left (by decide) _) (fw_sub [2, 3, 4, 5, 6] rfl (k _ (Inv_s11 _ hI2)))
set_option maxHeartbeats 4000000 in
theorem law_59 (X : LX p s m args meth c N0 T D ad l b Ln xs i cells slots) (hI : Inv Y) (k : ∀ Y' : Mem, Inv Y' → LO p l e s m args below meth c N0 T D ad b i (cells + 2) (slots + 12) Q Y' 3079) : LO p l e s m args below meth c N0 T D ad b i cells slots Q Y 2898 := by
  obtain ⟨C, hE, hl, hS, ⟨h1, h2, h3, h4, h5⟩, hc2, hs2⟩ := X
  have hc1 : cells + 1 ≤ 601024 := Nat.le_of_succ_le hc2
  have hs1 : slots + 6 ≤ 7293034 := Nat.le_trans (Nat.add_le_add_left (by decide) _) hs2
  have hc : cells ≤ 601024 := Nat.le_of_succ_le hc1
  have hs : slots ≤ 7293034 := Nat.le_trans (Nat.le_add_right _ _) hs1
  refine fw_aload_n C dL_law_2898 rfl 1 rfl ?_
  refine fw_aload_n C dL_law_2899 rfl 0 rfl ?_
  refine fw_iload C dL_law_2900 4 rfl ?_
  refine fw_iconst C dL_law_2902 (v := 1) rfl ?_
  refine fw_iadd C dL_law_2903 ?_
  refine fw_sld C hS h1 dL_law_2904 ?_
  refine fw_aload_n C dL_law_2905 rfl 3 rfl ?_
  rcases q_save hI (xs (i + 1).toNatClampNeg) with ⟨n, Yc, e1, hn, bb, Ym, e2, e3, hI2⟩ | ⟨r, Yc, e1, Ym, e2, e3, hI2⟩
  · have e2 : X12_save Yc (xs (i + 1).toNatClampNeg) = some (bb, Ym) := e2
    refine fw_callH C hE (c_L_save hl (fun q hq => hq) e1 (fun n1 Y1 q => by cases q; exact hn)) (vx_cwSW 3 (cx_ts C) gL_law_L_save rfl rfl rfl (by decide +kernel) ⟨(Nat.le_of_ble_eq_true rfl), (Nat.le_of_ble_eq_true rfl)⟩) rfl (st := []) rfl (Nat.le_of_ble_eq_true rfl) ⟨hc1, hs1⟩ dL_law_2906 ?_
    refine fw_mem (Y' := Yc) rfl ?_
    refine fw_topi (v' := c3 n) rfl ?_
    refine fw_istore C dL_law_2909 (by decide) (L' := [(5, .int (c3 n)), (0, .ref b), (1, .ref (ad 0 0 0)), (2, .ref (ad 10 0 0)), (3, .ref (ad 11 0 0)), (4, .int i)]) rfl ?_
    refine fw_aload_n C dL_law_2911 rfl 3 rfl ?_
    refine fw_aload_n C dL_law_2912 rfl 1 rfl ?_
    refine fw_iload C dL_law_2913 5 rfl ?_
    refine fw_iconst C dL_law_2915 (v := 1) rfl ?_
    refine fw_iadd C dL_law_2916 ?_
    refine fw_sld C hS h1 dL_law_2917 ?_
    refine fw_callVi C (ci := 10) (Cn := RX12) (Tc := TX12) (N := 19) (As := [.int (xs (i + 1).toNatClampNeg)]) (c_X12_save (lawg (by decide)) e2) (cwV 1 (cx_ts C) gL_law_X12_save rfl rfl rfl (by decide +kernel) ⟨(Nat.le_of_ble_eq_true rfl), (Nat.le_of_ble_eq_true rfl)⟩) rfl (lawg (g := [(10, 0)]) (by decide) _ List.mem_cons_self) (of10_0 _) (ce10 T ad _ _) rfl (st := []) rfl (Nat.le_of_ble_eq_true rfl) ⟨hc1, hs1⟩ dL_law_2918 (ppw ?_)
    refine fw_istore C dL_law_2921 (by decide) (L' := [(6, .int bb), (5, .int (c3 n)), (0, .ref b), (1, .ref (ad 0 0 0)), (2, .ref (ad 10 0 0)), (3, .ref (ad 11 0 0)), (4, .int i)]) rfl ?_
    refine fw_aload_n C dL_law_2923 rfl 4 rfl ?_
    refine fw_callVi C (ci := 10) (Cn := RX12) (Tc := TX12) (N := 19) (As := []) (c_X12_thrown (lawg (by decide)) (thr_ok e3)) (cwV 0 (cx_ts C) gL_law_X12_thrown rfl rfl rfl (by decide +kernel) ⟨(Nat.le_of_ble_eq_true rfl), (Nat.le_of_ble_eq_true rfl)⟩) rfl (lawg (g := [(10, 0)]) (by decide) _ List.mem_cons_self) (of10_0 _) (ce10 T ad _ _) rfl (st := []) rfl (Nat.le_of_ble_eq_true rfl) ⟨hc1, hs1⟩ dL_law_2924 (pp2 ?_)
    refine fw_iload C dL_law_2927 1 rfl ?_
    refine fw_icmp_eq C dL_law_2929 (tgt := 2934) rfl (fun _ => ?_) (fun c1 => absurd rfl c1)
    refine fw_iload C dL_law_2934 1 rfl ?_
    refine fw_if_ne C dL_law_2936 (tgt := 2951) rfl (fun _ => ?_) (fun c1 => absurd c1 hn)
    refine fw_goto C dL_law_2951 (tgt := 3079) rfl ?_
    exact fw_widen (Nat.add_le_add_left (by decide) _) (Nat.add_le_add_left (by decide) _) (fw_sub [2, 3, 4, 5, 6] rfl (k _ hI2))
  · have e2 : X12_save Yc (xs (i + 1).toNatClampNeg) = some (r, Ym) := e2
    refine fw_callH C hE (c_L_save hl (fun q hq => hq) e1 (fun n1 Y1 q => nomatch q)) (vx_cwSW 3 (cx_ts C) gL_law_L_save rfl rfl rfl (by decide +kernel) ⟨(Nat.le_of_ble_eq_true rfl), (Nat.le_of_ble_eq_true rfl)⟩) rfl (st := []) rfl (Nat.le_of_ble_eq_true rfl) ⟨hc1, hs1⟩ dL_law_2906 ?_
    refine fw_mem (Y' := s11 r Yc) rfl ?_
    refine fw_topi (v' := 0) rfl ?_
    have e4 : X12_save (s11 r Yc) (xs (i + 1).toNatClampNeg) = some (r, s11 r Ym) := s11_some (f := fun Z => X12_save Z (xs (i + 1).toNatClampNeg)) (fun _ Z => k_X12_save Z (xs (i + 1).toNatClampNeg)) _ e2
    refine fw_istore C dL_law_2909 (by decide) (L' := [(5, .int 0), (0, .ref b), (1, .ref (ad 0 0 0)), (2, .ref (ad 10 0 0)), (3, .ref (ad 11 0 0)), (4, .int i)]) rfl ?_
    refine fw_aload_n C dL_law_2911 rfl 3 rfl ?_
    refine fw_aload_n C dL_law_2912 rfl 1 rfl ?_
    refine fw_iload C dL_law_2913 5 rfl ?_
    refine fw_iconst C dL_law_2915 (v := 1) rfl ?_
    refine fw_iadd C dL_law_2916 ?_
    refine fw_sld C hS h1 dL_law_2917 ?_
    refine fw_callVi C (ci := 10) (Cn := RX12) (Tc := TX12) (N := 19) (As := [.int (xs (i + 1).toNatClampNeg)]) (c_X12_save (lawg (by decide)) e4) (cwV 1 (cx_ts C) gL_law_X12_save rfl rfl rfl (by decide +kernel) ⟨(Nat.le_of_ble_eq_true rfl), (Nat.le_of_ble_eq_true rfl)⟩) rfl (lawg (g := [(10, 0)]) (by decide) _ List.mem_cons_self) (of10_0 _) (ce10 T ad _ _) rfl (st := []) rfl (Nat.le_of_ble_eq_true rfl) ⟨hc1, hs1⟩ dL_law_2918 (ppw ?_)
    refine fw_istore C dL_law_2921 (by decide) (L' := [(6, .int r), (5, .int 0), (0, .ref b), (1, .ref (ad 0 0 0)), (2, .ref (ad 10 0 0)), (3, .ref (ad 11 0 0)), (4, .int i)]) rfl ?_
    refine fw_aload_n C dL_law_2923 rfl 4 rfl ?_
    refine fw_callVi C (ci := 10) (Cn := RX12) (Tc := TX12) (N := 19) (As := []) (c_X12_thrown (lawg (by decide)) (thr_s11 r e3)) (cwV 0 (cx_ts C) gL_law_X12_thrown rfl rfl rfl (by decide +kernel) ⟨(Nat.le_of_ble_eq_true rfl), (Nat.le_of_ble_eq_true rfl)⟩) rfl (lawg (g := [(10, 0)]) (by decide) _ List.mem_cons_self) (of10_0 _) (ce10 T ad _ _) rfl (st := []) rfl (Nat.le_of_ble_eq_true rfl) ⟨hc1, hs1⟩ dL_law_2924 (pp2 ?_)
    refine fw_iload C dL_law_2927 1 rfl ?_
    refine fw_icmp_eq C dL_law_2929 (tgt := 2934) rfl (fun _ => ?_) (fun c1 => absurd rfl c1)
    refine fw_iload C dL_law_2934 1 rfl ?_
    refine fw_if_ne C dL_law_2936 (tgt := 2951) rfl (fun c1 => absurd rfl c1) (fun _ => ?_)
    refine fw_aload_n C dL_law_2939 rfl 5 rfl ?_
    refine fw_iconst C dL_law_2940 (v := 0) rfl ?_
    refine fw_lald0 C (lawg (g := [(11, 0)]) (by decide) _ List.mem_cons_self) dL_law_2941 ?_
    refine fw_top (v' := .long (r : Int32).toInt64) (by rw [s11_11]) ?_
    refine fw_iload C dL_law_2942 0 rfl ?_
    refine fw_i2l C dL_law_2944 rfl ?_
    refine fw_lcmp C dL_law_2945 ?_
    refine fw_topi (v' := 0) (lg_self _) ?_
    refine fw_if_eq C dL_law_2946 (tgt := 2951) rfl (fun _ => ?_) (fun c1 => absurd rfl c1)
    refine fw_goto C dL_law_2951 (tgt := 3079) rfl ?_
    exact fw_widen (Nat.add_le_add_left (by decide) _) (Nat.add_le_add_left (by decide) _) (fw_sub [2, 3, 4, 5, 6] rfl (k _ (Inv_s11 _ hI2)))
set_option maxHeartbeats 4000000 in
theorem law_60 (X : LX p s m args meth c N0 T D ad l b Ln xs i cells slots) (hI : Inv Y) (k : ∀ Y' : Mem, Inv Y' → LO p l e s m args below meth c N0 T D ad b i (cells + 2) (slots + 12) Q Y' 3079) : LO p l e s m args below meth c N0 T D ad b i cells slots Q Y 2954 := by
  obtain ⟨C, hE, hl, hS, ⟨h1, h2, h3, h4, h5⟩, hc2, hs2⟩ := X
  have hc1 : cells + 1 ≤ 601024 := Nat.le_of_succ_le hc2
  have hs1 : slots + 6 ≤ 7293034 := Nat.le_trans (Nat.add_le_add_left (by decide) _) hs2
  have hc : cells ≤ 601024 := Nat.le_of_succ_le hc1
  have hs : slots ≤ 7293034 := Nat.le_trans (Nat.le_add_right _ _) hs1
  refine fw_aload_n C dL_law_2954 rfl 1 rfl ?_
  refine fw_aload_n C dL_law_2955 rfl 0 rfl ?_
  refine fw_iload C dL_law_2956 4 rfl ?_
  refine fw_iconst C dL_law_2958 (v := 1) rfl ?_
  refine fw_iadd C dL_law_2959 ?_
  refine fw_sld C hS h1 dL_law_2960 ?_
  refine fw_aload_n C dL_law_2961 rfl 3 rfl ?_
  rcases q_restore hI (xs (i + 1).toNatClampNeg) with ⟨n, Yc, e1, hn, bb, Ym, e2, e3, hI2⟩ | ⟨r, Yc, e1, Ym, e2, e3, hI2⟩
  · have e2 : X12_restore Yc (xs (i + 1).toNatClampNeg) = some (bb, Ym) := e2
    refine fw_callH C hE (c_L_restore hl (fun q hq => hq) e1 (fun n1 Y1 q => by cases q; exact hn)) (vx_cwSW 3 (cx_ts C) gL_law_L_restore rfl rfl rfl (by decide +kernel) ⟨(Nat.le_of_ble_eq_true rfl), (Nat.le_of_ble_eq_true rfl)⟩) rfl (st := []) rfl (Nat.le_of_ble_eq_true rfl) ⟨hc2, hs2⟩ dL_law_2962 ?_
    refine fw_mem (Y' := Yc) rfl ?_
    refine fw_topi (v' := c31 n) rfl ?_
    refine fw_istore C dL_law_2965 (by decide) (L' := [(5, .int (c31 n)), (0, .ref b), (1, .ref (ad 0 0 0)), (2, .ref (ad 10 0 0)), (3, .ref (ad 11 0 0)), (4, .int i)]) rfl ?_
    refine fw_aload_n C dL_law_2967 rfl 3 rfl ?_
    refine fw_aload_n C dL_law_2968 rfl 1 rfl ?_
    refine fw_iload C dL_law_2969 5 rfl ?_
    refine fw_iconst C dL_law_2971 (v := 1) rfl ?_
    refine fw_iadd C dL_law_2972 ?_
    refine fw_sld C hS h1 dL_law_2973 ?_
    refine fw_callVi C (ci := 10) (Cn := RX12) (Tc := TX12) (N := 19) (As := [.int (xs (i + 1).toNatClampNeg)]) (c_X12_restore (lawg (by decide)) e2) (cwV 1 (cx_ts C) gL_law_X12_restore rfl rfl rfl (by decide +kernel) ⟨(Nat.le_of_ble_eq_true rfl), (Nat.le_of_ble_eq_true rfl)⟩) rfl (lawg (g := [(10, 0)]) (by decide) _ List.mem_cons_self) (of10_0 _) (ce10 T ad _ _) rfl (st := []) rfl (Nat.le_of_ble_eq_true rfl) ⟨hc2, hs2⟩ dL_law_2974 (ppw ?_)
    refine fw_istore C dL_law_2977 (by decide) (L' := [(6, .int bb), (5, .int (c31 n)), (0, .ref b), (1, .ref (ad 0 0 0)), (2, .ref (ad 10 0 0)), (3, .ref (ad 11 0 0)), (4, .int i)]) rfl ?_
    refine fw_aload_n C dL_law_2979 rfl 4 rfl ?_
    refine fw_callVi C (ci := 10) (Cn := RX12) (Tc := TX12) (N := 19) (As := []) (c_X12_thrown (lawg (by decide)) (thr_ok e3)) (cwV 0 (cx_ts C) gL_law_X12_thrown rfl rfl rfl (by decide +kernel) ⟨(Nat.le_of_ble_eq_true rfl), (Nat.le_of_ble_eq_true rfl)⟩) rfl (lawg (g := [(10, 0)]) (by decide) _ List.mem_cons_self) (of10_0 _) (ce10 T ad _ _) rfl (st := []) rfl (Nat.le_of_ble_eq_true rfl) ⟨hc2, hs2⟩ dL_law_2980 (pp2 ?_)
    refine fw_iload C dL_law_2983 1 rfl ?_
    refine fw_icmp_eq C dL_law_2985 (tgt := 2990) rfl (fun _ => ?_) (fun c1 => absurd rfl c1)
    refine fw_iload C dL_law_2990 1 rfl ?_
    refine fw_if_ne C dL_law_2992 (tgt := 3007) rfl (fun _ => ?_) (fun c1 => absurd c1 hn)
    refine fw_goto C dL_law_3007 (tgt := 3079) rfl ?_
    exact fw_widen (Nat.add_le_add_left (by decide) _) (Nat.add_le_add_left (by decide) _) (fw_sub [2, 3, 4, 5, 6] rfl (k _ hI2))
  · have e2 : X12_restore Yc (xs (i + 1).toNatClampNeg) = some (r, Ym) := e2
    refine fw_callH C hE (c_L_restore hl (fun q hq => hq) e1 (fun n1 Y1 q => nomatch q)) (vx_cwSW 3 (cx_ts C) gL_law_L_restore rfl rfl rfl (by decide +kernel) ⟨(Nat.le_of_ble_eq_true rfl), (Nat.le_of_ble_eq_true rfl)⟩) rfl (st := []) rfl (Nat.le_of_ble_eq_true rfl) ⟨hc2, hs2⟩ dL_law_2962 ?_
    refine fw_mem (Y' := s11 r Yc) rfl ?_
    refine fw_topi (v' := 0) rfl ?_
    have e4 : X12_restore (s11 r Yc) (xs (i + 1).toNatClampNeg) = some (r, s11 r Ym) := s11_some (f := fun Z => X12_restore Z (xs (i + 1).toNatClampNeg)) (fun _ Z => k_X12_restore Z (xs (i + 1).toNatClampNeg)) _ e2
    refine fw_istore C dL_law_2965 (by decide) (L' := [(5, .int 0), (0, .ref b), (1, .ref (ad 0 0 0)), (2, .ref (ad 10 0 0)), (3, .ref (ad 11 0 0)), (4, .int i)]) rfl ?_
    refine fw_aload_n C dL_law_2967 rfl 3 rfl ?_
    refine fw_aload_n C dL_law_2968 rfl 1 rfl ?_
    refine fw_iload C dL_law_2969 5 rfl ?_
    refine fw_iconst C dL_law_2971 (v := 1) rfl ?_
    refine fw_iadd C dL_law_2972 ?_
    refine fw_sld C hS h1 dL_law_2973 ?_
    refine fw_callVi C (ci := 10) (Cn := RX12) (Tc := TX12) (N := 19) (As := [.int (xs (i + 1).toNatClampNeg)]) (c_X12_restore (lawg (by decide)) e4) (cwV 1 (cx_ts C) gL_law_X12_restore rfl rfl rfl (by decide +kernel) ⟨(Nat.le_of_ble_eq_true rfl), (Nat.le_of_ble_eq_true rfl)⟩) rfl (lawg (g := [(10, 0)]) (by decide) _ List.mem_cons_self) (of10_0 _) (ce10 T ad _ _) rfl (st := []) rfl (Nat.le_of_ble_eq_true rfl) ⟨hc2, hs2⟩ dL_law_2974 (ppw ?_)
    refine fw_istore C dL_law_2977 (by decide) (L' := [(6, .int r), (5, .int 0), (0, .ref b), (1, .ref (ad 0 0 0)), (2, .ref (ad 10 0 0)), (3, .ref (ad 11 0 0)), (4, .int i)]) rfl ?_
    refine fw_aload_n C dL_law_2979 rfl 4 rfl ?_
    refine fw_callVi C (ci := 10) (Cn := RX12) (Tc := TX12) (N := 19) (As := []) (c_X12_thrown (lawg (by decide)) (thr_s11 r e3)) (cwV 0 (cx_ts C) gL_law_X12_thrown rfl rfl rfl (by decide +kernel) ⟨(Nat.le_of_ble_eq_true rfl), (Nat.le_of_ble_eq_true rfl)⟩) rfl (lawg (g := [(10, 0)]) (by decide) _ List.mem_cons_self) (of10_0 _) (ce10 T ad _ _) rfl (st := []) rfl (Nat.le_of_ble_eq_true rfl) ⟨hc2, hs2⟩ dL_law_2980 (pp2 ?_)
    refine fw_iload C dL_law_2983 1 rfl ?_
    refine fw_icmp_eq C dL_law_2985 (tgt := 2990) rfl (fun _ => ?_) (fun c1 => absurd rfl c1)
    refine fw_iload C dL_law_2990 1 rfl ?_
    refine fw_if_ne C dL_law_2992 (tgt := 3007) rfl (fun c1 => absurd rfl c1) (fun _ => ?_)
    refine fw_aload_n C dL_law_2995 rfl 5 rfl ?_
    refine fw_iconst C dL_law_2996 (v := 0) rfl ?_
    refine fw_lald0 C (lawg (g := [(11, 0)]) (by decide) _ List.mem_cons_self) dL_law_2997 ?_
    refine fw_top (v' := .long (r : Int32).toInt64) (by rw [s11_11]) ?_
    refine fw_iload C dL_law_2998 0 rfl ?_
    refine fw_i2l C dL_law_3000 rfl ?_
    refine fw_lcmp C dL_law_3001 ?_
    refine fw_topi (v' := 0) (lg_self _) ?_
    refine fw_if_eq C dL_law_3002 (tgt := 3007) rfl (fun _ => ?_) (fun c1 => absurd rfl c1)
    refine fw_goto C dL_law_3007 (tgt := 3079) rfl ?_
    exact fw_widen (Nat.add_le_add_left (by decide) _) (Nat.add_le_add_left (by decide) _) (fw_sub [2, 3, 4, 5, 6] rfl (k _ (Inv_s11 _ hI2)))
set_option maxHeartbeats 4000000 in
theorem law_61 (X : LX p s m args meth c N0 T D ad l b Ln xs i cells slots) (hI : Inv Y) (k : ∀ Y' : Mem, Inv Y' → LO p l e s m args below meth c N0 T D ad b i (cells + 2) (slots + 12) Q Y' 3079) : LO p l e s m args below meth c N0 T D ad b i cells slots Q Y 3010 := by
  obtain ⟨C, hE, hl, hS, ⟨h1, h2, h3, h4, h5⟩, hc2, hs2⟩ := X
  have hc1 : cells + 1 ≤ 601024 := Nat.le_of_succ_le hc2
  have hs1 : slots + 6 ≤ 7293034 := Nat.le_trans (Nat.add_le_add_left (by decide) _) hs2
  have hc : cells ≤ 601024 := Nat.le_of_succ_le hc1
  have hs : slots ≤ 7293034 := Nat.le_trans (Nat.le_add_right _ _) hs1
  refine fw_aload_n C dL_law_3010 rfl 1 rfl ?_
  obtain ⟨r, Yc, Ym, e1, e2, hI2⟩ := q_writeSummary hI
  have e2 : X12_writeSummary Yc = some (r, Ym) := e2
  refine fw_callVi C (ci := 9) (Cn := RX11) (Tc := TX11) (N := 11) (As := []) (c_X11_writeSummary (lawg (by decide)) e1) (cwV 0 (cx_ts C) gL_law_X11_writeSummary rfl rfl rfl (by decide +kernel) ⟨(Nat.le_of_ble_eq_true rfl), (Nat.le_of_ble_eq_true rfl)⟩) rfl (lawg (g := [(0, 0)]) (by decide) _ List.mem_cons_self) (of0_0 _) (ce0 T ad _ _) rfl (st := []) rfl (Nat.le_of_ble_eq_true rfl) ⟨hc, hs⟩ dL_law_3011 (ppw ?_)
  refine fw_aload_n C dL_law_3014 rfl 2 rfl ?_
  refine fw_callVi C (ci := 10) (Cn := RX12) (Tc := TX12) (N := 19) (As := []) (c_X12_writeSummary (lawg (by decide)) e2) (cwV 0 (cx_ts C) gL_law_X12_writeSummary rfl rfl rfl (by decide +kernel) ⟨(Nat.le_of_ble_eq_true rfl), (Nat.le_of_ble_eq_true rfl)⟩) rfl (lawg (g := [(10, 0)]) (by decide) _ List.mem_cons_self) (of10_0 _) (ce10 T ad _ _) rfl (st := [.int r]) rfl (Nat.le_of_ble_eq_true rfl) ⟨hc, hs⟩ dL_law_3015 (ppw ?_)
  refine fw_icmp_eq C dL_law_3018 (tgt := 3079) rfl (fun _ => ?_) (fun c1 => absurd rfl c1)
  exact fw_widen (Nat.le_add_right _ _) (Nat.le_add_right _ _) (k _ hI2)
set_option maxHeartbeats 4000000 in
theorem law_62 (X : LX p s m args meth c N0 T D ad l b Ln xs i cells slots) (hI : Inv Y) (k : ∀ Y' : Mem, Inv Y' → LO p l e s m args below meth c N0 T D ad b i (cells + 2) (slots + 12) Q Y' 3079) : LO p l e s m args below meth c N0 T D ad b i cells slots Q Y 3023 := by
  obtain ⟨C, hE, hl, hS, ⟨h1, h2, h3, h4, h5⟩, hc2, hs2⟩ := X
  have hc1 : cells + 1 ≤ 601024 := Nat.le_of_succ_le hc2
  have hs1 : slots + 6 ≤ 7293034 := Nat.le_trans (Nat.add_le_add_left (by decide) _) hs2
  have hc : cells ≤ 601024 := Nat.le_of_succ_le hc1
  have hs : slots ≤ 7293034 := Nat.le_trans (Nat.le_add_right _ _) hs1
  refine fw_aload_n C dL_law_3023 rfl 1 rfl ?_
  refine fw_aload_n C dL_law_3024 rfl 0 rfl ?_
  refine fw_iload C dL_law_3025 4 rfl ?_
  refine fw_iconst C dL_law_3027 (v := 1) rfl ?_
  refine fw_iadd C dL_law_3028 ?_
  refine fw_sld C hS h1 dL_law_3029 ?_
  refine fw_aload_n C dL_law_3030 rfl 3 rfl ?_
  rcases q_outputByte hI (xs (i + 1).toNatClampNeg) with ⟨n, Yc, e1, hn, bb, Ym, e2, e3, hI2⟩ | ⟨r, Yc, e1, Ym, e2, e3, hI2⟩
  · have e2 : X12_outputByte Yc (xs (i + 1).toNatClampNeg) = some (bb, Ym) := e2
    refine fw_callH C hE (c_L_outputByte hl (fun q hq => hq) e1 (fun n1 Y1 q => by cases q; exact hn)) (vx_cwSW 3 (cx_ts C) gL_law_L_outputByte rfl rfl rfl (by decide +kernel) ⟨(Nat.le_of_ble_eq_true rfl), (Nat.le_of_ble_eq_true rfl)⟩) rfl (st := []) rfl (Nat.le_of_ble_eq_true rfl) ⟨hc1, hs1⟩ dL_law_3031 ?_
    refine fw_mem (Y' := Yc) rfl ?_
    refine fw_topi (v' := c3 n) rfl ?_
    refine fw_istore C dL_law_3034 (by decide) (L' := [(5, .int (c3 n)), (0, .ref b), (1, .ref (ad 0 0 0)), (2, .ref (ad 10 0 0)), (3, .ref (ad 11 0 0)), (4, .int i)]) rfl ?_
    refine fw_aload_n C dL_law_3036 rfl 3 rfl ?_
    refine fw_aload_n C dL_law_3037 rfl 1 rfl ?_
    refine fw_iload C dL_law_3038 5 rfl ?_
    refine fw_iconst C dL_law_3040 (v := 1) rfl ?_
    refine fw_iadd C dL_law_3041 ?_
    refine fw_sld C hS h1 dL_law_3042 ?_
    refine fw_callVi C (ci := 10) (Cn := RX12) (Tc := TX12) (N := 19) (As := [.int (xs (i + 1).toNatClampNeg)]) (c_X12_outputByte (lawg (by decide)) e2) (cwV 1 (cx_ts C) gL_law_X12_outputByte rfl rfl rfl (by decide +kernel) ⟨(Nat.le_of_ble_eq_true rfl), (Nat.le_of_ble_eq_true rfl)⟩) rfl (lawg (g := [(10, 0)]) (by decide) _ List.mem_cons_self) (of10_0 _) (ce10 T ad _ _) rfl (st := []) rfl (Nat.le_of_ble_eq_true rfl) ⟨hc1, hs1⟩ dL_law_3043 (ppw ?_)
    refine fw_istore C dL_law_3046 (by decide) (L' := [(6, .int bb), (5, .int (c3 n)), (0, .ref b), (1, .ref (ad 0 0 0)), (2, .ref (ad 10 0 0)), (3, .ref (ad 11 0 0)), (4, .int i)]) rfl ?_
    refine fw_aload_n C dL_law_3048 rfl 4 rfl ?_
    refine fw_callVi C (ci := 10) (Cn := RX12) (Tc := TX12) (N := 19) (As := []) (c_X12_thrown (lawg (by decide)) (thr_ok e3)) (cwV 0 (cx_ts C) gL_law_X12_thrown rfl rfl rfl (by decide +kernel) ⟨(Nat.le_of_ble_eq_true rfl), (Nat.le_of_ble_eq_true rfl)⟩) rfl (lawg (g := [(10, 0)]) (by decide) _ List.mem_cons_self) (of10_0 _) (ce10 T ad _ _) rfl (st := []) rfl (Nat.le_of_ble_eq_true rfl) ⟨hc1, hs1⟩ dL_law_3049 (pp2 ?_)
    refine fw_iload C dL_law_3052 1 rfl ?_
    refine fw_icmp_eq C dL_law_3054 (tgt := 3059) rfl (fun _ => ?_) (fun c1 => absurd rfl c1)
    refine fw_iload C dL_law_3059 1 rfl ?_
    refine fw_if_ne C dL_law_3061 (tgt := 3076) rfl (fun _ => ?_) (fun c1 => absurd c1 hn)
    refine fw_goto C dL_law_3076 (tgt := 3079) rfl ?_
    exact fw_widen (Nat.add_le_add_left (by decide) _) (Nat.add_le_add_left (by decide) _) (fw_sub [2, 3, 4, 5, 6] rfl (k _ hI2))
  · have e2 : X12_outputByte Yc (xs (i + 1).toNatClampNeg) = some (r, Ym) := e2
    refine fw_callH C hE (c_L_outputByte hl (fun q hq => hq) e1 (fun n1 Y1 q => nomatch q)) (vx_cwSW 3 (cx_ts C) gL_law_L_outputByte rfl rfl rfl (by decide +kernel) ⟨(Nat.le_of_ble_eq_true rfl), (Nat.le_of_ble_eq_true rfl)⟩) rfl (st := []) rfl (Nat.le_of_ble_eq_true rfl) ⟨hc1, hs1⟩ dL_law_3031 ?_
    refine fw_mem (Y' := s11 r Yc) rfl ?_
    refine fw_topi (v' := 0) rfl ?_
    have e4 : X12_outputByte (s11 r Yc) (xs (i + 1).toNatClampNeg) = some (r, s11 r Ym) := s11_some (f := fun Z => X12_outputByte Z (xs (i + 1).toNatClampNeg)) (fun _ Z => k_X12_outputByte Z (xs (i + 1).toNatClampNeg)) _ e2
    refine fw_istore C dL_law_3034 (by decide) (L' := [(5, .int 0), (0, .ref b), (1, .ref (ad 0 0 0)), (2, .ref (ad 10 0 0)), (3, .ref (ad 11 0 0)), (4, .int i)]) rfl ?_
    refine fw_aload_n C dL_law_3036 rfl 3 rfl ?_
    refine fw_aload_n C dL_law_3037 rfl 1 rfl ?_
    refine fw_iload C dL_law_3038 5 rfl ?_
    refine fw_iconst C dL_law_3040 (v := 1) rfl ?_
    refine fw_iadd C dL_law_3041 ?_
    refine fw_sld C hS h1 dL_law_3042 ?_
    refine fw_callVi C (ci := 10) (Cn := RX12) (Tc := TX12) (N := 19) (As := [.int (xs (i + 1).toNatClampNeg)]) (c_X12_outputByte (lawg (by decide)) e4) (cwV 1 (cx_ts C) gL_law_X12_outputByte rfl rfl rfl (by decide +kernel) ⟨(Nat.le_of_ble_eq_true rfl), (Nat.le_of_ble_eq_true rfl)⟩) rfl (lawg (g := [(10, 0)]) (by decide) _ List.mem_cons_self) (of10_0 _) (ce10 T ad _ _) rfl (st := []) rfl (Nat.le_of_ble_eq_true rfl) ⟨hc1, hs1⟩ dL_law_3043 (ppw ?_)
    refine fw_istore C dL_law_3046 (by decide) (L' := [(6, .int r), (5, .int 0), (0, .ref b), (1, .ref (ad 0 0 0)), (2, .ref (ad 10 0 0)), (3, .ref (ad 11 0 0)), (4, .int i)]) rfl ?_
    refine fw_aload_n C dL_law_3048 rfl 4 rfl ?_
    refine fw_callVi C (ci := 10) (Cn := RX12) (Tc := TX12) (N := 19) (As := []) (c_X12_thrown (lawg (by decide)) (thr_s11 r e3)) (cwV 0 (cx_ts C) gL_law_X12_thrown rfl rfl rfl (by decide +kernel) ⟨(Nat.le_of_ble_eq_true rfl), (Nat.le_of_ble_eq_true rfl)⟩) rfl (lawg (g := [(10, 0)]) (by decide) _ List.mem_cons_self) (of10_0 _) (ce10 T ad _ _) rfl (st := []) rfl (Nat.le_of_ble_eq_true rfl) ⟨hc1, hs1⟩ dL_law_3049 (pp2 ?_)
    refine fw_iload C dL_law_3052 1 rfl ?_
    refine fw_icmp_eq C dL_law_3054 (tgt := 3059) rfl (fun _ => ?_) (fun c1 => absurd rfl c1)
    refine fw_iload C dL_law_3059 1 rfl ?_
    refine fw_if_ne C dL_law_3061 (tgt := 3076) rfl (fun c1 => absurd rfl c1) (fun _ => ?_)
    refine fw_aload_n C dL_law_3064 rfl 5 rfl ?_
    refine fw_iconst C dL_law_3065 (v := 0) rfl ?_
    refine fw_lald0 C (lawg (g := [(11, 0)]) (by decide) _ List.mem_cons_self) dL_law_3066 ?_
    refine fw_top (v' := .long (r : Int32).toInt64) (by rw [s11_11]) ?_
    refine fw_iload C dL_law_3067 0 rfl ?_
    refine fw_i2l C dL_law_3069 rfl ?_
    refine fw_lcmp C dL_law_3070 ?_
    refine fw_topi (v' := 0) (lg_self _) ?_
    refine fw_if_eq C dL_law_3071 (tgt := 3076) rfl (fun _ => ?_) (fun c1 => absurd rfl c1)
    refine fw_goto C dL_law_3076 (tgt := 3079) rfl ?_
    exact fw_widen (Nat.add_le_add_left (by decide) _) (Nat.add_le_add_left (by decide) _) (fw_sub [2, 3, 4, 5, 6] rfl (k _ (Inv_s11 _ hI2)))
end
