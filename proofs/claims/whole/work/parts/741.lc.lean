/-! PHASE 3: THE LAW: cases -/
section
variable {p : Program} {l : Launch} {e : Env} {s : State} {m : MethodId} {args : Array Value} {below : List Frame} {meth : Method} {c : Code} {N0 : Nat} {T : Nat → ClassId} {D : va_G} {ad : Nat → Nat → Nat → Nat} {cells slots : Nat} {Q : State → Prop} {Y : Mem} {b Ln : Nat} {xs : Nat → Int32} {i : Int32}
set_option maxHeartbeats 4000000 in
theorem law_0 (X : LX p s m args meth c N0 T D ad l b Ln xs i cells slots) (hI : Inv Y) (k : ∀ Y' : Mem, Inv Y' → LO p l e s m args below meth c N0 T D ad b i (cells + 2) (slots + 12) Q Y' 3079) : LO p l e s m args below meth c N0 T D ad b i cells slots Q Y 308 := by
  obtain ⟨C, hE, hl, hS, ⟨h1, h2, h3, h4, h5⟩, hc2, hs2⟩ := X
  have hc1 : cells + 1 ≤ 601024 := Nat.le_of_succ_le hc2
  have hs1 : slots + 6 ≤ 7293034 := Nat.le_trans (Nat.add_le_add_left (by decide) _) hs2
  have hc : cells ≤ 601024 := Nat.le_of_succ_le hc1
  have hs : slots ≤ 7293034 := Nat.le_trans (Nat.le_add_right _ _) hs1
  refine fw_aload_n C dL_law_308 rfl 1 rfl ?_
  refine fw_aload_n C dL_law_309 rfl 0 rfl ?_
  refine fw_iload C dL_law_310 4 rfl ?_
  refine fw_iconst C dL_law_312 (v := 1) rfl ?_
  refine fw_iadd C dL_law_313 ?_
  refine fw_sld C hS h1 dL_law_314 ?_
  refine fw_aload_n C dL_law_315 rfl 0 rfl ?_
  refine fw_iload C dL_law_316 4 rfl ?_
  refine fw_iconst C dL_law_318 (v := 2) rfl ?_
  refine fw_iadd C dL_law_319 ?_
  refine fw_sld C hS h2 dL_law_320 ?_
  refine fw_aload_n C dL_law_321 rfl 0 rfl ?_
  refine fw_iload C dL_law_322 4 rfl ?_
  refine fw_iconst C dL_law_324 (v := 3) rfl ?_
  refine fw_iadd C dL_law_325 ?_
  refine fw_sld C hS h3 dL_law_326 ?_
  refine fw_aload_n C dL_law_327 rfl 0 rfl ?_
  refine fw_iload C dL_law_328 4 rfl ?_
  refine fw_iconst C dL_law_330 (v := 4) rfl ?_
  refine fw_iadd C dL_law_331 ?_
  refine fw_sld C hS h4 dL_law_332 ?_
  refine fw_aload_n C dL_law_333 rfl 0 rfl ?_
  refine fw_iload C dL_law_334 4 rfl ?_
  refine fw_iconst C dL_law_336 (v := 5) rfl ?_
  refine fw_iadd C dL_law_337 ?_
  refine fw_sld C hS h5 dL_law_338 ?_
  refine fw_aload_n C dL_law_339 rfl 3 rfl ?_
  rcases q_append hI (xs (i + 1).toNatClampNeg) (xs (i + 2).toNatClampNeg) (xs (i + 3).toNatClampNeg) (xs (i + 4).toNatClampNeg) (xs (i + 5).toNatClampNeg) with ⟨n, Yc, e1, hn, bb, Ym, e2, e3, hI2⟩ | ⟨r, Yc, e1, Ym, e2, e3, hI2⟩
  · have e2 : X12_append Yc (xs (i + 1).toNatClampNeg) (xs (i + 2).toNatClampNeg) (xs (i + 3).toNatClampNeg) (xs (i + 4).toNatClampNeg) (xs (i + 5).toNatClampNeg) = some (bb, Ym) := e2
    refine fw_callH C hE (c_L_append hl (fun q hq => hq) e1 (fun n1 Y1 q => by cases q; exact hn)) (vx_cwSW 7 (cx_ts C) gL_law_L_append rfl rfl rfl (by decide +kernel) ⟨(Nat.le_of_ble_eq_true rfl), (Nat.le_of_ble_eq_true rfl)⟩) rfl (st := []) rfl (Nat.le_of_ble_eq_true rfl) ⟨hc1, hs1⟩ dL_law_340 ?_
    refine fw_mem (Y' := Yc) rfl ?_
    refine fw_topi (v' := c1_ n) rfl ?_
    refine fw_istore C dL_law_343 (by decide) (L' := [(5, .int (c1_ n)), (0, .ref b), (1, .ref (ad 0 0 0)), (2, .ref (ad 10 0 0)), (3, .ref (ad 11 0 0)), (4, .int i)]) rfl ?_
    refine fw_aload_n C dL_law_345 rfl 3 rfl ?_
    refine fw_aload_n C dL_law_346 rfl 1 rfl ?_
    refine fw_iload C dL_law_347 5 rfl ?_
    refine fw_iconst C dL_law_349 (v := 1) rfl ?_
    refine fw_iadd C dL_law_350 ?_
    refine fw_sld C hS h1 dL_law_351 ?_
    refine fw_aload_n C dL_law_352 rfl 1 rfl ?_
    refine fw_iload C dL_law_353 5 rfl ?_
    refine fw_iconst C dL_law_355 (v := 2) rfl ?_
    refine fw_iadd C dL_law_356 ?_
    refine fw_sld C hS h2 dL_law_357 ?_
    refine fw_aload_n C dL_law_358 rfl 1 rfl ?_
    refine fw_iload C dL_law_359 5 rfl ?_
    refine fw_iconst C dL_law_361 (v := 3) rfl ?_
    refine fw_iadd C dL_law_362 ?_
    refine fw_sld C hS h3 dL_law_363 ?_
    refine fw_aload_n C dL_law_364 rfl 1 rfl ?_
    refine fw_iload C dL_law_365 5 rfl ?_
    refine fw_iconst C dL_law_367 (v := 4) rfl ?_
    refine fw_iadd C dL_law_368 ?_
    refine fw_sld C hS h4 dL_law_369 ?_
    refine fw_aload_n C dL_law_370 rfl 1 rfl ?_
    refine fw_iload C dL_law_371 5 rfl ?_
    refine fw_iconst C dL_law_373 (v := 5) rfl ?_
    refine fw_iadd C dL_law_374 ?_
    refine fw_sld C hS h5 dL_law_375 ?_
    refine fw_callVi C (ci := 10) (Cn := RX12) (Tc := TX12) (N := 19) (As := [.int (xs (i + 1).toNatClampNeg), .int (xs (i + 2).toNatClampNeg), .int (xs (i + 3).toNatClampNeg), .int (xs (i + 4).toNatClampNeg), .int (xs (i + 5).toNatClampNeg)]) (c_X12_append (lawg (by decide)) e2) (cwV 5 (cx_ts C) gL_law_X12_append rfl rfl rfl (by decide +kernel) ⟨(Nat.le_of_ble_eq_true rfl), (Nat.le_of_ble_eq_true rfl)⟩) rfl (lawg (g := [(10, 0)]) (by decide) _ List.mem_cons_self) (of10_0 _) (ce10 T ad _ _) rfl (st := []) rfl (Nat.le_of_ble_eq_true rfl) ⟨hc1, hs1⟩ dL_law_376 (ppw ?_)
    refine fw_istore C dL_law_379 (by decide) (L' := [(6, .int bb), (5, .int (c1_ n)), (0, .ref b), (1, .ref (ad 0 0 0)), (2, .ref (ad 10 0 0)), (3, .ref (ad 11 0 0)), (4, .int i)]) rfl ?_
    refine fw_aload_n C dL_law_381 rfl 4 rfl ?_
    refine fw_callVi C (ci := 10) (Cn := RX12) (Tc := TX12) (N := 19) (As := []) (c_X12_thrown (lawg (by decide)) (thr_ok e3)) (cwV 0 (cx_ts C) gL_law_X12_thrown rfl rfl rfl (by decide +kernel) ⟨(Nat.le_of_ble_eq_true rfl), (Nat.le_of_ble_eq_true rfl)⟩) rfl (lawg (g := [(10, 0)]) (by decide) _ List.mem_cons_self) (of10_0 _) (ce10 T ad _ _) rfl (st := []) rfl (Nat.le_of_ble_eq_true rfl) ⟨hc1, hs1⟩ dL_law_382 (pp2 ?_)
    refine fw_iload C dL_law_385 1 rfl ?_
    refine fw_icmp_eq C dL_law_387 (tgt := 392) rfl (fun _ => ?_) (fun c1 => absurd rfl c1)
    refine fw_iload C dL_law_392 1 rfl ?_
    refine fw_if_ne C dL_law_394 (tgt := 409) rfl (fun _ => ?_) (fun c1 => absurd c1 hn)
    refine fw_goto C dL_law_409 (tgt := 3079) rfl ?_
    exact fw_widen (Nat.add_le_add_left (by decide) _) (Nat.add_le_add_left (by decide) _) (fw_sub [2, 3, 4, 5, 6] rfl (k _ hI2))
  · have e2 : X12_append Yc (xs (i + 1).toNatClampNeg) (xs (i + 2).toNatClampNeg) (xs (i + 3).toNatClampNeg) (xs (i + 4).toNatClampNeg) (xs (i + 5).toNatClampNeg) = some (r, Ym) := e2
    refine fw_callH C hE (c_L_append hl (fun q hq => hq) e1 (fun n1 Y1 q => nomatch q)) (vx_cwSW 7 (cx_ts C) gL_law_L_append rfl rfl rfl (by decide +kernel) ⟨(Nat.le_of_ble_eq_true rfl), (Nat.le_of_ble_eq_true rfl)⟩) rfl (st := []) rfl (Nat.le_of_ble_eq_true rfl) ⟨hc1, hs1⟩ dL_law_340 ?_
    refine fw_mem (Y' := s11 r Yc) rfl ?_
    refine fw_topi (v' := 0) rfl ?_
    have e4 : X12_append (s11 r Yc) (xs (i + 1).toNatClampNeg) (xs (i + 2).toNatClampNeg) (xs (i + 3).toNatClampNeg) (xs (i + 4).toNatClampNeg) (xs (i + 5).toNatClampNeg) = some (r, s11 r Ym) := s11_some (f := fun Z => X12_append Z (xs (i + 1).toNatClampNeg) (xs (i + 2).toNatClampNeg) (xs (i + 3).toNatClampNeg) (xs (i + 4).toNatClampNeg) (xs (i + 5).toNatClampNeg)) (fun _ Z => k_X12_append Z (xs (i + 1).toNatClampNeg) (xs (i + 2).toNatClampNeg) (xs (i + 3).toNatClampNeg) (xs (i + 4).toNatClampNeg) (xs (i + 5).toNatClampNeg)) _ e2
    refine fw_istore C dL_law_343 (by decide) (L' := [(5, .int 0), (0, .ref b), (1, .ref (ad 0 0 0)), (2, .ref (ad 10 0 0)), (3, .ref (ad 11 0 0)), (4, .int i)]) rfl ?_
    refine fw_aload_n C dL_law_345 rfl 3 rfl ?_
    refine fw_aload_n C dL_law_346 rfl 1 rfl ?_
    refine fw_iload C dL_law_347 5 rfl ?_
    refine fw_iconst C dL_law_349 (v := 1) rfl ?_
    refine fw_iadd C dL_law_350 ?_
    refine fw_sld C hS h1 dL_law_351 ?_
    refine fw_aload_n C dL_law_352 rfl 1 rfl ?_
    refine fw_iload C dL_law_353 5 rfl ?_
    refine fw_iconst C dL_law_355 (v := 2) rfl ?_
    refine fw_iadd C dL_law_356 ?_
    refine fw_sld C hS h2 dL_law_357 ?_
    refine fw_aload_n C dL_law_358 rfl 1 rfl ?_
    refine fw_iload C dL_law_359 5 rfl ?_
    refine fw_iconst C dL_law_361 (v := 3) rfl ?_
    refine fw_iadd C dL_law_362 ?_
    refine fw_sld C hS h3 dL_law_363 ?_
    refine fw_aload_n C dL_law_364 rfl 1 rfl ?_
    refine fw_iload C dL_law_365 5 rfl ?_
    refine fw_iconst C dL_law_367 (v := 4) rfl ?_
    refine fw_iadd C dL_law_368 ?_
    refine fw_sld C hS h4 dL_law_369 ?_
    refine fw_aload_n C dL_law_370 rfl 1 rfl ?_
    refine fw_iload C dL_law_371 5 rfl ?_
    refine fw_iconst C dL_law_373 (v := 5) rfl ?_
    refine fw_iadd C dL_law_374 ?_
    refine fw_sld C hS h5 dL_law_375 ?_
    refine fw_callVi C (ci := 10) (Cn := RX12) (Tc := TX12) (N := 19) (As := [.int (xs (i + 1).toNatClampNeg), .int (xs (i + 2).toNatClampNeg), .int (xs (i + 3).toNatClampNeg), .int (xs (i + 4).toNatClampNeg), .int (xs (i + 5).toNatClampNeg)]) (c_X12_append (lawg (by decide)) e4) (cwV 5 (cx_ts C) gL_law_X12_append rfl rfl rfl (by decide +kernel) ⟨(Nat.le_of_ble_eq_true rfl), (Nat.le_of_ble_eq_true rfl)⟩) rfl (lawg (g := [(10, 0)]) (by decide) _ List.mem_cons_self) (of10_0 _) (ce10 T ad _ _) rfl (st := []) rfl (Nat.le_of_ble_eq_true rfl) ⟨hc1, hs1⟩ dL_law_376 (ppw ?_)
    refine fw_istore C dL_law_379 (by decide) (L' := [(6, .int r), (5, .int 0), (0, .ref b), (1, .ref (ad 0 0 0)), (2, .ref (ad 10 0 0)), (3, .ref (ad 11 0 0)), (4, .int i)]) rfl ?_
    refine fw_aload_n C dL_law_381 rfl 4 rfl ?_
    refine fw_callVi C (ci := 10) (Cn := RX12) (Tc := TX12) (N := 19) (As := []) (c_X12_thrown (lawg (by decide)) (thr_s11 r e3)) (cwV 0 (cx_ts C) gL_law_X12_thrown rfl rfl rfl (by decide +kernel) ⟨(Nat.le_of_ble_eq_true rfl), (Nat.le_of_ble_eq_true rfl)⟩) rfl (lawg (g := [(10, 0)]) (by decide) _ List.mem_cons_self) (of10_0 _) (ce10 T ad _ _) rfl (st := []) rfl (Nat.le_of_ble_eq_true rfl) ⟨hc1, hs1⟩ dL_law_382 (pp2 ?_)
    refine fw_iload C dL_law_385 1 rfl ?_
    refine fw_icmp_eq C dL_law_387 (tgt := 392) rfl (fun _ => ?_) (fun c1 => absurd rfl c1)
    refine fw_iload C dL_law_392 1 rfl ?_
    refine fw_if_ne C dL_law_394 (tgt := 409) rfl (fun c1 => absurd rfl c1) (fun _ => ?_)
    refine fw_aload_n C dL_law_397 rfl 5 rfl ?_
    refine fw_iconst C dL_law_398 (v := 0) rfl ?_
    refine fw_lald0 C (lawg (g := [(11, 0)]) (by decide) _ List.mem_cons_self) dL_law_399 ?_
    refine fw_top (v' := .long (r : Int32).toInt64) (by rw [s11_11]) ?_
    refine fw_iload C dL_law_400 0 rfl ?_
    refine fw_i2l C dL_law_402 rfl ?_
    refine fw_lcmp C dL_law_403 ?_
    refine fw_topi (v' := 0) (lg_self _) ?_
    refine fw_if_eq C dL_law_404 (tgt := 409) rfl (fun _ => ?_) (fun c1 => absurd rfl c1)
    refine fw_goto C dL_law_409 (tgt := 3079) rfl ?_
    exact fw_widen (Nat.add_le_add_left (by decide) _) (Nat.add_le_add_left (by decide) _) (fw_sub [2, 3, 4, 5, 6] rfl (k _ (Inv_s11 _ hI2)))
set_option maxHeartbeats 4000000 in
theorem law_1 (X : LX p s m args meth c N0 T D ad l b Ln xs i cells slots) (hI : Inv Y) (k : ∀ Y' : Mem, Inv Y' → LO p l e s m args below meth c N0 T D ad b i (cells + 2) (slots + 12) Q Y' 3079) : LO p l e s m args below meth c N0 T D ad b i cells slots Q Y 412 := by
  obtain ⟨C, hE, hl, hS, ⟨h1, h2, h3, h4, h5⟩, hc2, hs2⟩ := X
  have hc1 : cells + 1 ≤ 601024 := Nat.le_of_succ_le hc2
  have hs1 : slots + 6 ≤ 7293034 := Nat.le_trans (Nat.add_le_add_left (by decide) _) hs2
  have hc : cells ≤ 601024 := Nat.le_of_succ_le hc1
  have hs : slots ≤ 7293034 := Nat.le_trans (Nat.le_add_right _ _) hs1
  refine fw_aload_n C dL_law_412 rfl 1 rfl ?_
  refine fw_aload_n C dL_law_413 rfl 0 rfl ?_
  refine fw_iload C dL_law_414 4 rfl ?_
  refine fw_iconst C dL_law_416 (v := 1) rfl ?_
  refine fw_iadd C dL_law_417 ?_
  refine fw_sld C hS h1 dL_law_418 ?_
  refine fw_aload_n C dL_law_419 rfl 3 rfl ?_
  rcases q_truncate hI (xs (i + 1).toNatClampNeg) with ⟨n, Yc, e1, hn, bb, Ym, e2, e3, hI2⟩ | ⟨r, Yc, e1, Ym, e2, e3, hI2⟩
  · have e2 : X12_truncate Yc (xs (i + 1).toNatClampNeg) = some (bb, Ym) := e2
    refine fw_callH C hE (c_L_truncate hl (fun q hq => hq) e1 (fun n1 Y1 q => by cases q; exact hn)) (vx_cwSW 3 (cx_ts C) gL_law_L_truncate rfl rfl rfl (by decide +kernel) ⟨(Nat.le_of_ble_eq_true rfl), (Nat.le_of_ble_eq_true rfl)⟩) rfl (st := []) rfl (Nat.le_of_ble_eq_true rfl) ⟨hc1, hs1⟩ dL_law_420 ?_
    refine fw_mem (Y' := Yc) rfl ?_
    refine fw_topi (v' := c2_ n) rfl ?_
    refine fw_istore C dL_law_423 (by decide) (L' := [(5, .int (c2_ n)), (0, .ref b), (1, .ref (ad 0 0 0)), (2, .ref (ad 10 0 0)), (3, .ref (ad 11 0 0)), (4, .int i)]) rfl ?_
    refine fw_aload_n C dL_law_425 rfl 3 rfl ?_
    refine fw_aload_n C dL_law_426 rfl 1 rfl ?_
    refine fw_iload C dL_law_427 5 rfl ?_
    refine fw_iconst C dL_law_429 (v := 1) rfl ?_
    refine fw_iadd C dL_law_430 ?_
    refine fw_sld C hS h1 dL_law_431 ?_
    refine fw_callVi C (ci := 10) (Cn := RX12) (Tc := TX12) (N := 19) (As := [.int (xs (i + 1).toNatClampNeg)]) (c_X12_truncate (lawg (by decide)) e2) (cwV 1 (cx_ts C) gL_law_X12_truncate rfl rfl rfl (by decide +kernel) ⟨(Nat.le_of_ble_eq_true rfl), (Nat.le_of_ble_eq_true rfl)⟩) rfl (lawg (g := [(10, 0)]) (by decide) _ List.mem_cons_self) (of10_0 _) (ce10 T ad _ _) rfl (st := []) rfl (Nat.le_of_ble_eq_true rfl) ⟨hc1, hs1⟩ dL_law_432 (ppw ?_)
    refine fw_istore C dL_law_435 (by decide) (L' := [(6, .int bb), (5, .int (c2_ n)), (0, .ref b), (1, .ref (ad 0 0 0)), (2, .ref (ad 10 0 0)), (3, .ref (ad 11 0 0)), (4, .int i)]) rfl ?_
    refine fw_aload_n C dL_law_437 rfl 4 rfl ?_
    refine fw_callVi C (ci := 10) (Cn := RX12) (Tc := TX12) (N := 19) (As := []) (c_X12_thrown (lawg (by decide)) (thr_ok e3)) (cwV 0 (cx_ts C) gL_law_X12_thrown rfl rfl rfl (by decide +kernel) ⟨(Nat.le_of_ble_eq_true rfl), (Nat.le_of_ble_eq_true rfl)⟩) rfl (lawg (g := [(10, 0)]) (by decide) _ List.mem_cons_self) (of10_0 _) (ce10 T ad _ _) rfl (st := []) rfl (Nat.le_of_ble_eq_true rfl) ⟨hc1, hs1⟩ dL_law_438 (pp2 ?_)
    refine fw_iload C dL_law_441 1 rfl ?_
    refine fw_icmp_eq C dL_law_443 (tgt := 448) rfl (fun _ => ?_) (fun c1 => absurd rfl c1)
    refine fw_iload C dL_law_448 1 rfl ?_
    refine fw_if_ne C dL_law_450 (tgt := 465) rfl (fun _ => ?_) (fun c1 => absurd c1 hn)
    refine fw_goto C dL_law_465 (tgt := 3079) rfl ?_
    exact fw_widen (Nat.add_le_add_left (by decide) _) (Nat.add_le_add_left (by decide) _) (fw_sub [2, 3, 4, 5, 6] rfl (k _ hI2))
  · have e2 : X12_truncate Yc (xs (i + 1).toNatClampNeg) = some (r, Ym) := e2
    refine fw_callH C hE (c_L_truncate hl (fun q hq => hq) e1 (fun n1 Y1 q => nomatch q)) (vx_cwSW 3 (cx_ts C) gL_law_L_truncate rfl rfl rfl (by decide +kernel) ⟨(Nat.le_of_ble_eq_true rfl), (Nat.le_of_ble_eq_true rfl)⟩) rfl (st := []) rfl (Nat.le_of_ble_eq_true rfl) ⟨hc1, hs1⟩ dL_law_420 ?_
    refine fw_mem (Y' := s11 r Yc) rfl ?_
    refine fw_topi (v' := 0) rfl ?_
    have e4 : X12_truncate (s11 r Yc) (xs (i + 1).toNatClampNeg) = some (r, s11 r Ym) := s11_some (f := fun Z => X12_truncate Z (xs (i + 1).toNatClampNeg)) (fun _ Z => k_X12_truncate Z (xs (i + 1).toNatClampNeg)) _ e2
    refine fw_istore C dL_law_423 (by decide) (L' := [(5, .int 0), (0, .ref b), (1, .ref (ad 0 0 0)), (2, .ref (ad 10 0 0)), (3, .ref (ad 11 0 0)), (4, .int i)]) rfl ?_
    refine fw_aload_n C dL_law_425 rfl 3 rfl ?_
    refine fw_aload_n C dL_law_426 rfl 1 rfl ?_
    refine fw_iload C dL_law_427 5 rfl ?_
    refine fw_iconst C dL_law_429 (v := 1) rfl ?_
    refine fw_iadd C dL_law_430 ?_
    refine fw_sld C hS h1 dL_law_431 ?_
    refine fw_callVi C (ci := 10) (Cn := RX12) (Tc := TX12) (N := 19) (As := [.int (xs (i + 1).toNatClampNeg)]) (c_X12_truncate (lawg (by decide)) e4) (cwV 1 (cx_ts C) gL_law_X12_truncate rfl rfl rfl (by decide +kernel) ⟨(Nat.le_of_ble_eq_true rfl), (Nat.le_of_ble_eq_true rfl)⟩) rfl (lawg (g := [(10, 0)]) (by decide) _ List.mem_cons_self) (of10_0 _) (ce10 T ad _ _) rfl (st := []) rfl (Nat.le_of_ble_eq_true rfl) ⟨hc1, hs1⟩ dL_law_432 (ppw ?_)
    refine fw_istore C dL_law_435 (by decide) (L' := [(6, .int r), (5, .int 0), (0, .ref b), (1, .ref (ad 0 0 0)), (2, .ref (ad 10 0 0)), (3, .ref (ad 11 0 0)), (4, .int i)]) rfl ?_
    refine fw_aload_n C dL_law_437 rfl 4 rfl ?_
    refine fw_callVi C (ci := 10) (Cn := RX12) (Tc := TX12) (N := 19) (As := []) (c_X12_thrown (lawg (by decide)) (thr_s11 r e3)) (cwV 0 (cx_ts C) gL_law_X12_thrown rfl rfl rfl (by decide +kernel) ⟨(Nat.le_of_ble_eq_true rfl), (Nat.le_of_ble_eq_true rfl)⟩) rfl (lawg (g := [(10, 0)]) (by decide) _ List.mem_cons_self) (of10_0 _) (ce10 T ad _ _) rfl (st := []) rfl (Nat.le_of_ble_eq_true rfl) ⟨hc1, hs1⟩ dL_law_438 (pp2 ?_)
    refine fw_iload C dL_law_441 1 rfl ?_
    refine fw_icmp_eq C dL_law_443 (tgt := 448) rfl (fun _ => ?_) (fun c1 => absurd rfl c1)
    refine fw_iload C dL_law_448 1 rfl ?_
    refine fw_if_ne C dL_law_450 (tgt := 465) rfl (fun c1 => absurd rfl c1) (fun _ => ?_)
    refine fw_aload_n C dL_law_453 rfl 5 rfl ?_
    refine fw_iconst C dL_law_454 (v := 0) rfl ?_
    refine fw_lald0 C (lawg (g := [(11, 0)]) (by decide) _ List.mem_cons_self) dL_law_455 ?_
    refine fw_top (v' := .long (r : Int32).toInt64) (by rw [s11_11]) ?_
    refine fw_iload C dL_law_456 0 rfl ?_
    refine fw_i2l C dL_law_458 rfl ?_
    refine fw_lcmp C dL_law_459 ?_
    refine fw_topi (v' := 0) (lg_self _) ?_
    refine fw_if_eq C dL_law_460 (tgt := 465) rfl (fun _ => ?_) (fun c1 => absurd rfl c1)
    refine fw_goto C dL_law_465 (tgt := 3079) rfl ?_
    exact fw_widen (Nat.add_le_add_left (by decide) _) (Nat.add_le_add_left (by decide) _) (fw_sub [2, 3, 4, 5, 6] rfl (k _ (Inv_s11 _ hI2)))
set_option maxHeartbeats 4000000 in
theorem law_2 (X : LX p s m args meth c N0 T D ad l b Ln xs i cells slots) (hI : Inv Y) (k : ∀ Y' : Mem, Inv Y' → LO p l e s m args below meth c N0 T D ad b i (cells + 2) (slots + 12) Q Y' 3079) : LO p l e s m args below meth c N0 T D ad b i cells slots Q Y 468 := by
  obtain ⟨C, hE, hl, hS, ⟨h1, h2, h3, h4, h5⟩, hc2, hs2⟩ := X
  have hc1 : cells + 1 ≤ 601024 := Nat.le_of_succ_le hc2
  have hs1 : slots + 6 ≤ 7293034 := Nat.le_trans (Nat.add_le_add_left (by decide) _) hs2
  have hc : cells ≤ 601024 := Nat.le_of_succ_le hc1
  have hs : slots ≤ 7293034 := Nat.le_trans (Nat.le_add_right _ _) hs1
  refine fw_aload_n C dL_law_468 rfl 1 rfl ?_
  refine fw_aload_n C dL_law_469 rfl 3 rfl ?_
  rcases q_load hI with ⟨n, Yc, e1, hn, bb, Ym, e2, e3, hI2⟩ | ⟨r, Yc, e1, Ym, e2, e3, hI2⟩
  · have e2 : X12_load Yc = some (bb, Ym) := e2
    refine fw_callH C hE (c_L_load hl (fun q hq => hq) e1 (fun n1 Y1 q => by cases q; exact hn)) (vx_cwSW 2 (cx_ts C) gL_law_L_load rfl rfl rfl (by decide +kernel) ⟨(Nat.le_of_ble_eq_true rfl), (Nat.le_of_ble_eq_true rfl)⟩) rfl (st := []) rfl (Nat.le_of_ble_eq_true rfl) ⟨hc1, hs1⟩ dL_law_470 ?_
    refine fw_mem (Y' := Yc) rfl ?_
    refine fw_topi (v' := c2_ n) rfl ?_
    refine fw_istore C dL_law_473 (by decide) (L' := [(5, .int (c2_ n)), (0, .ref b), (1, .ref (ad 0 0 0)), (2, .ref (ad 10 0 0)), (3, .ref (ad 11 0 0)), (4, .int i)]) rfl ?_
    refine fw_aload_n C dL_law_475 rfl 3 rfl ?_
    refine fw_callVi C (ci := 10) (Cn := RX12) (Tc := TX12) (N := 19) (As := []) (c_X12_load (lawg (by decide)) e2) (cwV 0 (cx_ts C) gL_law_X12_load rfl rfl rfl (by decide +kernel) ⟨(Nat.le_of_ble_eq_true rfl), (Nat.le_of_ble_eq_true rfl)⟩) rfl (lawg (g := [(10, 0)]) (by decide) _ List.mem_cons_self) (of10_0 _) (ce10 T ad _ _) rfl (st := []) rfl (Nat.le_of_ble_eq_true rfl) ⟨hc1, hs1⟩ dL_law_476 (ppw ?_)
    refine fw_istore C dL_law_479 (by decide) (L' := [(6, .int bb), (5, .int (c2_ n)), (0, .ref b), (1, .ref (ad 0 0 0)), (2, .ref (ad 10 0 0)), (3, .ref (ad 11 0 0)), (4, .int i)]) rfl ?_
    refine fw_aload_n C dL_law_481 rfl 4 rfl ?_
    refine fw_callVi C (ci := 10) (Cn := RX12) (Tc := TX12) (N := 19) (As := []) (c_X12_thrown (lawg (by decide)) (thr_ok e3)) (cwV 0 (cx_ts C) gL_law_X12_thrown rfl rfl rfl (by decide +kernel) ⟨(Nat.le_of_ble_eq_true rfl), (Nat.le_of_ble_eq_true rfl)⟩) rfl (lawg (g := [(10, 0)]) (by decide) _ List.mem_cons_self) (of10_0 _) (ce10 T ad _ _) rfl (st := []) rfl (Nat.le_of_ble_eq_true rfl) ⟨hc1, hs1⟩ dL_law_482 (pp2 ?_)
    refine fw_iload C dL_law_485 1 rfl ?_
    refine fw_icmp_eq C dL_law_487 (tgt := 492) rfl (fun _ => ?_) (fun c1 => absurd rfl c1)
    refine fw_iload C dL_law_492 1 rfl ?_
    refine fw_if_ne C dL_law_494 (tgt := 509) rfl (fun _ => ?_) (fun c1 => absurd c1 hn)
    refine fw_goto C dL_law_509 (tgt := 3079) rfl ?_
    exact fw_widen (Nat.add_le_add_left (by decide) _) (Nat.add_le_add_left (by decide) _) (fw_sub [2, 3, 4, 5, 6] rfl (k _ hI2))
  · have e2 : X12_load Yc = some (r, Ym) := e2
    refine fw_callH C hE (c_L_load hl (fun q hq => hq) e1 (fun n1 Y1 q => nomatch q)) (vx_cwSW 2 (cx_ts C) gL_law_L_load rfl rfl rfl (by decide +kernel) ⟨(Nat.le_of_ble_eq_true rfl), (Nat.le_of_ble_eq_true rfl)⟩) rfl (st := []) rfl (Nat.le_of_ble_eq_true rfl) ⟨hc1, hs1⟩ dL_law_470 ?_
    refine fw_mem (Y' := s11 r Yc) rfl ?_
    refine fw_topi (v' := 0) rfl ?_
    have e4 : X12_load (s11 r Yc) = some (r, s11 r Ym) := s11_some (f := fun Z => X12_load Z) (fun _ Z => k_X12_load Z) _ e2
    refine fw_istore C dL_law_473 (by decide) (L' := [(5, .int 0), (0, .ref b), (1, .ref (ad 0 0 0)), (2, .ref (ad 10 0 0)), (3, .ref (ad 11 0 0)), (4, .int i)]) rfl ?_
    refine fw_aload_n C dL_law_475 rfl 3 rfl ?_
    refine fw_callVi C (ci := 10) (Cn := RX12) (Tc := TX12) (N := 19) (As := []) (c_X12_load (lawg (by decide)) e4) (cwV 0 (cx_ts C) gL_law_X12_load rfl rfl rfl (by decide +kernel) ⟨(Nat.le_of_ble_eq_true rfl), (Nat.le_of_ble_eq_true rfl)⟩) rfl (lawg (g := [(10, 0)]) (by decide) _ List.mem_cons_self) (of10_0 _) (ce10 T ad _ _) rfl (st := []) rfl (Nat.le_of_ble_eq_true rfl) ⟨hc1, hs1⟩ dL_law_476 (ppw ?_)
    refine fw_istore C dL_law_479 (by decide) (L' := [(6, .int r), (5, .int 0), (0, .ref b), (1, .ref (ad 0 0 0)), (2, .ref (ad 10 0 0)), (3, .ref (ad 11 0 0)), (4, .int i)]) rfl ?_
    refine fw_aload_n C dL_law_481 rfl 4 rfl ?_
    refine fw_callVi C (ci := 10) (Cn := RX12) (Tc := TX12) (N := 19) (As := []) (c_X12_thrown (lawg (by decide)) (thr_s11 r e3)) (cwV 0 (cx_ts C) gL_law_X12_thrown rfl rfl rfl (by decide +kernel) ⟨(Nat.le_of_ble_eq_true rfl), (Nat.le_of_ble_eq_true rfl)⟩) rfl (lawg (g := [(10, 0)]) (by decide) _ List.mem_cons_self) (of10_0 _) (ce10 T ad _ _) rfl (st := []) rfl (Nat.le_of_ble_eq_true rfl) ⟨hc1, hs1⟩ dL_law_482 (pp2 ?_)
    refine fw_iload C dL_law_485 1 rfl ?_
    refine fw_icmp_eq C dL_law_487 (tgt := 492) rfl (fun _ => ?_) (fun c1 => absurd rfl c1)
    refine fw_iload C dL_law_492 1 rfl ?_
    refine fw_if_ne C dL_law_494 (tgt := 509) rfl (fun c1 => absurd rfl c1) (fun _ => ?_)
    refine fw_aload_n C dL_law_497 rfl 5 rfl ?_
    refine fw_iconst C dL_law_498 (v := 0) rfl ?_
    refine fw_lald0 C (lawg (g := [(11, 0)]) (by decide) _ List.mem_cons_self) dL_law_499 ?_
    refine fw_top (v' := .long (r : Int32).toInt64) (by rw [s11_11]) ?_
    refine fw_iload C dL_law_500 0 rfl ?_
    refine fw_i2l C dL_law_502 rfl ?_
    refine fw_lcmp C dL_law_503 ?_
    refine fw_topi (v' := 0) (lg_self _) ?_
    refine fw_if_eq C dL_law_504 (tgt := 509) rfl (fun _ => ?_) (fun c1 => absurd rfl c1)
    refine fw_goto C dL_law_509 (tgt := 3079) rfl ?_
    exact fw_widen (Nat.add_le_add_left (by decide) _) (Nat.add_le_add_left (by decide) _) (fw_sub [2, 3, 4, 5, 6] rfl (k _ (Inv_s11 _ hI2)))
set_option maxHeartbeats 4000000 in
theorem law_3 (X : LX p s m args meth c N0 T D ad l b Ln xs i cells slots) (hI : Inv Y) (k : ∀ Y' : Mem, Inv Y' → LO p l e s m args below meth c N0 T D ad b i (cells + 2) (slots + 12) Q Y' 3079) : LO p l e s m args below meth c N0 T D ad b i cells slots Q Y 512 := by
  obtain ⟨C, hE, hl, hS, ⟨h1, h2, h3, h4, h5⟩, hc2, hs2⟩ := X
  have hc1 : cells + 1 ≤ 601024 := Nat.le_of_succ_le hc2
  have hs1 : slots + 6 ≤ 7293034 := Nat.le_trans (Nat.add_le_add_left (by decide) _) hs2
  have hc : cells ≤ 601024 := Nat.le_of_succ_le hc1
  have hs : slots ≤ 7293034 := Nat.le_trans (Nat.le_add_right _ _) hs1
  refine fw_aload_n C dL_law_512 rfl 1 rfl ?_
  obtain ⟨r, Ym, e1, e2, hI2⟩ := q_errorCode hI
  refine fw_callVi C (ci := 9) (Cn := RX11) (Tc := TX11) (N := 11) (As := []) (c_X11_errorCode (lawg (by decide)) e1) (cwV 0 (cx_ts C) gL_law_X11_errorCode rfl rfl rfl (by decide +kernel) ⟨(Nat.le_of_ble_eq_true rfl), (Nat.le_of_ble_eq_true rfl)⟩) rfl (lawg (g := [(0, 0)]) (by decide) _ List.mem_cons_self) (of0_0 _) (ce0 T ad _ _) rfl (st := []) rfl (Nat.le_of_ble_eq_true rfl) ⟨hc, hs⟩ dL_law_513 (pp2 ?_)
  refine fw_aload_n C dL_law_516 rfl 2 rfl ?_
  refine fw_callVi C (ci := 10) (Cn := RX12) (Tc := TX12) (N := 19) (As := []) (c_X12_errorCode (lawg (by decide)) e2) (cwV 0 (cx_ts C) gL_law_X12_errorCode rfl rfl rfl (by decide +kernel) ⟨(Nat.le_of_ble_eq_true rfl), (Nat.le_of_ble_eq_true rfl)⟩) rfl (lawg (g := [(10, 0)]) (by decide) _ List.mem_cons_self) (of10_0 _) (ce10 T ad _ _) rfl (st := [.int r]) rfl (Nat.le_of_ble_eq_true rfl) ⟨hc, hs⟩ dL_law_517 (ppw ?_)
  refine fw_icmp_eq C dL_law_520 (tgt := 3079) rfl (fun _ => ?_) (fun c1 => absurd rfl c1)
  exact fw_widen (Nat.le_add_right _ _) (Nat.le_add_right _ _) (k _ hI2)
set_option maxHeartbeats 4000000 in
theorem law_4 (X : LX p s m args meth c N0 T D ad l b Ln xs i cells slots) (hI : Inv Y) (k : ∀ Y' : Mem, Inv Y' → LO p l e s m args below meth c N0 T D ad b i (cells + 2) (slots + 12) Q Y' 3079) : LO p l e s m args below meth c N0 T D ad b i cells slots Q Y 525 := by
  obtain ⟨C, hE, hl, hS, ⟨h1, h2, h3, h4, h5⟩, hc2, hs2⟩ := X
  have hc1 : cells + 1 ≤ 601024 := Nat.le_of_succ_le hc2
  have hs1 : slots + 6 ≤ 7293034 := Nat.le_trans (Nat.add_le_add_left (by decide) _) hs2
  have hc : cells ≤ 601024 := Nat.le_of_succ_le hc1
  have hs : slots ≤ 7293034 := Nat.le_trans (Nat.le_add_right _ _) hs1
  refine fw_aload_n C dL_law_525 rfl 1 rfl ?_
  obtain ⟨r, Ym, e1, e2, hI2⟩ := q_errorPosition hI
  refine fw_callVi C (ci := 9) (Cn := RX11) (Tc := TX11) (N := 11) (As := []) (c_X11_errorPosition (lawg (by decide)) e1) (cwV 0 (cx_ts C) gL_law_X11_errorPosition rfl rfl rfl (by decide +kernel) ⟨(Nat.le_of_ble_eq_true rfl), (Nat.le_of_ble_eq_true rfl)⟩) rfl (lawg (g := [(0, 0)]) (by decide) _ List.mem_cons_self) (of0_0 _) (ce0 T ad _ _) rfl (st := []) rfl (Nat.le_of_ble_eq_true rfl) ⟨hc, hs⟩ dL_law_526 (pp2 ?_)
  refine fw_aload_n C dL_law_529 rfl 2 rfl ?_
  refine fw_callVi C (ci := 10) (Cn := RX12) (Tc := TX12) (N := 19) (As := []) (c_X12_errorPosition (lawg (by decide)) e2) (cwV 0 (cx_ts C) gL_law_X12_errorPosition rfl rfl rfl (by decide +kernel) ⟨(Nat.le_of_ble_eq_true rfl), (Nat.le_of_ble_eq_true rfl)⟩) rfl (lawg (g := [(10, 0)]) (by decide) _ List.mem_cons_self) (of10_0 _) (ce10 T ad _ _) rfl (st := [.int r]) rfl (Nat.le_of_ble_eq_true rfl) ⟨hc, hs⟩ dL_law_530 (ppw ?_)
  refine fw_icmp_eq C dL_law_533 (tgt := 3079) rfl (fun _ => ?_) (fun c1 => absurd rfl c1)
  exact fw_widen (Nat.le_add_right _ _) (Nat.le_add_right _ _) (k _ hI2)
set_option maxHeartbeats 4000000 in
theorem law_5 (X : LX p s m args meth c N0 T D ad l b Ln xs i cells slots) (hI : Inv Y) (k : ∀ Y' : Mem, Inv Y' → LO p l e s m args below meth c N0 T D ad b i (cells + 2) (slots + 12) Q Y' 3079) : LO p l e s m args below meth c N0 T D ad b i cells slots Q Y 538 := by
  obtain ⟨C, hE, hl, hS, ⟨h1, h2, h3, h4, h5⟩, hc2, hs2⟩ := X
  have hc1 : cells + 1 ≤ 601024 := Nat.le_of_succ_le hc2
  have hs1 : slots + 6 ≤ 7293034 := Nat.le_trans (Nat.add_le_add_left (by decide) _) hs2
  have hc : cells ≤ 601024 := Nat.le_of_succ_le hc1
  have hs : slots ≤ 7293034 := Nat.le_trans (Nat.le_add_right _ _) hs1
  refine fw_aload_n C dL_law_538 rfl 1 rfl ?_
  obtain ⟨r, Ym, e1, e2, hI2⟩ := q_stepCount hI
  refine fw_callVi C (ci := 9) (Cn := RX11) (Tc := TX11) (N := 11) (As := []) (c_X11_stepCount (lawg (by decide)) e1) (cwV 0 (cx_ts C) gL_law_X11_stepCount rfl rfl rfl (by decide +kernel) ⟨(Nat.le_of_ble_eq_true rfl), (Nat.le_of_ble_eq_true rfl)⟩) rfl (lawg (g := [(0, 0)]) (by decide) _ List.mem_cons_self) (of0_0 _) (ce0 T ad _ _) rfl (st := []) rfl (Nat.le_of_ble_eq_true rfl) ⟨hc, hs⟩ dL_law_539 (pp2 ?_)
  refine fw_aload_n C dL_law_542 rfl 2 rfl ?_
  refine fw_callVi C (ci := 10) (Cn := RX12) (Tc := TX12) (N := 19) (As := []) (c_X12_stepCount (lawg (by decide)) e2) (cwV 0 (cx_ts C) gL_law_X12_stepCount rfl rfl rfl (by decide +kernel) ⟨(Nat.le_of_ble_eq_true rfl), (Nat.le_of_ble_eq_true rfl)⟩) rfl (lawg (g := [(10, 0)]) (by decide) _ List.mem_cons_self) (of10_0 _) (ce10 T ad _ _) rfl (st := [.int r]) rfl (Nat.le_of_ble_eq_true rfl) ⟨hc, hs⟩ dL_law_543 (ppw ?_)
  refine fw_icmp_eq C dL_law_546 (tgt := 3079) rfl (fun _ => ?_) (fun c1 => absurd rfl c1)
  exact fw_widen (Nat.le_add_right _ _) (Nat.le_add_right _ _) (k _ hI2)
set_option maxHeartbeats 4000000 in
theorem law_6 (X : LX p s m args meth c N0 T D ad l b Ln xs i cells slots) (hI : Inv Y) (k : ∀ Y' : Mem, Inv Y' → LO p l e s m args below meth c N0 T D ad b i (cells + 2) (slots + 12) Q Y' 3079) : LO p l e s m args below meth c N0 T D ad b i cells slots Q Y 551 := by
  obtain ⟨C, hE, hl, hS, ⟨h1, h2, h3, h4, h5⟩, hc2, hs2⟩ := X
  have hc1 : cells + 1 ≤ 601024 := Nat.le_of_succ_le hc2
  have hs1 : slots + 6 ≤ 7293034 := Nat.le_trans (Nat.add_le_add_left (by decide) _) hs2
  have hc : cells ≤ 601024 := Nat.le_of_succ_le hc1
  have hs : slots ≤ 7293034 := Nat.le_trans (Nat.le_add_right _ _) hs1
  refine fw_aload_n C dL_law_551 rfl 1 rfl ?_
  obtain ⟨r, Ym, e1, e2, hI2⟩ := q_cooks hI
  refine fw_callVi C (ci := 9) (Cn := RX11) (Tc := TX11) (N := 11) (As := []) (c_X11_cooks (lawg (by decide)) e1) (cwV 0 (cx_ts C) gL_law_X11_cooks rfl rfl rfl (by decide +kernel) ⟨(Nat.le_of_ble_eq_true rfl), (Nat.le_of_ble_eq_true rfl)⟩) rfl (lawg (g := [(0, 0)]) (by decide) _ List.mem_cons_self) (of0_0 _) (ce0 T ad _ _) rfl (st := []) rfl (Nat.le_of_ble_eq_true rfl) ⟨hc, hs⟩ dL_law_552 (pp2 ?_)
  refine fw_aload_n C dL_law_555 rfl 2 rfl ?_
  refine fw_callVi C (ci := 10) (Cn := RX12) (Tc := TX12) (N := 19) (As := []) (c_X12_cooks (lawg (by decide)) e2) (cwV 0 (cx_ts C) gL_law_X12_cooks rfl rfl rfl (by decide +kernel) ⟨(Nat.le_of_ble_eq_true rfl), (Nat.le_of_ble_eq_true rfl)⟩) rfl (lawg (g := [(10, 0)]) (by decide) _ List.mem_cons_self) (of10_0 _) (ce10 T ad _ _) rfl (st := [.int r]) rfl (Nat.le_of_ble_eq_true rfl) ⟨hc, hs⟩ dL_law_556 (ppw ?_)
  refine fw_icmp_eq C dL_law_559 (tgt := 3079) rfl (fun _ => ?_) (fun c1 => absurd rfl c1)
  exact fw_widen (Nat.le_add_right _ _) (Nat.le_add_right _ _) (k _ hI2)
set_option maxHeartbeats 4000000 in
theorem law_7 (X : LX p s m args meth c N0 T D ad l b Ln xs i cells slots) (hI : Inv Y) (k : ∀ Y' : Mem, Inv Y' → LO p l e s m args below meth c N0 T D ad b i (cells + 2) (slots + 12) Q Y' 3079) : LO p l e s m args below meth c N0 T D ad b i cells slots Q Y 564 := by
  obtain ⟨C, hE, hl, hS, ⟨h1, h2, h3, h4, h5⟩, hc2, hs2⟩ := X
  have hc1 : cells + 1 ≤ 601024 := Nat.le_of_succ_le hc2
  have hs1 : slots + 6 ≤ 7293034 := Nat.le_trans (Nat.add_le_add_left (by decide) _) hs2
  have hc : cells ≤ 601024 := Nat.le_of_succ_le hc1
  have hs : slots ≤ 7293034 := Nat.le_trans (Nat.le_add_right _ _) hs1
  refine fw_aload_n C dL_law_564 rfl 1 rfl ?_
  obtain ⟨r, Ym, e1, e2, hI2⟩ := q_minute hI
  refine fw_callVi C (ci := 9) (Cn := RX11) (Tc := TX11) (N := 11) (As := []) (c_X11_minute (lawg (by decide)) e1) (cwV 0 (cx_ts C) gL_law_X11_minute rfl rfl rfl (by decide +kernel) ⟨(Nat.le_of_ble_eq_true rfl), (Nat.le_of_ble_eq_true rfl)⟩) rfl (lawg (g := [(0, 0)]) (by decide) _ List.mem_cons_self) (of0_0 _) (ce0 T ad _ _) rfl (st := []) rfl (Nat.le_of_ble_eq_true rfl) ⟨hc, hs⟩ dL_law_565 (pp2 ?_)
  refine fw_aload_n C dL_law_568 rfl 2 rfl ?_
  refine fw_callVi C (ci := 10) (Cn := RX12) (Tc := TX12) (N := 19) (As := []) (c_X12_minute (lawg (by decide)) e2) (cwV 0 (cx_ts C) gL_law_X12_minute rfl rfl rfl (by decide +kernel) ⟨(Nat.le_of_ble_eq_true rfl), (Nat.le_of_ble_eq_true rfl)⟩) rfl (lawg (g := [(10, 0)]) (by decide) _ List.mem_cons_self) (of10_0 _) (ce10 T ad _ _) rfl (st := [.int r]) rfl (Nat.le_of_ble_eq_true rfl) ⟨hc, hs⟩ dL_law_569 (ppw ?_)
  refine fw_icmp_eq C dL_law_572 (tgt := 3079) rfl (fun _ => ?_) (fun c1 => absurd rfl c1)
  exact fw_widen (Nat.le_add_right _ _) (Nat.le_add_right _ _) (k _ hI2)
set_option maxHeartbeats 4000000 in
theorem law_8 (X : LX p s m args meth c N0 T D ad l b Ln xs i cells slots) (hI : Inv Y) (k : ∀ Y' : Mem, Inv Y' → LO p l e s m args below meth c N0 T D ad b i (cells + 2) (slots + 12) Q Y' 3079) : LO p l e s m args below meth c N0 T D ad b i cells slots Q Y 577 := by
  obtain ⟨C, hE, hl, hS, ⟨h1, h2, h3, h4, h5⟩, hc2, hs2⟩ := X
  have hc1 : cells + 1 ≤ 601024 := Nat.le_of_succ_le hc2
  have hs1 : slots + 6 ≤ 7293034 := Nat.le_trans (Nat.add_le_add_left (by decide) _) hs2
  have hc : cells ≤ 601024 := Nat.le_of_succ_le hc1
  have hs : slots ≤ 7293034 := Nat.le_trans (Nat.le_add_right _ _) hs1
  refine fw_aload_n C dL_law_577 rfl 1 rfl ?_
  obtain ⟨r, Ym, e1, e2, hI2⟩ := q_salt hI
  refine fw_callVi C (ci := 9) (Cn := RX11) (Tc := TX11) (N := 11) (As := []) (c_X11_salt (lawg (by decide)) e1) (cwV 0 (cx_ts C) gL_law_X11_salt rfl rfl rfl (by decide +kernel) ⟨(Nat.le_of_ble_eq_true rfl), (Nat.le_of_ble_eq_true rfl)⟩) rfl (lawg (g := [(0, 0)]) (by decide) _ List.mem_cons_self) (of0_0 _) (ce0 T ad _ _) rfl (st := []) rfl (Nat.le_of_ble_eq_true rfl) ⟨hc, hs⟩ dL_law_578 (pp2 ?_)
  refine fw_aload_n C dL_law_581 rfl 2 rfl ?_
  refine fw_callVi C (ci := 10) (Cn := RX12) (Tc := TX12) (N := 19) (As := []) (c_X12_salt (lawg (by decide)) e2) (cwV 0 (cx_ts C) gL_law_X12_salt rfl rfl rfl (by decide +kernel) ⟨(Nat.le_of_ble_eq_true rfl), (Nat.le_of_ble_eq_true rfl)⟩) rfl (lawg (g := [(10, 0)]) (by decide) _ List.mem_cons_self) (of10_0 _) (ce10 T ad _ _) rfl (st := [.int r]) rfl (Nat.le_of_ble_eq_true rfl) ⟨hc, hs⟩ dL_law_582 (ppw ?_)
  refine fw_icmp_eq C dL_law_585 (tgt := 3079) rfl (fun _ => ?_) (fun c1 => absurd rfl c1)
  exact fw_widen (Nat.le_add_right _ _) (Nat.le_add_right _ _) (k _ hI2)
set_option maxHeartbeats 4000000 in
theorem law_9 (X : LX p s m args meth c N0 T D ad l b Ln xs i cells slots) (hI : Inv Y) (k : ∀ Y' : Mem, Inv Y' → LO p l e s m args below meth c N0 T D ad b i (cells + 2) (slots + 12) Q Y' 3079) : LO p l e s m args below meth c N0 T D ad b i cells slots Q Y 590 := by
  obtain ⟨C, hE, hl, hS, ⟨h1, h2, h3, h4, h5⟩, hc2, hs2⟩ := X
  have hc1 : cells + 1 ≤ 601024 := Nat.le_of_succ_le hc2
  have hs1 : slots + 6 ≤ 7293034 := Nat.le_trans (Nat.add_le_add_left (by decide) _) hs2
  have hc : cells ≤ 601024 := Nat.le_of_succ_le hc1
  have hs : slots ≤ 7293034 := Nat.le_trans (Nat.le_add_right _ _) hs1
  refine fw_aload_n C dL_law_590 rfl 1 rfl ?_
  obtain ⟨r, Ym, e1, e2, hI2⟩ := q_taste hI
  refine fw_callVi C (ci := 9) (Cn := RX11) (Tc := TX11) (N := 11) (As := []) (c_X11_taste (lawg (by decide)) e1) (cwV 0 (cx_ts C) gL_law_X11_taste rfl rfl rfl (by decide +kernel) ⟨(Nat.le_of_ble_eq_true rfl), (Nat.le_of_ble_eq_true rfl)⟩) rfl (lawg (g := [(0, 0)]) (by decide) _ List.mem_cons_self) (of0_0 _) (ce0 T ad _ _) rfl (st := []) rfl (Nat.le_of_ble_eq_true rfl) ⟨hc, hs⟩ dL_law_591 (pp2 ?_)
  refine fw_aload_n C dL_law_594 rfl 2 rfl ?_
  refine fw_callVi C (ci := 10) (Cn := RX12) (Tc := TX12) (N := 19) (As := []) (c_X12_taste (lawg (by decide)) e2) (cwV 0 (cx_ts C) gL_law_X12_taste rfl rfl rfl (by decide +kernel) ⟨(Nat.le_of_ble_eq_true rfl), (Nat.le_of_ble_eq_true rfl)⟩) rfl (lawg (g := [(10, 0)]) (by decide) _ List.mem_cons_self) (of10_0 _) (ce10 T ad _ _) rfl (st := [.int r]) rfl (Nat.le_of_ble_eq_true rfl) ⟨hc, hs⟩ dL_law_595 (ppw ?_)
  refine fw_icmp_eq C dL_law_598 (tgt := 3079) rfl (fun _ => ?_) (fun c1 => absurd rfl c1)
  exact fw_widen (Nat.le_add_right _ _) (Nat.le_add_right _ _) (k _ hI2)
set_option maxHeartbeats 4000000 in
theorem law_10 (X : LX p s m args meth c N0 T D ad l b Ln xs i cells slots) (hI : Inv Y) (k : ∀ Y' : Mem, Inv Y' → LO p l e s m args below meth c N0 T D ad b i (cells + 2) (slots + 12) Q Y' 3079) : LO p l e s m args below meth c N0 T D ad b i cells slots Q Y 603 := by
  obtain ⟨C, hE, hl, hS, ⟨h1, h2, h3, h4, h5⟩, hc2, hs2⟩ := X
  have hc1 : cells + 1 ≤ 601024 := Nat.le_of_succ_le hc2
  have hs1 : slots + 6 ≤ 7293034 := Nat.le_trans (Nat.add_le_add_left (by decide) _) hs2
  have hc : cells ≤ 601024 := Nat.le_of_succ_le hc1
  have hs : slots ≤ 7293034 := Nat.le_trans (Nat.le_add_right _ _) hs1
  refine fw_aload_n C dL_law_603 rfl 1 rfl ?_
  refine fw_aload_n C dL_law_604 rfl 0 rfl ?_
  refine fw_iload C dL_law_605 4 rfl ?_
  refine fw_iconst C dL_law_607 (v := 1) rfl ?_
  refine fw_iadd C dL_law_608 ?_
  refine fw_sld C hS h1 dL_law_609 ?_
  refine fw_aload_n C dL_law_610 rfl 3 rfl ?_
  rcases q_countWithStatus hI (xs (i + 1).toNatClampNeg) with ⟨n, Yc, e1, hn, bb, Ym, e2, e3, hI2⟩ | ⟨r, Yc, e1, Ym, e2, e3, hI2⟩
  · have e2 : X12_countWithStatus Yc (xs (i + 1).toNatClampNeg) = some (bb, Ym) := e2
    refine fw_callH C hE (c_L_countWithStatus hl (fun q hq => hq) e1 (fun n1 Y1 q => by cases q; exact hn)) (vx_cwSW 3 (cx_ts C) gL_law_L_countWithStatus rfl rfl rfl (by decide +kernel) ⟨(Nat.le_of_ble_eq_true rfl), (Nat.le_of_ble_eq_true rfl)⟩) rfl (st := []) rfl (Nat.le_of_ble_eq_true rfl) ⟨hc1, hs1⟩ dL_law_611 ?_
    refine fw_mem (Y' := Yc) rfl ?_
    refine fw_topi (v' := c2_ n) rfl ?_
    refine fw_istore C dL_law_614 (by decide) (L' := [(5, .int (c2_ n)), (0, .ref b), (1, .ref (ad 0 0 0)), (2, .ref (ad 10 0 0)), (3, .ref (ad 11 0 0)), (4, .int i)]) rfl ?_
    refine fw_aload_n C dL_law_616 rfl 3 rfl ?_
    refine fw_aload_n C dL_law_617 rfl 1 rfl ?_
    refine fw_iload C dL_law_618 5 rfl ?_
    refine fw_iconst C dL_law_620 (v := 1) rfl ?_
    refine fw_iadd C dL_law_621 ?_
    refine fw_sld C hS h1 dL_law_622 ?_
    refine fw_callVi C (ci := 10) (Cn := RX12) (Tc := TX12) (N := 19) (As := [.int (xs (i + 1).toNatClampNeg)]) (c_X12_countWithStatus (lawg (by decide)) e2) (cwV 1 (cx_ts C) gL_law_X12_countWithStatus rfl rfl rfl (by decide +kernel) ⟨(Nat.le_of_ble_eq_true rfl), (Nat.le_of_ble_eq_true rfl)⟩) rfl (lawg (g := [(10, 0)]) (by decide) _ List.mem_cons_self) (of10_0 _) (ce10 T ad _ _) rfl (st := []) rfl (Nat.le_of_ble_eq_true rfl) ⟨hc1, hs1⟩ dL_law_623 (ppw ?_)
    refine fw_istore C dL_law_626 (by decide) (L' := [(6, .int bb), (5, .int (c2_ n)), (0, .ref b), (1, .ref (ad 0 0 0)), (2, .ref (ad 10 0 0)), (3, .ref (ad 11 0 0)), (4, .int i)]) rfl ?_
    refine fw_aload_n C dL_law_628 rfl 4 rfl ?_
    refine fw_callVi C (ci := 10) (Cn := RX12) (Tc := TX12) (N := 19) (As := []) (c_X12_thrown (lawg (by decide)) (thr_ok e3)) (cwV 0 (cx_ts C) gL_law_X12_thrown rfl rfl rfl (by decide +kernel) ⟨(Nat.le_of_ble_eq_true rfl), (Nat.le_of_ble_eq_true rfl)⟩) rfl (lawg (g := [(10, 0)]) (by decide) _ List.mem_cons_self) (of10_0 _) (ce10 T ad _ _) rfl (st := []) rfl (Nat.le_of_ble_eq_true rfl) ⟨hc1, hs1⟩ dL_law_629 (pp2 ?_)
    refine fw_iload C dL_law_632 1 rfl ?_
    refine fw_icmp_eq C dL_law_634 (tgt := 639) rfl (fun _ => ?_) (fun c1 => absurd rfl c1)
    refine fw_iload C dL_law_639 1 rfl ?_
    refine fw_if_ne C dL_law_641 (tgt := 656) rfl (fun _ => ?_) (fun c1 => absurd c1 hn)
    refine fw_goto C dL_law_656 (tgt := 3079) rfl ?_
    exact fw_widen (Nat.add_le_add_left (by decide) _) (Nat.add_le_add_left (by decide) _) (fw_sub [2, 3, 4, 5, 6] rfl (k _ hI2))
  · have e2 : X12_countWithStatus Yc (xs (i + 1).toNatClampNeg) = some (r, Ym) := e2
    refine fw_callH C hE (c_L_countWithStatus hl (fun q hq => hq) e1 (fun n1 Y1 q => nomatch q)) (vx_cwSW 3 (cx_ts C) gL_law_L_countWithStatus rfl rfl rfl (by decide +kernel) ⟨(Nat.le_of_ble_eq_true rfl), (Nat.le_of_ble_eq_true rfl)⟩) rfl (st := []) rfl (Nat.le_of_ble_eq_true rfl) ⟨hc1, hs1⟩ dL_law_611 ?_
    refine fw_mem (Y' := s11 r Yc) rfl ?_
    refine fw_topi (v' := 0) rfl ?_
    have e4 : X12_countWithStatus (s11 r Yc) (xs (i + 1).toNatClampNeg) = some (r, s11 r Ym) := s11_some (f := fun Z => X12_countWithStatus Z (xs (i + 1).toNatClampNeg)) (fun _ Z => k_X12_countWithStatus Z (xs (i + 1).toNatClampNeg)) _ e2
    refine fw_istore C dL_law_614 (by decide) (L' := [(5, .int 0), (0, .ref b), (1, .ref (ad 0 0 0)), (2, .ref (ad 10 0 0)), (3, .ref (ad 11 0 0)), (4, .int i)]) rfl ?_
    refine fw_aload_n C dL_law_616 rfl 3 rfl ?_
    refine fw_aload_n C dL_law_617 rfl 1 rfl ?_
    refine fw_iload C dL_law_618 5 rfl ?_
    refine fw_iconst C dL_law_620 (v := 1) rfl ?_
    refine fw_iadd C dL_law_621 ?_
    refine fw_sld C hS h1 dL_law_622 ?_
    refine fw_callVi C (ci := 10) (Cn := RX12) (Tc := TX12) (N := 19) (As := [.int (xs (i + 1).toNatClampNeg)]) (c_X12_countWithStatus (lawg (by decide)) e4) (cwV 1 (cx_ts C) gL_law_X12_countWithStatus rfl rfl rfl (by decide +kernel) ⟨(Nat.le_of_ble_eq_true rfl), (Nat.le_of_ble_eq_true rfl)⟩) rfl (lawg (g := [(10, 0)]) (by decide) _ List.mem_cons_self) (of10_0 _) (ce10 T ad _ _) rfl (st := []) rfl (Nat.le_of_ble_eq_true rfl) ⟨hc1, hs1⟩ dL_law_623 (ppw ?_)
    refine fw_istore C dL_law_626 (by decide) (L' := [(6, .int r), (5, .int 0), (0, .ref b), (1, .ref (ad 0 0 0)), (2, .ref (ad 10 0 0)), (3, .ref (ad 11 0 0)), (4, .int i)]) rfl ?_
    refine fw_aload_n C dL_law_628 rfl 4 rfl ?_
    refine fw_callVi C (ci := 10) (Cn := RX12) (Tc := TX12) (N := 19) (As := []) (c_X12_thrown (lawg (by decide)) (thr_s11 r e3)) (cwV 0 (cx_ts C) gL_law_X12_thrown rfl rfl rfl (by decide +kernel) ⟨(Nat.le_of_ble_eq_true rfl), (Nat.le_of_ble_eq_true rfl)⟩) rfl (lawg (g := [(10, 0)]) (by decide) _ List.mem_cons_self) (of10_0 _) (ce10 T ad _ _) rfl (st := []) rfl (Nat.le_of_ble_eq_true rfl) ⟨hc1, hs1⟩ dL_law_629 (pp2 ?_)
    refine fw_iload C dL_law_632 1 rfl ?_
    refine fw_icmp_eq C dL_law_634 (tgt := 639) rfl (fun _ => ?_) (fun c1 => absurd rfl c1)
    refine fw_iload C dL_law_639 1 rfl ?_
    refine fw_if_ne C dL_law_641 (tgt := 656) rfl (fun c1 => absurd rfl c1) (fun _ => ?_)
    refine fw_aload_n C dL_law_644 rfl 5 rfl ?_
    refine fw_iconst C dL_law_645 (v := 0) rfl ?_
    refine fw_lald0 C (lawg (g := [(11, 0)]) (by decide) _ List.mem_cons_self) dL_law_646 ?_
    refine fw_top (v' := .long (r : Int32).toInt64) (by rw [s11_11]) ?_
    refine fw_iload C dL_law_647 0 rfl ?_
    refine fw_i2l C dL_law_649 rfl ?_
    refine fw_lcmp C dL_law_650 ?_
    refine fw_topi (v' := 0) (lg_self _) ?_
    refine fw_if_eq C dL_law_651 (tgt := 656) rfl (fun _ => ?_) (fun c1 => absurd rfl c1)
    refine fw_goto C dL_law_656 (tgt := 3079) rfl ?_
    exact fw_widen (Nat.add_le_add_left (by decide) _) (Nat.add_le_add_left (by decide) _) (fw_sub [2, 3, 4, 5, 6] rfl (k _ (Inv_s11 _ hI2)))
set_option maxHeartbeats 4000000 in
theorem law_11 (X : LX p s m args meth c N0 T D ad l b Ln xs i cells slots) (hI : Inv Y) (k : ∀ Y' : Mem, Inv Y' → LO p l e s m args below meth c N0 T D ad b i (cells + 2) (slots + 12) Q Y' 3079) : LO p l e s m args below meth c N0 T D ad b i cells slots Q Y 659 := by
  obtain ⟨C, hE, hl, hS, ⟨h1, h2, h3, h4, h5⟩, hc2, hs2⟩ := X
  have hc1 : cells + 1 ≤ 601024 := Nat.le_of_succ_le hc2
  have hs1 : slots + 6 ≤ 7293034 := Nat.le_trans (Nat.add_le_add_left (by decide) _) hs2
  have hc : cells ≤ 601024 := Nat.le_of_succ_le hc1
  have hs : slots ≤ 7293034 := Nat.le_trans (Nat.le_add_right _ _) hs1
  refine fw_aload_n C dL_law_659 rfl 1 rfl ?_
  obtain ⟨r, Ym, e1, e2, hI2⟩ := q_starts hI
  refine fw_callVi C (ci := 9) (Cn := RX11) (Tc := TX11) (N := 11) (As := []) (c_X11_starts (lawg (by decide)) e1) (cwV 0 (cx_ts C) gL_law_X11_starts rfl rfl rfl (by decide +kernel) ⟨(Nat.le_of_ble_eq_true rfl), (Nat.le_of_ble_eq_true rfl)⟩) rfl (lawg (g := [(0, 0)]) (by decide) _ List.mem_cons_self) (of0_0 _) (ce0 T ad _ _) rfl (st := []) rfl (Nat.le_of_ble_eq_true rfl) ⟨hc, hs⟩ dL_law_660 (pp2 ?_)
  refine fw_aload_n C dL_law_663 rfl 2 rfl ?_
  refine fw_callVi C (ci := 10) (Cn := RX12) (Tc := TX12) (N := 19) (As := []) (c_X12_starts (lawg (by decide)) e2) (cwV 0 (cx_ts C) gL_law_X12_starts rfl rfl rfl (by decide +kernel) ⟨(Nat.le_of_ble_eq_true rfl), (Nat.le_of_ble_eq_true rfl)⟩) rfl (lawg (g := [(10, 0)]) (by decide) _ List.mem_cons_self) (of10_0 _) (ce10 T ad _ _) rfl (st := [.int r]) rfl (Nat.le_of_ble_eq_true rfl) ⟨hc, hs⟩ dL_law_664 (ppw ?_)
  refine fw_icmp_eq C dL_law_667 (tgt := 3079) rfl (fun _ => ?_) (fun c1 => absurd rfl c1)
  exact fw_widen (Nat.le_add_right _ _) (Nat.le_add_right _ _) (k _ hI2)
set_option maxHeartbeats 4000000 in
theorem law_12 (X : LX p s m args meth c N0 T D ad l b Ln xs i cells slots) (hI : Inv Y) (k : ∀ Y' : Mem, Inv Y' → LO p l e s m args below meth c N0 T D ad b i (cells + 2) (slots + 12) Q Y' 3079) : LO p l e s m args below meth c N0 T D ad b i cells slots Q Y 672 := by
  obtain ⟨C, hE, hl, hS, ⟨h1, h2, h3, h4, h5⟩, hc2, hs2⟩ := X
  have hc1 : cells + 1 ≤ 601024 := Nat.le_of_succ_le hc2
  have hs1 : slots + 6 ≤ 7293034 := Nat.le_trans (Nat.add_le_add_left (by decide) _) hs2
  have hc : cells ≤ 601024 := Nat.le_of_succ_le hc1
  have hs : slots ≤ 7293034 := Nat.le_trans (Nat.le_add_right _ _) hs1
  refine fw_aload_n C dL_law_672 rfl 1 rfl ?_
  obtain ⟨r, Ym, e1, e2, hI2⟩ := q_completions hI
  refine fw_callVi C (ci := 9) (Cn := RX11) (Tc := TX11) (N := 11) (As := []) (c_X11_completions (lawg (by decide)) e1) (cwV 0 (cx_ts C) gL_law_X11_completions rfl rfl rfl (by decide +kernel) ⟨(Nat.le_of_ble_eq_true rfl), (Nat.le_of_ble_eq_true rfl)⟩) rfl (lawg (g := [(0, 0)]) (by decide) _ List.mem_cons_self) (of0_0 _) (ce0 T ad _ _) rfl (st := []) rfl (Nat.le_of_ble_eq_true rfl) ⟨hc, hs⟩ dL_law_673 (pp2 ?_)
  refine fw_aload_n C dL_law_676 rfl 2 rfl ?_
  refine fw_callVi C (ci := 10) (Cn := RX12) (Tc := TX12) (N := 19) (As := []) (c_X12_completions (lawg (by decide)) e2) (cwV 0 (cx_ts C) gL_law_X12_completions rfl rfl rfl (by decide +kernel) ⟨(Nat.le_of_ble_eq_true rfl), (Nat.le_of_ble_eq_true rfl)⟩) rfl (lawg (g := [(10, 0)]) (by decide) _ List.mem_cons_self) (of10_0 _) (ce10 T ad _ _) rfl (st := [.int r]) rfl (Nat.le_of_ble_eq_true rfl) ⟨hc, hs⟩ dL_law_677 (ppw ?_)
  refine fw_icmp_eq C dL_law_680 (tgt := 3079) rfl (fun _ => ?_) (fun c1 => absurd rfl c1)
  exact fw_widen (Nat.le_add_right _ _) (Nat.le_add_right _ _) (k _ hI2)
set_option maxHeartbeats 4000000 in
theorem law_13 (X : LX p s m args meth c N0 T D ad l b Ln xs i cells slots) (hI : Inv Y) (k : ∀ Y' : Mem, Inv Y' → LO p l e s m args below meth c N0 T D ad b i (cells + 2) (slots + 12) Q Y' 3079) : LO p l e s m args below meth c N0 T D ad b i cells slots Q Y 685 := by
  obtain ⟨C, hE, hl, hS, ⟨h1, h2, h3, h4, h5⟩, hc2, hs2⟩ := X
  have hc1 : cells + 1 ≤ 601024 := Nat.le_of_succ_le hc2
  have hs1 : slots + 6 ≤ 7293034 := Nat.le_trans (Nat.add_le_add_left (by decide) _) hs2
  have hc : cells ≤ 601024 := Nat.le_of_succ_le hc1
  have hs : slots ≤ 7293034 := Nat.le_trans (Nat.le_add_right _ _) hs1
  refine fw_aload_n C dL_law_685 rfl 1 rfl ?_
  obtain ⟨r, Ym, e1, e2, hI2⟩ := q_burns hI
  refine fw_callVi C (ci := 9) (Cn := RX11) (Tc := TX11) (N := 11) (As := []) (c_X11_burns (lawg (by decide)) e1) (cwV 0 (cx_ts C) gL_law_X11_burns rfl rfl rfl (by decide +kernel) ⟨(Nat.le_of_ble_eq_true rfl), (Nat.le_of_ble_eq_true rfl)⟩) rfl (lawg (g := [(0, 0)]) (by decide) _ List.mem_cons_self) (of0_0 _) (ce0 T ad _ _) rfl (st := []) rfl (Nat.le_of_ble_eq_true rfl) ⟨hc, hs⟩ dL_law_686 (pp2 ?_)
  refine fw_aload_n C dL_law_689 rfl 2 rfl ?_
  refine fw_callVi C (ci := 10) (Cn := RX12) (Tc := TX12) (N := 19) (As := []) (c_X12_burns (lawg (by decide)) e2) (cwV 0 (cx_ts C) gL_law_X12_burns rfl rfl rfl (by decide +kernel) ⟨(Nat.le_of_ble_eq_true rfl), (Nat.le_of_ble_eq_true rfl)⟩) rfl (lawg (g := [(10, 0)]) (by decide) _ List.mem_cons_self) (of10_0 _) (ce10 T ad _ _) rfl (st := [.int r]) rfl (Nat.le_of_ble_eq_true rfl) ⟨hc, hs⟩ dL_law_690 (ppw ?_)
  refine fw_icmp_eq C dL_law_693 (tgt := 3079) rfl (fun _ => ?_) (fun c1 => absurd rfl c1)
  exact fw_widen (Nat.le_add_right _ _) (Nat.le_add_right _ _) (k _ hI2)
set_option maxHeartbeats 4000000 in
theorem law_14 (X : LX p s m args meth c N0 T D ad l b Ln xs i cells slots) (hI : Inv Y) (k : ∀ Y' : Mem, Inv Y' → LO p l e s m args below meth c N0 T D ad b i (cells + 2) (slots + 12) Q Y' 3079) : LO p l e s m args below meth c N0 T D ad b i cells slots Q Y 698 := by
  obtain ⟨C, hE, hl, hS, ⟨h1, h2, h3, h4, h5⟩, hc2, hs2⟩ := X
  have hc1 : cells + 1 ≤ 601024 := Nat.le_of_succ_le hc2
  have hs1 : slots + 6 ≤ 7293034 := Nat.le_trans (Nat.add_le_add_left (by decide) _) hs2
  have hc : cells ≤ 601024 := Nat.le_of_succ_le hc1
  have hs : slots ≤ 7293034 := Nat.le_trans (Nat.le_add_right _ _) hs1
  refine fw_aload_n C dL_law_698 rfl 1 rfl ?_
  obtain ⟨r, Ym, e1, e2, hI2⟩ := q_cookMinutes hI
  refine fw_callVi C (ci := 9) (Cn := RX11) (Tc := TX11) (N := 11) (As := []) (c_X11_cookMinutes (lawg (by decide)) e1) (cwV 0 (cx_ts C) gL_law_X11_cookMinutes rfl rfl rfl (by decide +kernel) ⟨(Nat.le_of_ble_eq_true rfl), (Nat.le_of_ble_eq_true rfl)⟩) rfl (lawg (g := [(0, 0)]) (by decide) _ List.mem_cons_self) (of0_0 _) (ce0 T ad _ _) rfl (st := []) rfl (Nat.le_of_ble_eq_true rfl) ⟨hc, hs⟩ dL_law_699 (pp2 ?_)
  refine fw_aload_n C dL_law_702 rfl 2 rfl ?_
  refine fw_callVi C (ci := 10) (Cn := RX12) (Tc := TX12) (N := 19) (As := []) (c_X12_cookMinutes (lawg (by decide)) e2) (cwV 0 (cx_ts C) gL_law_X12_cookMinutes rfl rfl rfl (by decide +kernel) ⟨(Nat.le_of_ble_eq_true rfl), (Nat.le_of_ble_eq_true rfl)⟩) rfl (lawg (g := [(10, 0)]) (by decide) _ List.mem_cons_self) (of10_0 _) (ce10 T ad _ _) rfl (st := [.int r]) rfl (Nat.le_of_ble_eq_true rfl) ⟨hc, hs⟩ dL_law_703 (ppw ?_)
  refine fw_icmp_eq C dL_law_706 (tgt := 3079) rfl (fun _ => ?_) (fun c1 => absurd rfl c1)
  exact fw_widen (Nat.le_add_right _ _) (Nat.le_add_right _ _) (k _ hI2)
set_option maxHeartbeats 4000000 in
theorem law_15 (X : LX p s m args meth c N0 T D ad l b Ln xs i cells slots) (hI : Inv Y) (k : ∀ Y' : Mem, Inv Y' → LO p l e s m args below meth c N0 T D ad b i (cells + 2) (slots + 12) Q Y' 3079) : LO p l e s m args below meth c N0 T D ad b i cells slots Q Y 711 := by
  obtain ⟨C, hE, hl, hS, ⟨h1, h2, h3, h4, h5⟩, hc2, hs2⟩ := X
  have hc1 : cells + 1 ≤ 601024 := Nat.le_of_succ_le hc2
  have hs1 : slots + 6 ≤ 7293034 := Nat.le_trans (Nat.add_le_add_left (by decide) _) hs2
  have hc : cells ≤ 601024 := Nat.le_of_succ_le hc1
  have hs : slots ≤ 7293034 := Nat.le_trans (Nat.le_add_right _ _) hs1
  refine fw_aload_n C dL_law_711 rfl 1 rfl ?_
  refine fw_aload_n C dL_law_712 rfl 0 rfl ?_
  refine fw_iload C dL_law_713 4 rfl ?_
  refine fw_iconst C dL_law_715 (v := 1) rfl ?_
  refine fw_iadd C dL_law_716 ?_
  refine fw_sld C hS h1 dL_law_717 ?_
  refine fw_aload_n C dL_law_718 rfl 3 rfl ?_
  rcases q_panCapacity hI (xs (i + 1).toNatClampNeg) with ⟨n, Yc, e1, hn, bb, Ym, e2, e3, hI2⟩ | ⟨r, Yc, e1, Ym, e2, e3, hI2⟩
  · have e2 : X12_panCapacity Yc (xs (i + 1).toNatClampNeg) = some (bb, Ym) := e2
    refine fw_callH C hE (c_L_panCapacity hl (fun q hq => hq) e1 (fun n1 Y1 q => by cases q; exact hn)) (vx_cwSW 3 (cx_ts C) gL_law_L_panCapacity rfl rfl rfl (by decide +kernel) ⟨(Nat.le_of_ble_eq_true rfl), (Nat.le_of_ble_eq_true rfl)⟩) rfl (st := []) rfl (Nat.le_of_ble_eq_true rfl) ⟨hc1, hs1⟩ dL_law_719 ?_
    refine fw_mem (Y' := Yc) rfl ?_
    refine fw_topi (v' := c3 n) rfl ?_
    refine fw_istore C dL_law_722 (by decide) (L' := [(5, .int (c3 n)), (0, .ref b), (1, .ref (ad 0 0 0)), (2, .ref (ad 10 0 0)), (3, .ref (ad 11 0 0)), (4, .int i)]) rfl ?_
    refine fw_aload_n C dL_law_724 rfl 3 rfl ?_
    refine fw_aload_n C dL_law_725 rfl 1 rfl ?_
    refine fw_iload C dL_law_726 5 rfl ?_
    refine fw_iconst C dL_law_728 (v := 1) rfl ?_
    refine fw_iadd C dL_law_729 ?_
    refine fw_sld C hS h1 dL_law_730 ?_
    refine fw_callVi C (ci := 10) (Cn := RX12) (Tc := TX12) (N := 19) (As := [.int (xs (i + 1).toNatClampNeg)]) (c_X12_panCapacity (lawg (by decide)) e2) (cwV 1 (cx_ts C) gL_law_X12_panCapacity rfl rfl rfl (by decide +kernel) ⟨(Nat.le_of_ble_eq_true rfl), (Nat.le_of_ble_eq_true rfl)⟩) rfl (lawg (g := [(10, 0)]) (by decide) _ List.mem_cons_self) (of10_0 _) (ce10 T ad _ _) rfl (st := []) rfl (Nat.le_of_ble_eq_true rfl) ⟨hc1, hs1⟩ dL_law_731 (ppw ?_)
    refine fw_istore C dL_law_734 (by decide) (L' := [(6, .int bb), (5, .int (c3 n)), (0, .ref b), (1, .ref (ad 0 0 0)), (2, .ref (ad 10 0 0)), (3, .ref (ad 11 0 0)), (4, .int i)]) rfl ?_
    refine fw_aload_n C dL_law_736 rfl 4 rfl ?_
    refine fw_callVi C (ci := 10) (Cn := RX12) (Tc := TX12) (N := 19) (As := []) (c_X12_thrown (lawg (by decide)) (thr_ok e3)) (cwV 0 (cx_ts C) gL_law_X12_thrown rfl rfl rfl (by decide +kernel) ⟨(Nat.le_of_ble_eq_true rfl), (Nat.le_of_ble_eq_true rfl)⟩) rfl (lawg (g := [(10, 0)]) (by decide) _ List.mem_cons_self) (of10_0 _) (ce10 T ad _ _) rfl (st := []) rfl (Nat.le_of_ble_eq_true rfl) ⟨hc1, hs1⟩ dL_law_737 (pp2 ?_)
    refine fw_iload C dL_law_740 1 rfl ?_
    refine fw_icmp_eq C dL_law_742 (tgt := 747) rfl (fun _ => ?_) (fun c1 => absurd rfl c1)
    refine fw_iload C dL_law_747 1 rfl ?_
    refine fw_if_ne C dL_law_749 (tgt := 764) rfl (fun _ => ?_) (fun c1 => absurd c1 hn)
    refine fw_goto C dL_law_764 (tgt := 3079) rfl ?_
    exact fw_widen (Nat.add_le_add_left (by decide) _) (Nat.add_le_add_left (by decide) _) (fw_sub [2, 3, 4, 5, 6] rfl (k _ hI2))
  · have e2 : X12_panCapacity Yc (xs (i + 1).toNatClampNeg) = some (r, Ym) := e2
    refine fw_callH C hE (c_L_panCapacity hl (fun q hq => hq) e1 (fun n1 Y1 q => nomatch q)) (vx_cwSW 3 (cx_ts C) gL_law_L_panCapacity rfl rfl rfl (by decide +kernel) ⟨(Nat.le_of_ble_eq_true rfl), (Nat.le_of_ble_eq_true rfl)⟩) rfl (st := []) rfl (Nat.le_of_ble_eq_true rfl) ⟨hc1, hs1⟩ dL_law_719 ?_
    refine fw_mem (Y' := s11 r Yc) rfl ?_
    refine fw_topi (v' := 0) rfl ?_
    have e4 : X12_panCapacity (s11 r Yc) (xs (i + 1).toNatClampNeg) = some (r, s11 r Ym) := s11_some (f := fun Z => X12_panCapacity Z (xs (i + 1).toNatClampNeg)) (fun _ Z => k_X12_panCapacity Z (xs (i + 1).toNatClampNeg)) _ e2
    refine fw_istore C dL_law_722 (by decide) (L' := [(5, .int 0), (0, .ref b), (1, .ref (ad 0 0 0)), (2, .ref (ad 10 0 0)), (3, .ref (ad 11 0 0)), (4, .int i)]) rfl ?_
    refine fw_aload_n C dL_law_724 rfl 3 rfl ?_
    refine fw_aload_n C dL_law_725 rfl 1 rfl ?_
    refine fw_iload C dL_law_726 5 rfl ?_
    refine fw_iconst C dL_law_728 (v := 1) rfl ?_
    refine fw_iadd C dL_law_729 ?_
    refine fw_sld C hS h1 dL_law_730 ?_
    refine fw_callVi C (ci := 10) (Cn := RX12) (Tc := TX12) (N := 19) (As := [.int (xs (i + 1).toNatClampNeg)]) (c_X12_panCapacity (lawg (by decide)) e4) (cwV 1 (cx_ts C) gL_law_X12_panCapacity rfl rfl rfl (by decide +kernel) ⟨(Nat.le_of_ble_eq_true rfl), (Nat.le_of_ble_eq_true rfl)⟩) rfl (lawg (g := [(10, 0)]) (by decide) _ List.mem_cons_self) (of10_0 _) (ce10 T ad _ _) rfl (st := []) rfl (Nat.le_of_ble_eq_true rfl) ⟨hc1, hs1⟩ dL_law_731 (ppw ?_)
    refine fw_istore C dL_law_734 (by decide) (L' := [(6, .int r), (5, .int 0), (0, .ref b), (1, .ref (ad 0 0 0)), (2, .ref (ad 10 0 0)), (3, .ref (ad 11 0 0)), (4, .int i)]) rfl ?_
    refine fw_aload_n C dL_law_736 rfl 4 rfl ?_
    refine fw_callVi C (ci := 10) (Cn := RX12) (Tc := TX12) (N := 19) (As := []) (c_X12_thrown (lawg (by decide)) (thr_s11 r e3)) (cwV 0 (cx_ts C) gL_law_X12_thrown rfl rfl rfl (by decide +kernel) ⟨(Nat.le_of_ble_eq_true rfl), (Nat.le_of_ble_eq_true rfl)⟩) rfl (lawg (g := [(10, 0)]) (by decide) _ List.mem_cons_self) (of10_0 _) (ce10 T ad _ _) rfl (st := []) rfl (Nat.le_of_ble_eq_true rfl) ⟨hc1, hs1⟩ dL_law_737 (pp2 ?_)
    refine fw_iload C dL_law_740 1 rfl ?_
    refine fw_icmp_eq C dL_law_742 (tgt := 747) rfl (fun _ => ?_) (fun c1 => absurd rfl c1)
    refine fw_iload C dL_law_747 1 rfl ?_
    refine fw_if_ne C dL_law_749 (tgt := 764) rfl (fun c1 => absurd rfl c1) (fun _ => ?_)
    refine fw_aload_n C dL_law_752 rfl 5 rfl ?_
    refine fw_iconst C dL_law_753 (v := 0) rfl ?_
    refine fw_lald0 C (lawg (g := [(11, 0)]) (by decide) _ List.mem_cons_self) dL_law_754 ?_
    refine fw_top (v' := .long (r : Int32).toInt64) (by rw [s11_11]) ?_
    refine fw_iload C dL_law_755 0 rfl ?_
    refine fw_i2l C dL_law_757 rfl ?_
    refine fw_lcmp C dL_law_758 ?_
    refine fw_topi (v' := 0) (lg_self _) ?_
    refine fw_if_eq C dL_law_759 (tgt := 764) rfl (fun _ => ?_) (fun c1 => absurd rfl c1)
    refine fw_goto C dL_law_764 (tgt := 3079) rfl ?_
    exact fw_widen (Nat.add_le_add_left (by decide) _) (Nat.add_le_add_left (by decide) _) (fw_sub [2, 3, 4, 5, 6] rfl (k _ (Inv_s11 _ hI2)))
end
