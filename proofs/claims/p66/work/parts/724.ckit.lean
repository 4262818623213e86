/-! PHASE 3: CONSTRUCTORS over a world of groups; the Kitchen -/
abbrev CtW (l : Launch) (y : MethodName) (wsy : List Cond) (rm : Room) (D : va_G) (T : Nat → ClassId) (N0 : Nat) (ad : Nat → Nat → Nat → Nat) (av : List Value) (h : Nat) (raw : va_E) (sz : Nat) (gr : List (Nat × Nat)) (Y : Mem) (gr' : List (Nat × Nat)) (Y' : Mem) (k n : Nat) : Prop :=
  Met l y wsy rm (va_Pc (.ref h :: av) (fun U => U.heap.size = sz ∧ PM D ((h, raw) :: wC T gr ad Y) U.heap ∧ va_K D vwCl (ftys T) U ∧ Nst U ∧ Aov U ∧ Stt N0 ad U U.heap)) (va_Qv (fun _ : Unit => True) (fun _ t => PM D (wC T gr' ad Y') t.heap ∧ t.heap.size = sz + k) (fun q => N0 ≤ q)) k n (fun q => N0 ≤ q)
theorem CtW_blind (D : va_G) (T : Nat → ClassId) (N0 : Nat) (ad : Nat → Nat → Nat → Nat) (av : List Value) (h : Nat) (raw : va_E) (sz : Nat) (gr : List (Nat × Nat)) (Y : Mem) : FrameBlind (va_Pc (.ref h :: av) (fun U => U.heap.size = sz ∧ PM D ((h, raw) :: wC T gr ad Y) U.heap ∧ va_K D vwCl (ftys T) U ∧ Nst U ∧ Aov U ∧ Stt N0 ad U U.heap)) := by
  intro a U g mk h
  obtain ⟨h0, h1, h2, h3, h4, h5, h6⟩ := h
  exact ⟨h0, h1, h2, va_K.moved (u := U) (U := U.calling g mk a) (Vm.Alike.refl U.vm) h3, Nst_same (u := U) rfl h4, Aov.moved (u := U) (U := U.calling g mk a) (Vm.Alike.refl U.vm) h5, Stt_same (u := U) rfl rfl h6⟩
theorem gw_bodyW {l : Launch} {y : MethodName} {wsy ws' : List Cond} {rm : Room} {cc : ByteArray} {maxL : Nat} {T : Nat → ClassId} {D : va_G} {N0 : Nat} {ad : Nat → Nat → Nat → Nat} {av : List Value} {h sz : Nat} {raw : va_E} {gr gr' : List (Nat × Nat)} {Y Y' : Mem} {K n : Nat}
    (hy : plainName y.cls = true) (hw : wsy = Cond.code y cc maxL none :: ws') (hi : y.name = "<init>") (hlen : (lg_sl (.ref h :: av)).length ≤ maxL) (hN : N0 ≤ sz) (hD : DM (fun q => N0 ≤ q) ((h, raw) :: wC T gr ad Y))
    (body : ∀ (p : Program) (e : Env) (s : State) (m : MethodId) (below : List Frame) (meth : Method) (c : Code), CG p s m (Value.ref h :: av).toArray meth c cc maxL wsy y.cls T D (fun q => N0 ≤ q) sz → Stt N0 ad s s.heap → meth.name = "<init>" → meth.sig.returnType = none →
      GW p l e rm s m (Value.ref h :: av).toArray below meth c maxL D (fun q => N0 ≤ q) sz 0 0 (MQ below (va_Qv (fun _ : Unit => True) (fun _ t => PM D (wC T gr' ad Y') t.heap ∧ t.heap.size = sz + K) (fun q => N0 ≤ q)) (Value.ref h :: av).toArray s K n (fun q => N0 ≤ q)) ((h, raw) :: wC T gr ad Y) 0 (lv_args 0 (.ref h :: av)) []) : CtW l y wsy rm D T N0 ad av h raw sz gr Y gr' Y' K n := by
  refine Met.ofW (cc := cc) (maxL := maxL) (ret := none) hy hw ?_
  intro p e s m args below meth c s₁ B hml hv
  obtain ⟨rfl, h1, h2, h3, h4, h5, h6⟩ := hv
  have hl := lv_entry (.ref h :: av) hlen
  rw [lg_entry_eq]
  exact body p e s m below meth c ⟨B.exec, B.bytes, hml, findClass_of_methodNamed B.named, atoms_spec (ws := wsy) B.pre, h3, fun q hq => Nat.le_trans hN (by rw [← h1]; exact hq), B.notSynchronized, h4, h5, h1⟩ h6 ((name_of_methodNamed B.named B.method).1.trans hi) B.returns s.heap [] _ h2 hD (by rw [h1]; rfl) va_S.rf hl
section GWD
variable {p : Program} {l : Launch} {e : Env} {R : Room} {s : State} {m : MethodId} {args : Array Value} {below : List Frame} {meth : Method} {c : Code} {cc : ByteArray} {nL : Nat} {T : Nat → ClassId} {D : va_G} {A : Nat → Prop} {sz cells slots : Nat} {Q : State → Prop} {ws : va_W} {pc : Nat} {L L' : List (Nat × Value)} {st : List Value} {Ts : List Cond} {own : String}
theorem gw_ctorW (C : CG p s m args meth c cc nL Ts own T D A sz) {Nc N0 : Nat} {gr gr' : List (Nat × Nat)} {ad : Nat → Nat → Nat → Nat} {Y Y' : Mem} {x : Nat × va_E} {h index n maxL k0 n0 : Nat} {raw : va_E} {y : MethodName} {bytes : ByteArray} {wsy : List Cond} {rm : Room} {As st0 : List Value} (hM : CtW l y wsy rm D T N0 ad As h raw (sz + cells) gr Y gr' Y' k0 n0) (cw : CallB R s args own index y bytes maxL none wsy rm k0 n0 n ∧ y.name = "<init>" ∧ (Cond.instanceMethod y).before args s = true)
    (hDn : DM (fun q => N0 ≤ q) (wC T gr' ad Y')) (hx : x.1 < N0) (hA : ∀ q, N0 ≤ q → A q) (hSt : Stt Nc ad s s.heap) (hNc : Nc ≤ N0) (hcA : ∀ q, q < Nc → ¬ A q) (hNcs : Nc ≤ sz)
    (hn : As.length = n) (hst : st0 = As.reverse ++ .ref h :: st) (hcat : (st.map fun v => v.category).sum ≤ 8) (hf : cells + k0 ≤ R.cells ∧ slots + n0 ≤ R.slots) (d : decode cc pc = .ok (.invokespecial index, 3)) (k : GW p l e R s m args below meth c nL D A sz (cells + k0) (slots + n0) Q (x :: wC T gr' ad Y') (pc + 3) L st) : GW p l e R s m args below meth c nL D A sz cells slots Q (x :: (h, raw) :: wC T gr ad Y) pc L st0 := by
  intro H locs ls hP hD hz hS hl1
  have hPx := hP x List.mem_cons_self
  have hss : Nc ≤ s.heap.size := by rw [cg_sz C]; exact hNcs
  refine va_callv (va_runI (As := As) (rest := st) ⟨C.1, C.2.1, C.2.2.1, C.2.2.2.1, C.2.2.2.2.1⟩ hM cw ⟨CtW_blind D T N0 ad As h raw (sz + cells) gr Y, fun U hU hW => ⟨rfl, by rw [hU]; exact hz, by rw [hU]; exact fun q hq => hP q (List.mem_cons_of_mem _ hq), va_K.moved hW.alike C.2.2.2.2.2.1, Nst_warm hW (cg_nst C), (cg_aov C).moved hW.alike, (Stt_moved hW (by rw [hU]; exact hS.1) (fun q h1 _ => by rw [hU]; exact hS.2.1 q (Nat.lt_of_lt_of_le h1 hss) (hcA q h1)) hSt).narrow hNc⟩⟩ rfl hn hl1.1 hst (lv_room hcat) d hf) hS (fun q _ h2 => hA q h2) (fun q h2 => hA q h2) (fun u t H1 locs1 ht _ _ hB hz1 hk1 hS1 => ?_)
  obtain ⟨hP1, hz9⟩ := hB
  rw [ht] at hP1 hz9
  refine k H1 locs1 ls (PM.cons ?_ hP1) ⟨List.pairwise_cons.mpr ⟨fun q hq e => ?_, hDn.1⟩, fun q hq => ?_⟩ (by rw [hz9]; omega) hS1 hl1
  · have h3 : PM D [x] H := fun q hq => by rw [List.mem_singleton.mp hq]; exact hPx
    exact (h3.kept (H1 := H1) fun q hq => by rw [List.mem_singleton.mp hq]; exact hk1 x.1 hPx.lt (Nat.not_le.mpr hx)) x (List.mem_singleton.mpr rfl)
  · have h2 := hDn.2 q hq
    rw [← e] at h2
    exact Nat.not_le.mpr hx h2
  · rcases List.mem_cons.mp hq with rfl | h2
    · exact hD.2 _ List.mem_cons_self
    · exact hA _ (hDn.2 q h2)
end GWD
theorem GP_Kitchen {D : va_G} {T : Nat → ClassId} {ad : Nat → Nat → Nat → Nat} {Y : Mem} {H : Heap} {g h sz a1 : Nat} {r : va_W} (h1 : PM D ((h, .inr (3, [.ref a1, .ref sz, .ref (sz + 7), .ref (sz + 8), .ref (sz + 9)])) :: (sz + 9, .inl (T 0, 14, .inl (fun _ => 0))) :: (sz + 8, .inl (T 0, 14, .inl (fun _ => 0))) :: (sz + 7, .inl (T 0, 14, .inl (fun _ => 0))) :: r) H) (hY : ∀ o, Y 1 g o = fun _ => 0) (hr : ad 3 0 0 = a1) (a0 : ad 1 g 0 = h) (b0 : ad 2 g 0 = sz) (b1 : ad 1 g 1 = sz + 7) (b2 : ad 1 g 2 = sz + 8) (b3 : ad 1 g 3 = sz + 9) : GP D T ad Y 1 g H := by
  intro o ho
  rcases (by simpa [offs] using ho : o = 0 ∨ o = 1 ∨ o = 2 ∨ o = 3) with rfl | rfl | rfl | rfl
  · exact at_of a0 (by rw [ce1, hY, b0, b1, b2, b3, show (0 : Int32).toNatClampNeg = 0 by decide, hr]) (h1 _ (List.mem_of_getElem? (i := 0) rfl))
  · exact at_of b1 (by rw [hY]; rfl) (h1 _ (List.mem_of_getElem? (i := 3) rfl))
  · exact at_of b2 (by rw [hY]; rfl) (h1 _ (List.mem_of_getElem? (i := 2) rfl))
  · exact at_of b3 (by rw [hY]; rfl) (h1 _ (List.mem_of_getElem? (i := 1) rfl))
theorem wd_X3_o1 : (.methodLink RX3 3 objectInit : Cond) ∈ wsX3_init := by decide +kernel
theorem wd_X3_o2 : (.instanceMethod objectInit : Cond) ∈ wsX3_init := by decide +kernel
theorem wd_X3_o3 : (.code objectInit ⟨#[0xb1]⟩ 1 none : Cond) ∈ wsX3_init := by decide +kernel
theorem ly_X3_i8 : ∀ w ∈ u_ws RX8 TX8 15, w ∈ wsX3_init := by decide +kernel
theorem wd_X3_c9 : (.classLink RX3 9 RX8 : Cond) ∈ wsX3_init := by decide +kernel
theorem wd_X3_i8 : (.instantiable RX8 15 : Cond) ∈ wsX3_init := by decide +kernel
theorem wd_X3_n8 : (.initialized RX8 : Cond) ∈ wsX3_init := by decide +kernel
theorem wd_X3_m8 : (.instanceMethod yX8_init : Cond) ∈ wsX3_init := by decide +kernel
theorem nx_X3_8_11 : (.methodLinkNest RX3 11 yX8_init "RecipeScheduler" : Cond) ∈ nestL := by decide +kernel
theorem wd_X3_f12 : (.fieldLink RX3 12 "RecipeScheduler$Kitchen" "state" "LRecipeScheduler$State;" : Cond) ∈ wsX3_init := by decide +kernel
theorem ly_X3_i3 : ∀ w ∈ u_ws RX3 TX3 5, w ∈ wsX3_init := by decide +kernel
theorem wd_X3_aint : (.arrayClass .int : Cond) ∈ wsX3_init := by decide +kernel
theorem wd_X3_f18 : (.fieldLink RX3 18 "RecipeScheduler$Kitchen" "path" "[I" : Cond) ∈ wsX3_init := by decide +kernel
theorem wd_X3_f22 : (.fieldLink RX3 22 "RecipeScheduler$Kitchen" "order" "[I" : Cond) ∈ wsX3_init := by decide +kernel
theorem wd_X3_f25 : (.fieldLink RX3 25 "RecipeScheduler$Kitchen" "head" "[I" : Cond) ∈ wsX3_init := by decide +kernel
theorem wd_X3_f28 : (.fieldLink RX3 28 "RecipeScheduler$Kitchen" "recipe" "LRecipeScheduler$Recipe;" : Cond) ∈ wsX3_init := by decide +kernel
theorem fl_X3_i12 : (.fieldLink RX3 12 "RecipeScheduler$Kitchen" "state" "LRecipeScheduler$State;" : Cond) ∈ wsX3_init := by decide +kernel
section
variable {p : Program} {l : Launch} {e : Env} {s : State} {m : MethodId} {below : List Frame} {meth : Method} {c : Code} {T : Nat → ClassId} {D : va_G} {N0 : Nat} {ad : Nat → Nat → Nat → Nat} {gr : List (Nat × Nat)} {Y Y' : Mem} {g : Nat}
set_option maxHeartbeats 4000000 in
theorem w_Kitchen {h sz : Nat} (C : CG p s m [.ref h, .ref (ad 3 0 0)].toArray meth c cX3_init 2 wsX3_init RX3 T D (fun q => N0 ≤ q) sz) (hSt : Stt N0 ad s s.heap) (hi : meth.name = "<init>") (hr : meth.sig.returnType = none) (hl : l.stackTraces = false) (hN : N0 ≤ sz) (hG : (3, 0) ∈ gr) (hY1 : ∀ o, Y 1 g o = fun _ => 0) (hY2 : ∀ o, Y 2 g o = fun _ => 0) (hb : X8_begin Y g 0 = some Y') (hDn : DM (fun q => N0 ≤ q) (wC T (gr ++ [(1, g), (2, g)]) ad Y))
    (a0 : ad 1 g 0 = h) (b1 : ad 1 g 1 = sz + 7) (b2 : ad 1 g 2 = sz + 8) (b3 : ad 1 g 3 = sz + 9) (c0 : ad 2 g 0 = sz) (c1 : ad 2 g 1 = sz + 1) (c2 : ad 2 g 2 = sz + 2) (c3 : ad 2 g 3 = sz + 3) (c4 : ad 2 g 4 = sz + 4) (c5 : ad 2 g 5 = sz + 5) (c6 : ad 2 g 6 = sz + 6) :
    GW p l e (Rc 2 10 141) s m [.ref h, .ref (ad 3 0 0)].toArray below meth c 2 D (fun q => N0 ≤ q) sz 0 0 (MQ below (va_Qv (fun _ : Unit => True) (fun _ t => PM D (wC T (gr ++ [(1, g), (2, g)]) ad Y') t.heap ∧ t.heap.size = sz + 10) (fun q => N0 ≤ q)) [.ref h, .ref (ad 3 0 0)].toArray s 10 141 (fun q => N0 ≤ q)) ((h, .inr (3, [.null, .null, .null, .null, .null])) :: wC T gr ad Y) 0 [(0, .ref h), (1, .ref (ad 3 0 0))] [] := by
  refine gw_aload_n C dX3_init_0 rfl 0 rfl ?_
  refine gw_objInit C wd_X3_o1 wd_X3_o2 wd_X3_o3 rfl ⟨(Nat.le_of_ble_eq_true rfl), (Nat.le_of_ble_eq_true rfl)⟩ dX3_init_1 ?_
  refine gw_aload_n C dX3_init_4 rfl 0 rfl ?_
  refine gx_new C (ci := 8) (fs := [.int 0, .int 0, .int 0, .int 0, .int 0, .int 0, .int 0, .int 0, .int 0, .null, .null, .null, .null, .null, .null]) tyX8 ly_X3_i8 tyX8_ok wd_X3_c9 wd_X3_i8 wd_X3_n8 rfl (by decide) (Nat.le_of_ble_eq_true rfl) (Nat.le_of_ble_eq_true rfl) dX3_init_5 ?_
  refine gw_dup C dX3_init_8 rfl ?_
  refine gx_ctorN C (As := []) (ct_State D T sz (sz + 1) hl) (⟨va_cnB (ws' := _) 0 (cg_ts C) gX3_init_X8_init_n11 rfl rfl rfl (cg_nst C _ nx_X3_8_11) (cg_ts C _ wd_X3_n8) (by decide +kernel) ⟨(Nat.le_of_ble_eq_true rfl), (Nat.le_of_ble_eq_true rfl)⟩, rfl, cg_ts C _ wd_X3_m8⟩) rfl rfl (Nat.le_of_ble_eq_true rfl) ⟨(Nat.le_of_ble_eq_true rfl), (Nat.le_of_ble_eq_true rfl)⟩ dX3_init_9 ?_
  refine gw_putF C hi (ci := 3) (Cn := RX3) (Tc := TX3) (N := 5) (j := 1) (ty := tyX3 1) (ws' := (h, .inr (3, [.null, .ref sz, .null, .null, .null])) :: (wState T sz (sz + 1) ++ wC T gr ad Y)) 0 rfl ly_X3_i3 rfl tyX3_ok nmX3 (by decide) (cg_ts C _ wd_X3_f12) (fun _ h => h) rfl rfl (by decide +kernel) rfl rfl (Nat.le_of_ble_eq_true rfl) rfl dX3_init_12 ?_
  refine gw_aload_n C dX3_init_15 rfl 0 rfl ?_
  refine gw_bipush C dX3_init_16 (v := 14) (by decide) ?_
  refine gx_newa C (atype := .int) 0 rfl wd_X3_aint (N := 14) (a0 := (14, .inl (fun _ => 0))) rfl (fun h => h) (by decide) (by decide +kernel) (by decide) (Nat.le_of_ble_eq_true rfl) (Nat.le_of_ble_eq_true rfl) dX3_init_18 ?_
  refine gw_putF C hi (ci := 3) (Cn := RX3) (Tc := TX3) (N := 5) (j := 2) (ty := tyX3 2) (ws' := (h, .inr (3, [.null, .ref sz, .ref (sz + 7), .null, .null])) :: (sz + 7, .inl (T 0, 14, .inl (fun _ => 0))) :: (wState T sz (sz + 1) ++ wC T gr ad Y)) 0 rfl ly_X3_i3 rfl tyX3_ok nmX3 (by decide) (cg_ts C _ wd_X3_f18) (fun _ h => h) rfl rfl (by decide +kernel) rfl rfl (Nat.le_of_ble_eq_true rfl) rfl dX3_init_20 ?_
  refine gw_aload_n C dX3_init_23 rfl 0 rfl ?_
  refine gw_bipush C dX3_init_24 (v := 14) (by decide) ?_
  refine gx_newa C (atype := .int) 0 rfl wd_X3_aint (N := 14) (a0 := (14, .inl (fun _ => 0))) rfl (fun h => h) (by decide) (by decide +kernel) (by decide) (Nat.le_of_ble_eq_true rfl) (Nat.le_of_ble_eq_true rfl) dX3_init_26 ?_
  refine gw_putF C hi (ci := 3) (Cn := RX3) (Tc := TX3) (N := 5) (j := 3) (ty := tyX3 3) (ws' := (h, .inr (3, [.null, .ref sz, .ref (sz + 7), .ref (sz + 8), .null])) :: (sz + 8, .inl (T 0, 14, .inl (fun _ => 0))) :: (sz + 7, .inl (T 0, 14, .inl (fun _ => 0))) :: (wState T sz (sz + 1) ++ wC T gr ad Y)) 0 rfl ly_X3_i3 rfl tyX3_ok nmX3 (by decide) (cg_ts C _ wd_X3_f22) (fun _ h => h) rfl rfl (by decide +kernel) rfl rfl (Nat.le_of_ble_eq_true rfl) rfl dX3_init_28 ?_
  refine gw_aload_n C dX3_init_31 rfl 0 rfl ?_
  refine gw_bipush C dX3_init_32 (v := 14) (by decide) ?_
  refine gx_newa C (atype := .int) 0 rfl wd_X3_aint (N := 14) (a0 := (14, .inl (fun _ => 0))) rfl (fun h => h) (by decide) (by decide +kernel) (by decide) (Nat.le_of_ble_eq_true rfl) (Nat.le_of_ble_eq_true rfl) dX3_init_34 ?_
  refine gw_putF C hi (ci := 3) (Cn := RX3) (Tc := TX3) (N := 5) (j := 4) (ty := tyX3 4) (ws' := (h, .inr (3, [.null, .ref sz, .ref (sz + 7), .ref (sz + 8), .ref (sz + 9)])) :: (sz + 9, .inl (T 0, 14, .inl (fun _ => 0))) :: (sz + 8, .inl (T 0, 14, .inl (fun _ => 0))) :: (sz + 7, .inl (T 0, 14, .inl (fun _ => 0))) :: (wState T sz (sz + 1) ++ wC T gr ad Y)) 0 rfl ly_X3_i3 rfl tyX3_ok nmX3 (by decide) (cg_ts C _ wd_X3_f25) (fun _ h => h) rfl rfl (by decide +kernel) rfl rfl (Nat.le_of_ble_eq_true rfl) rfl dX3_init_36 ?_
  refine gw_aload_n C dX3_init_39 rfl 0 rfl ?_
  refine gw_aload_n C dX3_init_40 rfl 1 rfl ?_
  refine gw_put C (ci := 3) (Cn := RX3) (Tc := TX3) (N := 5) (j := 0) (ty := tyX3 0) (ws' := (h, .inr (3, [.ref (ad 3 0 0), .ref sz, .ref (sz + 7), .ref (sz + 8), .ref (sz + 9)])) :: (sz + 9, .inl (T 0, 14, .inl (fun _ => 0))) :: (sz + 8, .inl (T 0, 14, .inl (fun _ => 0))) :: (sz + 7, .inl (T 0, 14, .inl (fun _ => 0))) :: (wState T sz (sz + 1) ++ wC T gr ad Y)) 0 rfl ly_X3_i3 rfl tyX3_ok nmX3 (by decide) (cg_ts C _ wd_X3_f28) (fun _ h => h) rfl (by decide +kernel) rfl rfl (Nat.le_of_ble_eq_true rfl) rfl dX3_init_41 ?_
  refine gw_aload_n C dX3_init_44 rfl 0 rfl ?_
  refine gw_get C (ci := 3) (Cn := RX3) (Tc := TX3) (N := 5) (j := 1) (v := .ref sz) 0 rfl ly_X3_i3 rfl (by decide) (cg_ts C _ fl_X3_i12) (fun _ h => h) rfl dX3_init_45 ?_
  refine gw_aload_n C dX3_init_48 rfl 1 rfl ?_
  refine gw_conv ([] ++ wC T (gr ++ [(1, g), (2, g)]) ad Y) (fun H hP => PM_wC fun q hq => ?_) hDn ?_
  · rcases List.mem_append.mp hq with h2 | h2
    · exact wC_GP (fun q hq => hP q (List.mem_cons_of_mem _ (List.mem_cons_of_mem _ (List.mem_cons_of_mem _ (List.mem_cons_of_mem _ (List.mem_append_right _ hq)))))) h2
    · rcases (by simpa using h2 : q = (1, g) ∨ q = (2, g)) with rfl | rfl
      · exact GP_Kitchen hP hY1 rfl a0 c0 b1 b2 b3
      · exact GP_State (h := sz) (sz := sz + 1) (fun q hq => hP q (List.mem_cons_of_mem _ (List.mem_cons_of_mem _ (List.mem_cons_of_mem _ (List.mem_cons_of_mem _ (List.mem_append_left _ hq)))))) hY2 c0 c1 c2 c3 c4 c5 c6
  refine gw_st (st' := [.ref (ad 3 0 0), .ref (ad 2 g 0)]) (by rw [c0]) ?_
  refine gw_callVv C (Nc := N0) (N0 := N0) (gr := gr ++ [(1, g), (2, g)]) (ad := ad) (Y := Y) (res := Y') (pre := []) (k0 := 2) (g0 := g) (o0 := 0) (ci := 8) (Cn := RX8) (Tc := TX8) (N := 15) (As := [.ref (ad 3 0 0)]) (c_X8_begin (fun q hq => ?_) hb) (cwV 1 (cg_ts C) gX3_init_X8_begin rfl rfl rfl (by decide +kernel) ⟨(Nat.le_of_ble_eq_true rfl), (Nat.le_of_ble_eq_true rfl)⟩) rfl (List.mem_append_right _ (by simp)) (of2_0 _) (ce2 T ad _ _) hDn (fun q hq => nomatch hq) (fun q h => h) hSt (Nat.le_refl _) (fun q h => Nat.not_le.mpr h) hN (by omega) rfl rfl (Nat.le_of_ble_eq_true rfl) ⟨(Nat.le_of_ble_eq_true rfl), (Nat.le_of_ble_eq_true rfl)⟩ dX3_init_49 ?_
  · rcases (by simpa using hq : q = (3, 0) ∨ q = (2, g)) with rfl | rfl
    · exact List.mem_append_left _ hG
    · exact List.mem_append_right _ (by simp)
  exact gw_vret C hr () trivial (fun t h1 h2 h3 => ⟨h1, h3⟩) dX3_init_52
end
theorem ct_Kitchen {l : Launch} (D : va_G) (T : Nat → ClassId) {N0 : Nat} {ad : Nat → Nat → Nat → Nat} {gr : List (Nat × Nat)} {Y Y' : Mem} (g : Nat) (h sz : Nat) (hl : l.stackTraces = false) (hN : N0 ≤ sz) (hh : N0 ≤ h) (hhz : ∀ q ∈ wC T gr ad Y, h ≠ q.1) (hG : (3, 0) ∈ gr) (hY1 : ∀ o, Y 1 g o = fun _ => 0) (hY2 : ∀ o, Y 2 g o = fun _ => 0) (hb : X8_begin Y g 0 = some Y') (hD : DM (fun q => N0 ≤ q) (wC T gr ad Y)) (hDn : DM (fun q => N0 ≤ q) (wC T (gr ++ [(1, g), (2, g)]) ad Y))
    (a0 : ad 1 g 0 = h) (b1 : ad 1 g 1 = sz + 7) (b2 : ad 1 g 2 = sz + 8) (b3 : ad 1 g 3 = sz + 9) (c0 : ad 2 g 0 = sz) (c1 : ad 2 g 1 = sz + 1) (c2 : ad 2 g 2 = sz + 2) (c3 : ad 2 g 3 = sz + 3) (c4 : ad 2 g 4 = sz + 4) (c5 : ad 2 g 5 = sz + 5) (c6 : ad 2 g 6 = sz + 6) :
    CtW l yX3_init wsX3_init (Rc 2 10 141) D T N0 ad [.ref (ad 3 0 0)] h (.inr (3, [.null, .null, .null, .null, .null])) sz gr Y (gr ++ [(1, g), (2, g)]) Y' 10 141 :=
  gw_bodyW (by decide +kernel) rfl rfl (Nat.le_of_ble_eq_true rfl) hN (hD.cons hh hhz) (fun p e s m below meth c C hSt hi hr => w_Kitchen C hSt hi hr hl hN hG hY1 hY2 hb hDn a0 b1 b2 b3 c0 c1 c2 c3 c4 c5 c6)
