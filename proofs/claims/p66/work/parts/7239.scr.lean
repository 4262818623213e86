/-! PHASE 3: CONSTRUCTORS: the ScriptReader's, which fills its array with a constant -/
abbrev CtS (l : Launch) (y : MethodName) (wsy : List Cond) (rm : Room) (D : va_G) (T : Nat → ClassId) (N0 : Nat) (ad : Nat → Nat → Nat → Nat) (av : List Value) (h : Nat) (raw : va_E) (sz : Nat) (w1 : va_W) (k n : Nat) : Prop :=
  Met l y wsy rm (va_Pc (.ref h :: av) (fun U => U.heap.size = sz ∧ PM D [(h, raw)] U.heap ∧ va_K D vwCl (ftys T) U ∧ Nst U ∧ Aov U ∧ Stt N0 ad U U.heap)) (va_Qv (fun _ : Unit => True) (fun _ t => PM D w1 t.heap ∧ t.heap.size = sz + k ∧ DM (Afr h sz) w1) (Afr h sz)) k n (Afr h sz)
theorem CtS_blind (D : va_G) (T : Nat → ClassId) (N0 : Nat) (ad : Nat → Nat → Nat → Nat) (av : List Value) (h : Nat) (raw : va_E) (sz : Nat) : FrameBlind (va_Pc (.ref h :: av) (fun U => U.heap.size = sz ∧ PM D [(h, raw)] U.heap ∧ va_K D vwCl (ftys T) U ∧ Nst U ∧ Aov U ∧ Stt N0 ad U U.heap)) := by
  intro a U g mk h
  obtain ⟨h0, h1, h2, h3, h4, h5, h6⟩ := h
  exact ⟨h0, h1, h2, va_K.moved (u := U) (U := U.calling g mk a) (Vm.Alike.refl U.vm) h3, Nst_same (u := U) rfl h4, Aov.moved (u := U) (U := U.calling g mk a) (Vm.Alike.refl U.vm) h5, Stt_same (u := U) rfl rfl h6⟩
section GWS
variable {p : Program} {l : Launch} {e : Env} {R : Room} {s : State} {m : MethodId} {args : Array Value} {below : List Frame} {meth : Method} {c : Code} {cc : ByteArray} {nL : Nat} {T : Nat → ClassId} {D : va_G} {A : Nat → Prop} {sz cells slots : Nat} {Q : State → Prop} {ws : va_W} {pc : Nat} {L L' : List (Nat × Value)} {st : List Value} {Ts : List Cond} {own : String}
theorem gw_gets (C : CG p s m args meth c cc nL Ts own T D A sz) {C0 n d0 ref : String} {v : Value} {index : Nat} (hZ : va_Z C0 n d0 v A s s.heap) (hlink : (Cond.fieldLink own index ref n d0).before args s = true) (hsame : ∀ x, s.fieldFound? C0 n d0 = some x → s.fieldFound? ref n d0 = some x) (d : decode cc pc = .ok (.getstatic index, 3)) (k : GW p l e R s m args below meth c nL D A sz cells slots Q ws (pc + 3) L (v :: st)) : GW p l e R s m args below meth c nL D A sz cells slots Q ws pc L st :=
  fun H locs ls hP hD hz hS hl1 => va_gets C.1 C.2.1 hZ hS C.2.2.2.1 hlink hsame d (k H locs ls hP hD hz hS hl1)
/-- a constant of the enum into an array -/
theorem gw_astq (C : CG p s m args meth c cc nL Ts own T D A sz) (q0 : Nat) {a P n : Nat} {f : Nat → Option Nat} {i : Int32} {ws' : va_W} (ha : ws[q0]? = some (a, .inl (T 6, n, .inr (.inr (.inr (.inr f)))))) (hO : va_O "RecipeScheduler$Command" P A s s.heap) (hin : vp_in i n) (hw : ws.set q0 (a, .inl (T 6, n, .inr (.inr (.inr (.inr (va_up f i.toNatClampNeg (some P))))))) = ws') (d : decode cc pc = .ok (.aastore, 1)) (k : GW p l e R s m args below meth c nL D A sz cells slots Q ws' (pc + 1) L st) : GW p l e R s m args below meth c nL D A sz cells slots Q ws pc L (.ref P :: .int i :: .ref a :: st) := by
  intro H locs ls hP hD hz hS hl1
  subst hw
  obtain ⟨cell0, h1, h2, h3, -⟩ := hO.kept hS.2.1
  obtain ⟨kE, hkE, -⟩ := Vm.findClass_spec h3
  refine va_astqM C.1 C.2.1 C.2.2.2.2.2.1 hP.to hD.to (va_S_here hS) q0 6 ha rfl ⟨cell0, h1, h2, ⟨kE, hkE⟩, fun comp hc => by have hc2 : s.vm.findClass "RecipeScheduler$Command" = some comp := hc; rw [h3] at hc2; cases hc2; exact (show s.vm.assignableAux _ _ _ = true by unfold Vm.assignableAux; simp)⟩ hin d (fun H1 locs1 hP1 hD1 hS1 => W_sz fun hu => ?_)
  exact k H1 locs1 ls (PM.of hP1) (DM.of hD1) (by have h1 := hS1.1; rw [cg_sz C] at hu; omega) (va_S_step hS hS1) hl1
theorem gw_ctorS (C : CG p s m args meth c cc nL Ts own T D A sz) {Nc : Nat} {ad : Nat → Nat → Nat → Nat} {h index n maxL k0 n0 : Nat} {raw : va_E} {y : MethodName} {bytes : ByteArray} {wsy : List Cond} {rm : Room} {As st0 : List Value} {w1 : va_W} (hM : CtS l y wsy rm D T Nc ad As h raw (sz + cells) w1 k0 n0) (cw : CallB R s args own index y bytes maxL none wsy rm k0 n0 n ∧ y.name = "<init>" ∧ (Cond.instanceMethod y).before args s = true) (hSt : Stt Nc ad s s.heap) (hcA : ∀ q, q < Nc → ¬ A q) (hNcs : Nc ≤ sz) (hn : As.length = n) (hst : st0 = As.reverse ++ .ref h :: st) (hcat : (st.map fun v => v.category).sum ≤ 8) (hf : cells + k0 ≤ R.cells ∧ slots + n0 ≤ R.slots) (d : decode cc pc = .ok (.invokespecial index, 3)) (k : GW p l e R s m args below meth c nL D A sz (cells + k0) (slots + n0) Q (w1 ++ ws) (pc + 3) L st) : GW p l e R s m args below meth c nL D A sz cells slots Q ((h, raw) :: ws) pc L st0 := by
  intro H locs ls hP hD hz hS hl1
  have hPh := hP (h, raw) List.mem_cons_self
  have hAh : A h := hD.2 _ List.mem_cons_self
  have hlow : sz ≤ sz + cells := Nat.le_add_right _ _
  have hss : Nc ≤ s.heap.size := by rw [cg_sz C]; exact hNcs
  have hmid : ∀ q ∈ ws, q.1 < H.size ∧ q.1 ≠ h := fun q hq => ⟨(hP q (List.mem_cons_of_mem _ hq)).lt, fun e => (List.pairwise_cons.mp hD.1).1 q hq e.symm⟩
  refine va_callv (va_runI (As := As) (rest := st) ⟨C.1, C.2.1, C.2.2.1, C.2.2.2.1, C.2.2.2.2.1⟩ hM cw ⟨CtS_blind D T Nc ad As h raw (sz + cells), fun U hU hW => ⟨rfl, by rw [hU]; exact hz, fun q hq => by rw [List.mem_singleton.mp hq, hU]; exact hPh, va_K.moved hW.alike C.2.2.2.2.2.1, Nst_warm hW (cg_nst C), (cg_aov C).moved hW.alike, Stt_moved hW (by rw [hU]; exact hS.1) (fun q h1 _ => by rw [hU]; exact hS.2.1 q (Nat.lt_of_lt_of_le h1 hss) (hcA q h1)) hSt⟩⟩ rfl hn hl1.1 hst (lv_room hcat) d hf) hS (fun q _ h2 => ?_) (fun q h2 => ?_) (fun u t H1 locs1 ht _ _ hB hz1 hk1 hS1 => ?_)
  · rcases h2 with rfl | h2
    · exact hAh
    · exact cg_fresh C (Nat.le_trans hlow h2)
  · rcases h2 with rfl | h2
    · exact hAh
    · exact cg_fresh C (Nat.le_trans hlow h2)
  · obtain ⟨hP1, hz9, hD1⟩ := hB
    rw [ht] at hP1 hz9
    have hno : ∀ q ∈ ws, ¬ Afr h (sz + cells) q.1 := fun q hq h2 => by
      have h3 := hmid q hq
      rw [hz] at h3
      rcases h2 with h2 | h2
      · exact h3.2 h2
      · omega
    refine k H1 locs1 ls (hP1.app (PM.kept (fun q hq => hP q (List.mem_cons_of_mem _ hq)) fun q hq => hk1 _ (hmid q hq).1 (hno q hq))) ⟨List.pairwise_append.mpr ⟨hD1.1, (List.pairwise_cons.mp hD.1).2, fun a ha b hb e => hno b hb (by rw [← e]; exact hD1.2 a ha)⟩, fun q hq => ?_⟩ (by rw [hz9]; omega) hS1 hl1
    rcases List.mem_append.mp hq with h2 | h2
    · rcases hD1.2 q h2 with h3 | h3
      · rw [h3]; exact hAh
      · exact cg_fresh C (Nat.le_trans hlow h3)
    · exact hD.2 q (List.mem_cons_of_mem _ h2)
theorem gx_ctorS {o : Nat × va_E} {r : va_W} (C : CG p s m args meth c cc nL Ts own T D A sz) {Nc : Nat} {ad : Nat → Nat → Nat → Nat} {h index n maxL k0 n0 : Nat} {raw : va_E} {y : MethodName} {bytes : ByteArray} {wsy : List Cond} {rm : Room} {As st0 : List Value} {w1 : va_W} (hM : CtS l y wsy rm D T Nc ad As h raw (sz + cells) w1 k0 n0) (cw : CallB R s args own index y bytes maxL none wsy rm k0 n0 n ∧ y.name = "<init>" ∧ (Cond.instanceMethod y).before args s = true) (hSt : Stt Nc ad s s.heap) (hcA : ∀ q, q < Nc → ¬ A q) (hNcs : Nc ≤ sz) (hn : As.length = n) (hst : st0 = As.reverse ++ .ref h :: st) (hcat : (st.map fun v => v.category).sum ≤ 8) (hf : cells + k0 ≤ R.cells ∧ slots + n0 ≤ R.slots) (d : decode cc pc = .ok (.invokespecial index, 3)) (k : GW p l e R s m args below meth c nL D A sz (cells + k0) (slots + n0) Q (o :: (w1 ++ r)) (pc + 3) L st) : GW p l e R s m args below meth c nL D A sz cells slots Q (o :: (h, raw) :: r) pc L st0 := by
  exact gw_perm (List.Perm.swap _ _ _) (gw_ctorS C hM cw hSt hcA hNcs hn hst hcat hf d (gw_perm List.perm_middle k))
end GWS
theorem wd_X6_o1 : (.methodLink RX6 3 objectInit : Cond) ∈ wsX6_init := by decide +kernel
theorem wd_X6_o2 : (.instanceMethod objectInit : Cond) ∈ wsX6_init := by decide +kernel
theorem wd_X6_o3 : (.code objectInit ⟨#[0xb1]⟩ 1 none : Cond) ∈ wsX6_init := by decide +kernel
theorem wd_X6_c9 : (.classLink RX6 9 RX1 : Cond) ∈ wsX6_init := by decide +kernel
theorem wd_X6_f11 : (.fieldLink RX6 11 "RecipeScheduler$ScriptReader" "commands" "[LRecipeScheduler$Command;" : Cond) ∈ wsX6_init := by decide +kernel
theorem ly_X6_i6 : ∀ w ∈ u_ws RX6 TX6 5, w ∈ wsX6_init := by decide +kernel
theorem wd_X6_aint : (.arrayClass .int : Cond) ∈ wsX6_init := by decide +kernel
theorem wd_X6_f17 : (.fieldLink RX6 17 "RecipeScheduler$ScriptReader" "steps" "[I" : Cond) ∈ wsX6_init := by decide +kernel
theorem wd_X6_f21 : (.fieldLink RX6 21 "RecipeScheduler$ScriptReader" "numbers" "[I" : Cond) ∈ wsX6_init := by decide +kernel
theorem wd_X6_f24 : (.fieldLink RX6 24 "RecipeScheduler$ScriptReader" "tokens" "LRecipeScheduler$Tokens;" : Cond) ∈ wsX6_init := by decide +kernel
theorem wd_X6_f28 : (.fieldLink RX6 28 "RecipeScheduler$Command" "PASS" "LRecipeScheduler$Command;" : Cond) ∈ wsX6_init := by decide +kernel
theorem scr_up (P i : Nat) (hi : i < 30) : va_up (fun j => if j < i then some P else none) (nI i).toNatClampNeg (some P) = (fun j => if j < i + 1 then some P else none) := by
  rw [nI_clamp (n := i) (by omega)]
  funext j
  unfold va_up
  by_cases h : j = i
  · subst h; simp
  · by_cases h2 : j < i
    · simp [h, h2, show j < i + 1 by omega]
    · simp [h, h2, show ¬ j < i + 1 by omega]
section
variable {p : Program} {l : Launch} {e : Env} {R : Room} {s : State} {m : MethodId} {args : Array Value} {below : List Frame} {meth : Method} {c : Code} {T : Nat → ClassId} {D : va_G} {A : Nat → Prop} {sz b cells slots : Nat} {Q : State → Prop}
theorem w_Script_loop (C : CG p s m args meth c cX6_init 3 wsX6_init RX6 T D A sz) {a1 P h : Nat} (hO : va_O "RecipeScheduler$Command" P A s s.heap) (hZ : va_Z "RecipeScheduler$Command" "PASS" "LRecipeScheduler$Command;" (.ref P) A s s.heap) (k : GW p l e R s m args below meth c 3 D A sz cells slots Q (wScript T a1 P h b) 57 [(2, .int (nI 30)), (0, .ref h), (1, .ref a1)] []) : ∀ n i : Nat, i + n = 30 → GW p l e R s m args below meth c 3 D A sz cells slots Q (wScriptI T a1 P i h b) 36 [(2, .int (nI i)), (0, .ref h), (1, .ref a1)] [] := by
  intro n
  induction n with
  | zero =>
    intro i hi
    obtain rfl : i = 30 := by omega
    refine gw_iload_n C dX6_init_36 rfl 0 rfl ?_
    refine gw_bipush C dX6_init_37 (v := 30) (by decide) ?_
    exact gw_icmp_ge C dX6_init_39 (tgt := 57) rfl (fun _ => k) (fun h9 => absurd (by decide) h9)
  | succ n ih =>
    intro i hi
    have hi30 : i < 30 := by omega
    refine gw_iload_n C dX6_init_36 rfl 0 rfl ?_
    refine gw_bipush C dX6_init_37 (v := 30) (by decide) ?_
    refine gw_icmp_ge C dX6_init_39 (tgt := 57) rfl (fun h9 => ?_) (fun _ => ?_)
    · exfalso
      have h8 := Int32.le_iff_toInt_le.mp h9
      rw [nI_toInt (n := i) (by omega), show (30 : Int32).toInt = 30 by decide] at h8
      omega
    refine gw_aload_n C dX6_init_42 rfl 1 rfl ?_
    refine gw_get C (ci := 6) (Cn := RX6) (Tc := TX6) (N := 5) (j := 1) (v := .ref b) 0 rfl ly_X6_i6 rfl (by decide) (cg_ts C _ wd_X6_f11) (fun _ h => h) rfl dX6_init_43 ?_
    refine gw_iload_n C dX6_init_46 rfl 0 rfl ?_
    refine gw_gets C hZ (cg_ts C _ wd_X6_f28) (fun _ h => h) dX6_init_47 ?_
    refine gw_astq C 3 (ws' := wScriptI T a1 P (i + 1) h b) rfl hO (vp_in_iff.mpr ?_) ?_ dX6_init_50 ?_
    · rw [nI_toInt (n := i) (by omega)]; omega
    · rw [scr_up P i hi30]; rfl
    refine gw_iinc C dX6_init_51 (kk := 0) rfl (v := nI (i + 1)) ?_ (by decide) rfl ?_
    · exact nI_1 i
    refine gw_goto C dX6_init_54 (tgt := 36) rfl ?_
    exact ih (i + 1) (by omega)
set_option maxHeartbeats 4000000 in
theorem w_Script (N0 : Nat) (ad : Nat → Nat → Nat → Nat) (a1 : Nat) {h sz : Nat} (C : CG p s m [.ref h, .ref a1].toArray meth c cX6_init 3 wsX6_init RX6 T D (Afr h sz) sz) (hSt : Stt N0 ad s s.heap) (hN : N0 ≤ h) (hN2 : N0 ≤ sz) (hi : meth.name = "<init>") (hr : meth.sig.returnType = none) (hl : l.stackTraces = false) : GW p l e (Rc 1 3 90) s m [.ref h, .ref a1].toArray below meth c 3 D (Afr h sz) sz 0 0 (MQ below (va_Qv (fun _ : Unit => True) (fun _ t => PM D (wScript T a1 (ad 20 0 0) h sz) t.heap ∧ t.heap.size = sz + 3 ∧ DM (Afr h sz) (wScript T a1 (ad 20 0 0) h sz)) (Afr h sz)) [.ref h, .ref a1].toArray s 3 90 (Afr h sz)) [(h, .inr (6, [.null, .null, .null, .null, .int 0]))] 0 [(0, .ref h), (1, .ref a1)] [] := by
  have hq : ∀ q : Nat, Afr h sz q → N0 ≤ q := fun q hq => by
    rcases hq with rfl | hq
    · exact hN
    · exact Nat.le_trans hN2 hq
  have hO : va_O "RecipeScheduler$Command" (ad 20 0 0) (Afr h sz) s s.heap := (hSt.2.2.1 0 (by decide)).narrow hq
  have hZ : va_Z "RecipeScheduler$Command" "PASS" "LRecipeScheduler$Command;" (.ref (ad 20 0 0)) (Afr h sz) s s.heap := hSt.2.2.2.2.2.2.2.2.2.narrow hq
  refine gw_aload_n C dX6_init_0 rfl 0 rfl ?_
  refine gw_objInit C wd_X6_o1 wd_X6_o2 wd_X6_o3 rfl ⟨(Nat.le_of_ble_eq_true rfl), (Nat.le_of_ble_eq_true rfl)⟩ dX6_init_1 ?_
  refine gw_aload_n C dX6_init_4 rfl 0 rfl ?_
  refine gw_bipush C dX6_init_5 (v := 30) (by decide) ?_
  refine gx_newq C (Cn := RX1) 6 rfl wd_X6_c9 (cg_aov C).2.1 (N := 30) (by decide) (by decide +kernel) (by decide) (Nat.le_of_ble_eq_true rfl) (Nat.le_of_ble_eq_true rfl) dX6_init_7 ?_
  refine gw_putF C hi (ci := 6) (Cn := RX6) (Tc := TX6) (N := 5) (j := 1) (ty := tyX6 1) (ws' := [(h, .inr (6, [.null, .ref sz, .null, .null, .int 0])), (sz, .inl (T 6, 30, .inr (.inr (.inr (.inr (fun _ => none))))))]) 0 rfl ly_X6_i6 rfl tyX6_ok nmX6 (by decide) (cg_ts C _ wd_X6_f11) (fun _ h => h) rfl rfl (by decide +kernel) rfl rfl (Nat.le_of_ble_eq_true rfl) rfl dX6_init_10 ?_
  refine gw_aload_n C dX6_init_13 rfl 0 rfl ?_
  refine gw_bipush C dX6_init_14 (v := 30) (by decide) ?_
  refine gx_newa C (atype := .int) 0 rfl wd_X6_aint (N := 30) (a0 := (30, .inl (fun _ => 0))) rfl (fun h => h) (by decide) (by decide +kernel) (by decide) (Nat.le_of_ble_eq_true rfl) (Nat.le_of_ble_eq_true rfl) dX6_init_16 ?_
  refine gw_putF C hi (ci := 6) (Cn := RX6) (Tc := TX6) (N := 5) (j := 2) (ty := tyX6 2) (ws' := [(h, .inr (6, [.null, .ref sz, .ref (sz + 1), .null, .int 0])), (sz + 1, .inl (T 0, 30, .inl (fun _ => 0))), (sz, .inl (T 6, 30, .inr (.inr (.inr (.inr (fun _ => none))))))]) 0 rfl ly_X6_i6 rfl tyX6_ok nmX6 (by decide) (cg_ts C _ wd_X6_f17) (fun _ h => h) rfl rfl (by decide +kernel) rfl rfl (Nat.le_of_ble_eq_true rfl) rfl dX6_init_18 ?_
  refine gw_aload_n C dX6_init_21 rfl 0 rfl ?_
  refine gw_bipush C dX6_init_22 (v := 30) (by decide) ?_
  refine gx_newa C (atype := .int) 0 rfl wd_X6_aint (N := 30) (a0 := (30, .inl (fun _ => 0))) rfl (fun h => h) (by decide) (by decide +kernel) (by decide) (Nat.le_of_ble_eq_true rfl) (Nat.le_of_ble_eq_true rfl) dX6_init_24 ?_
  refine gw_putF C hi (ci := 6) (Cn := RX6) (Tc := TX6) (N := 5) (j := 3) (ty := tyX6 3) (ws' := [(h, .inr (6, [.null, .ref sz, .ref (sz + 1), .ref (sz + 2), .int 0])), (sz + 2, .inl (T 0, 30, .inl (fun _ => 0))), (sz + 1, .inl (T 0, 30, .inl (fun _ => 0))), (sz, .inl (T 6, 30, .inr (.inr (.inr (.inr (fun _ => none))))))]) 0 rfl ly_X6_i6 rfl tyX6_ok nmX6 (by decide) (cg_ts C _ wd_X6_f21) (fun _ h => h) rfl rfl (by decide +kernel) rfl rfl (Nat.le_of_ble_eq_true rfl) rfl dX6_init_26 ?_
  refine gw_aload_n C dX6_init_29 rfl 0 rfl ?_
  refine gw_aload_n C dX6_init_30 rfl 1 rfl ?_
  refine gw_putF C hi (ci := 6) (Cn := RX6) (Tc := TX6) (N := 5) (j := 0) (ty := tyX6 0) (ws' := [(h, .inr (6, [.ref a1, .ref sz, .ref (sz + 1), .ref (sz + 2), .int 0])), (sz + 2, .inl (T 0, 30, .inl (fun _ => 0))), (sz + 1, .inl (T 0, 30, .inl (fun _ => 0))), (sz, .inl (T 6, 30, .inr (.inr (.inr (.inr (fun _ => none))))))]) 0 rfl ly_X6_i6 rfl tyX6_ok nmX6 (by decide) (cg_ts C _ wd_X6_f24) (fun _ h => h) rfl rfl (by decide +kernel) rfl rfl (Nat.le_of_ble_eq_true rfl) rfl dX6_init_31 ?_
  refine gw_iconst C dX6_init_34 (v := 0) rfl ?_
  refine gw_istore_n C dX6_init_35 rfl (by decide) rfl ?_
  refine gw_world (ws' := wScriptI T a1 (ad 20 0 0) 0 h sz) rfl ?_
  refine w_Script_loop C hO hZ ?_ 30 0 rfl
  exact gw_vret C hr () trivial (fun t h1 h2 h3 => ⟨h1, h3, h2⟩) dX6_init_57
end
theorem ct_Script {l : Launch} (D : va_G) (T : Nat → ClassId) (N0 : Nat) (ad : Nat → Nat → Nat → Nat) (a1 : Nat) (h sz : Nat) (hl : l.stackTraces = false) (hN : N0 ≤ h) (hN2 : N0 ≤ sz) : CtS l yX6_init wsX6_init (Rc 1 3 90) D T N0 ad [.ref a1] h (.inr (6, [.null, .null, .null, .null, .int 0])) sz (wScript T a1 (ad 20 0 0) h sz) 3 90 := by
  refine Met.ofW (cc := cX6_init) (maxL := 3) (ret := none) (by decide +kernel) rfl ?_
  intro p e s m args below meth c s₁ B hml hv
  obtain ⟨rfl, h1, h2, h3, h4, h5, h6⟩ := hv
  have hl2 := lv_entry (.ref h :: [.ref a1]) (n := 3) (Nat.le_of_ble_eq_true rfl)
  rw [lg_entry_eq]
  exact w_Script N0 ad a1 ⟨B.exec, B.bytes, hml, findClass_of_methodNamed B.named, atoms_spec (ws := wsX6_init) B.pre, h3, fun q hq => Or.inr (by rw [← h1]; exact hq), B.notSynchronized, h4, h5, h1⟩ h6 hN hN2 ((name_of_methodNamed B.named B.method).1.trans rfl) B.returns hl s.heap [] _ h2 ⟨List.pairwise_singleton _ _, fun q hq => by rw [List.mem_singleton.mp hq]; exact Or.inl rfl⟩ (by rw [h1]; rfl) va_S.rf hl2
