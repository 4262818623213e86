/-! PHASE 3: CONSTRUCTORS OF THE PARTS -/
abbrev Rc (d k n : Nat) : Room := { frames := d, cells := k, slots := n, locals := 28 * d }
theorem wd_X9_o1 : (.methodLink RX9 1 objectInit : Cond) ∈ wsX9_init := by decide +kernel
theorem wd_X9_o2 : (.instanceMethod objectInit : Cond) ∈ wsX9_init := by decide +kernel
theorem wd_X9_o3 : (.code objectInit ⟨#[0xb1]⟩ 1 none : Cond) ∈ wsX9_init := by decide +kernel
theorem wd_X9_abyte : (.arrayClass .byte : Cond) ∈ wsX9_init := by decide +kernel
theorem wd_X9_f7 : (.fieldLink RX9 7 "RecipeScheduler$Text" "bytes" "[B" : Cond) ∈ wsX9_init := by decide +kernel
theorem ly_X9_i9 : ∀ w ∈ u_ws RX9 TX9 2, w ∈ wsX9_init := by decide +kernel
def wText700 (T : Nat → ClassId) (h sz : Nat) : va_W := [(h, .inr (9, [.ref sz, .int 0])), (sz, .inl (T 1, 700, .inl (fun _ => 0)))]
section
variable {p : Program} {l : Launch} {e : Env} {s : State} {m : MethodId} {below : List Frame} {meth : Method} {c : Code} {T : Nat → ClassId} {D : va_G}
set_option maxHeartbeats 4000000 in
theorem w_Text700 {h sz : Nat} (C : CG p s m [.ref h, .int 700].toArray meth c cX9_init 2 wsX9_init RX9 T D (Afr h sz) sz) (hi : meth.name = "<init>") (hr : meth.sig.returnType = none) (hl : l.stackTraces = false) : GW p l e (Rc 1 1 700) s m [.ref h, .int 700].toArray below meth c 2 D (Afr h sz) sz 0 0 (MQ below (va_Qv (fun _ : Unit => True) (fun _ t => PM D (wText700 T h sz) t.heap ∧ t.heap.size = sz + 1 ∧ DM (Afr h sz) (wText700 T h sz)) (Afr h sz)) [.ref h, .int 700].toArray s 1 700 (Afr h sz)) [(h, .inr (9, [.null, .int 0]))] 0 [(0, .ref h), (1, .int 700)] [] := by
  refine gw_aload_n C dX9_init_0 rfl 0 rfl ?_
  refine gw_objInit C wd_X9_o1 wd_X9_o2 wd_X9_o3 rfl ⟨(Nat.le_of_ble_eq_true rfl), (Nat.le_of_ble_eq_true rfl)⟩ dX9_init_1 ?_
  refine gw_aload_n C dX9_init_4 rfl 0 rfl ?_
  refine gw_iload_n C dX9_init_5 rfl 1 rfl ?_
  refine gx_newa C (atype := .byte) 1 rfl wd_X9_abyte (N := 700) (a0 := (700, .inl (fun _ => 0))) rfl (fun h => h) (by decide) (by decide +kernel) (by decide) (Nat.le_of_ble_eq_true rfl) (Nat.le_of_ble_eq_true rfl) dX9_init_6 ?_
  refine gw_putF C hi (ci := 9) (Cn := RX9) (Tc := TX9) (N := 2) (j := 0) (ty := tyX9 0) (ws' := [(h, .inr (9, [.ref sz, .int 0])), (sz, .inl (T 1, 700, .inl (fun _ => 0)))]) 0 rfl ly_X9_i9 rfl tyX9_ok nmX9 (by decide) (cg_ts C _ wd_X9_f7) (fun _ h => h) rfl rfl (by decide +kernel) rfl rfl (Nat.le_of_ble_eq_true rfl) rfl dX9_init_8 ?_
  exact gw_vret C hr () trivial (fun t h1 h2 h3 => ⟨h1, h3, h2⟩) dX9_init_11
end
theorem ct_Text700 {l : Launch} (D : va_G) (T : Nat → ClassId) (h sz : Nat) (hl : l.stackTraces = false) : Ct l yX9_init wsX9_init (Rc 1 1 700) D T [.int 700] h (.inr (9, [.null, .int 0])) sz (wText700 T h sz) 1 700 :=
  gw_body (by decide +kernel) rfl rfl (Nat.le_of_ble_eq_true rfl) (fun p e s m below meth c C hi hr => w_Text700 C hi hr hl)
def wText125 (T : Nat → ClassId) (h sz : Nat) : va_W := [(h, .inr (9, [.ref sz, .int 0])), (sz, .inl (T 1, 125, .inl (fun _ => 0)))]
section
variable {p : Program} {l : Launch} {e : Env} {s : State} {m : MethodId} {below : List Frame} {meth : Method} {c : Code} {T : Nat → ClassId} {D : va_G}
set_option maxHeartbeats 4000000 in
theorem w_Text125 {h sz : Nat} (C : CG p s m [.ref h, .int 125].toArray meth c cX9_init 2 wsX9_init RX9 T D (Afr h sz) sz) (hi : meth.name = "<init>") (hr : meth.sig.returnType = none) (hl : l.stackTraces = false) : GW p l e (Rc 1 1 125) s m [.ref h, .int 125].toArray below meth c 2 D (Afr h sz) sz 0 0 (MQ below (va_Qv (fun _ : Unit => True) (fun _ t => PM D (wText125 T h sz) t.heap ∧ t.heap.size = sz + 1 ∧ DM (Afr h sz) (wText125 T h sz)) (Afr h sz)) [.ref h, .int 125].toArray s 1 125 (Afr h sz)) [(h, .inr (9, [.null, .int 0]))] 0 [(0, .ref h), (1, .int 125)] [] := by
  refine gw_aload_n C dX9_init_0 rfl 0 rfl ?_
  refine gw_objInit C wd_X9_o1 wd_X9_o2 wd_X9_o3 rfl ⟨(Nat.le_of_ble_eq_true rfl), (Nat.le_of_ble_eq_true rfl)⟩ dX9_init_1 ?_
  refine gw_aload_n C dX9_init_4 rfl 0 rfl ?_
  refine gw_iload_n C dX9_init_5 rfl 1 rfl ?_
  refine gx_newa C (atype := .byte) 1 rfl wd_X9_abyte (N := 125) (a0 := (125, .inl (fun _ => 0))) rfl (fun h => h) (by decide) (by decide +kernel) (by decide) (Nat.le_of_ble_eq_true rfl) (Nat.le_of_ble_eq_true rfl) dX9_init_6 ?_
  refine gw_putF C hi (ci := 9) (Cn := RX9) (Tc := TX9) (N := 2) (j := 0) (ty := tyX9 0) (ws' := [(h, .inr (9, [.ref sz, .int 0])), (sz, .inl (T 1, 125, .inl (fun _ => 0)))]) 0 rfl ly_X9_i9 rfl tyX9_ok nmX9 (by decide) (cg_ts C _ wd_X9_f7) (fun _ h => h) rfl rfl (by decide +kernel) rfl rfl (Nat.le_of_ble_eq_true rfl) rfl dX9_init_8 ?_
  exact gw_vret C hr () trivial (fun t h1 h2 h3 => ⟨h1, h3, h2⟩) dX9_init_11
end
theorem ct_Text125 {l : Launch} (D : va_G) (T : Nat → ClassId) (h sz : Nat) (hl : l.stackTraces = false) : Ct l yX9_init wsX9_init (Rc 1 1 125) D T [.int 125] h (.inr (9, [.null, .int 0])) sz (wText125 T h sz) 1 125 :=
  gw_body (by decide +kernel) rfl rfl (Nat.le_of_ble_eq_true rfl) (fun p e s m below meth c C hi hr => w_Text125 C hi hr hl)
theorem wd_X10_o1 : (.methodLink RX10 3 objectInit : Cond) ∈ wsX10_init := by decide +kernel
theorem wd_X10_o2 : (.instanceMethod objectInit : Cond) ∈ wsX10_init := by decide +kernel
theorem wd_X10_o3 : (.code objectInit ⟨#[0xb1]⟩ 1 none : Cond) ∈ wsX10_init := by decide +kernel
theorem wd_X10_f9 : (.fieldLink RX10 9 "RecipeScheduler$Tokens" "text" "LRecipeScheduler$Text;" : Cond) ∈ wsX10_init := by decide +kernel
theorem ly_X10_i10 : ∀ w ∈ u_ws RX10 TX10 6, w ∈ wsX10_init := by decide +kernel
theorem wd_X10_f15 : (.fieldLink RX10 15 "RecipeScheduler$Tokens" "errorPosition" "I" : Cond) ∈ wsX10_init := by decide +kernel
def wTokens (T : Nat → ClassId) (a1 : Nat) (h sz : Nat) : va_W := [(h, .inr (10, [.ref a1, .int 0, .int 0, .int 0, .int 0, .int (-1)]))]
section
variable {p : Program} {l : Launch} {e : Env} {s : State} {m : MethodId} {below : List Frame} {meth : Method} {c : Code} {T : Nat → ClassId} {D : va_G}
set_option maxHeartbeats 4000000 in
theorem w_Tokens (a1 : Nat) {h sz : Nat} (C : CG p s m [.ref h, .ref a1].toArray meth c cX10_init 2 wsX10_init RX10 T D (Afr h sz) sz) (hi : meth.name = "<init>") (hr : meth.sig.returnType = none) (hl : l.stackTraces = false) : GW p l e (Rc 1 0 0) s m [.ref h, .ref a1].toArray below meth c 2 D (Afr h sz) sz 0 0 (MQ below (va_Qv (fun _ : Unit => True) (fun _ t => PM D (wTokens T a1 h sz) t.heap ∧ t.heap.size = sz + 0 ∧ DM (Afr h sz) (wTokens T a1 h sz)) (Afr h sz)) [.ref h, .ref a1].toArray s 0 0 (Afr h sz)) [(h, .inr (10, [.null, .int 0, .int 0, .int 0, .int 0, .int 0]))] 0 [(0, .ref h), (1, .ref a1)] [] := by
  refine gw_aload_n C dX10_init_0 rfl 0 rfl ?_
  refine gw_objInit C wd_X10_o1 wd_X10_o2 wd_X10_o3 rfl ⟨(Nat.le_of_ble_eq_true rfl), (Nat.le_of_ble_eq_true rfl)⟩ dX10_init_1 ?_
  refine gw_aload_n C dX10_init_4 rfl 0 rfl ?_
  refine gw_aload_n C dX10_init_5 rfl 1 rfl ?_
  refine gw_putF C hi (ci := 10) (Cn := RX10) (Tc := TX10) (N := 6) (j := 0) (ty := tyX10 0) (ws' := [(h, .inr (10, [.ref a1, .int 0, .int 0, .int 0, .int 0, .int 0]))]) 0 rfl ly_X10_i10 rfl tyX10_ok nmX10 (by decide) (cg_ts C _ wd_X10_f9) (fun _ h => h) rfl rfl (by decide +kernel) rfl rfl (Nat.le_of_ble_eq_true rfl) rfl dX10_init_6 ?_
  refine gw_aload_n C dX10_init_9 rfl 0 rfl ?_
  refine gw_iconst C dX10_init_10 (v := -1) rfl ?_
  refine gw_put C (ci := 10) (Cn := RX10) (Tc := TX10) (N := 6) (j := 5) (ty := tyX10 5) (ws' := [(h, .inr (10, [.ref a1, .int 0, .int 0, .int 0, .int 0, .int (-1)]))]) 0 rfl ly_X10_i10 rfl tyX10_ok nmX10 (by decide) (cg_ts C _ wd_X10_f15) (fun _ h => h) rfl (by decide +kernel) rfl rfl (Nat.le_of_ble_eq_true rfl) rfl dX10_init_11 ?_
  exact gw_vret C hr () trivial (fun t h1 h2 h3 => ⟨h1, h3, h2⟩) dX10_init_14
end
theorem ct_Tokens {l : Launch} (D : va_G) (T : Nat → ClassId) (a1 : Nat) (h sz : Nat) (hl : l.stackTraces = false) : Ct l yX10_init wsX10_init (Rc 1 0 0) D T [.ref a1] h (.inr (10, [.null, .int 0, .int 0, .int 0, .int 0, .int 0])) sz (wTokens T a1 h sz) 0 0 :=
  gw_body (by decide +kernel) rfl rfl (Nat.le_of_ble_eq_true rfl) (fun p e s m below meth c C hi hr => w_Tokens a1 C hi hr hl)
theorem wd_X7_o1 : (.methodLink RX7 3 objectInit : Cond) ∈ wsX7_init := by decide +kernel
theorem wd_X7_o2 : (.instanceMethod objectInit : Cond) ∈ wsX7_init := by decide +kernel
theorem wd_X7_o3 : (.code objectInit ⟨#[0xb1]⟩ 1 none : Cond) ∈ wsX7_init := by decide +kernel
theorem wd_X7_f9 : (.fieldLink RX7 9 "RecipeScheduler$SetupReader" "tokens" "LRecipeScheduler$Tokens;" : Cond) ∈ wsX7_init := by decide +kernel
theorem ly_X7_i7 : ∀ w ∈ u_ws RX7 TX7 1, w ∈ wsX7_init := by decide +kernel
def wSetup (T : Nat → ClassId) (a1 : Nat) (h sz : Nat) : va_W := [(h, .inr (7, [.ref a1]))]
section
variable {p : Program} {l : Launch} {e : Env} {s : State} {m : MethodId} {below : List Frame} {meth : Method} {c : Code} {T : Nat → ClassId} {D : va_G}
set_option maxHeartbeats 4000000 in
theorem w_Setup (a1 : Nat) {h sz : Nat} (C : CG p s m [.ref h, .ref a1].toArray meth c cX7_init 2 wsX7_init RX7 T D (Afr h sz) sz) (hi : meth.name = "<init>") (hr : meth.sig.returnType = none) (hl : l.stackTraces = false) : GW p l e (Rc 1 0 0) s m [.ref h, .ref a1].toArray below meth c 2 D (Afr h sz) sz 0 0 (MQ below (va_Qv (fun _ : Unit => True) (fun _ t => PM D (wSetup T a1 h sz) t.heap ∧ t.heap.size = sz + 0 ∧ DM (Afr h sz) (wSetup T a1 h sz)) (Afr h sz)) [.ref h, .ref a1].toArray s 0 0 (Afr h sz)) [(h, .inr (7, [.null]))] 0 [(0, .ref h), (1, .ref a1)] [] := by
  refine gw_aload_n C dX7_init_0 rfl 0 rfl ?_
  refine gw_objInit C wd_X7_o1 wd_X7_o2 wd_X7_o3 rfl ⟨(Nat.le_of_ble_eq_true rfl), (Nat.le_of_ble_eq_true rfl)⟩ dX7_init_1 ?_
  refine gw_aload_n C dX7_init_4 rfl 0 rfl ?_
  refine gw_aload_n C dX7_init_5 rfl 1 rfl ?_
  refine gw_putF C hi (ci := 7) (Cn := RX7) (Tc := TX7) (N := 1) (j := 0) (ty := tyX7 0) (ws' := [(h, .inr (7, [.ref a1]))]) 0 rfl ly_X7_i7 rfl tyX7_ok nmX7 (by decide) (cg_ts C _ wd_X7_f9) (fun _ h => h) rfl rfl (by decide +kernel) rfl rfl (Nat.le_of_ble_eq_true rfl) rfl dX7_init_6 ?_
  exact gw_vret C hr () trivial (fun t h1 h2 h3 => ⟨h1, h3, h2⟩) dX7_init_9
end
theorem ct_Setup {l : Launch} (D : va_G) (T : Nat → ClassId) (a1 : Nat) (h sz : Nat) (hl : l.stackTraces = false) : Ct l yX7_init wsX7_init (Rc 1 0 0) D T [.ref a1] h (.inr (7, [.null])) sz (wSetup T a1 h sz) 0 0 :=
  gw_body (by decide +kernel) rfl rfl (Nat.le_of_ble_eq_true rfl) (fun p e s m below meth c C hi hr => w_Setup a1 C hi hr hl)
theorem wd_X4_o1 : (.methodLink RX4 3 objectInit : Cond) ∈ wsX4_init := by decide +kernel
theorem wd_X4_o2 : (.instanceMethod objectInit : Cond) ∈ wsX4_init := by decide +kernel
theorem wd_X4_o3 : (.code objectInit ⟨#[0xb1]⟩ 1 none : Cond) ∈ wsX4_init := by decide +kernel
theorem wd_X4_c9 : (.classLink RX4 9 "[[B" : Cond) ∈ wsX4_init := by decide +kernel
theorem wd_X4_abyte : (.arrayClass .byte : Cond) ∈ wsX4_init := by decide +kernel
theorem wd_X4_f11 : (.fieldLink RX4 11 "RecipeScheduler$Names" "letters" "[[B" : Cond) ∈ wsX4_init := by decide +kernel
theorem ly_X4_i4 : ∀ w ∈ u_ws RX4 TX4 3, w ∈ wsX4_init := by decide +kernel
theorem wd_X4_aint : (.arrayClass .int : Cond) ∈ wsX4_init := by decide +kernel
theorem wd_X4_f16 : (.fieldLink RX4 16 "RecipeScheduler$Names" "lengths" "[I" : Cond) ∈ wsX4_init := by decide +kernel
def wNames4 (T : Nat → ClassId) (h sz : Nat) : va_W := (h, .inr (4, [.ref sz, .ref (sz + 5), .int 0])) :: (sz + 5, .inl (T 0, 4, .inl (fun _ => 0))) :: (sz, .inl (T 4, 4, .inr (.inr (.inr (.inr (fun j => some (sz + 1 + j))))))) :: rowsW (T 1) (6, .inl (fun _ => 0)) (sz + 1) 4
section
variable {p : Program} {l : Launch} {e : Env} {s : State} {m : MethodId} {below : List Frame} {meth : Method} {c : Code} {T : Nat → ClassId} {D : va_G}
set_option maxHeartbeats 4000000 in
theorem w_Names4 {h sz : Nat} (C : CG p s m [.ref h, .int 4].toArray meth c cX4_init 2 wsX4_init RX4 T D (Afr h sz) sz) (hi : meth.name = "<init>") (hr : meth.sig.returnType = none) (hl : l.stackTraces = false) : GW p l e (Rc 1 6 32) s m [.ref h, .int 4].toArray below meth c 2 D (Afr h sz) sz 0 0 (MQ below (va_Qv (fun _ : Unit => True) (fun _ t => PM D (wNames4 T h sz) t.heap ∧ t.heap.size = sz + 6 ∧ DM (Afr h sz) (wNames4 T h sz)) (Afr h sz)) [.ref h, .int 4].toArray s 6 32 (Afr h sz)) [(h, .inr (4, [.null, .null, .int 0]))] 0 [(0, .ref h), (1, .int 4)] [] := by
  refine gw_aload_n C dX4_init_0 rfl 0 rfl ?_
  refine gw_objInit C wd_X4_o1 wd_X4_o2 wd_X4_o3 rfl ⟨(Nat.le_of_ble_eq_true rfl), (Nat.le_of_ble_eq_true rfl)⟩ dX4_init_1 ?_
  refine gw_aload_n C dX4_init_4 rfl 0 rfl ?_
  refine gw_iload_n C dX4_init_5 rfl 1 rfl ?_
  refine gw_bipush C dX4_init_6 (v := 6) (by decide) ?_
  refine gx_mna C (ty := .byte) 1 4 rfl rfl (fun h => h) rfl wd_X4_c9 (cg_aov C).2.2.1 wd_X4_abyte (N := 4) (M := 6) (b0 := (6, .inl (fun _ => 0))) rfl (by decide) (by decide) (by decide +kernel) (by decide +kernel) (by decide) (by decide) (by decide) rfl rfl (Nat.le_of_ble_eq_true rfl) (Nat.le_of_ble_eq_true rfl) dX4_init_8 ?_
  refine gw_putF C hi (ci := 4) (Cn := RX4) (Tc := TX4) (N := 3) (j := 0) (ty := tyX4 0) (ws' := (h, .inr (4, [.ref sz, .null, .int 0])) :: (sz, .inl (T 4, 4, .inr (.inr (.inr (.inr (fun j => some (sz + 1 + j))))))) :: rowsW (T 1) (6, .inl (fun _ => 0)) (sz + 1) 4) 0 rfl ly_X4_i4 rfl tyX4_ok nmX4 (by decide) (cg_ts C _ wd_X4_f11) (fun _ h => h) rfl rfl (by decide +kernel) rfl rfl (Nat.le_of_ble_eq_true rfl) rfl dX4_init_12 ?_
  refine gw_aload_n C dX4_init_15 rfl 0 rfl ?_
  refine gw_iload_n C dX4_init_16 rfl 1 rfl ?_
  refine gx_newa C (atype := .int) 0 rfl wd_X4_aint (N := 4) (a0 := (4, .inl (fun _ => 0))) rfl (fun h => h) (by decide) (by decide +kernel) (by decide) (Nat.le_of_ble_eq_true rfl) (Nat.le_of_ble_eq_true rfl) dX4_init_17 ?_
  refine gw_putF C hi (ci := 4) (Cn := RX4) (Tc := TX4) (N := 3) (j := 1) (ty := tyX4 1) (ws' := (h, .inr (4, [.ref sz, .ref (sz + 5), .int 0])) :: (sz + 5, .inl (T 0, 4, .inl (fun _ => 0))) :: (sz, .inl (T 4, 4, .inr (.inr (.inr (.inr (fun j => some (sz + 1 + j))))))) :: rowsW (T 1) (6, .inl (fun _ => 0)) (sz + 1) 4) 0 rfl ly_X4_i4 rfl tyX4_ok nmX4 (by decide) (cg_ts C _ wd_X4_f16) (fun _ h => h) rfl rfl (by decide +kernel) rfl rfl (Nat.le_of_ble_eq_true rfl) rfl dX4_init_19 ?_
  exact gw_vret C hr () trivial (fun t h1 h2 h3 => ⟨h1, h3, h2⟩) dX4_init_22
end
theorem ct_Names4 {l : Launch} (D : va_G) (T : Nat → ClassId) (h sz : Nat) (hl : l.stackTraces = false) : Ct l yX4_init wsX4_init (Rc 1 6 32) D T [.int 4] h (.inr (4, [.null, .null, .int 0])) sz (wNames4 T h sz) 6 32 :=
  gw_body (by decide +kernel) rfl rfl (Nat.le_of_ble_eq_true rfl) (fun p e s m below meth c C hi hr => w_Names4 C hi hr hl)
def wNames14 (T : Nat → ClassId) (h sz : Nat) : va_W := (h, .inr (4, [.ref sz, .ref (sz + 15), .int 0])) :: (sz + 15, .inl (T 0, 14, .inl (fun _ => 0))) :: (sz, .inl (T 4, 14, .inr (.inr (.inr (.inr (fun j => some (sz + 1 + j))))))) :: rowsW (T 1) (6, .inl (fun _ => 0)) (sz + 1) 14
section
variable {p : Program} {l : Launch} {e : Env} {s : State} {m : MethodId} {below : List Frame} {meth : Method} {c : Code} {T : Nat → ClassId} {D : va_G}
set_option maxHeartbeats 4000000 in
theorem w_Names14 {h sz : Nat} (C : CG p s m [.ref h, .int 14].toArray meth c cX4_init 2 wsX4_init RX4 T D (Afr h sz) sz) (hi : meth.name = "<init>") (hr : meth.sig.returnType = none) (hl : l.stackTraces = false) : GW p l e (Rc 1 16 112) s m [.ref h, .int 14].toArray below meth c 2 D (Afr h sz) sz 0 0 (MQ below (va_Qv (fun _ : Unit => True) (fun _ t => PM D (wNames14 T h sz) t.heap ∧ t.heap.size = sz + 16 ∧ DM (Afr h sz) (wNames14 T h sz)) (Afr h sz)) [.ref h, .int 14].toArray s 16 112 (Afr h sz)) [(h, .inr (4, [.null, .null, .int 0]))] 0 [(0, .ref h), (1, .int 14)] [] := by
  refine gw_aload_n C dX4_init_0 rfl 0 rfl ?_
  refine gw_objInit C wd_X4_o1 wd_X4_o2 wd_X4_o3 rfl ⟨(Nat.le_of_ble_eq_true rfl), (Nat.le_of_ble_eq_true rfl)⟩ dX4_init_1 ?_
  refine gw_aload_n C dX4_init_4 rfl 0 rfl ?_
  refine gw_iload_n C dX4_init_5 rfl 1 rfl ?_
  refine gw_bipush C dX4_init_6 (v := 6) (by decide) ?_
  refine gx_mna C (ty := .byte) 1 4 rfl rfl (fun h => h) rfl wd_X4_c9 (cg_aov C).2.2.1 wd_X4_abyte (N := 14) (M := 6) (b0 := (6, .inl (fun _ => 0))) rfl (by decide) (by decide) (by decide +kernel) (by decide +kernel) (by decide) (by decide) (by decide) rfl rfl (Nat.le_of_ble_eq_true rfl) (Nat.le_of_ble_eq_true rfl) dX4_init_8 ?_
  refine gw_putF C hi (ci := 4) (Cn := RX4) (Tc := TX4) (N := 3) (j := 0) (ty := tyX4 0) (ws' := (h, .inr (4, [.ref sz, .null, .int 0])) :: (sz, .inl (T 4, 14, .inr (.inr (.inr (.inr (fun j => some (sz + 1 + j))))))) :: rowsW (T 1) (6, .inl (fun _ => 0)) (sz + 1) 14) 0 rfl ly_X4_i4 rfl tyX4_ok nmX4 (by decide) (cg_ts C _ wd_X4_f11) (fun _ h => h) rfl rfl (by decide +kernel) rfl rfl (Nat.le_of_ble_eq_true rfl) rfl dX4_init_12 ?_
  refine gw_aload_n C dX4_init_15 rfl 0 rfl ?_
  refine gw_iload_n C dX4_init_16 rfl 1 rfl ?_
  refine gx_newa C (atype := .int) 0 rfl wd_X4_aint (N := 14) (a0 := (14, .inl (fun _ => 0))) rfl (fun h => h) (by decide) (by decide +kernel) (by decide) (Nat.le_of_ble_eq_true rfl) (Nat.le_of_ble_eq_true rfl) dX4_init_17 ?_
  refine gw_putF C hi (ci := 4) (Cn := RX4) (Tc := TX4) (N := 3) (j := 1) (ty := tyX4 1) (ws' := (h, .inr (4, [.ref sz, .ref (sz + 15), .int 0])) :: (sz + 15, .inl (T 0, 14, .inl (fun _ => 0))) :: (sz, .inl (T 4, 14, .inr (.inr (.inr (.inr (fun j => some (sz + 1 + j))))))) :: rowsW (T 1) (6, .inl (fun _ => 0)) (sz + 1) 14) 0 rfl ly_X4_i4 rfl tyX4_ok nmX4 (by decide) (cg_ts C _ wd_X4_f16) (fun _ h => h) rfl rfl (by decide +kernel) rfl rfl (Nat.le_of_ble_eq_true rfl) rfl dX4_init_19 ?_
  exact gw_vret C hr () trivial (fun t h1 h2 h3 => ⟨h1, h3, h2⟩) dX4_init_22
end
theorem ct_Names14 {l : Launch} (D : va_G) (T : Nat → ClassId) (h sz : Nat) (hl : l.stackTraces = false) : Ct l yX4_init wsX4_init (Rc 1 16 112) D T [.int 14] h (.inr (4, [.null, .null, .int 0])) sz (wNames14 T h sz) 16 112 :=
  gw_body (by decide +kernel) rfl rfl (Nat.le_of_ble_eq_true rfl) (fun p e s m below meth c C hi hr => w_Names14 C hi hr hl)
theorem wd_X8_o1 : (.methodLink RX8 3 objectInit : Cond) ∈ wsX8_init := by decide +kernel
theorem wd_X8_o2 : (.instanceMethod objectInit : Cond) ∈ wsX8_init := by decide +kernel
theorem wd_X8_o3 : (.code objectInit ⟨#[0xb1]⟩ 1 none : Cond) ∈ wsX8_init := by decide +kernel
theorem wd_X8_aint : (.arrayClass .int : Cond) ∈ wsX8_init := by decide +kernel
theorem wd_X8_f9 : (.fieldLink RX8 9 "RecipeScheduler$State" "duration" "[I" : Cond) ∈ wsX8_init := by decide +kernel
theorem ly_X8_i8 : ∀ w ∈ u_ws RX8 TX8 15, w ∈ wsX8_init := by decide +kernel
theorem wd_X8_f15 : (.fieldLink RX8 15 "RecipeScheduler$State" "remaining" "[I" : Cond) ∈ wsX8_init := by decide +kernel
theorem wd_X8_f18 : (.fieldLink RX8 18 "RecipeScheduler$State" "age" "[I" : Cond) ∈ wsX8_init := by decide +kernel
theorem wd_X8_f21 : (.fieldLink RX8 21 "RecipeScheduler$State" "starts" "[I" : Cond) ∈ wsX8_init := by decide +kernel
theorem wd_X8_f24 : (.fieldLink RX8 24 "RecipeScheduler$State" "completions" "[I" : Cond) ∈ wsX8_init := by decide +kernel
theorem wd_X8_f27 : (.fieldLink RX8 27 "RecipeScheduler$State" "burns" "[I" : Cond) ∈ wsX8_init := by decide +kernel
def wState (T : Nat → ClassId) (h sz : Nat) : va_W := [(h, .inr (8, [.int 0, .int 0, .int 0, .int 0, .int 0, .int 0, .int 0, .int 0, .int 0, .ref sz, .ref (sz + 1), .ref (sz + 2), .ref (sz + 3), .ref (sz + 4), .ref (sz + 5)])), (sz + 5, .inl (T 0, 14, .inl (fun _ => 0))), (sz + 4, .inl (T 0, 14, .inl (fun _ => 0))), (sz + 3, .inl (T 0, 14, .inl (fun _ => 0))), (sz + 2, .inl (T 0, 14, .inl (fun _ => 0))), (sz + 1, .inl (T 0, 14, .inl (fun _ => 0))), (sz, .inl (T 0, 14, .inl (fun _ => 0)))]
section
variable {p : Program} {l : Launch} {e : Env} {s : State} {m : MethodId} {below : List Frame} {meth : Method} {c : Code} {T : Nat → ClassId} {D : va_G}
set_option maxHeartbeats 4000000 in
theorem w_State {h sz : Nat} (C : CG p s m [.ref h].toArray meth c cX8_init 1 wsX8_init RX8 T D (Afr h sz) sz) (hi : meth.name = "<init>") (hr : meth.sig.returnType = none) (hl : l.stackTraces = false) : GW p l e (Rc 1 6 84) s m [.ref h].toArray below meth c 1 D (Afr h sz) sz 0 0 (MQ below (va_Qv (fun _ : Unit => True) (fun _ t => PM D (wState T h sz) t.heap ∧ t.heap.size = sz + 6 ∧ DM (Afr h sz) (wState T h sz)) (Afr h sz)) [.ref h].toArray s 6 84 (Afr h sz)) [(h, .inr (8, [.int 0, .int 0, .int 0, .int 0, .int 0, .int 0, .int 0, .int 0, .int 0, .null, .null, .null, .null, .null, .null]))] 0 [(0, .ref h)] [] := by
  refine gw_aload_n C dX8_init_0 rfl 0 rfl ?_
  refine gw_objInit C wd_X8_o1 wd_X8_o2 wd_X8_o3 rfl ⟨(Nat.le_of_ble_eq_true rfl), (Nat.le_of_ble_eq_true rfl)⟩ dX8_init_1 ?_
  refine gw_aload_n C dX8_init_4 rfl 0 rfl ?_
  refine gw_bipush C dX8_init_5 (v := 14) (by decide) ?_
  refine gx_newa C (atype := .int) 0 rfl wd_X8_aint (N := 14) (a0 := (14, .inl (fun _ => 0))) rfl (fun h => h) (by decide) (by decide +kernel) (by decide) (Nat.le_of_ble_eq_true rfl) (Nat.le_of_ble_eq_true rfl) dX8_init_7 ?_
  refine gw_putF C hi (ci := 8) (Cn := RX8) (Tc := TX8) (N := 15) (j := 9) (ty := tyX8 9) (ws' := [(h, .inr (8, [.int 0, .int 0, .int 0, .int 0, .int 0, .int 0, .int 0, .int 0, .int 0, .ref sz, .null, .null, .null, .null, .null])), (sz, .inl (T 0, 14, .inl (fun _ => 0)))]) 0 rfl ly_X8_i8 rfl tyX8_ok nmX8 (by decide) (cg_ts C _ wd_X8_f9) (fun _ h => h) rfl rfl (by decide +kernel) rfl rfl (Nat.le_of_ble_eq_true rfl) rfl dX8_init_9 ?_
  refine gw_aload_n C dX8_init_12 rfl 0 rfl ?_
  refine gw_bipush C dX8_init_13 (v := 14) (by decide) ?_
  refine gx_newa C (atype := .int) 0 rfl wd_X8_aint (N := 14) (a0 := (14, .inl (fun _ => 0))) rfl (fun h => h) (by decide) (by decide +kernel) (by decide) (Nat.le_of_ble_eq_true rfl) (Nat.le_of_ble_eq_true rfl) dX8_init_15 ?_
  refine gw_putF C hi (ci := 8) (Cn := RX8) (Tc := TX8) (N := 15) (j := 10) (ty := tyX8 10) (ws' := [(h, .inr (8, [.int 0, .int 0, .int 0, .int 0, .int 0, .int 0, .int 0, .int 0, .int 0, .ref sz, .ref (sz + 1), .null, .null, .null, .null])), (sz + 1, .inl (T 0, 14, .inl (fun _ => 0))), (sz, .inl (T 0, 14, .inl (fun _ => 0)))]) 0 rfl ly_X8_i8 rfl tyX8_ok nmX8 (by decide) (cg_ts C _ wd_X8_f15) (fun _ h => h) rfl rfl (by decide +kernel) rfl rfl (Nat.le_of_ble_eq_true rfl) rfl dX8_init_17 ?_
  refine gw_aload_n C dX8_init_20 rfl 0 rfl ?_
  refine gw_bipush C dX8_init_21 (v := 14) (by decide) ?_
  refine gx_newa C (atype := .int) 0 rfl wd_X8_aint (N := 14) (a0 := (14, .inl (fun _ => 0))) rfl (fun h => h) (by decide) (by decide +kernel) (by decide) (Nat.le_of_ble_eq_true rfl) (Nat.le_of_ble_eq_true rfl) dX8_init_23 ?_
  refine gw_putF C hi (ci := 8) (Cn := RX8) (Tc := TX8) (N := 15) (j := 11) (ty := tyX8 11) (ws' := [(h, .inr (8, [.int 0, .int 0, .int 0, .int 0, .int 0, .int 0, .int 0, .int 0, .int 0, .ref sz, .ref (sz + 1), .ref (sz + 2), .null, .null, .null])), (sz + 2, .inl (T 0, 14, .inl (fun _ => 0))), (sz + 1, .inl (T 0, 14, .inl (fun _ => 0))), (sz, .inl (T 0, 14, .inl (fun _ => 0)))]) 0 rfl ly_X8_i8 rfl tyX8_ok nmX8 (by decide) (cg_ts C _ wd_X8_f18) (fun _ h => h) rfl rfl (by decide +kernel) rfl rfl (Nat.le_of_ble_eq_true rfl) rfl dX8_init_25 ?_
  refine gw_aload_n C dX8_init_28 rfl 0 rfl ?_
  refine gw_bipush C dX8_init_29 (v := 14) (by decide) ?_
  refine gx_newa C (atype := .int) 0 rfl wd_X8_aint (N := 14) (a0 := (14, .inl (fun _ => 0))) rfl (fun h => h) (by decide) (by decide +kernel) (by decide) (Nat.le_of_ble_eq_true rfl) (Nat.le_of_ble_eq_true rfl) dX8_init_31 ?_
  refine gw_putF C hi (ci := 8) (Cn := RX8) (Tc := TX8) (N := 15) (j := 12) (ty := tyX8 12) (ws' := [(h, .inr (8, [.int 0, .int 0, .int 0, .int 0, .int 0, .int 0, .int 0, .int 0, .int 0, .ref sz, .ref (sz + 1), .ref (sz + 2), .ref (sz + 3), .null, .null])), (sz + 3, .inl (T 0, 14, .inl (fun _ => 0))), (sz + 2, .inl (T 0, 14, .inl (fun _ => 0))), (sz + 1, .inl (T 0, 14, .inl (fun _ => 0))), (sz, .inl (T 0, 14, .inl (fun _ => 0)))]) 0 rfl ly_X8_i8 rfl tyX8_ok nmX8 (by decide) (cg_ts C _ wd_X8_f21) (fun _ h => h) rfl rfl (by decide +kernel) rfl rfl (Nat.le_of_ble_eq_true rfl) rfl dX8_init_33 ?_
  refine gw_aload_n C dX8_init_36 rfl 0 rfl ?_
  refine gw_bipush C dX8_init_37 (v := 14) (by decide) ?_
  refine gx_newa C (atype := .int) 0 rfl wd_X8_aint (N := 14) (a0 := (14, .inl (fun _ => 0))) rfl (fun h => h) (by decide) (by decide +kernel) (by decide) (Nat.le_of_ble_eq_true rfl) (Nat.le_of_ble_eq_true rfl) dX8_init_39 ?_
  refine gw_putF C hi (ci := 8) (Cn := RX8) (Tc := TX8) (N := 15) (j := 13) (ty := tyX8 13) (ws' := [(h, .inr (8, [.int 0, .int 0, .int 0, .int 0, .int 0, .int 0, .int 0, .int 0, .int 0, .ref sz, .ref (sz + 1), .ref (sz + 2), .ref (sz + 3), .ref (sz + 4), .null])), (sz + 4, .inl (T 0, 14, .inl (fun _ => 0))), (sz + 3, .inl (T 0, 14, .inl (fun _ => 0))), (sz + 2, .inl (T 0, 14, .inl (fun _ => 0))), (sz + 1, .inl (T 0, 14, .inl (fun _ => 0))), (sz, .inl (T 0, 14, .inl (fun _ => 0)))]) 0 rfl ly_X8_i8 rfl tyX8_ok nmX8 (by decide) (cg_ts C _ wd_X8_f24) (fun _ h => h) rfl rfl (by decide +kernel) rfl rfl (Nat.le_of_ble_eq_true rfl) rfl dX8_init_41 ?_
  refine gw_aload_n C dX8_init_44 rfl 0 rfl ?_
  refine gw_bipush C dX8_init_45 (v := 14) (by decide) ?_
  refine gx_newa C (atype := .int) 0 rfl wd_X8_aint (N := 14) (a0 := (14, .inl (fun _ => 0))) rfl (fun h => h) (by decide) (by decide +kernel) (by decide) (Nat.le_of_ble_eq_true rfl) (Nat.le_of_ble_eq_true rfl) dX8_init_47 ?_
  refine gw_putF C hi (ci := 8) (Cn := RX8) (Tc := TX8) (N := 15) (j := 14) (ty := tyX8 14) (ws' := [(h, .inr (8, [.int 0, .int 0, .int 0, .int 0, .int 0, .int 0, .int 0, .int 0, .int 0, .ref sz, .ref (sz + 1), .ref (sz + 2), .ref (sz + 3), .ref (sz + 4), .ref (sz + 5)])), (sz + 5, .inl (T 0, 14, .inl (fun _ => 0))), (sz + 4, .inl (T 0, 14, .inl (fun _ => 0))), (sz + 3, .inl (T 0, 14, .inl (fun _ => 0))), (sz + 2, .inl (T 0, 14, .inl (fun _ => 0))), (sz + 1, .inl (T 0, 14, .inl (fun _ => 0))), (sz, .inl (T 0, 14, .inl (fun _ => 0)))]) 0 rfl ly_X8_i8 rfl tyX8_ok nmX8 (by decide) (cg_ts C _ wd_X8_f27) (fun _ h => h) rfl rfl (by decide +kernel) rfl rfl (Nat.le_of_ble_eq_true rfl) rfl dX8_init_49 ?_
  exact gw_vret C hr () trivial (fun t h1 h2 h3 => ⟨h1, h3, h2⟩) dX8_init_52
end
theorem ct_State {l : Launch} (D : va_G) (T : Nat → ClassId) (h sz : Nat) (hl : l.stackTraces = false) : Ct l yX8_init wsX8_init (Rc 1 6 84) D T [] h (.inr (8, [.int 0, .int 0, .int 0, .int 0, .int 0, .int 0, .int 0, .int 0, .int 0, .null, .null, .null, .null, .null, .null])) sz (wState T h sz) 6 84 :=
  gw_body (by decide +kernel) rfl rfl (Nat.le_of_ble_eq_true rfl) (fun p e s m below meth c C hi hr => w_State C hi hr hl)
def wScriptI (T : Nat → ClassId) (a1 P i h sz : Nat) : va_W := [(h, .inr (6, [.ref a1, .ref sz, .ref (sz + 1), .ref (sz + 2), .int 0])), (sz + 2, .inl (T 0, 30, .inl (fun _ => 0))), (sz + 1, .inl (T 0, 30, .inl (fun _ => 0))), (sz, .inl (T 6, 30, .inr (.inr (.inr (.inr (fun j => if j < i then some P else none))))))]
def wScript (T : Nat → ClassId) (a1 P h sz : Nat) : va_W := wScriptI T a1 P 30 h sz
