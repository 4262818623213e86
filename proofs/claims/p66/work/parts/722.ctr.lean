/-! PHASE 3: CONSTRUCTORS: Recipe, History -/
theorem wd_X5_o1 : (.methodLink RX5 3 objectInit : Cond) ∈ wsX5_init := by decide +kernel
theorem wd_X5_o2 : (.instanceMethod objectInit : Cond) ∈ wsX5_init := by decide +kernel
theorem wd_X5_o3 : (.code objectInit ⟨#[0xb1]⟩ 1 none : Cond) ∈ wsX5_init := by decide +kernel
theorem ly_X5_i4 : ∀ w ∈ u_ws RX4 TX4 3, w ∈ wsX5_init := by decide +kernel
theorem wd_X5_c9 : (.classLink RX5 9 RX4 : Cond) ∈ wsX5_init := by decide +kernel
theorem wd_X5_i4 : (.instantiable RX4 3 : Cond) ∈ wsX5_init := by decide +kernel
theorem wd_X5_n4 : (.initialized RX4 : Cond) ∈ wsX5_init := by decide +kernel
theorem wd_X5_m4 : (.instanceMethod yX4_init : Cond) ∈ wsX5_init := by decide +kernel
theorem wd_X5_k11 : (.methodLink RX5 11 yX4_init : Cond) ∈ wsX5_init := by decide +kernel
theorem wd_X5_f14 : (.fieldLink RX5 14 "RecipeScheduler$Recipe" "pans" "LRecipeScheduler$Names;" : Cond) ∈ wsX5_init := by decide +kernel
theorem ly_X5_i5 : ∀ w ∈ u_ws RX5 TX5 17, w ∈ wsX5_init := by decide +kernel
theorem wd_X5_aint : (.arrayClass .int : Cond) ∈ wsX5_init := by decide +kernel
theorem wd_X5_f20 : (.fieldLink RX5 20 "RecipeScheduler$Recipe" "capacity" "[I" : Cond) ∈ wsX5_init := by decide +kernel
theorem wd_X5_f24 : (.fieldLink RX5 24 "RecipeScheduler$Recipe" "panUsers" "[I" : Cond) ∈ wsX5_init := by decide +kernel
theorem wd_X5_f27 : (.fieldLink RX5 27 "RecipeScheduler$Recipe" "steps" "LRecipeScheduler$Names;" : Cond) ∈ wsX5_init := by decide +kernel
theorem wd_X5_f30 : (.fieldLink RX5 30 "RecipeScheduler$Recipe" "duration" "[I" : Cond) ∈ wsX5_init := by decide +kernel
theorem wd_X5_f33 : (.fieldLink RX5 33 "RecipeScheduler$Recipe" "taste" "[I" : Cond) ∈ wsX5_init := by decide +kernel
theorem wd_X5_f36 : (.fieldLink RX5 36 "RecipeScheduler$Recipe" "pan" "[I" : Cond) ∈ wsX5_init := by decide +kernel
theorem wd_X5_c39 : (.classLink RX5 39 "[[I" : Cond) ∈ wsX5_init := by decide +kernel
theorem wd_X5_f41 : (.fieldLink RX5 41 "RecipeScheduler$Recipe" "predecessors" "[[I" : Cond) ∈ wsX5_init := by decide +kernel
theorem wd_X5_f44 : (.fieldLink RX5 44 "RecipeScheduler$Recipe" "predecessorCount" "[I" : Cond) ∈ wsX5_init := by decide +kernel
theorem wd_X5_f47 : (.fieldLink RX5 47 "RecipeScheduler$Recipe" "predecessorSet" "[I" : Cond) ∈ wsX5_init := by decide +kernel
theorem wd_X5_f50 : (.fieldLink RX5 50 "RecipeScheduler$Recipe" "successorSet" "[I" : Cond) ∈ wsX5_init := by decide +kernel
def wRecipe (T : Nat → ClassId) (h sz : Nat) : va_W := (h, .inr (5, [.int 0, .int 0, .int 0, .int 0, .ref sz, .ref (sz + 7), .ref (sz + 8), .ref (sz + 9), .ref (sz + 26), .ref (sz + 27), .ref (sz + 28), .ref (sz + 29), .ref (sz + 44), .ref (sz + 45), .ref (sz + 46), .int 0, .int 0])) :: (sz + 46, .inl (T 0, 14, .inl (fun _ => 0))) :: (sz + 45, .inl (T 0, 14, .inl (fun _ => 0))) :: (sz + 44, .inl (T 0, 14, .inl (fun _ => 0))) :: (sz + 29, .inl (T 5, 14, .inr (.inr (.inr (.inr (fun j => some (sz + 30 + j))))))) :: (rowsW (T 0) (4, .inl (fun _ => 0)) (sz + 30) 14 ++ ((sz + 28, .inl (T 0, 14, .inl (fun _ => 0))) :: (sz + 27, .inl (T 0, 14, .inl (fun _ => 0))) :: (sz + 26, .inl (T 0, 14, .inl (fun _ => 0))) :: (wNames14 T (sz + 9) (sz + 10) ++ ((sz + 8, .inl (T 0, 4, .inl (fun _ => 0))) :: (sz + 7, .inl (T 0, 4, .inl (fun _ => 0))) :: wNames4 T sz (sz + 1)))))
section
variable {p : Program} {l : Launch} {e : Env} {s : State} {m : MethodId} {below : List Frame} {meth : Method} {c : Code} {T : Nat → ClassId} {D : va_G}
set_option maxHeartbeats 4000000 in
theorem w_Recipe {h sz : Nat} (C : CG p s m [.ref h].toArray meth c cX5_init 1 wsX5_init RX5 T D (Afr h sz) sz) (hi : meth.name = "<init>") (hr : meth.sig.returnType = none) (hl : l.stackTraces = false) : GW p l e (Rc 2 47 312) s m [.ref h].toArray below meth c 1 D (Afr h sz) sz 0 0 (MQ below (va_Qv (fun _ : Unit => True) (fun _ t => PM D (wRecipe T h sz) t.heap ∧ t.heap.size = sz + 47 ∧ DM (Afr h sz) (wRecipe T h sz)) (Afr h sz)) [.ref h].toArray s 47 312 (Afr h sz)) [(h, .inr (5, [.int 0, .int 0, .int 0, .int 0, .null, .null, .null, .null, .null, .null, .null, .null, .null, .null, .null, .int 0, .int 0]))] 0 [(0, .ref h)] [] := by
  refine gw_aload_n C dX5_init_0 rfl 0 rfl ?_
  refine gw_objInit C wd_X5_o1 wd_X5_o2 wd_X5_o3 rfl ⟨(Nat.le_of_ble_eq_true rfl), (Nat.le_of_ble_eq_true rfl)⟩ dX5_init_1 ?_
  refine gw_aload_n C dX5_init_4 rfl 0 rfl ?_
  refine gx_new C (ci := 4) (fs := [.null, .null, .int 0]) tyX4 ly_X5_i4 tyX4_ok wd_X5_c9 wd_X5_i4 wd_X5_n4 rfl (by decide) (Nat.le_of_ble_eq_true rfl) (Nat.le_of_ble_eq_true rfl) dX5_init_5 ?_
  refine gw_dup C dX5_init_8 rfl ?_
  refine gw_iconst C dX5_init_9 (v := 4) rfl ?_
  refine gx_ctor C (As := [.int 4]) (ct_Names4 D T sz (sz + 1) hl) (cwI 1 (cg_ts C) gX5_init_X4_init rfl rfl rfl (cg_ts C _ wd_X5_n4) (cg_ts C _ wd_X5_k11) (cg_ts C _ wd_X5_m4) rfl (by decide +kernel) ⟨(Nat.le_of_ble_eq_true rfl), (Nat.le_of_ble_eq_true rfl)⟩) rfl rfl (Nat.le_of_ble_eq_true rfl) ⟨(Nat.le_of_ble_eq_true rfl), (Nat.le_of_ble_eq_true rfl)⟩ dX5_init_10 ?_
  refine gw_putF C hi (ci := 5) (Cn := RX5) (Tc := TX5) (N := 17) (j := 4) (ty := tyX5 4) (ws' := (h, .inr (5, [.int 0, .int 0, .int 0, .int 0, .ref sz, .null, .null, .null, .null, .null, .null, .null, .null, .null, .null, .int 0, .int 0])) :: wNames4 T sz (sz + 1)) 0 rfl ly_X5_i5 rfl tyX5_ok nmX5 (by decide) (cg_ts C _ wd_X5_f14) (fun _ h => h) rfl rfl (by decide +kernel) rfl rfl (Nat.le_of_ble_eq_true rfl) rfl dX5_init_13 ?_
  refine gw_aload_n C dX5_init_16 rfl 0 rfl ?_
  refine gw_iconst C dX5_init_17 (v := 4) rfl ?_
  refine gx_newa C (atype := .int) 0 rfl wd_X5_aint (N := 4) (a0 := (4, .inl (fun _ => 0))) rfl (fun h => h) (by decide) (by decide +kernel) (by decide) (Nat.le_of_ble_eq_true rfl) (Nat.le_of_ble_eq_true rfl) dX5_init_18 ?_
  refine gw_putF C hi (ci := 5) (Cn := RX5) (Tc := TX5) (N := 17) (j := 5) (ty := tyX5 5) (ws' := (h, .inr (5, [.int 0, .int 0, .int 0, .int 0, .ref sz, .ref (sz + 7), .null, .null, .null, .null, .null, .null, .null, .null, .null, .int 0, .int 0])) :: (sz + 7, .inl (T 0, 4, .inl (fun _ => 0))) :: wNames4 T sz (sz + 1)) 0 rfl ly_X5_i5 rfl tyX5_ok nmX5 (by decide) (cg_ts C _ wd_X5_f20) (fun _ h => h) rfl rfl (by decide +kernel) rfl rfl (Nat.le_of_ble_eq_true rfl) rfl dX5_init_20 ?_
  refine gw_aload_n C dX5_init_23 rfl 0 rfl ?_
  refine gw_iconst C dX5_init_24 (v := 4) rfl ?_
  refine gx_newa C (atype := .int) 0 rfl wd_X5_aint (N := 4) (a0 := (4, .inl (fun _ => 0))) rfl (fun h => h) (by decide) (by decide +kernel) (by decide) (Nat.le_of_ble_eq_true rfl) (Nat.le_of_ble_eq_true rfl) dX5_init_25 ?_
  refine gw_putF C hi (ci := 5) (Cn := RX5) (Tc := TX5) (N := 17) (j := 6) (ty := tyX5 6) (ws' := (h, .inr (5, [.int 0, .int 0, .int 0, .int 0, .ref sz, .ref (sz + 7), .ref (sz + 8), .null, .null, .null, .null, .null, .null, .null, .null, .int 0, .int 0])) :: (sz + 8, .inl (T 0, 4, .inl (fun _ => 0))) :: (sz + 7, .inl (T 0, 4, .inl (fun _ => 0))) :: wNames4 T sz (sz + 1)) 0 rfl ly_X5_i5 rfl tyX5_ok nmX5 (by decide) (cg_ts C _ wd_X5_f24) (fun _ h => h) rfl rfl (by decide +kernel) rfl rfl (Nat.le_of_ble_eq_true rfl) rfl dX5_init_27 ?_
  refine gw_aload_n C dX5_init_30 rfl 0 rfl ?_
  refine gx_new C (ci := 4) (fs := [.null, .null, .int 0]) tyX4 ly_X5_i4 tyX4_ok wd_X5_c9 wd_X5_i4 wd_X5_n4 rfl (by decide) (Nat.le_of_ble_eq_true rfl) (Nat.le_of_ble_eq_true rfl) dX5_init_31 ?_
  refine gw_dup C dX5_init_34 rfl ?_
  refine gw_bipush C dX5_init_35 (v := 14) (by decide) ?_
  refine gx_ctor C (As := [.int 14]) (ct_Names14 D T (sz + 9) (sz + 10) hl) (cwI 1 (cg_ts C) gX5_init_X4_init rfl rfl rfl (cg_ts C _ wd_X5_n4) (cg_ts C _ wd_X5_k11) (cg_ts C _ wd_X5_m4) rfl (by decide +kernel) ⟨(Nat.le_of_ble_eq_true rfl), (Nat.le_of_ble_eq_true rfl)⟩) rfl rfl (Nat.le_of_ble_eq_true rfl) ⟨(Nat.le_of_ble_eq_true rfl), (Nat.le_of_ble_eq_true rfl)⟩ dX5_init_37 ?_
  refine gw_putF C hi (ci := 5) (Cn := RX5) (Tc := TX5) (N := 17) (j := 7) (ty := tyX5 7) (ws' := (h, .inr (5, [.int 0, .int 0, .int 0, .int 0, .ref sz, .ref (sz + 7), .ref (sz + 8), .ref (sz + 9), .null, .null, .null, .null, .null, .null, .null, .int 0, .int 0])) :: (wNames14 T (sz + 9) (sz + 10) ++ ((sz + 8, .inl (T 0, 4, .inl (fun _ => 0))) :: (sz + 7, .inl (T 0, 4, .inl (fun _ => 0))) :: wNames4 T sz (sz + 1)))) 0 rfl ly_X5_i5 rfl tyX5_ok nmX5 (by decide) (cg_ts C _ wd_X5_f27) (fun _ h => h) rfl rfl (by decide +kernel) rfl rfl (Nat.le_of_ble_eq_true rfl) rfl dX5_init_40 ?_
  refine gw_aload_n C dX5_init_43 rfl 0 rfl ?_
  refine gw_bipush C dX5_init_44 (v := 14) (by decide) ?_
  refine gx_newa C (atype := .int) 0 rfl wd_X5_aint (N := 14) (a0 := (14, .inl (fun _ => 0))) rfl (fun h => h) (by decide) (by decide +kernel) (by decide) (Nat.le_of_ble_eq_true rfl) (Nat.le_of_ble_eq_true rfl) dX5_init_46 ?_
  refine gw_putF C hi (ci := 5) (Cn := RX5) (Tc := TX5) (N := 17) (j := 8) (ty := tyX5 8) (ws' := (h, .inr (5, [.int 0, .int 0, .int 0, .int 0, .ref sz, .ref (sz + 7), .ref (sz + 8), .ref (sz + 9), .ref (sz + 26), .null, .null, .null, .null, .null, .null, .int 0, .int 0])) :: (sz + 26, .inl (T 0, 14, .inl (fun _ => 0))) :: (wNames14 T (sz + 9) (sz + 10) ++ ((sz + 8, .inl (T 0, 4, .inl (fun _ => 0))) :: (sz + 7, .inl (T 0, 4, .inl (fun _ => 0))) :: wNames4 T sz (sz + 1)))) 0 rfl ly_X5_i5 rfl tyX5_ok nmX5 (by decide) (cg_ts C _ wd_X5_f30) (fun _ h => h) rfl rfl (by decide +kernel) rfl rfl (Nat.le_of_ble_eq_true rfl) rfl dX5_init_48 ?_
  refine gw_aload_n C dX5_init_51 rfl 0 rfl ?_
  refine gw_bipush C dX5_init_52 (v := 14) (by decide) ?_
  refine gx_newa C (atype := .int) 0 rfl wd_X5_aint (N := 14) (a0 := (14, .inl (fun _ => 0))) rfl (fun h => h) (by decide) (by decide +kernel) (by decide) (Nat.le_of_ble_eq_true rfl) (Nat.le_of_ble_eq_true rfl) dX5_init_54 ?_
  refine gw_putF C hi (ci := 5) (Cn := RX5) (Tc := TX5) (N := 17) (j := 9) (ty := tyX5 9) (ws' := (h, .inr (5, [.int 0, .int 0, .int 0, .int 0, .ref sz, .ref (sz + 7), .ref (sz + 8), .ref (sz + 9), .ref (sz + 26), .ref (sz + 27), .null, .null, .null, .null, .null, .int 0, .int 0])) :: (sz + 27, .inl (T 0, 14, .inl (fun _ => 0))) :: (sz + 26, .inl (T 0, 14, .inl (fun _ => 0))) :: (wNames14 T (sz + 9) (sz + 10) ++ ((sz + 8, .inl (T 0, 4, .inl (fun _ => 0))) :: (sz + 7, .inl (T 0, 4, .inl (fun _ => 0))) :: wNames4 T sz (sz + 1)))) 0 rfl ly_X5_i5 rfl tyX5_ok nmX5 (by decide) (cg_ts C _ wd_X5_f33) (fun _ h => h) rfl rfl (by decide +kernel) rfl rfl (Nat.le_of_ble_eq_true rfl) rfl dX5_init_56 ?_
  refine gw_aload_n C dX5_init_59 rfl 0 rfl ?_
  refine gw_bipush C dX5_init_60 (v := 14) (by decide) ?_
  refine gx_newa C (atype := .int) 0 rfl wd_X5_aint (N := 14) (a0 := (14, .inl (fun _ => 0))) rfl (fun h => h) (by decide) (by decide +kernel) (by decide) (Nat.le_of_ble_eq_true rfl) (Nat.le_of_ble_eq_true rfl) dX5_init_62 ?_
  refine gw_putF C hi (ci := 5) (Cn := RX5) (Tc := TX5) (N := 17) (j := 10) (ty := tyX5 10) (ws' := (h, .inr (5, [.int 0, .int 0, .int 0, .int 0, .ref sz, .ref (sz + 7), .ref (sz + 8), .ref (sz + 9), .ref (sz + 26), .ref (sz + 27), .ref (sz + 28), .null, .null, .null, .null, .int 0, .int 0])) :: (sz + 28, .inl (T 0, 14, .inl (fun _ => 0))) :: (sz + 27, .inl (T 0, 14, .inl (fun _ => 0))) :: (sz + 26, .inl (T 0, 14, .inl (fun _ => 0))) :: (wNames14 T (sz + 9) (sz + 10) ++ ((sz + 8, .inl (T 0, 4, .inl (fun _ => 0))) :: (sz + 7, .inl (T 0, 4, .inl (fun _ => 0))) :: wNames4 T sz (sz + 1)))) 0 rfl ly_X5_i5 rfl tyX5_ok nmX5 (by decide) (cg_ts C _ wd_X5_f36) (fun _ h => h) rfl rfl (by decide +kernel) rfl rfl (Nat.le_of_ble_eq_true rfl) rfl dX5_init_64 ?_
  refine gw_aload_n C dX5_init_67 rfl 0 rfl ?_
  refine gw_bipush C dX5_init_68 (v := 14) (by decide) ?_
  refine gw_iconst C dX5_init_70 (v := 4) rfl ?_
  refine gx_mna C (ty := .int) 0 5 rfl rfl (fun h => h) rfl wd_X5_c39 (cg_aov C).2.2.2 wd_X5_aint (N := 14) (M := 4) (b0 := (4, .inl (fun _ => 0))) rfl (by decide) (by decide) (by decide +kernel) (by decide +kernel) (by decide) (by decide) (by decide) rfl rfl (Nat.le_of_ble_eq_true rfl) (Nat.le_of_ble_eq_true rfl) dX5_init_71 ?_
  refine gw_putF C hi (ci := 5) (Cn := RX5) (Tc := TX5) (N := 17) (j := 11) (ty := tyX5 11) (ws' := (h, .inr (5, [.int 0, .int 0, .int 0, .int 0, .ref sz, .ref (sz + 7), .ref (sz + 8), .ref (sz + 9), .ref (sz + 26), .ref (sz + 27), .ref (sz + 28), .ref (sz + 29), .null, .null, .null, .int 0, .int 0])) :: (sz + 29, .inl (T 5, 14, .inr (.inr (.inr (.inr (fun j => some (sz + 30 + j))))))) :: (rowsW (T 0) (4, .inl (fun _ => 0)) (sz + 30) 14 ++ ((sz + 28, .inl (T 0, 14, .inl (fun _ => 0))) :: (sz + 27, .inl (T 0, 14, .inl (fun _ => 0))) :: (sz + 26, .inl (T 0, 14, .inl (fun _ => 0))) :: (wNames14 T (sz + 9) (sz + 10) ++ ((sz + 8, .inl (T 0, 4, .inl (fun _ => 0))) :: (sz + 7, .inl (T 0, 4, .inl (fun _ => 0))) :: wNames4 T sz (sz + 1)))))) 0 rfl ly_X5_i5 rfl tyX5_ok nmX5 (by decide) (cg_ts C _ wd_X5_f41) (fun _ h => h) rfl rfl (by decide +kernel) rfl rfl (Nat.le_of_ble_eq_true rfl) rfl dX5_init_75 ?_
  refine gw_aload_n C dX5_init_78 rfl 0 rfl ?_
  refine gw_bipush C dX5_init_79 (v := 14) (by decide) ?_
  refine gx_newa C (atype := .int) 0 rfl wd_X5_aint (N := 14) (a0 := (14, .inl (fun _ => 0))) rfl (fun h => h) (by decide) (by decide +kernel) (by decide) (Nat.le_of_ble_eq_true rfl) (Nat.le_of_ble_eq_true rfl) dX5_init_81 ?_
  refine gw_putF C hi (ci := 5) (Cn := RX5) (Tc := TX5) (N := 17) (j := 12) (ty := tyX5 12) (ws' := (h, .inr (5, [.int 0, .int 0, .int 0, .int 0, .ref sz, .ref (sz + 7), .ref (sz + 8), .ref (sz + 9), .ref (sz + 26), .ref (sz + 27), .ref (sz + 28), .ref (sz + 29), .ref (sz + 44), .null, .null, .int 0, .int 0])) :: (sz + 44, .inl (T 0, 14, .inl (fun _ => 0))) :: (sz + 29, .inl (T 5, 14, .inr (.inr (.inr (.inr (fun j => some (sz + 30 + j))))))) :: (rowsW (T 0) (4, .inl (fun _ => 0)) (sz + 30) 14 ++ ((sz + 28, .inl (T 0, 14, .inl (fun _ => 0))) :: (sz + 27, .inl (T 0, 14, .inl (fun _ => 0))) :: (sz + 26, .inl (T 0, 14, .inl (fun _ => 0))) :: (wNames14 T (sz + 9) (sz + 10) ++ ((sz + 8, .inl (T 0, 4, .inl (fun _ => 0))) :: (sz + 7, .inl (T 0, 4, .inl (fun _ => 0))) :: wNames4 T sz (sz + 1)))))) 0 rfl ly_X5_i5 rfl tyX5_ok nmX5 (by decide) (cg_ts C _ wd_X5_f44) (fun _ h => h) rfl rfl (by decide +kernel) rfl rfl (Nat.le_of_ble_eq_true rfl) rfl dX5_init_83 ?_
  refine gw_aload_n C dX5_init_86 rfl 0 rfl ?_
  refine gw_bipush C dX5_init_87 (v := 14) (by decide) ?_
  refine gx_newa C (atype := .int) 0 rfl wd_X5_aint (N := 14) (a0 := (14, .inl (fun _ => 0))) rfl (fun h => h) (by decide) (by decide +kernel) (by decide) (Nat.le_of_ble_eq_true rfl) (Nat.le_of_ble_eq_true rfl) dX5_init_89 ?_
  refine gw_putF C hi (ci := 5) (Cn := RX5) (Tc := TX5) (N := 17) (j := 13) (ty := tyX5 13) (ws' := (h, .inr (5, [.int 0, .int 0, .int 0, .int 0, .ref sz, .ref (sz + 7), .ref (sz + 8), .ref (sz + 9), .ref (sz + 26), .ref (sz + 27), .ref (sz + 28), .ref (sz + 29), .ref (sz + 44), .ref (sz + 45), .null, .int 0, .int 0])) :: (sz + 45, .inl (T 0, 14, .inl (fun _ => 0))) :: (sz + 44, .inl (T 0, 14, .inl (fun _ => 0))) :: (sz + 29, .inl (T 5, 14, .inr (.inr (.inr (.inr (fun j => some (sz + 30 + j))))))) :: (rowsW (T 0) (4, .inl (fun _ => 0)) (sz + 30) 14 ++ ((sz + 28, .inl (T 0, 14, .inl (fun _ => 0))) :: (sz + 27, .inl (T 0, 14, .inl (fun _ => 0))) :: (sz + 26, .inl (T 0, 14, .inl (fun _ => 0))) :: (wNames14 T (sz + 9) (sz + 10) ++ ((sz + 8, .inl (T 0, 4, .inl (fun _ => 0))) :: (sz + 7, .inl (T 0, 4, .inl (fun _ => 0))) :: wNames4 T sz (sz + 1)))))) 0 rfl ly_X5_i5 rfl tyX5_ok nmX5 (by decide) (cg_ts C _ wd_X5_f47) (fun _ h => h) rfl rfl (by decide +kernel) rfl rfl (Nat.le_of_ble_eq_true rfl) rfl dX5_init_91 ?_
  refine gw_aload_n C dX5_init_94 rfl 0 rfl ?_
  refine gw_bipush C dX5_init_95 (v := 14) (by decide) ?_
  refine gx_newa C (atype := .int) 0 rfl wd_X5_aint (N := 14) (a0 := (14, .inl (fun _ => 0))) rfl (fun h => h) (by decide) (by decide +kernel) (by decide) (Nat.le_of_ble_eq_true rfl) (Nat.le_of_ble_eq_true rfl) dX5_init_97 ?_
  refine gw_putF C hi (ci := 5) (Cn := RX5) (Tc := TX5) (N := 17) (j := 14) (ty := tyX5 14) (ws' := (h, .inr (5, [.int 0, .int 0, .int 0, .int 0, .ref sz, .ref (sz + 7), .ref (sz + 8), .ref (sz + 9), .ref (sz + 26), .ref (sz + 27), .ref (sz + 28), .ref (sz + 29), .ref (sz + 44), .ref (sz + 45), .ref (sz + 46), .int 0, .int 0])) :: (sz + 46, .inl (T 0, 14, .inl (fun _ => 0))) :: (sz + 45, .inl (T 0, 14, .inl (fun _ => 0))) :: (sz + 44, .inl (T 0, 14, .inl (fun _ => 0))) :: (sz + 29, .inl (T 5, 14, .inr (.inr (.inr (.inr (fun j => some (sz + 30 + j))))))) :: (rowsW (T 0) (4, .inl (fun _ => 0)) (sz + 30) 14 ++ ((sz + 28, .inl (T 0, 14, .inl (fun _ => 0))) :: (sz + 27, .inl (T 0, 14, .inl (fun _ => 0))) :: (sz + 26, .inl (T 0, 14, .inl (fun _ => 0))) :: (wNames14 T (sz + 9) (sz + 10) ++ ((sz + 8, .inl (T 0, 4, .inl (fun _ => 0))) :: (sz + 7, .inl (T 0, 4, .inl (fun _ => 0))) :: wNames4 T sz (sz + 1)))))) 0 rfl ly_X5_i5 rfl tyX5_ok nmX5 (by decide) (cg_ts C _ wd_X5_f50) (fun _ h => h) rfl rfl (by decide +kernel) rfl rfl (Nat.le_of_ble_eq_true rfl) rfl dX5_init_99 ?_
  exact gw_vret C hr () trivial (fun t h1 h2 h3 => ⟨h1, h3, h2⟩) dX5_init_102
end
theorem ct_Recipe {l : Launch} (D : va_G) (T : Nat → ClassId) (h sz : Nat) (hl : l.stackTraces = false) : Ct l yX5_init wsX5_init (Rc 2 47 312) D T [] h (.inr (5, [.int 0, .int 0, .int 0, .int 0, .null, .null, .null, .null, .null, .null, .null, .null, .null, .null, .null, .int 0, .int 0])) sz (wRecipe T h sz) 47 312 :=
  gw_body (by decide +kernel) rfl rfl (Nat.le_of_ble_eq_true rfl) (fun p e s m below meth c C hi hr => w_Recipe C hi hr hl)
theorem wd_X2_o1 : (.methodLink RX2 3 objectInit : Cond) ∈ wsX2_init := by decide +kernel
theorem wd_X2_o2 : (.instanceMethod objectInit : Cond) ∈ wsX2_init := by decide +kernel
theorem wd_X2_o3 : (.code objectInit ⟨#[0xb1]⟩ 1 none : Cond) ∈ wsX2_init := by decide +kernel
theorem wd_X2_c9 : (.classLink RX2 9 RX8 : Cond) ∈ wsX2_init := by decide +kernel
theorem wd_X2_f11 : (.fieldLink RX2 11 "RecipeScheduler$History" "states" "[LRecipeScheduler$State;" : Cond) ∈ wsX2_init := by decide +kernel
theorem ly_X2_i2 : ∀ w ∈ u_ws RX2 TX2 3, w ∈ wsX2_init := by decide +kernel
theorem ly_X2_i8 : ∀ w ∈ u_ws RX8 TX8 15, w ∈ wsX2_init := by decide +kernel
theorem wd_X2_i8 : (.instantiable RX8 15 : Cond) ∈ wsX2_init := by decide +kernel
theorem wd_X2_n8 : (.initialized RX8 : Cond) ∈ wsX2_init := by decide +kernel
theorem wd_X2_m8 : (.instanceMethod yX8_init : Cond) ∈ wsX2_init := by decide +kernel
theorem nx_X2_8_17 : (.methodLinkNest RX2 17 yX8_init "RecipeScheduler" : Cond) ∈ nestL := by decide +kernel
def wHistory (T : Nat → ClassId) (h sz : Nat) : va_W := (h, .inr (2, [.ref sz, .int 0, .int 0])) :: (wState T (sz + 36) (sz + 37) ++ (wState T (sz + 29) (sz + 30) ++ (wState T (sz + 22) (sz + 23) ++ (wState T (sz + 15) (sz + 16) ++ (wState T (sz + 8) (sz + 9) ++ (wState T (sz + 1) (sz + 2) ++ [(sz, .inl (T 3, 6, .inr (.inr (.inr (.inr (va_up (va_up (va_up (va_up (va_up (va_up (fun _ => none) (0 : Int32).toNatClampNeg (some (sz + 1))) (1 : Int32).toNatClampNeg (some (sz + 8))) (2 : Int32).toNatClampNeg (some (sz + 15))) (3 : Int32).toNatClampNeg (some (sz + 22))) (4 : Int32).toNatClampNeg (some (sz + 29))) (5 : Int32).toNatClampNeg (some (sz + 36))))))))]))))))
section
variable {p : Program} {l : Launch} {e : Env} {s : State} {m : MethodId} {below : List Frame} {meth : Method} {c : Code} {T : Nat → ClassId} {D : va_G}
set_option maxHeartbeats 4000000 in
theorem w_History {h sz : Nat} (C : CG p s m [.ref h].toArray meth c cX2_init 2 wsX2_init RX2 T D (Afr h sz) sz) (hi : meth.name = "<init>") (hr : meth.sig.returnType = none) (hl : l.stackTraces = false) : GW p l e (Rc 2 43 600) s m [.ref h].toArray below meth c 2 D (Afr h sz) sz 0 0 (MQ below (va_Qv (fun _ : Unit => True) (fun _ t => PM D (wHistory T h sz) t.heap ∧ t.heap.size = sz + 43 ∧ DM (Afr h sz) (wHistory T h sz)) (Afr h sz)) [.ref h].toArray s 43 600 (Afr h sz)) [(h, .inr (2, [.null, .int 0, .int 0]))] 0 [(0, .ref h)] [] := by
  refine gw_aload_n C dX2_init_0 rfl 0 rfl ?_
  refine gw_objInit C wd_X2_o1 wd_X2_o2 wd_X2_o3 rfl ⟨(Nat.le_of_ble_eq_true rfl), (Nat.le_of_ble_eq_true rfl)⟩ dX2_init_1 ?_
  refine gw_aload_n C dX2_init_4 rfl 0 rfl ?_
  refine gw_bipush C dX2_init_5 (v := 6) (by decide) ?_
  refine gx_newq C (Cn := RX8) 3 rfl wd_X2_c9 (cg_aov C).1 (N := 6) (by decide) (by decide +kernel) (by decide) (Nat.le_of_ble_eq_true rfl) (Nat.le_of_ble_eq_true rfl) dX2_init_7 ?_
  refine gw_putF C hi (ci := 2) (Cn := RX2) (Tc := TX2) (N := 3) (j := 0) (ty := tyX2 0) (ws' := [(h, .inr (2, [.ref sz, .int 0, .int 0])), (sz, .inl (T 3, 6, .inr (.inr (.inr (.inr (fun _ => none))))))]) 0 rfl ly_X2_i2 rfl tyX2_ok nmX2 (by decide) (cg_ts C _ wd_X2_f11) (fun _ h => h) rfl rfl (by decide +kernel) rfl rfl (Nat.le_of_ble_eq_true rfl) rfl dX2_init_10 ?_
  refine gw_iconst C dX2_init_13 (v := 0) rfl ?_
  refine gw_istore_n C dX2_init_14 rfl (by decide) rfl ?_
  refine gw_iload_n C dX2_init_15 rfl 0 rfl ?_
  refine gw_bipush C dX2_init_16 (v := 6) (by decide) ?_
  refine gw_icmp_ge C dX2_init_18 (tgt := 40) rfl (fun h9 => absurd h9 (by decide)) (fun _ => ?_)
  refine gw_aload_n C dX2_init_21 rfl 1 rfl ?_
  refine gw_get C (ci := 2) (Cn := RX2) (Tc := TX2) (N := 3) (j := 0) (v := .ref sz) 0 rfl ly_X2_i2 rfl (by decide) (cg_ts C _ wd_X2_f11) (fun _ h => h) rfl dX2_init_22 ?_
  refine gw_iload_n C dX2_init_25 rfl 0 rfl ?_
  refine gx_new C (ci := 8) (fs := [.int 0, .int 0, .int 0, .int 0, .int 0, .int 0, .int 0, .int 0, .int 0, .null, .null, .null, .null, .null, .null]) tyX8 ly_X2_i8 tyX8_ok wd_X2_c9 wd_X2_i8 wd_X2_n8 rfl (by decide) (Nat.le_of_ble_eq_true rfl) (Nat.le_of_ble_eq_true rfl) dX2_init_26 ?_
  refine gw_dup C dX2_init_29 rfl ?_
  refine gx_ctorN C (As := []) (ct_State D T (sz + 1) (sz + 2) hl) (⟨va_cnB (ws' := _) 0 (cg_ts C) gX2_init_X8_init_n17 rfl rfl rfl (cg_nst C _ nx_X2_8_17) (cg_ts C _ wd_X2_n8) (by decide +kernel) ⟨(Nat.le_of_ble_eq_true rfl), (Nat.le_of_ble_eq_true rfl)⟩, rfl, cg_ts C _ wd_X2_m8⟩) rfl rfl (Nat.le_of_ble_eq_true rfl) ⟨(Nat.le_of_ble_eq_true rfl), (Nat.le_of_ble_eq_true rfl)⟩ dX2_init_30 ?_
  refine gw_aast C 8 3 1 8 (ws' := (h, .inr (2, [.ref sz, .int 0, .int 0])) :: (wState T (sz + 1) (sz + 2) ++ [(sz, .inl (T 3, 6, .inr (.inr (.inr (.inr (va_up (fun _ => none) (0 : Int32).toNatClampNeg (some (sz + 1))))))))])) rfl rfl rfl rfl (vp_in_iff.mpr (by decide)) rfl dX2_init_33 ?_
  refine gw_iinc C dX2_init_34 (kk := 0) rfl (v := 1) rfl (by decide) rfl ?_
  refine gw_goto C dX2_init_37 (tgt := 15) rfl ?_
  refine gw_iload_n C dX2_init_15 rfl 0 rfl ?_
  refine gw_bipush C dX2_init_16 (v := 6) (by decide) ?_
  refine gw_icmp_ge C dX2_init_18 (tgt := 40) rfl (fun h9 => absurd h9 (by decide)) (fun _ => ?_)
  refine gw_aload_n C dX2_init_21 rfl 1 rfl ?_
  refine gw_get C (ci := 2) (Cn := RX2) (Tc := TX2) (N := 3) (j := 0) (v := .ref sz) 0 rfl ly_X2_i2 rfl (by decide) (cg_ts C _ wd_X2_f11) (fun _ h => h) rfl dX2_init_22 ?_
  refine gw_iload_n C dX2_init_25 rfl 0 rfl ?_
  refine gx_new C (ci := 8) (fs := [.int 0, .int 0, .int 0, .int 0, .int 0, .int 0, .int 0, .int 0, .int 0, .null, .null, .null, .null, .null, .null]) tyX8 ly_X2_i8 tyX8_ok wd_X2_c9 wd_X2_i8 wd_X2_n8 rfl (by decide) (Nat.le_of_ble_eq_true rfl) (Nat.le_of_ble_eq_true rfl) dX2_init_26 ?_
  refine gw_dup C dX2_init_29 rfl ?_
  refine gx_ctorN C (As := []) (ct_State D T (sz + 8) (sz + 9) hl) (⟨va_cnB (ws' := _) 0 (cg_ts C) gX2_init_X8_init_n17 rfl rfl rfl (cg_nst C _ nx_X2_8_17) (cg_ts C _ wd_X2_n8) (by decide +kernel) ⟨(Nat.le_of_ble_eq_true rfl), (Nat.le_of_ble_eq_true rfl)⟩, rfl, cg_ts C _ wd_X2_m8⟩) rfl rfl (Nat.le_of_ble_eq_true rfl) ⟨(Nat.le_of_ble_eq_true rfl), (Nat.le_of_ble_eq_true rfl)⟩ dX2_init_30 ?_
  refine gw_aast C 15 3 1 8 (ws' := (h, .inr (2, [.ref sz, .int 0, .int 0])) :: (wState T (sz + 8) (sz + 9) ++ (wState T (sz + 1) (sz + 2) ++ [(sz, .inl (T 3, 6, .inr (.inr (.inr (.inr (va_up (va_up (fun _ => none) (0 : Int32).toNatClampNeg (some (sz + 1))) (1 : Int32).toNatClampNeg (some (sz + 8))))))))]))) rfl rfl rfl rfl (vp_in_iff.mpr (by decide)) rfl dX2_init_33 ?_
  refine gw_iinc C dX2_init_34 (kk := 0) rfl (v := 2) rfl (by decide) rfl ?_
  refine gw_goto C dX2_init_37 (tgt := 15) rfl ?_
  refine gw_iload_n C dX2_init_15 rfl 0 rfl ?_
  refine gw_bipush C dX2_init_16 (v := 6) (by decide) ?_
  refine gw_icmp_ge C dX2_init_18 (tgt := 40) rfl (fun h9 => absurd h9 (by decide)) (fun _ => ?_)
  refine gw_aload_n C dX2_init_21 rfl 1 rfl ?_
  refine gw_get C (ci := 2) (Cn := RX2) (Tc := TX2) (N := 3) (j := 0) (v := .ref sz) 0 rfl ly_X2_i2 rfl (by decide) (cg_ts C _ wd_X2_f11) (fun _ h => h) rfl dX2_init_22 ?_
  refine gw_iload_n C dX2_init_25 rfl 0 rfl ?_
  refine gx_new C (ci := 8) (fs := [.int 0, .int 0, .int 0, .int 0, .int 0, .int 0, .int 0, .int 0, .int 0, .null, .null, .null, .null, .null, .null]) tyX8 ly_X2_i8 tyX8_ok wd_X2_c9 wd_X2_i8 wd_X2_n8 rfl (by decide) (Nat.le_of_ble_eq_true rfl) (Nat.le_of_ble_eq_true rfl) dX2_init_26 ?_
  refine gw_dup C dX2_init_29 rfl ?_
  refine gx_ctorN C (As := []) (ct_State D T (sz + 15) (sz + 16) hl) (⟨va_cnB (ws' := _) 0 (cg_ts C) gX2_init_X8_init_n17 rfl rfl rfl (cg_nst C _ nx_X2_8_17) (cg_ts C _ wd_X2_n8) (by decide +kernel) ⟨(Nat.le_of_ble_eq_true rfl), (Nat.le_of_ble_eq_true rfl)⟩, rfl, cg_ts C _ wd_X2_m8⟩) rfl rfl (Nat.le_of_ble_eq_true rfl) ⟨(Nat.le_of_ble_eq_true rfl), (Nat.le_of_ble_eq_true rfl)⟩ dX2_init_30 ?_
  refine gw_aast C 22 3 1 8 (ws' := (h, .inr (2, [.ref sz, .int 0, .int 0])) :: (wState T (sz + 15) (sz + 16) ++ (wState T (sz + 8) (sz + 9) ++ (wState T (sz + 1) (sz + 2) ++ [(sz, .inl (T 3, 6, .inr (.inr (.inr (.inr (va_up (va_up (va_up (fun _ => none) (0 : Int32).toNatClampNeg (some (sz + 1))) (1 : Int32).toNatClampNeg (some (sz + 8))) (2 : Int32).toNatClampNeg (some (sz + 15))))))))])))) rfl rfl rfl rfl (vp_in_iff.mpr (by decide)) rfl dX2_init_33 ?_
  refine gw_iinc C dX2_init_34 (kk := 0) rfl (v := 3) rfl (by decide) rfl ?_
  refine gw_goto C dX2_init_37 (tgt := 15) rfl ?_
  refine gw_iload_n C dX2_init_15 rfl 0 rfl ?_
  refine gw_bipush C dX2_init_16 (v := 6) (by decide) ?_
  refine gw_icmp_ge C dX2_init_18 (tgt := 40) rfl (fun h9 => absurd h9 (by decide)) (fun _ => ?_)
  refine gw_aload_n C dX2_init_21 rfl 1 rfl ?_
  refine gw_get C (ci := 2) (Cn := RX2) (Tc := TX2) (N := 3) (j := 0) (v := .ref sz) 0 rfl ly_X2_i2 rfl (by decide) (cg_ts C _ wd_X2_f11) (fun _ h => h) rfl dX2_init_22 ?_
  refine gw_iload_n C dX2_init_25 rfl 0 rfl ?_
  refine gx_new C (ci := 8) (fs := [.int 0, .int 0, .int 0, .int 0, .int 0, .int 0, .int 0, .int 0, .int 0, .null, .null, .null, .null, .null, .null]) tyX8 ly_X2_i8 tyX8_ok wd_X2_c9 wd_X2_i8 wd_X2_n8 rfl (by decide) (Nat.le_of_ble_eq_true rfl) (Nat.le_of_ble_eq_true rfl) dX2_init_26 ?_
  refine gw_dup C dX2_init_29 rfl ?_
  refine gx_ctorN C (As := []) (ct_State D T (sz + 22) (sz + 23) hl) (⟨va_cnB (ws' := _) 0 (cg_ts C) gX2_init_X8_init_n17 rfl rfl rfl (cg_nst C _ nx_X2_8_17) (cg_ts C _ wd_X2_n8) (by decide +kernel) ⟨(Nat.le_of_ble_eq_true rfl), (Nat.le_of_ble_eq_true rfl)⟩, rfl, cg_ts C _ wd_X2_m8⟩) rfl rfl (Nat.le_of_ble_eq_true rfl) ⟨(Nat.le_of_ble_eq_true rfl), (Nat.le_of_ble_eq_true rfl)⟩ dX2_init_30 ?_
  refine gw_aast C 29 3 1 8 (ws' := (h, .inr (2, [.ref sz, .int 0, .int 0])) :: (wState T (sz + 22) (sz + 23) ++ (wState T (sz + 15) (sz + 16) ++ (wState T (sz + 8) (sz + 9) ++ (wState T (sz + 1) (sz + 2) ++ [(sz, .inl (T 3, 6, .inr (.inr (.inr (.inr (va_up (va_up (va_up (va_up (fun _ => none) (0 : Int32).toNatClampNeg (some (sz + 1))) (1 : Int32).toNatClampNeg (some (sz + 8))) (2 : Int32).toNatClampNeg (some (sz + 15))) (3 : Int32).toNatClampNeg (some (sz + 22))))))))]))))) rfl rfl rfl rfl (vp_in_iff.mpr (by decide)) rfl dX2_init_33 ?_
  refine gw_iinc C dX2_init_34 (kk := 0) rfl (v := 4) rfl (by decide) rfl ?_
  refine gw_goto C dX2_init_37 (tgt := 15) rfl ?_
  refine gw_iload_n C dX2_init_15 rfl 0 rfl ?_
  refine gw_bipush C dX2_init_16 (v := 6) (by decide) ?_
  refine gw_icmp_ge C dX2_init_18 (tgt := 40) rfl (fun h9 => absurd h9 (by decide)) (fun _ => ?_)
  refine gw_aload_n C dX2_init_21 rfl 1 rfl ?_
  refine gw_get C (ci := 2) (Cn := RX2) (Tc := TX2) (N := 3) (j := 0) (v := .ref sz) 0 rfl ly_X2_i2 rfl (by decide) (cg_ts C _ wd_X2_f11) (fun _ h => h) rfl dX2_init_22 ?_
  refine gw_iload_n C dX2_init_25 rfl 0 rfl ?_
  refine gx_new C (ci := 8) (fs := [.int 0, .int 0, .int 0, .int 0, .int 0, .int 0, .int 0, .int 0, .int 0, .null, .null, .null, .null, .null, .null]) tyX8 ly_X2_i8 tyX8_ok wd_X2_c9 wd_X2_i8 wd_X2_n8 rfl (by decide) (Nat.le_of_ble_eq_true rfl) (Nat.le_of_ble_eq_true rfl) dX2_init_26 ?_
  refine gw_dup C dX2_init_29 rfl ?_
  refine gx_ctorN C (As := []) (ct_State D T (sz + 29) (sz + 30) hl) (⟨va_cnB (ws' := _) 0 (cg_ts C) gX2_init_X8_init_n17 rfl rfl rfl (cg_nst C _ nx_X2_8_17) (cg_ts C _ wd_X2_n8) (by decide +kernel) ⟨(Nat.le_of_ble_eq_true rfl), (Nat.le_of_ble_eq_true rfl)⟩, rfl, cg_ts C _ wd_X2_m8⟩) rfl rfl (Nat.le_of_ble_eq_true rfl) ⟨(Nat.le_of_ble_eq_true rfl), (Nat.le_of_ble_eq_true rfl)⟩ dX2_init_30 ?_
  refine gw_aast C 36 3 1 8 (ws' := (h, .inr (2, [.ref sz, .int 0, .int 0])) :: (wState T (sz + 29) (sz + 30) ++ (wState T (sz + 22) (sz + 23) ++ (wState T (sz + 15) (sz + 16) ++ (wState T (sz + 8) (sz + 9) ++ (wState T (sz + 1) (sz + 2) ++ [(sz, .inl (T 3, 6, .inr (.inr (.inr (.inr (va_up (va_up (va_up (va_up (va_up (fun _ => none) (0 : Int32).toNatClampNeg (some (sz + 1))) (1 : Int32).toNatClampNeg (some (sz + 8))) (2 : Int32).toNatClampNeg (some (sz + 15))) (3 : Int32).toNatClampNeg (some (sz + 22))) (4 : Int32).toNatClampNeg (some (sz + 29))))))))])))))) rfl rfl rfl rfl (vp_in_iff.mpr (by decide)) rfl dX2_init_33 ?_
  refine gw_iinc C dX2_init_34 (kk := 0) rfl (v := 5) rfl (by decide) rfl ?_
  refine gw_goto C dX2_init_37 (tgt := 15) rfl ?_
  refine gw_iload_n C dX2_init_15 rfl 0 rfl ?_
  refine gw_bipush C dX2_init_16 (v := 6) (by decide) ?_
  refine gw_icmp_ge C dX2_init_18 (tgt := 40) rfl (fun h9 => absurd h9 (by decide)) (fun _ => ?_)
  refine gw_aload_n C dX2_init_21 rfl 1 rfl ?_
  refine gw_get C (ci := 2) (Cn := RX2) (Tc := TX2) (N := 3) (j := 0) (v := .ref sz) 0 rfl ly_X2_i2 rfl (by decide) (cg_ts C _ wd_X2_f11) (fun _ h => h) rfl dX2_init_22 ?_
  refine gw_iload_n C dX2_init_25 rfl 0 rfl ?_
  refine gx_new C (ci := 8) (fs := [.int 0, .int 0, .int 0, .int 0, .int 0, .int 0, .int 0, .int 0, .int 0, .null, .null, .null, .null, .null, .null]) tyX8 ly_X2_i8 tyX8_ok wd_X2_c9 wd_X2_i8 wd_X2_n8 rfl (by decide) (Nat.le_of_ble_eq_true rfl) (Nat.le_of_ble_eq_true rfl) dX2_init_26 ?_
  refine gw_dup C dX2_init_29 rfl ?_
  refine gx_ctorN C (As := []) (ct_State D T (sz + 36) (sz + 37) hl) (⟨va_cnB (ws' := _) 0 (cg_ts C) gX2_init_X8_init_n17 rfl rfl rfl (cg_nst C _ nx_X2_8_17) (cg_ts C _ wd_X2_n8) (by decide +kernel) ⟨(Nat.le_of_ble_eq_true rfl), (Nat.le_of_ble_eq_true rfl)⟩, rfl, cg_ts C _ wd_X2_m8⟩) rfl rfl (Nat.le_of_ble_eq_true rfl) ⟨(Nat.le_of_ble_eq_true rfl), (Nat.le_of_ble_eq_true rfl)⟩ dX2_init_30 ?_
  refine gw_aast C 43 3 1 8 (ws' := (h, .inr (2, [.ref sz, .int 0, .int 0])) :: (wState T (sz + 36) (sz + 37) ++ (wState T (sz + 29) (sz + 30) ++ (wState T (sz + 22) (sz + 23) ++ (wState T (sz + 15) (sz + 16) ++ (wState T (sz + 8) (sz + 9) ++ (wState T (sz + 1) (sz + 2) ++ [(sz, .inl (T 3, 6, .inr (.inr (.inr (.inr (va_up (va_up (va_up (va_up (va_up (va_up (fun _ => none) (0 : Int32).toNatClampNeg (some (sz + 1))) (1 : Int32).toNatClampNeg (some (sz + 8))) (2 : Int32).toNatClampNeg (some (sz + 15))) (3 : Int32).toNatClampNeg (some (sz + 22))) (4 : Int32).toNatClampNeg (some (sz + 29))) (5 : Int32).toNatClampNeg (some (sz + 36))))))))]))))))) rfl rfl rfl rfl (vp_in_iff.mpr (by decide)) rfl dX2_init_33 ?_
  refine gw_iinc C dX2_init_34 (kk := 0) rfl (v := 6) rfl (by decide) rfl ?_
  refine gw_goto C dX2_init_37 (tgt := 15) rfl ?_
  refine gw_iload_n C dX2_init_15 rfl 0 rfl ?_
  refine gw_bipush C dX2_init_16 (v := 6) (by decide) ?_
  refine gw_icmp_ge C dX2_init_18 (tgt := 40) rfl (fun _ => ?_) (fun h9 => absurd (by decide) h9)
  exact gw_vret C hr () trivial (fun t h1 h2 h3 => ⟨h1, h3, h2⟩) dX2_init_40
end
theorem ct_History {l : Launch} (D : va_G) (T : Nat → ClassId) (h sz : Nat) (hl : l.stackTraces = false) : Ct l yX2_init wsX2_init (Rc 2 43 600) D T [] h (.inr (2, [.null, .int 0, .int 0])) sz (wHistory T h sz) 43 600 :=
  gw_body (by decide +kernel) rfl rfl (Nat.le_of_ble_eq_true rfl) (fun p e s m below meth c C hi hr => w_History C hi hr hl)
