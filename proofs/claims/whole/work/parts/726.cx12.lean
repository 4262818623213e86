/-! PHASE 3: CONSTRUCTORS: the model -/
noncomputable def X12i_b133 : Nat → Mem → Int32 → Option Mem
  | 0, _, _ => none
  | n+1, Y, l2 => bd1 (J0_length_8abf5 Y 0) fun r2 => if r2 ≤ l2 then some Y else (bd1 (J0_charAt_5068e Y 0 l2) fun r5 => gd (inb l2 700) <| lt_ (up Y 10 0 3 (ix l2) r5) fun Y9 => X12i_b133 n Y9 (l2 + 1))
abbrev grM : List (Nat × Nat) := [(10, 0)]
theorem wd_X12_o1 : (.methodLink RX12 7 objectInit : Cond) ∈ wsX12_init := by decide +kernel
theorem wd_X12_o2 : (.instanceMethod objectInit : Cond) ∈ wsX12_init := by decide +kernel
theorem wd_X12_o3 : (.code objectInit ⟨#[0xb1]⟩ 1 none : Cond) ∈ wsX12_init := by decide +kernel
theorem wd_X12_aint : (.arrayClass .int : Cond) ∈ wsX12_init := by decide +kernel
theorem wd_X12_f13 : (.fieldLink RX12 13 "RecipeSchedulerModel" "m" "[I" : Cond) ∈ wsX12_init := by decide +kernel
theorem ly_X12_i12 : ∀ w ∈ u_ws RX12 TX12 19, w ∈ wsX12_init := by decide +kernel
theorem wd_X12_aboolean : (.arrayClass .boolean : Cond) ∈ wsX12_init := by decide +kernel
theorem wd_X12_f17 : (.fieldLink RX12 17 "RecipeSchedulerModel" "isSaved" "[Z" : Cond) ∈ wsX12_init := by decide +kernel
theorem wd_X12_f21 : (.fieldLink RX12 21 "RecipeSchedulerModel" "undoable" "I" : Cond) ∈ wsX12_init := by decide +kernel
theorem wd_X12_f24 : (.fieldLink RX12 24 "RecipeSchedulerModel" "buffer" "[I" : Cond) ∈ wsX12_init := by decide +kernel
theorem wd_X12_f27 : (.fieldLink RX12 27 "RecipeSchedulerModel" "length" "I" : Cond) ∈ wsX12_init := by decide +kernel
theorem wd_X12_f30 : (.fieldLink RX12 30 "RecipeSchedulerModel" "errorCode" "I" : Cond) ∈ wsX12_init := by decide +kernel
theorem wd_X12_f33 : (.fieldLink RX12 33 "RecipeSchedulerModel" "errorPosition" "I" : Cond) ∈ wsX12_init := by decide +kernel
theorem wd_X12_f36 : (.fieldLink RX12 36 "RecipeSchedulerModel" "written" "[I" : Cond) ∈ wsX12_init := by decide +kernel
theorem wd_X12_f39 : (.fieldLink RX12 39 "RecipeSchedulerModel" "writtenLength" "I" : Cond) ∈ wsX12_init := by decide +kernel
theorem wd_X12_f1 : (.fieldLink RX12 1 "RecipeSchedulerModel" "thrown" "I" : Cond) ∈ wsX12_init := by decide +kernel
theorem wd_X12_f42 : (.fieldLink RX12 42 "RecipeSchedulerModel" "paths" "[I" : Cond) ∈ wsX12_init := by decide +kernel
theorem wd_X12_f45 : (.fieldLink RX12 45 "RecipeSchedulerModel" "heads" "[I" : Cond) ∈ wsX12_init := by decide +kernel
theorem wd_X12_f48 : (.fieldLink RX12 48 "RecipeSchedulerModel" "isReached" "[Z" : Cond) ∈ wsX12_init := by decide +kernel
theorem wd_X12_f51 : (.fieldLink RX12 51 "RecipeSchedulerModel" "queue" "[I" : Cond) ∈ wsX12_init := by decide +kernel
theorem wd_X12_f54 : (.fieldLink RX12 54 "RecipeSchedulerModel" "ahead" "I" : Cond) ∈ wsX12_init := by decide +kernel
theorem wd_X12_f57 : (.fieldLink RX12 57 "RecipeSchedulerModel" "type" "I" : Cond) ∈ wsX12_init := by decide +kernel
theorem wd_X12_f60 : (.fieldLink RX12 60 "RecipeSchedulerModel" "from" "I" : Cond) ∈ wsX12_init := by decide +kernel
theorem wd_X12_f63 : (.fieldLink RX12 63 "RecipeSchedulerModel" "value" "I" : Cond) ∈ wsX12_init := by decide +kernel
theorem wd_X12_f66 : (.fieldLink RX12 66 "RecipeSchedulerModel" "commands" "[I" : Cond) ∈ wsX12_init := by decide +kernel
section
variable {D : va_G} {T : Nat → ClassId} {M : Nat} {cst : Nat → Nat → Nat → Nat} {H : Heap}
theorem dmM (M : Nat) (cst : Nat → Nat → Nat → Nat) {T : Nat → ClassId} {Y : Mem} : DM (fun q => M + 189 ≤ q) (wC T grM (adr M cst) Y) := DM_adr 189 (by decide) (by decide +kernel) (by decide +kernel) (fun _ h => h)
theorem cv_M {Y : Mem} (hP : PM D ([(M + 189, .inr (10, [.ref (M + 190), .ref (M + 191), .int 0, .ref (M + 192), .int 0, .int 0, .int (-1), .ref (M + 193), .int 0, .int 0, .ref (M + 194), .ref (M + 195), .ref (M + 196), .ref (M + 197), .int 0, .int 0, .int 0, .int 0, .ref (M + 198)])), (M + 198, .inl (T 0, 90, .inl (fun _ => 0))), (M + 197, .inl (T 0, 14, .inl (fun _ => 0))), (M + 196, .inl (T 2, 14, .inl (fun _ => 0))), (M + 195, .inl (T 0, 14, .inl (fun _ => 0))), (M + 194, .inl (T 0, 14, .inl (fun _ => 0))), (M + 193, .inl (T 0, 150, .inl (fun _ => 0))), (M + 192, .inl (T 0, 700, .inl (fun _ => 0))), (M + 191, .inl (T 2, 2, .inl (fun _ => 0))), (M + 190, .inl (T 0, 4202, .inl (fun _ => 0)))]) H) (y0 : Y 10 0 0 = fun j => if j = 6 then -1 else 0) (yo : ∀ o, o ≠ 0 → Y 10 0 o = fun _ => 0) : PM D (wC T grM (adr M cst) Y) H := by
  refine PM_wC (List.forall_mem_cons.mpr ⟨?_, fun q hq => nomatch hq⟩)
  intro o ho
  rcases (by simpa [offs] using ho : o = 0 ∨ o = 1 ∨ o = 2 ∨ o = 3 ∨ o = 4 ∨ o = 5 ∨ o = 6 ∨ o = 7 ∨ o = 8 ∨ o = 9) with rfl | rfl | rfl | rfl | rfl | rfl | rfl | rfl | rfl | rfl
  · exact at_of rfl (by rw [ce10]; dsimp only; rw [y0]; rfl) (hP _ (List.mem_of_getElem? (i := 0) rfl))
  · exact at_of rfl (by dsimp only; rw [yo 1 (by omega)]; rfl) (hP _ (List.mem_of_getElem? (i := 9) rfl))
  · exact at_of rfl (by dsimp only; rw [yo 2 (by omega)]; rfl) (hP _ (List.mem_of_getElem? (i := 8) rfl))
  · exact at_of rfl (by dsimp only; rw [yo 3 (by omega)]; rfl) (hP _ (List.mem_of_getElem? (i := 7) rfl))
  · exact at_of rfl (by dsimp only; rw [yo 4 (by omega)]; rfl) (hP _ (List.mem_of_getElem? (i := 6) rfl))
  · exact at_of rfl (by dsimp only; rw [yo 5 (by omega)]; rfl) (hP _ (List.mem_of_getElem? (i := 5) rfl))
  · exact at_of rfl (by dsimp only; rw [yo 6 (by omega)]; rfl) (hP _ (List.mem_of_getElem? (i := 4) rfl))
  · exact at_of rfl (by dsimp only; rw [yo 7 (by omega)]; rfl) (hP _ (List.mem_of_getElem? (i := 3) rfl))
  · exact at_of rfl (by dsimp only; rw [yo 8 (by omega)]; rfl) (hP _ (List.mem_of_getElem? (i := 2) rfl))
  · exact at_of rfl (by dsimp only; rw [yo 9 (by omega)]; rfl) (hP _ (List.mem_of_getElem? (i := 1) rfl))
end
section
variable {p : Program} {l : Launch} {e : Env} {R : Room} {s : State} {m : MethodId} {args : Array Value} {below : List Frame} {meth : Method} {c : Code} {cc : ByteArray} {nL N0 : Nat} {T : Nat → ClassId} {D : va_G} {gr : List (Nat × Nat)} {ad : Nat → Nat → Nat → Nat} {cells slots sz : Nat} {Q : State → Prop} {Y : Mem} {pc : Nat} {L L' : List (Nat × Value)} {st : List Value} {Ts : List Cond} {own : String} {ws : va_W}
/-- from a world by membership to one of groups -/
theorem gw_FW (hcv : ∀ H : Heap, PM D ws H → PM D (wC T gr ad Y) H) (k : FW p l e R s m args below meth c nL N0 T D gr ad cells slots Q Y pc L st) : GW p l e R s m args below meth c nL D (fun q => N0 ≤ q) sz cells slots Q ws pc L st :=
  fun H locs ls hP _ _ hS hl1 => k H locs ls (hcv H hP).to hS hl1
theorem cx_of (C : CG p s m args meth c cc nL Ts own T D (fun q => N0 ≤ q) sz) (hD : DM (fun q => N0 ≤ q) (wC T gr ad Y)) (hN : N0 ≤ sz) (hSt : Stt N0 ad s s.heap) : Cx p s m args meth c cc nL Ts own N0 T D gr ad :=
  ⟨C.1, C.2.1, C.2.2.1, C.2.2.2.1, C.2.2.2.2.1, C.2.2.2.2.2.1, fun Y' => wC_D hD.to Y', by rw [cg_sz C]; exact hN, C.2.2.2.2.2.2.2.1, cg_nst C, hSt⟩
theorem fw_vretS (C : Cx p s m args meth c cc nL Ts own N0 T D gr ad) (hr : meth.sig.returnType = none) {S : Type} {post : S → Prop} {B : S → State → Prop} (u : S) (hp : post u) (hB : ∀ t : State, va_P D vwCl (wC T gr ad Y) t.heap → t.heap.size ≤ s.heap.size + cells → B u t) (d : decode cc pc = .ok (.return_, 1)) : FW p l e R s m args below meth c nL N0 T D gr ad cells slots (MQ below (va_Qv post B (fun q => N0 ≤ q)) args s cells slots (fun q => N0 ≤ q)) Y pc L [] :=
  fun H locs ls hP hS hl1 => W_sz fun hu => W.vret C.1 C.2.1 hr (fun t ht hW => ⟨⟨u, rfl, hp, hB t (by rw [ht]; exact hP) (by rw [ht]; exact hu)⟩, hS.F ht⟩) hS.2.2 d C.2.2.2.2.2.2.2.2.1
set_option maxHeartbeats 4000000 in
theorem w_X12i_loop (C : Cx p s m args meth c cX12_init 3 wsX12_init RX12 N0 T D gr ad) (hG : (10, 0) ∈ gr) (hR : 5 ≤ R.frames ∧ 150 ≤ R.locals ∧ cells ≤ R.cells ∧ slots ≤ R.slots) {res : Mem} : ∀ (n : Nat) (Y : Mem) (l2 : Int32), X12i_b133 n Y l2 = some res → (∀ l3 : Int32, FW p l e R s m args below meth c 3 N0 T D gr ad cells slots Q res 158 [(2, .int l3), (1, .ref (ad 21 0 0)), (0, .ref (ad 10 0 0))] []) → FW p l e R s m args below meth c 3 N0 T D gr ad cells slots Q Y 133 [(2, .int l2), (1, .ref (ad 21 0 0)), (0, .ref (ad 10 0 0))] [] := by
  intro n
  induction n with
  | zero =>
    intro Y l2 h
    unfold X12i_b133 at h
    cases h
  | succ n ih =>
    intro Y l2 h k
    unfold X12i_b133 at h
    refine fw_iload_n C dX12_init_133 rfl 0 rfl ?_
    refine fw_aload_n C dX12_init_134 rfl 1 rfl ?_
    obtain ⟨r2, q3, h⟩ := bd1_some h
    refine fw_callOi C (Cn := RJ0) (As := []) (c_J0_length_8abf5 ga0 q3) (cwV 0 (cx_ts C) gX12_init_J0_length_8abf5 rfl rfl rfl (by decide +kernel) ⟨Nat.le_trans (Nat.le_of_ble_eq_true rfl) hR.1, Nat.le_trans (Nat.le_of_ble_eq_true rfl) hR.2.1⟩) ((cx_st C).1 0 (by decide)).1 rfl (st := [.int l2]) rfl (Nat.le_of_ble_eq_true rfl) hR.2.2 dX12_init_135 (pp2 ?_)
    refine fw_icmp_ge C dX12_init_138 (tgt := 158) rfl (fun c4 => ?_) (fun c4 => ?_)
    · have h := ite_t c4 h
      obtain rfl := Option.some.inj h
      exact k l2
    · have h := ite_f c4 h
      refine fw_aload_n C dX12_init_141 rfl 2 rfl ?_
      refine fw_get C (ci := 10) (Cn := RX12) (Tc := TX12) (N := 19) (j := 3) ly_X12_i12 rfl hG (of10_0 _) (ce10 T ad _ _) (by decide) (cx_ts C _ wd_X12_f24) (fun _ h => h) (v := .ref (ad 10 0 3)) rfl dX12_init_142 ?_
      refine fw_iload_n C dX12_init_145 rfl 0 rfl ?_
      refine fw_aload_n C dX12_init_146 rfl 1 rfl ?_
      refine fw_iload_n C dX12_init_147 rfl 0 rfl ?_
      obtain ⟨r5, q6, h⟩ := bd1_some h
      refine fw_callOi C (Cn := RJ0) (As := [.int l2]) (c_J0_charAt_5068e ga0 q6) (cwV 1 (cx_ts C) gX12_init_J0_charAt_5068e rfl rfl rfl (by decide +kernel) ⟨Nat.le_trans (Nat.le_of_ble_eq_true rfl) hR.1, Nat.le_trans (Nat.le_of_ble_eq_true rfl) hR.2.1⟩) ((cx_st C).1 0 (by decide)).1 rfl (st := [.int l2, .ref (ad 10 0 3)]) rfl (Nat.le_of_ble_eq_true rfl) hR.2.2 dX12_init_148 (pp2 ?_)
      obtain ⟨b7, h⟩ := gd_some h
      obtain ⟨Y9, e9, h⟩ := lt_some h
      refine fw_iast2 C (n := 700) hG (of10_3 _) (fun _ => rfl) b7 (by decide) dX12_init_151 ?_
      refine fw_mem e9 ?_
      refine fw_iinc C dX12_init_152 (kk := 0) (v := l2 + 1) rfl rfl (by decide) (L' := [(2, .int (l2 + 1)), (1, .ref (ad 21 0 0)), (0, .ref (ad 10 0 0))]) rfl ?_
      refine fw_goto C dX12_init_155 (tgt := 133) rfl ?_
      exact ih _ _ h k
end
section
variable {p : Program} {l : Launch} {e : Env} {s : State} {m : MethodId} {below : List Frame} {meth : Method} {c : Code} {T : Nat → ClassId} {D : va_G} {M : Nat} {cst : Nat → Nat → Nat → Nat} {Y Y1 Y2 Y3 Y4 Y5 : Mem} {r b : Int32}
set_option maxHeartbeats 8000000 in
theorem w_X12 (C : CG p s m [.ref (M + 189)].toArray meth c cX12_init 3 wsX12_init RX12 T D (fun q => M + 189 ≤ q) (M + 190)) (hSt : Stt (M + 189) (adr M cst) s s.heap) (hi : meth.name = "<init>") (hr : meth.sig.returnType = none) (y0 : Y 10 0 0 = fun j => if j = 6 then -1 else 0) (yo : ∀ o, o ≠ 0 → Y 10 0 o = fun _ => 0) (hL : X12i_b133 FU Y 0 = some Y1) (hn : J0_length_8abf5 Y1 0 = some r) (h2 : up Y1 10 0 0 4 r = Y2) (h3 : X12_begin Y2 = some Y3) (h4 : X12_parseSetup Y3 = some (b, Y4)) (h5 : up Y4 10 0 0 4 0 = Y5) :
    GW p l e (Rc 9 9 5200) s m [.ref (M + 189)].toArray below meth c 3 D (fun q => M + 189 ≤ q) (M + 190) 0 0 (MQ below (va_Qv (fun _ : Unit => True) (fun _ t => PM D (wC T grM (adr M cst) Y5) t.heap ∧ t.heap.size = M + 190 + 9) (fun q => M + 189 ≤ q)) [.ref (M + 189)].toArray s 9 5200 (fun q => M + 189 ≤ q)) [(M + 189, .inr (10, [.null, .null, .int 0, .null, .int 0, .int 0, .int 0, .null, .int 0, .int 0, .null, .null, .null, .null, .int 0, .int 0, .int 0, .int 0, .null]))] 0 [(0, .ref (M + 189))] [] := by
  refine gw_aload_n C dX12_init_0 rfl 0 rfl ?_
  refine gw_objInit C wd_X12_o1 wd_X12_o2 wd_X12_o3 rfl ⟨(Nat.le_of_ble_eq_true rfl), (Nat.le_of_ble_eq_true rfl)⟩ dX12_init_1 ?_
  refine gw_aload_n C dX12_init_4 rfl 0 rfl ?_
  refine gw_sipush C dX12_init_5 (v := 4202) (by decide) ?_
  refine gx_newa C (atype := .int) 0 rfl wd_X12_aint (N := 4202) (a0 := (4202, .inl (fun _ => 0))) rfl (fun h => h) (by decide) (by decide +kernel) (by decide) (Nat.le_of_ble_eq_true rfl) (Nat.le_of_ble_eq_true rfl) dX12_init_8 ?_
  refine gw_putF C hi (ci := 10) (Cn := RX12) (Tc := TX12) (N := 19) (j := 0) (ty := tyX12 0) (ws' := [(M + 189, .inr (10, [.ref (M + 190), .null, .int 0, .null, .int 0, .int 0, .int 0, .null, .int 0, .int 0, .null, .null, .null, .null, .int 0, .int 0, .int 0, .int 0, .null])), (M + 190, .inl (T 0, 4202, .inl (fun _ => 0)))]) 0 rfl ly_X12_i12 rfl tyX12_ok nmX12 (by decide) (cg_ts C _ wd_X12_f13) (fun _ h => h) rfl rfl (by decide +kernel) rfl rfl (Nat.le_of_ble_eq_true rfl) rfl dX12_init_10 ?_
  refine gw_aload_n C dX12_init_13 rfl 0 rfl ?_
  refine gw_iconst C dX12_init_14 (v := 2) rfl ?_
  refine gx_newa C (atype := .boolean) 2 rfl wd_X12_aboolean (N := 2) (a0 := (2, .inl (fun _ => 0))) rfl (fun h => h) (by decide) (by decide +kernel) (by decide) (Nat.le_of_ble_eq_true rfl) (Nat.le_of_ble_eq_true rfl) dX12_init_15 ?_
  refine gw_putF C hi (ci := 10) (Cn := RX12) (Tc := TX12) (N := 19) (j := 1) (ty := tyX12 1) (ws' := [(M + 189, .inr (10, [.ref (M + 190), .ref (M + 191), .int 0, .null, .int 0, .int 0, .int 0, .null, .int 0, .int 0, .null, .null, .null, .null, .int 0, .int 0, .int 0, .int 0, .null])), (M + 191, .inl (T 2, 2, .inl (fun _ => 0))), (M + 190, .inl (T 0, 4202, .inl (fun _ => 0)))]) 0 rfl ly_X12_i12 rfl tyX12_ok nmX12 (by decide) (cg_ts C _ wd_X12_f17) (fun _ h => h) rfl rfl (by decide +kernel) rfl rfl (Nat.le_of_ble_eq_true rfl) rfl dX12_init_17 ?_
  refine gw_aload_n C dX12_init_20 rfl 0 rfl ?_
  refine gw_iconst C dX12_init_21 (v := 0) rfl ?_
  refine gw_put C (ci := 10) (Cn := RX12) (Tc := TX12) (N := 19) (j := 2) (ty := tyX12 2) (ws' := [(M + 189, .inr (10, [.ref (M + 190), .ref (M + 191), .int 0, .null, .int 0, .int 0, .int 0, .null, .int 0, .int 0, .null, .null, .null, .null, .int 0, .int 0, .int 0, .int 0, .null])), (M + 191, .inl (T 2, 2, .inl (fun _ => 0))), (M + 190, .inl (T 0, 4202, .inl (fun _ => 0)))]) 0 rfl ly_X12_i12 rfl tyX12_ok nmX12 (by decide) (cg_ts C _ wd_X12_f21) (fun _ h => h) rfl (by decide +kernel) rfl rfl (Nat.le_of_ble_eq_true rfl) rfl dX12_init_22 ?_
  refine gw_aload_n C dX12_init_25 rfl 0 rfl ?_
  refine gw_sipush C dX12_init_26 (v := 700) (by decide) ?_
  refine gx_newa C (atype := .int) 0 rfl wd_X12_aint (N := 700) (a0 := (700, .inl (fun _ => 0))) rfl (fun h => h) (by decide) (by decide +kernel) (by decide) (Nat.le_of_ble_eq_true rfl) (Nat.le_of_ble_eq_true rfl) dX12_init_29 ?_
  refine gw_putF C hi (ci := 10) (Cn := RX12) (Tc := TX12) (N := 19) (j := 3) (ty := tyX12 3) (ws' := [(M + 189, .inr (10, [.ref (M + 190), .ref (M + 191), .int 0, .ref (M + 192), .int 0, .int 0, .int 0, .null, .int 0, .int 0, .null, .null, .null, .null, .int 0, .int 0, .int 0, .int 0, .null])), (M + 192, .inl (T 0, 700, .inl (fun _ => 0))), (M + 191, .inl (T 2, 2, .inl (fun _ => 0))), (M + 190, .inl (T 0, 4202, .inl (fun _ => 0)))]) 0 rfl ly_X12_i12 rfl tyX12_ok nmX12 (by decide) (cg_ts C _ wd_X12_f24) (fun _ h => h) rfl rfl (by decide +kernel) rfl rfl (Nat.le_of_ble_eq_true rfl) rfl dX12_init_31 ?_
  refine gw_aload_n C dX12_init_34 rfl 0 rfl ?_
  refine gw_iconst C dX12_init_35 (v := 0) rfl ?_
  refine gw_put C (ci := 10) (Cn := RX12) (Tc := TX12) (N := 19) (j := 4) (ty := tyX12 4) (ws' := [(M + 189, .inr (10, [.ref (M + 190), .ref (M + 191), .int 0, .ref (M + 192), .int 0, .int 0, .int 0, .null, .int 0, .int 0, .null, .null, .null, .null, .int 0, .int 0, .int 0, .int 0, .null])), (M + 192, .inl (T 0, 700, .inl (fun _ => 0))), (M + 191, .inl (T 2, 2, .inl (fun _ => 0))), (M + 190, .inl (T 0, 4202, .inl (fun _ => 0)))]) 0 rfl ly_X12_i12 rfl tyX12_ok nmX12 (by decide) (cg_ts C _ wd_X12_f27) (fun _ h => h) rfl (by decide +kernel) rfl rfl (Nat.le_of_ble_eq_true rfl) rfl dX12_init_36 ?_
  refine gw_aload_n C dX12_init_39 rfl 0 rfl ?_
  refine gw_iconst C dX12_init_40 (v := 0) rfl ?_
  refine gw_put C (ci := 10) (Cn := RX12) (Tc := TX12) (N := 19) (j := 5) (ty := tyX12 5) (ws' := [(M + 189, .inr (10, [.ref (M + 190), .ref (M + 191), .int 0, .ref (M + 192), .int 0, .int 0, .int 0, .null, .int 0, .int 0, .null, .null, .null, .null, .int 0, .int 0, .int 0, .int 0, .null])), (M + 192, .inl (T 0, 700, .inl (fun _ => 0))), (M + 191, .inl (T 2, 2, .inl (fun _ => 0))), (M + 190, .inl (T 0, 4202, .inl (fun _ => 0)))]) 0 rfl ly_X12_i12 rfl tyX12_ok nmX12 (by decide) (cg_ts C _ wd_X12_f30) (fun _ h => h) rfl (by decide +kernel) rfl rfl (Nat.le_of_ble_eq_true rfl) rfl dX12_init_41 ?_
  refine gw_aload_n C dX12_init_44 rfl 0 rfl ?_
  refine gw_iconst C dX12_init_45 (v := -1) rfl ?_
  refine gw_put C (ci := 10) (Cn := RX12) (Tc := TX12) (N := 19) (j := 6) (ty := tyX12 6) (ws' := [(M + 189, .inr (10, [.ref (M + 190), .ref (M + 191), .int 0, .ref (M + 192), .int 0, .int 0, .int (-1), .null, .int 0, .int 0, .null, .null, .null, .null, .int 0, .int 0, .int 0, .int 0, .null])), (M + 192, .inl (T 0, 700, .inl (fun _ => 0))), (M + 191, .inl (T 2, 2, .inl (fun _ => 0))), (M + 190, .inl (T 0, 4202, .inl (fun _ => 0)))]) 0 rfl ly_X12_i12 rfl tyX12_ok nmX12 (by decide) (cg_ts C _ wd_X12_f33) (fun _ h => h) rfl (by decide +kernel) rfl rfl (Nat.le_of_ble_eq_true rfl) rfl dX12_init_46 ?_
  refine gw_aload_n C dX12_init_49 rfl 0 rfl ?_
  refine gw_sipush C dX12_init_50 (v := 150) (by decide) ?_
  refine gx_newa C (atype := .int) 0 rfl wd_X12_aint (N := 150) (a0 := (150, .inl (fun _ => 0))) rfl (fun h => h) (by decide) (by decide +kernel) (by decide) (Nat.le_of_ble_eq_true rfl) (Nat.le_of_ble_eq_true rfl) dX12_init_53 ?_
  refine gw_putF C hi (ci := 10) (Cn := RX12) (Tc := TX12) (N := 19) (j := 7) (ty := tyX12 7) (ws' := [(M + 189, .inr (10, [.ref (M + 190), .ref (M + 191), .int 0, .ref (M + 192), .int 0, .int 0, .int (-1), .ref (M + 193), .int 0, .int 0, .null, .null, .null, .null, .int 0, .int 0, .int 0, .int 0, .null])), (M + 193, .inl (T 0, 150, .inl (fun _ => 0))), (M + 192, .inl (T 0, 700, .inl (fun _ => 0))), (M + 191, .inl (T 2, 2, .inl (fun _ => 0))), (M + 190, .inl (T 0, 4202, .inl (fun _ => 0)))]) 0 rfl ly_X12_i12 rfl tyX12_ok nmX12 (by decide) (cg_ts C _ wd_X12_f36) (fun _ h => h) rfl rfl (by decide +kernel) rfl rfl (Nat.le_of_ble_eq_true rfl) rfl dX12_init_55 ?_
  refine gw_aload_n C dX12_init_58 rfl 0 rfl ?_
  refine gw_iconst C dX12_init_59 (v := 0) rfl ?_
  refine gw_put C (ci := 10) (Cn := RX12) (Tc := TX12) (N := 19) (j := 8) (ty := tyX12 8) (ws' := [(M + 189, .inr (10, [.ref (M + 190), .ref (M + 191), .int 0, .ref (M + 192), .int 0, .int 0, .int (-1), .ref (M + 193), .int 0, .int 0, .null, .null, .null, .null, .int 0, .int 0, .int 0, .int 0, .null])), (M + 193, .inl (T 0, 150, .inl (fun _ => 0))), (M + 192, .inl (T 0, 700, .inl (fun _ => 0))), (M + 191, .inl (T 2, 2, .inl (fun _ => 0))), (M + 190, .inl (T 0, 4202, .inl (fun _ => 0)))]) 0 rfl ly_X12_i12 rfl tyX12_ok nmX12 (by decide) (cg_ts C _ wd_X12_f39) (fun _ h => h) rfl (by decide +kernel) rfl rfl (Nat.le_of_ble_eq_true rfl) rfl dX12_init_60 ?_
  refine gw_aload_n C dX12_init_63 rfl 0 rfl ?_
  refine gw_iconst C dX12_init_64 (v := 0) rfl ?_
  refine gw_put C (ci := 10) (Cn := RX12) (Tc := TX12) (N := 19) (j := 9) (ty := tyX12 9) (ws' := [(M + 189, .inr (10, [.ref (M + 190), .ref (M + 191), .int 0, .ref (M + 192), .int 0, .int 0, .int (-1), .ref (M + 193), .int 0, .int 0, .null, .null, .null, .null, .int 0, .int 0, .int 0, .int 0, .null])), (M + 193, .inl (T 0, 150, .inl (fun _ => 0))), (M + 192, .inl (T 0, 700, .inl (fun _ => 0))), (M + 191, .inl (T 2, 2, .inl (fun _ => 0))), (M + 190, .inl (T 0, 4202, .inl (fun _ => 0)))]) 0 rfl ly_X12_i12 rfl tyX12_ok nmX12 (by decide) (cg_ts C _ wd_X12_f1) (fun _ h => h) rfl (by decide +kernel) rfl rfl (Nat.le_of_ble_eq_true rfl) rfl dX12_init_65 ?_
  refine gw_aload_n C dX12_init_68 rfl 0 rfl ?_
  refine gw_bipush C dX12_init_69 (v := 14) (by decide) ?_
  refine gx_newa C (atype := .int) 0 rfl wd_X12_aint (N := 14) (a0 := (14, .inl (fun _ => 0))) rfl (fun h => h) (by decide) (by decide +kernel) (by decide) (Nat.le_of_ble_eq_true rfl) (Nat.le_of_ble_eq_true rfl) dX12_init_71 ?_
  refine gw_putF C hi (ci := 10) (Cn := RX12) (Tc := TX12) (N := 19) (j := 10) (ty := tyX12 10) (ws' := [(M + 189, .inr (10, [.ref (M + 190), .ref (M + 191), .int 0, .ref (M + 192), .int 0, .int 0, .int (-1), .ref (M + 193), .int 0, .int 0, .ref (M + 194), .null, .null, .null, .int 0, .int 0, .int 0, .int 0, .null])), (M + 194, .inl (T 0, 14, .inl (fun _ => 0))), (M + 193, .inl (T 0, 150, .inl (fun _ => 0))), (M + 192, .inl (T 0, 700, .inl (fun _ => 0))), (M + 191, .inl (T 2, 2, .inl (fun _ => 0))), (M + 190, .inl (T 0, 4202, .inl (fun _ => 0)))]) 0 rfl ly_X12_i12 rfl tyX12_ok nmX12 (by decide) (cg_ts C _ wd_X12_f42) (fun _ h => h) rfl rfl (by decide +kernel) rfl rfl (Nat.le_of_ble_eq_true rfl) rfl dX12_init_73 ?_
  refine gw_aload_n C dX12_init_76 rfl 0 rfl ?_
  refine gw_bipush C dX12_init_77 (v := 14) (by decide) ?_
  refine gx_newa C (atype := .int) 0 rfl wd_X12_aint (N := 14) (a0 := (14, .inl (fun _ => 0))) rfl (fun h => h) (by decide) (by decide +kernel) (by decide) (Nat.le_of_ble_eq_true rfl) (Nat.le_of_ble_eq_true rfl) dX12_init_79 ?_
  refine gw_putF C hi (ci := 10) (Cn := RX12) (Tc := TX12) (N := 19) (j := 11) (ty := tyX12 11) (ws' := [(M + 189, .inr (10, [.ref (M + 190), .ref (M + 191), .int 0, .ref (M + 192), .int 0, .int 0, .int (-1), .ref (M + 193), .int 0, .int 0, .ref (M + 194), .ref (M + 195), .null, .null, .int 0, .int 0, .int 0, .int 0, .null])), (M + 195, .inl (T 0, 14, .inl (fun _ => 0))), (M + 194, .inl (T 0, 14, .inl (fun _ => 0))), (M + 193, .inl (T 0, 150, .inl (fun _ => 0))), (M + 192, .inl (T 0, 700, .inl (fun _ => 0))), (M + 191, .inl (T 2, 2, .inl (fun _ => 0))), (M + 190, .inl (T 0, 4202, .inl (fun _ => 0)))]) 0 rfl ly_X12_i12 rfl tyX12_ok nmX12 (by decide) (cg_ts C _ wd_X12_f45) (fun _ h => h) rfl rfl (by decide +kernel) rfl rfl (Nat.le_of_ble_eq_true rfl) rfl dX12_init_81 ?_
  refine gw_aload_n C dX12_init_84 rfl 0 rfl ?_
  refine gw_bipush C dX12_init_85 (v := 14) (by decide) ?_
  refine gx_newa C (atype := .boolean) 2 rfl wd_X12_aboolean (N := 14) (a0 := (14, .inl (fun _ => 0))) rfl (fun h => h) (by decide) (by decide +kernel) (by decide) (Nat.le_of_ble_eq_true rfl) (Nat.le_of_ble_eq_true rfl) dX12_init_87 ?_
  refine gw_putF C hi (ci := 10) (Cn := RX12) (Tc := TX12) (N := 19) (j := 12) (ty := tyX12 12) (ws' := [(M + 189, .inr (10, [.ref (M + 190), .ref (M + 191), .int 0, .ref (M + 192), .int 0, .int 0, .int (-1), .ref (M + 193), .int 0, .int 0, .ref (M + 194), .ref (M + 195), .ref (M + 196), .null, .int 0, .int 0, .int 0, .int 0, .null])), (M + 196, .inl (T 2, 14, .inl (fun _ => 0))), (M + 195, .inl (T 0, 14, .inl (fun _ => 0))), (M + 194, .inl (T 0, 14, .inl (fun _ => 0))), (M + 193, .inl (T 0, 150, .inl (fun _ => 0))), (M + 192, .inl (T 0, 700, .inl (fun _ => 0))), (M + 191, .inl (T 2, 2, .inl (fun _ => 0))), (M + 190, .inl (T 0, 4202, .inl (fun _ => 0)))]) 0 rfl ly_X12_i12 rfl tyX12_ok nmX12 (by decide) (cg_ts C _ wd_X12_f48) (fun _ h => h) rfl rfl (by decide +kernel) rfl rfl (Nat.le_of_ble_eq_true rfl) rfl dX12_init_89 ?_
  refine gw_aload_n C dX12_init_92 rfl 0 rfl ?_
  refine gw_bipush C dX12_init_93 (v := 14) (by decide) ?_
  refine gx_newa C (atype := .int) 0 rfl wd_X12_aint (N := 14) (a0 := (14, .inl (fun _ => 0))) rfl (fun h => h) (by decide) (by decide +kernel) (by decide) (Nat.le_of_ble_eq_true rfl) (Nat.le_of_ble_eq_true rfl) dX12_init_95 ?_
  refine gw_putF C hi (ci := 10) (Cn := RX12) (Tc := TX12) (N := 19) (j := 13) (ty := tyX12 13) (ws' := [(M + 189, .inr (10, [.ref (M + 190), .ref (M + 191), .int 0, .ref (M + 192), .int 0, .int 0, .int (-1), .ref (M + 193), .int 0, .int 0, .ref (M + 194), .ref (M + 195), .ref (M + 196), .ref (M + 197), .int 0, .int 0, .int 0, .int 0, .null])), (M + 197, .inl (T 0, 14, .inl (fun _ => 0))), (M + 196, .inl (T 2, 14, .inl (fun _ => 0))), (M + 195, .inl (T 0, 14, .inl (fun _ => 0))), (M + 194, .inl (T 0, 14, .inl (fun _ => 0))), (M + 193, .inl (T 0, 150, .inl (fun _ => 0))), (M + 192, .inl (T 0, 700, .inl (fun _ => 0))), (M + 191, .inl (T 2, 2, .inl (fun _ => 0))), (M + 190, .inl (T 0, 4202, .inl (fun _ => 0)))]) 0 rfl ly_X12_i12 rfl tyX12_ok nmX12 (by decide) (cg_ts C _ wd_X12_f51) (fun _ h => h) rfl rfl (by decide +kernel) rfl rfl (Nat.le_of_ble_eq_true rfl) rfl dX12_init_97 ?_
  refine gw_aload_n C dX12_init_100 rfl 0 rfl ?_
  refine gw_iconst C dX12_init_101 (v := 0) rfl ?_
  refine gw_put C (ci := 10) (Cn := RX12) (Tc := TX12) (N := 19) (j := 14) (ty := tyX12 14) (ws' := [(M + 189, .inr (10, [.ref (M + 190), .ref (M + 191), .int 0, .ref (M + 192), .int 0, .int 0, .int (-1), .ref (M + 193), .int 0, .int 0, .ref (M + 194), .ref (M + 195), .ref (M + 196), .ref (M + 197), .int 0, .int 0, .int 0, .int 0, .null])), (M + 197, .inl (T 0, 14, .inl (fun _ => 0))), (M + 196, .inl (T 2, 14, .inl (fun _ => 0))), (M + 195, .inl (T 0, 14, .inl (fun _ => 0))), (M + 194, .inl (T 0, 14, .inl (fun _ => 0))), (M + 193, .inl (T 0, 150, .inl (fun _ => 0))), (M + 192, .inl (T 0, 700, .inl (fun _ => 0))), (M + 191, .inl (T 2, 2, .inl (fun _ => 0))), (M + 190, .inl (T 0, 4202, .inl (fun _ => 0)))]) 0 rfl ly_X12_i12 rfl tyX12_ok nmX12 (by decide) (cg_ts C _ wd_X12_f54) (fun _ h => h) rfl (by decide +kernel) rfl rfl (Nat.le_of_ble_eq_true rfl) rfl dX12_init_102 ?_
  refine gw_aload_n C dX12_init_105 rfl 0 rfl ?_
  refine gw_iconst C dX12_init_106 (v := 0) rfl ?_
  refine gw_put C (ci := 10) (Cn := RX12) (Tc := TX12) (N := 19) (j := 15) (ty := tyX12 15) (ws' := [(M + 189, .inr (10, [.ref (M + 190), .ref (M + 191), .int 0, .ref (M + 192), .int 0, .int 0, .int (-1), .ref (M + 193), .int 0, .int 0, .ref (M + 194), .ref (M + 195), .ref (M + 196), .ref (M + 197), .int 0, .int 0, .int 0, .int 0, .null])), (M + 197, .inl (T 0, 14, .inl (fun _ => 0))), (M + 196, .inl (T 2, 14, .inl (fun _ => 0))), (M + 195, .inl (T 0, 14, .inl (fun _ => 0))), (M + 194, .inl (T 0, 14, .inl (fun _ => 0))), (M + 193, .inl (T 0, 150, .inl (fun _ => 0))), (M + 192, .inl (T 0, 700, .inl (fun _ => 0))), (M + 191, .inl (T 2, 2, .inl (fun _ => 0))), (M + 190, .inl (T 0, 4202, .inl (fun _ => 0)))]) 0 rfl ly_X12_i12 rfl tyX12_ok nmX12 (by decide) (cg_ts C _ wd_X12_f57) (fun _ h => h) rfl (by decide +kernel) rfl rfl (Nat.le_of_ble_eq_true rfl) rfl dX12_init_107 ?_
  refine gw_aload_n C dX12_init_110 rfl 0 rfl ?_
  refine gw_iconst C dX12_init_111 (v := 0) rfl ?_
  refine gw_put C (ci := 10) (Cn := RX12) (Tc := TX12) (N := 19) (j := 16) (ty := tyX12 16) (ws' := [(M + 189, .inr (10, [.ref (M + 190), .ref (M + 191), .int 0, .ref (M + 192), .int 0, .int 0, .int (-1), .ref (M + 193), .int 0, .int 0, .ref (M + 194), .ref (M + 195), .ref (M + 196), .ref (M + 197), .int 0, .int 0, .int 0, .int 0, .null])), (M + 197, .inl (T 0, 14, .inl (fun _ => 0))), (M + 196, .inl (T 2, 14, .inl (fun _ => 0))), (M + 195, .inl (T 0, 14, .inl (fun _ => 0))), (M + 194, .inl (T 0, 14, .inl (fun _ => 0))), (M + 193, .inl (T 0, 150, .inl (fun _ => 0))), (M + 192, .inl (T 0, 700, .inl (fun _ => 0))), (M + 191, .inl (T 2, 2, .inl (fun _ => 0))), (M + 190, .inl (T 0, 4202, .inl (fun _ => 0)))]) 0 rfl ly_X12_i12 rfl tyX12_ok nmX12 (by decide) (cg_ts C _ wd_X12_f60) (fun _ h => h) rfl (by decide +kernel) rfl rfl (Nat.le_of_ble_eq_true rfl) rfl dX12_init_112 ?_
  refine gw_aload_n C dX12_init_115 rfl 0 rfl ?_
  refine gw_iconst C dX12_init_116 (v := 0) rfl ?_
  refine gw_put C (ci := 10) (Cn := RX12) (Tc := TX12) (N := 19) (j := 17) (ty := tyX12 17) (ws' := [(M + 189, .inr (10, [.ref (M + 190), .ref (M + 191), .int 0, .ref (M + 192), .int 0, .int 0, .int (-1), .ref (M + 193), .int 0, .int 0, .ref (M + 194), .ref (M + 195), .ref (M + 196), .ref (M + 197), .int 0, .int 0, .int 0, .int 0, .null])), (M + 197, .inl (T 0, 14, .inl (fun _ => 0))), (M + 196, .inl (T 2, 14, .inl (fun _ => 0))), (M + 195, .inl (T 0, 14, .inl (fun _ => 0))), (M + 194, .inl (T 0, 14, .inl (fun _ => 0))), (M + 193, .inl (T 0, 150, .inl (fun _ => 0))), (M + 192, .inl (T 0, 700, .inl (fun _ => 0))), (M + 191, .inl (T 2, 2, .inl (fun _ => 0))), (M + 190, .inl (T 0, 4202, .inl (fun _ => 0)))]) 0 rfl ly_X12_i12 rfl tyX12_ok nmX12 (by decide) (cg_ts C _ wd_X12_f63) (fun _ h => h) rfl (by decide +kernel) rfl rfl (Nat.le_of_ble_eq_true rfl) rfl dX12_init_117 ?_
  refine gw_aload_n C dX12_init_120 rfl 0 rfl ?_
  refine gw_bipush C dX12_init_121 (v := 90) (by decide) ?_
  refine gx_newa C (atype := .int) 0 rfl wd_X12_aint (N := 90) (a0 := (90, .inl (fun _ => 0))) rfl (fun h => h) (by decide) (by decide +kernel) (by decide) (Nat.le_of_ble_eq_true rfl) (Nat.le_of_ble_eq_true rfl) dX12_init_123 ?_
  refine gw_putF C hi (ci := 10) (Cn := RX12) (Tc := TX12) (N := 19) (j := 18) (ty := tyX12 18) (ws' := [(M + 189, .inr (10, [.ref (M + 190), .ref (M + 191), .int 0, .ref (M + 192), .int 0, .int 0, .int (-1), .ref (M + 193), .int 0, .int 0, .ref (M + 194), .ref (M + 195), .ref (M + 196), .ref (M + 197), .int 0, .int 0, .int 0, .int 0, .ref (M + 198)])), (M + 198, .inl (T 0, 90, .inl (fun _ => 0))), (M + 197, .inl (T 0, 14, .inl (fun _ => 0))), (M + 196, .inl (T 2, 14, .inl (fun _ => 0))), (M + 195, .inl (T 0, 14, .inl (fun _ => 0))), (M + 194, .inl (T 0, 14, .inl (fun _ => 0))), (M + 193, .inl (T 0, 150, .inl (fun _ => 0))), (M + 192, .inl (T 0, 700, .inl (fun _ => 0))), (M + 191, .inl (T 2, 2, .inl (fun _ => 0))), (M + 190, .inl (T 0, 4202, .inl (fun _ => 0)))]) 0 rfl ly_X12_i12 rfl tyX12_ok nmX12 (by decide) (cg_ts C _ wd_X12_f66) (fun _ h => h) rfl rfl (by decide +kernel) rfl rfl (Nat.le_of_ble_eq_true rfl) rfl dX12_init_125 ?_
  have hg : (10, 0) ∈ grM := by decide
  have X : Cx p s m [.ref (M + 189)].toArray meth c cX12_init 3 wsX12_init RX12 (M + 189) T D grM (adr M cst) := cx_of C (Y := Y) (dmM M cst) (Nat.le_succ _) hSt
  refine gw_FW (T := T) (gr := grM) (ad := adr M cst) (Y := Y) (fun H hP => cv_M hP y0 yo) ?_
  refine fw_L (L1 := [(0, .ref (adr M cst 10 0 0))]) rfl ?_
  refine fw_ldcS X (hSt.2.1 ("RecipeSchedulerModel", 69, _, 0) (List.mem_of_getElem? (i := 30) rfl)) dX12_init_128 ?_
  refine fw_astore_n X dX12_init_130 rfl (by decide) (L' := [(1, .ref (adr M cst 21 0 0)), (0, .ref (adr M cst 10 0 0))]) rfl ?_
  refine fw_iconst X dX12_init_131 (v := 0) rfl ?_
  refine fw_istore_n X dX12_init_132 rfl (by decide) (L' := [(2, .int 0), (1, .ref (adr M cst 21 0 0)), (0, .ref (adr M cst 10 0 0))]) rfl ?_
  refine w_X12i_loop X hg ⟨(Nat.le_of_ble_eq_true rfl), (Nat.le_of_ble_eq_true rfl), (Nat.le_of_ble_eq_true rfl), (Nat.le_of_ble_eq_true rfl)⟩ _ _ _ hL (fun l3 => ?_)
  refine fw_aload_n X dX12_init_158 rfl 2 rfl ?_
  refine fw_aload_n X dX12_init_159 rfl 1 rfl ?_
  refine fw_callOi X (Cn := RJ0) (As := []) (c_J0_length_8abf5 ga0 hn) (cwV 0 (cx_ts X) gX12_init_J0_length_8abf5 rfl rfl rfl (by decide +kernel) ⟨(Nat.le_of_ble_eq_true rfl), (Nat.le_of_ble_eq_true rfl)⟩) ((cx_st X).1 0 (by decide)).1 rfl (st := [.ref (adr M cst 10 0 0)]) rfl (Nat.le_of_ble_eq_true rfl) ⟨(Nat.le_of_ble_eq_true rfl), (Nat.le_of_ble_eq_true rfl)⟩ dX12_init_160 (pp2 ?_)
  refine fw_put X (ci := 10) (Cn := RX12) (Tc := TX12) (N := 19) (j := 4) (ty := .int) (upd (Y1 10 0 0) 4 r) ly_X12_i12 rfl tyX12_ok nmX12 hg (of10_0 _) (ce10 T _ _ _) (by decide) (cx_ts X _ wd_X12_f27) (fun _ h => h) rfl (by decide +kernel) rfl rfl (Nat.le_of_ble_eq_true rfl) (ce10_put4 T _ _ _ _) dX12_init_163 ?_
  refine fw_mem ((up_eq _ _ _ _ _ _).symm.trans h2) ?_
  refine fw_aload_n X dX12_init_166 rfl 2 rfl ?_
  refine fw_callVv X (ci := 10) (Cn := RX12) (Tc := TX12) (N := 19) (As := []) (c_X12_begin (by decide) h3) (cwV 0 (cx_ts X) gX12_init_X12_begin rfl rfl rfl (by decide +kernel) ⟨(Nat.le_of_ble_eq_true rfl), (Nat.le_of_ble_eq_true rfl)⟩) rfl hg (of10_0 _) (ce10 T _ _ _) rfl (st := []) rfl (Nat.le_of_ble_eq_true rfl) ⟨(Nat.le_of_ble_eq_true rfl), (Nat.le_of_ble_eq_true rfl)⟩ dX12_init_167 (ppv ?_)
  refine fw_aload_n X dX12_init_170 rfl 2 rfl ?_
  refine fw_callVi X (ci := 10) (Cn := RX12) (Tc := TX12) (N := 19) (As := []) (c_X12_parseSetup (by decide) h4) (cwV 0 (cx_ts X) gX12_init_X12_parseSetup rfl rfl rfl (by decide +kernel) ⟨(Nat.le_of_ble_eq_true rfl), (Nat.le_of_ble_eq_true rfl)⟩) rfl hg (of10_0 _) (ce10 T _ _ _) rfl (st := []) rfl (Nat.le_of_ble_eq_true rfl) ⟨(Nat.le_of_ble_eq_true rfl), (Nat.le_of_ble_eq_true rfl)⟩ dX12_init_171 (ppw ?_)
  refine fw_pop X dX12_init_174 rfl ?_
  refine fw_aload_n X dX12_init_175 rfl 2 rfl ?_
  refine fw_iconst X dX12_init_176 (v := 0) rfl ?_
  refine fw_put X (ci := 10) (Cn := RX12) (Tc := TX12) (N := 19) (j := 4) (ty := .int) (upd (Y4 10 0 0) 4 0) ly_X12_i12 rfl tyX12_ok nmX12 hg (of10_0 _) (ce10 T _ _ _) (by decide) (cx_ts X _ wd_X12_f27) (fun _ h => h) rfl (by decide +kernel) rfl rfl (Nat.le_of_ble_eq_true rfl) (ce10_put4 T _ _ _ _) dX12_init_177 ?_
  refine fw_mem ((up_eq _ _ _ _ _ _).symm.trans h5) ?_
  refine fw_vretS X hr () trivial (fun t h7 h8 => ?_) dX12_init_180
  have hP : PM D (wC T grM (adr M cst) Y5) t.heap := PM.of h7
  have h9 : M + 198 < t.heap.size := (wC_GP hP hg 9 (of10_9 _)).lt
  refine ⟨hP, ?_⟩
  rw [cg_sz C] at h8
  have h10 : t.heap.size ≤ M + 190 + 9 := h8
  omega
theorem ct_X12 {l : Launch} (D : va_G) (T : Nat → ClassId) (M : Nat) (cst : Nat → Nat → Nat → Nat) (y0 : Y 10 0 0 = fun j => if j = 6 then -1 else 0) (yo : ∀ o, o ≠ 0 → Y 10 0 o = fun _ => 0) (hL : X12i_b133 FU Y 0 = some Y1) (hn : J0_length_8abf5 Y1 0 = some r) (h2 : up Y1 10 0 0 4 r = Y2) (h3 : X12_begin Y2 = some Y3) (h4 : X12_parseSetup Y3 = some (b, Y4)) (h5 : up Y4 10 0 0 4 0 = Y5) :
    CtW l yX12_init wsX12_init (Rc 9 9 5200) D T (M + 189) (adr M cst) [] (M + 189) (.inr (10, [.null, .null, .int 0, .null, .int 0, .int 0, .int 0, .null, .int 0, .int 0, .null, .null, .null, .null, .int 0, .int 0, .int 0, .int 0, .null])) (M + 190) [] Y grM Y5 9 5200 :=
  gw_bodyW (by decide +kernel) rfl rfl (Nat.le_of_ble_eq_true rfl) (Nat.le_succ _) ⟨List.pairwise_singleton _ _, fun q hq => by rw [List.mem_singleton.mp hq]; exact Nat.le_refl _⟩ (fun p e s m below meth c C hSt hi hr => w_X12 C hSt hi hr y0 yo hL hn h2 h3 h4 h5)
end
