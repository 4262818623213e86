/-! THE LAW's KITCHEN: its constructor -/
section
variable {p : Program} {l : Launch} {e : Env} {R : Room} {s : State} {m : MethodId} {args : Array Value} {below : List Frame} {meth : Method} {c : Code} {cc : ByteArray} {nL N0 : Nat} {T : Nat → ClassId} {D : va_G} {ad : Nat → Nat → Nat → Nat} {cells slots : Nat} {Q : State → Prop} {w w' : va_W} {pc : Nat} {L L' : List (Nat × Value)} {st : List Value} {Ts : List Cond} {own : String}
theorem hw_newi (C : Chw p s m args meth c cc nL Ts own N0 T D ad) {n : Int32} {N : Nat} (harr : Cond.arrayClass .int ∈ Ts) (hn : ¬ n < 0) (hN : n.toNatClampNeg = N) (hbytes : N * 4 ≤ 536870912) (hcells : cells + 1 ≤ R.cells) (hslots : slots + N ≤ R.slots) (d : decode cc pc = .ok (.newarray .int, 2)) (k : ∀ a : Nat, N0 ≤ a → (∀ q ∈ w, q.1 ≠ a) → HW p l e R s m args below meth c nL N0 D (cells + 1) (slots + N) Q ((a, .inl (T 0, N, .inl (fun _ => 0))) :: w) (pc + 2) L (.ref a :: st)) : HW p l e R s m args below meth c nL N0 D cells slots Q w pc L (.int n :: st) := by
  intro H locs ls hP hD hS hl1
  refine va_newaK C.1 C.2.1 (show (Cond.arrayClass (newarray.typeOf .int)).before args s = true from hx_ts C _ harr) rfl d rfl hn hN hbytes hcells hslots rfl fun H1 cA e1 z1 o1 _ hnm => ?_
  have ec : cA = T 0 := Option.some.inj (hnm.symm.trans (C.2.2.2.2.2.1.2 0 _ rfl).2)
  subst ec
  have e2 : va_at D vwCl (H.size, .inl (T 0, N, .inl (fun _ => 0))) H1 := e1
  have hlt : ∀ q ∈ w, q.1 < H.size := fun q hq => (PM.of hP q hq).lt
  have hA : N0 ≤ H.size := Nat.le_trans C.2.2.2.2.2.2.2.1 hS.1
  exact k H.size hA (fun q hq => Nat.ne_of_lt (hlt q hq)) H1 locs ls (PM.to (PM.cons e2 (PM.kept (PM.of hP) fun q hq => o1 _ (hlt q hq)))) (DM.to ((DM.of hD).cons hA fun q hq => (Nat.ne_of_lt (hlt q hq)).symm)) (va_S_grow hS (by omega) (fun q hq => o1 q (by omega))) hl1
/-- the same cells in another order -/
theorem hw_perm (h : w.Perm w') (k : HW p l e R s m args below meth c nL N0 D cells slots Q w' pc L st) : HW p l e R s m args below meth c nL N0 D cells slots Q w pc L st :=
  hw_conv w' (fun q hq => h.mem_iff.mpr hq) (fun hD => DM.to (DM.perm h (DM.of hD))) k
end
theorem wC_cg12 {T : Nat → ClassId} {gr : List (Nat × Nat)} {ad ad' : Nat → Nat → Nat → Nat} {Y Y' : Mem} (h : ∀ k, k ≠ 12 → ad' k = ad k) (hno : ∀ q ∈ gr, q.1 ≠ 12) (hY : ∀ k, k ≠ 12 → Y' k = Y k) : wC T gr ad' Y' = wC T gr ad Y := by
  unfold wC
  refine List.map_congr_left fun c hc => ?_
  have hne : c.1 ≠ 12 := by
    unfold keys at hc
    obtain ⟨q, q1, q2⟩ := List.mem_flatMap.mp hc
    obtain ⟨o, o1, o2⟩ := List.mem_map.mp q2
    rw [← o2]
    exact hno q q1
  have hcell : ∀ y, cell T ad' c.1 c.2.1 c.2.2 y = cell T ad c.1 c.2.1 c.2.2 y := fun y => by
    unfold cell cmdr
    rw [if_neg (show ¬ c.1 = 12 from hne), if_neg (show ¬ c.1 = 12 from hne)]
    rw [h 0 (by decide), h 1 (by decide), h 2 (by decide), h 3 (by decide), h 4 (by decide), h 5 (by decide), h 6 (by decide), h 7 (by decide), h 8 (by decide), h 9 (by decide), h 16 (by decide), h 20 (by decide)]
  rw [h c.1 hne, hY c.1 hne, hcell]
theorem Stt_ad12 {N0 : Nat} {ad ad' : Nat → Nat → Nat → Nat} {s : State} {H : Heap} (h : ∀ k, k ≠ 12 → ad' k = ad k) (hS : Stt N0 ad s H) : Stt N0 ad' s H := by
  unfold Stt SStr SEnum SCmds SSw SJdk at hS ⊢
  rw [h 20 (by decide), h 21 (by decide), h 22 (by decide), h 24 (by decide), h 25 (by decide)]
  exact hS
theorem jw_X12_init_o1 : (.methodLink RX12 1 objectInit : Cond) ∈ wsX12_init := by decide +kernel
theorem jw_X12_init_o2 : (.instanceMethod objectInit : Cond) ∈ wsX12_init := by decide +kernel
theorem jw_X12_init_o3 : (.code objectInit ⟨#[0xb1]⟩ 1 none : Cond) ∈ wsX12_init := by decide +kernel
theorem jw_X12_init_ai : (.arrayClass .int : Cond) ∈ wsX12_init := by decide +kernel
theorem jw_X12_init_f7 : (.fieldLink RX12 7 "RecipeSchedulerLaw$Kitchen" "status" "[I" : Cond) ∈ wsX12_init := by decide +kernel
theorem jl_X12_init_12 : ∀ w ∈ u_ws RX12 TX12 12, w ∈ wsX12_init := by decide +kernel
theorem jw_X12_init_f13 : (.fieldLink RX12 13 "RecipeSchedulerLaw$Kitchen" "left" "[I" : Cond) ∈ wsX12_init := by decide +kernel
theorem jw_X12_init_f16 : (.fieldLink RX12 16 "RecipeSchedulerLaw$Kitchen" "age" "[I" : Cond) ∈ wsX12_init := by decide +kernel
theorem jw_X12_init_f19 : (.fieldLink RX12 19 "RecipeSchedulerLaw$Kitchen" "path" "[I" : Cond) ∈ wsX12_init := by decide +kernel
theorem jw_X12_init_f22 : (.fieldLink RX12 22 "RecipeSchedulerLaw$Kitchen" "x" "LRecipeScheduler;" : Cond) ∈ wsX12_init := by decide +kernel
theorem jw_X12_init_f26 : (.fieldLink RX12 26 "RecipeSchedulerLaw$Kitchen" "hold" "I" : Cond) ∈ wsX12_init := by decide +kernel
theorem jw_X12_init_f36 : (.fieldLink RX12 36 "RecipeSchedulerLaw$Kitchen" "many" "I" : Cond) ∈ wsX12_init := by decide +kernel
/-- the memory with the new kitchen -/
def kY (Y : Mem) (many hold : Nat) : Mem := fun k g o => if k = 12 ∧ g = 0 then (if o = 0 then fun j => if j = 1 then nI many else if j = 2 then nI hold else 0 else fun _ => 0) else Y k g o
theorem h_ki {l : Launch} {N0 : Nat} {T : Nat → ClassId} {D : va_G} {gr : List (Nat × Nat)} {ad : Nat → Nat → Nat → Nat} {Y : Mem} {h hold : Nat} (hI : Inv Y) (hG : ∀ q ∈ ([(0, 0), (1, 0)] ++ allG), q ∈ gr) (h12 : ∀ q ∈ gr, q.1 ≠ 12) :
    HwV l yX12_init wsX12_init (Rhw 4 5 68) N0 T D ad ((h, .inr (12, [.null, .int 0, .int 0, .null, .null, .null, .null, .int 0, .int 0, .int 0, .int 0, .int 0])) :: wC T gr ad Y) [.ref h, .ref (ad 0 0 0), .int (nI hold)] (fun w1 => ∃ ad', (∀ k, k ≠ 12 → ad' k = ad k) ∧ ad' 12 0 0 = h ∧ w1 = wC T (gr ++ [(12, 0)]) ad' (kY Y (nS (Y 10 0 1)) hold)) 5 68 := by
  refine hw_body 5 68 (by decide +kernel) rfl (Nat.le_of_ble_eq_true rfl) (fun p e s m below meth c C hnm hr => ?_)
  have hi : meth.name = "<init>" := hnm
  refine hw_aload_n C dX12_init_0 rfl 0 rfl ?_
  refine hw_objInit C jw_X12_init_o1 jw_X12_init_o2 jw_X12_init_o3 rfl ⟨Nat.le_of_ble_eq_true rfl, Nat.le_of_ble_eq_true rfl⟩ dX12_init_1 ?_
  refine hw_aload_n C dX12_init_4 rfl 0 rfl ?_
  refine hw_bipush C dX12_init_5 (v := 14) (by decide) ?_
  refine hw_newi C (N := 14) jw_X12_init_ai (by decide) (by decide) (by decide) (Nat.le_of_ble_eq_true rfl) (Nat.le_of_ble_eq_true rfl) dX12_init_7 (fun a0 ha0 hna0 => ?_)
  refine hw_putF C hi 1 (ci := 12) (Cn := RX12) (Tc := TX12) (N := 12) (j := 3) (tyc := tyX12) (ty := tyX12 3) (w' := (a0, .inl (T 0, 14, .inl (fun _ => 0))) :: (h, .inr (12, [.null, .int 0, .int 0, .ref a0, .null, .null, .null, .int 0, .int 0, .int 0, .int 0, .int 0])) :: wC T gr ad Y) rfl jl_X12_init_12 rfl tyX12_ok nmX12 (by decide) (hx_ts C _ jw_X12_init_f7) (fun _ h => h) rfl rfl (by decide +kernel) rfl rfl (Nat.le_of_ble_eq_true rfl) rfl dX12_init_9 ?_
  refine hw_aload_n C dX12_init_12 rfl 0 rfl ?_
  refine hw_bipush C dX12_init_13 (v := 14) (by decide) ?_
  refine hw_newi C (N := 14) jw_X12_init_ai (by decide) (by decide) (by decide) (Nat.le_of_ble_eq_true rfl) (Nat.le_of_ble_eq_true rfl) dX12_init_15 (fun a1 ha1 hna1 => ?_)
  refine hw_putF C hi 2 (ci := 12) (Cn := RX12) (Tc := TX12) (N := 12) (j := 4) (tyc := tyX12) (ty := tyX12 4) (w' := (a1, .inl (T 0, 14, .inl (fun _ => 0))) :: (a0, .inl (T 0, 14, .inl (fun _ => 0))) :: (h, .inr (12, [.null, .int 0, .int 0, .ref a0, .ref a1, .null, .null, .int 0, .int 0, .int 0, .int 0, .int 0])) :: wC T gr ad Y) rfl jl_X12_init_12 rfl tyX12_ok nmX12 (by decide) (hx_ts C _ jw_X12_init_f13) (fun _ h => h) rfl rfl (by decide +kernel) rfl rfl (Nat.le_of_ble_eq_true rfl) rfl dX12_init_17 ?_
  refine hw_aload_n C dX12_init_20 rfl 0 rfl ?_
  refine hw_bipush C dX12_init_21 (v := 14) (by decide) ?_
  refine hw_newi C (N := 14) jw_X12_init_ai (by decide) (by decide) (by decide) (Nat.le_of_ble_eq_true rfl) (Nat.le_of_ble_eq_true rfl) dX12_init_23 (fun a2 ha2 hna2 => ?_)
  refine hw_putF C hi 3 (ci := 12) (Cn := RX12) (Tc := TX12) (N := 12) (j := 5) (tyc := tyX12) (ty := tyX12 5) (w' := (a2, .inl (T 0, 14, .inl (fun _ => 0))) :: (a1, .inl (T 0, 14, .inl (fun _ => 0))) :: (a0, .inl (T 0, 14, .inl (fun _ => 0))) :: (h, .inr (12, [.null, .int 0, .int 0, .ref a0, .ref a1, .ref a2, .null, .int 0, .int 0, .int 0, .int 0, .int 0])) :: wC T gr ad Y) rfl jl_X12_init_12 rfl tyX12_ok nmX12 (by decide) (hx_ts C _ jw_X12_init_f16) (fun _ h => h) rfl rfl (by decide +kernel) rfl rfl (Nat.le_of_ble_eq_true rfl) rfl dX12_init_25 ?_
  refine hw_aload_n C dX12_init_28 rfl 0 rfl ?_
  refine hw_bipush C dX12_init_29 (v := 14) (by decide) ?_
  refine hw_newi C (N := 14) jw_X12_init_ai (by decide) (by decide) (by decide) (Nat.le_of_ble_eq_true rfl) (Nat.le_of_ble_eq_true rfl) dX12_init_31 (fun a3 ha3 hna3 => ?_)
  refine hw_putF C hi 4 (ci := 12) (Cn := RX12) (Tc := TX12) (N := 12) (j := 6) (tyc := tyX12) (ty := tyX12 6) (w' := (a3, .inl (T 0, 14, .inl (fun _ => 0))) :: (a2, .inl (T 0, 14, .inl (fun _ => 0))) :: (a1, .inl (T 0, 14, .inl (fun _ => 0))) :: (a0, .inl (T 0, 14, .inl (fun _ => 0))) :: (h, .inr (12, [.null, .int 0, .int 0, .ref a0, .ref a1, .ref a2, .ref a3, .int 0, .int 0, .int 0, .int 0, .int 0])) :: wC T gr ad Y) rfl jl_X12_init_12 rfl tyX12_ok nmX12 (by decide) (hx_ts C _ jw_X12_init_f19) (fun _ h => h) rfl rfl (by decide +kernel) rfl rfl (Nat.le_of_ble_eq_true rfl) rfl dX12_init_33 ?_
  refine hw_aload_n C dX12_init_36 rfl 0 rfl ?_
  refine hw_aload_n C dX12_init_37 rfl 1 rfl ?_
  refine hw_putF C hi 4 (ci := 12) (Cn := RX12) (Tc := TX12) (N := 12) (j := 0) (tyc := tyX12) (ty := tyX12 0) (w' := (a3, .inl (T 0, 14, .inl (fun _ => 0))) :: (a2, .inl (T 0, 14, .inl (fun _ => 0))) :: (a1, .inl (T 0, 14, .inl (fun _ => 0))) :: (a0, .inl (T 0, 14, .inl (fun _ => 0))) :: (h, .inr (12, [.ref (ad 0 0 0), .int 0, .int 0, .ref a0, .ref a1, .ref a2, .ref a3, .int 0, .int 0, .int 0, .int 0, .int 0])) :: wC T gr ad Y) rfl jl_X12_init_12 rfl tyX12_ok nmX12 (by decide) (hx_ts C _ jw_X12_init_f22) (fun _ h => h) rfl rfl (by decide +kernel) rfl rfl (Nat.le_of_ble_eq_true rfl) rfl dX12_init_38 ?_
  refine hw_aload_n C dX12_init_41 rfl 0 rfl ?_
  refine hw_iload_n C dX12_init_42 rfl 2 rfl ?_
  refine hw_putF C hi 4 (ci := 12) (Cn := RX12) (Tc := TX12) (N := 12) (j := 2) (tyc := tyX12) (ty := tyX12 2) (w' := (a3, .inl (T 0, 14, .inl (fun _ => 0))) :: (a2, .inl (T 0, 14, .inl (fun _ => 0))) :: (a1, .inl (T 0, 14, .inl (fun _ => 0))) :: (a0, .inl (T 0, 14, .inl (fun _ => 0))) :: (h, .inr (12, [.ref (ad 0 0 0), .int 0, .int (nI hold), .ref a0, .ref a1, .ref a2, .ref a3, .int 0, .int 0, .int 0, .int 0, .int 0])) :: wC T gr ad Y) rfl jl_X12_init_12 rfl tyX12_ok nmX12 (by decide) (hx_ts C _ jw_X12_init_f26) (fun _ h => h) rfl rfl (by decide +kernel) rfl rfl (Nat.le_of_ble_eq_true rfl) rfl dX12_init_43 ?_
  refine hw_aload_n C dX12_init_46 rfl 0 rfl ?_
  refine hw_aload_n C dX12_init_47 rfl 1 rfl ?_
  obtain ⟨ad', had, b0, b1, b2, b3, b4⟩ : ∃ ad' : Nat → Nat → Nat → Nat, (∀ k, k ≠ 12 → ad' k = ad k) ∧ ad' 12 0 0 = h ∧ ad' 12 0 1 = a0 ∧ ad' 12 0 2 = a1 ∧ ad' 12 0 3 = a2 ∧ ad' 12 0 4 = a3 :=
    ⟨fun k g o => if k = 12 then (if o = 0 then h else if o = 1 then a0 else if o = 2 then a1 else if o = 3 then a2 else a3) else ad k g o, fun k hk => by funext g o; exact if_neg hk, rfl, rfl, rfl, rfl, rfl⟩
  have hk : ∀ many : Nat, ∀ k, k ≠ 12 → kY Y many hold k = Y k := fun many k hk => by funext g o; unfold kY; rw [if_neg (fun q => hk q.1)]
  have e0 : ad' 0 = ad 0 := had 0 (by decide)
  have hw : wC T (gr ++ [(12, 0)]) ad' (kY Y 0 hold) = wC T gr ad Y ++ [(h, .inr (12, [.ref (ad 0 0 0), .int 0, .int (nI hold), .ref a0, .ref a1, .ref a2, .ref a3, .int 0, .int 0, .int 0, .int 0, .int 0])), (a0, .inl (T 0, 14, .inl (fun _ => 0))), (a1, .inl (T 0, 14, .inl (fun _ => 0))), (a2, .inl (T 0, 14, .inl (fun _ => 0))), (a3, .inl (T 0, 14, .inl (fun _ => 0)))] := by
    rw [← wC_cg12 (T := T) (gr := gr) had h12 (hk 0), ← b0, ← b1, ← b2, ← b3, ← b4, ← e0]
    unfold wC keys
    rw [List.flatMap_append, List.map_append]
    rfl
  refine hw_perm (w' := wC T (gr ++ [(12, 0)]) ad' (kY Y 0 hold)) ?_ ?_
  · rw [hw]
    refine List.Perm.symm (List.perm_append_comm.trans ?_)
    refine List.Perm.append_right (wC T gr ad Y) (l₁ := ([(h, .inr (12, [.ref (ad 0 0 0), .int 0, .int (nI hold), .ref a0, .ref a1, .ref a2, .ref a3, .int 0, .int 0, .int 0, .int 0, .int 0])), (a0, .inl (T 0, 14, .inl (fun _ => 0))), (a1, .inl (T 0, 14, .inl (fun _ => 0))), (a2, .inl (T 0, 14, .inl (fun _ => 0))), (a3, .inl (T 0, 14, .inl (fun _ => 0)))] : va_W)) (l₂ := ([(a3, .inl (T 0, 14, .inl (fun _ => 0))), (a2, .inl (T 0, 14, .inl (fun _ => 0))), (a1, .inl (T 0, 14, .inl (fun _ => 0))), (a0, .inl (T 0, 14, .inl (fun _ => 0))), (h, .inr (12, [.ref (ad 0 0 0), .int 0, .int (nI hold), .ref a0, .ref a1, .ref a2, .ref a3, .int 0, .int 0, .int 0, .int 0, .int 0]))] : va_W)) ?_
    exact (List.reverse_perm _).symm
  have hG' : ∀ q ∈ ([(0, 0), (1, 0)] ++ allG), q ∈ gr ++ [(12, 0)] := fun q hq => List.mem_append_left _ (hG q hq)
  have g12 : (12, 0) ∈ gr ++ [(12, 0)] := List.mem_append_right _ (List.mem_singleton.mpr rfl)
  have hIk : Inv (kY Y 0 hold) := Inv_fr (fun k hk9 => hk 0 k (by omega)) hI
  have hsc := v_stepCount hIk
  rw [hk 0 10 (by decide)] at hsc
  obtain ⟨qx, hx⟩ := wC_x (T := T) (ad := ad') (gr := gr ++ [(12, 0)]) (List.mem_append_left _ (hG _ (List.mem_append_left _ List.mem_cons_self)))
  obtain ⟨fs, hfs⟩ := hx (kY Y 0 hold)
  obtain ⟨qk, hqk⟩ := keys_at (gr := gr ++ [(12, 0)]) (o := 0) g12 (by decide)
  have C' : Chw p s m [.ref h, .ref (ad 0 0 0), .int (nI hold)].toArray meth c cX12_init 3 wsX12_init RX12 N0 T D ad' := ⟨C.1, C.2.1, C.2.2.1, C.2.2.2.1, C.2.2.2.2.1, C.2.2.2.2.2.1, trivial, C.2.2.2.2.2.2.2.1, C.2.2.2.2.2.2.2.2.1, C.2.2.2.2.2.2.2.2.2.1, Stt_ad12 had (hx_st C)⟩
  refine hw_st (st' := [.ref (ad' 0 0 0), .ref (ad' 12 0 0)]) (by rw [e0, b0]) ?_
  refine hw_callWi C' qx (ci := 11) (Cn := RX11) (Tc := TX11) (N := 11) (As := []) (CI_HI (c_X11_stepCount hG' hsc)) (cwV 0 (hx_ts C') gX12_init_X11_stepCount rfl rfl rfl (by decide +kernel) ⟨Nat.le_of_ble_eq_true rfl, Nat.le_of_ble_eq_true rfl⟩) rfl hfs rfl (st := [.ref (ad' 12 0 0)]) rfl (Nat.le_of_ble_eq_true rfl) ⟨by decide, by decide⟩ dX12_init_48 (fun r w1 h1 => ?_)
  obtain ⟨Y1, ⟨rfl, rfl⟩, rfl⟩ := h1
  refine hw_conv (wC T (gr ++ [(12, 0)]) ad' (kY Y 0 hold)) (fun q hq => hq) (fun hD => hD) ?_
  intro H locs ls hP hD hS hl1
  refine hw_putF C' hi qk (ci := 12) (Cn := RX12) (Tc := TX12) (N := 12) (j := 1) (tyc := tyX12) (ty := tyX12 1) (w' := wC T (gr ++ [(12, 0)]) ad' (kY Y (nS (Y 10 0 1)) hold)) (by rw [wC_key hqk]; rfl) jl_X12_init_12 rfl tyX12_ok nmX12 (by decide) (hx_ts C' _ jw_X12_init_f36) (fun _ h => h) rfl rfl (by decide +kernel) rfl rfl (Nat.le_of_ble_eq_true rfl) ?_ dX12_init_51 ?_ H locs ls hP hD hS hl1
  · have e9 := wC_set hD hqk (T := T) (ad := ad') (Y := kY Y 0 hold) (fun j => if j = 1 then nI (nS (Y 10 0 1)) else if j = 2 then nI hold else 0)
    have e8 : upR (kY Y 0 hold) 12 0 0 (fun j => if j = 1 then nI (nS (Y 10 0 1)) else if j = 2 then nI hold else 0) = kY Y (nS (Y 10 0 1)) hold := by
      funext k g o
      unfold upR kY
      by_cases q : k = 12 ∧ g = 0 ∧ o = 0
      · obtain ⟨rfl, rfl, rfl⟩ := q
        simp
      · rw [if_neg q]
        by_cases q2 : k = 12 ∧ g = 0
        · rw [if_pos q2, if_pos q2, if_neg (fun q3 => q ⟨q2.1, q2.2, q3⟩), if_neg (fun q3 => q ⟨q2.1, q2.2, q3⟩)]
        · rw [if_neg q2, if_neg q2]
    rw [e8] at e9
    exact e9
  · refine hw_more (cells' := 5) (slots' := 68) (by decide) (by decide) ?_
    exact hw_vret C' hr _ ⟨ad', had, b0, rfl⟩ (fun t h1 h2 => ⟨h1, h2⟩) dX12_init_54
