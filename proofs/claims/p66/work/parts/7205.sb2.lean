/-! THE JDK's STRINGBUILDER: room, and a constant laid in -/
theorem sByt_len {i : Nat} (h : i < 17) : (sByt i).length ≤ 700 := (by decide +kernel : ∀ i, i < 17 → (sByt i).length ≤ 700) i h
theorem sByt_fit {i : Nat} (h : i < 17) (j : Nat) : fits .byte (.int ((sByt i).getD j 0)) = true := by
  have h1 := (by decide +kernel : ∀ i, i < 17 → (sByt i).all (fun x => fits .byte (.int x)) = true) i h
  by_cases hj : j < (sByt i).length
  · rw [List.getD_eq_getElem?_getD, List.getElem?_eq_getElem hj]
    exact List.all_eq_true.mp h1 _ (List.getElem_mem hj)
  · rw [List.getD_eq_getElem?_getD, List.getElem?_eq_none (Nat.le_of_not_lt hj)]; decide
theorem fit_nI {x : Nat} (h : x < 128) : fits .byte (.int (nI x)) = true := (by decide +kernel : ∀ x, x < 128 → fits .byte (.int (nI x)) = true) x h
theorem vp_nI {x : Nat} (h : x < 128) : vp_nar .byte (nI x) = nI x := (by decide +kernel : ∀ x, x < 128 → vp_nar .byte (nI x) = nI x) x h
theorem i2b_nI {x : Nat} (h : x < 128) : (nI x).toInt8.toInt32 = nI x := (by decide +kernel : ∀ x, x < 128 → (nI x).toInt8.toInt32 = nI x) x h
theorem upd_at1 {f : Nat → Int32} {n : Nat} {y : Int32} : ∀ j, j < [y].length → upd f n y (n + j) = [y].getD j 0 := fun j hj => by
  obtain rfl : j = 0 := by
    have h9 : j < 1 := hj
    omega
  exact pk_us
theorem jw_J5_ensureCapacityInternal_d00df_f15 : (.fieldLink RJ5 15 "java/lang/AbstractStringBuilder" "value" "[B" : Cond) ∈ wsJ5_ensureCapacityInternal_d00df := by decide +kernel
theorem jl_J5_ensureCapacityInternal_d00df_1 : ∀ w ∈ u_ws RJ4 TJ4 4, w ∈ wsJ5_ensureCapacityInternal_d00df := by decide +kernel
theorem jw_J5_ensureCapacityInternal_d00df_f22 : (.fieldLink RJ5 22 "java/lang/AbstractStringBuilder" "coder" "B" : Cond) ∈ wsJ5_ensureCapacityInternal_d00df := by decide +kernel
section
variable {p : Program} {l : Launch} {e : Env} {s : State} {m : MethodId} {below : List Frame} {meth : Method} {c : Code} {N0 : Nat} {T : Nat → ClassId} {D : va_G} {ad : Nat → Nat → Nat → Nat}
theorem w_ens {b v cap n q : Nat} {f : Nat → Int32} (hn : n ≤ cap) (hcap : cap ≤ 2000) (hq : q ≤ 1000) (hf : sb_Fit f) (C : Chw p s m [.ref b, .int (nI q)].toArray meth c cJ5_ensureCapacityInternal_d00df 3 wsJ5_ensureCapacityInternal_d00df RJ5 N0 T D ad) (hr : meth.sig.returnType = none) : HW p l e (Rhw 4 1 2000) s m [.ref b, .int (nI q)].toArray below meth c 3 N0 D 0 0 (MQ below (va_Qv (fun w1 => ∃ v1 cap1 f1, w1 = sbW T b v1 cap1 n f1 ∧ q ≤ cap1 ∧ cap1 ≤ 2000 ∧ (∀ j, j < n → f1 j = f j) ∧ sb_Fit f1) (HwB N0 D) (fun q => N0 ≤ q)) [.ref b, .int (nI q)].toArray s 1 2000 (fun q => N0 ≤ q)) ([(b, .inr (1, [.ref v, .int 0, .int 0, .int (nI n)])), (v, .inl (T 1, cap, .inl f))]) 0 [(0, .ref b), (1, .int (nI q))] [] := by
  refine hw_aload_n C dJ5_ensureCapacityInternal_d00df_0 rfl 0 rfl ?_
  refine hw_get C 0 (ci := 1) (Cn := RJ4) (Tc := TJ4) (N := 4) (j := 0) (v := .ref v) rfl jl_J5_ensureCapacityInternal_d00df_1 rfl (by decide) (hx_ts C _ jw_J5_ensureCapacityInternal_d00df_f15) (fun _ h => h) rfl dJ5_ensureCapacityInternal_d00df_1 ?_
  refine hw_alen C 1 rfl rfl dJ5_ensureCapacityInternal_d00df_4 ?_
  refine hw_aload_n C dJ5_ensureCapacityInternal_d00df_5 rfl 0 rfl ?_
  refine hw_get C 0 (ci := 1) (Cn := RJ4) (Tc := TJ4) (N := 4) (j := 1) (v := .int 0) rfl jl_J5_ensureCapacityInternal_d00df_1 rfl (by decide) (hx_ts C _ jw_J5_ensureCapacityInternal_d00df_f22) (fun _ h => h) rfl dJ5_ensureCapacityInternal_d00df_6 ?_
  refine hw_ishr C dJ5_ensureCapacityInternal_d00df_9 ?_
  refine hw_topi (v' := nI cap) (sb_shr0 _) ?_
  refine hw_istore_n C dJ5_ensureCapacityInternal_d00df_10 rfl (by decide) rfl ?_
  refine hw_iload_n C dJ5_ensureCapacityInternal_d00df_11 rfl 2 rfl ?_
  refine hw_iload_n C dJ5_ensureCapacityInternal_d00df_12 rfl 0 rfl ?_
  refine hw_isub C dJ5_ensureCapacityInternal_d00df_13 ?_
  by_cases hc : q ≤ cap
  · refine hw_if_le C dJ5_ensureCapacityInternal_d00df_14 (tgt := 38) rfl (fun _ => ?_) (fun h9 => absurd (sb_le hc (by omega)) h9)
    refine hw_more (cells' := 1) (slots' := 2000) (by omega) (by omega) ?_
    exact hw_vret C hr _ ⟨v, cap, f, rfl, hc, hcap, fun _ _ => rfl, hf⟩ (fun t h1 h2 => ⟨h1, h2⟩) dJ5_ensureCapacityInternal_d00df_38
  · refine hw_if_le C dJ5_ensureCapacityInternal_d00df_14 (tgt := 38) rfl (fun h9 => absurd h9 (sb_gt hc (by omega))) (fun _ => ?_)
    refine hw_aload_n C dJ5_ensureCapacityInternal_d00df_17 rfl 1 rfl ?_
    refine hw_aload_n C dJ5_ensureCapacityInternal_d00df_18 rfl 1 rfl ?_
    refine hw_get C 0 (ci := 1) (Cn := RJ4) (Tc := TJ4) (N := 4) (j := 0) (v := .ref v) rfl jl_J5_ensureCapacityInternal_d00df_1 rfl (by decide) (hx_ts C _ jw_J5_ensureCapacityInternal_d00df_f15) (fun _ h => h) rfl dJ5_ensureCapacityInternal_d00df_19 ?_
    refine hw_aload_n C dJ5_ensureCapacityInternal_d00df_22 rfl 1 rfl ?_
    refine hw_iload_n C dJ5_ensureCapacityInternal_d00df_23 rfl 2 rfl ?_
    refine hw_callUi C 0 (ci := 1) (Cn := RJ4) (Tc := TJ4) (N := 4) (As := [.int (nI q)]) (h_newC (by omega) (by omega)) (va_cwU 1 (hx_ts C) gJ5_ensureCapacityInternal_d00df_J5_newCapacity_0f7a4_u104J4 rfl rfl rfl rfl (by decide +kernel) ⟨Nat.le_of_ble_eq_true rfl, Nat.le_of_ble_eq_true rfl⟩) rfl rfl rfl (st := [.ref v, .ref b]) rfl (Nat.le_of_ble_eq_true rfl) ⟨by show 0 + 0 ≤ 1; omega, by show 0 + 0 ≤ 2000; omega⟩ dJ5_ensureCapacityInternal_d00df_24 (fun r w1 h1 => ?_)
    obtain ⟨rfl, rfl⟩ := h1
    refine hw_aload_n C dJ5_ensureCapacityInternal_d00df_27 rfl 1 rfl ?_
    refine hw_get C 0 (ci := 1) (Cn := RJ4) (Tc := TJ4) (N := 4) (j := 1) (v := .int 0) rfl jl_J5_ensureCapacityInternal_d00df_1 rfl (by decide) (hx_ts C _ jw_J5_ensureCapacityInternal_d00df_f22) (fun _ h => h) rfl dJ5_ensureCapacityInternal_d00df_28 ?_
    refine hw_ishl C dJ5_ensureCapacityInternal_d00df_31 ?_
    refine hw_topi (v' := nI (cap + max (q - cap) (cap + 2))) (sb_shl0 _) ?_
    refine hw_callSq C (As := [.ref v, .int (nI (cap + max (q - cap) (cap + 2)))]) (h_cpo (q0 := 1) rfl (by omega) (by omega) hf) (va_cwS 2 (hx_ts C) gJ5_ensureCapacityInternal_d00df_J7_copyOf_9075b rfl rfl rfl (by decide +kernel) ⟨Nat.le_of_ble_eq_true rfl, Nat.le_of_ble_eq_true rfl⟩) rfl (st := [.ref b]) rfl (Nat.le_of_ble_eq_true rfl) ⟨by show 0 + 0 + 1 ≤ 1; omega, by show 0 + 0 + (cap + max (q - cap) (cap + 2)) ≤ 2000; omega⟩ dJ5_ensureCapacityInternal_d00df_32 (fun r w1 h1 => ?_)
    obtain ⟨a, rfl, ha, hna, rfl⟩ := h1
    refine hw_put C 1 (ci := 1) (Cn := RJ4) (Tc := TJ4) (N := 4) (j := 0) (tyc := tyJ4) (ty := tyJ4 0) (w' := [(a, .inl (T 1, (cap + max (q - cap) (cap + 2)), .inl (va_cpy f (fun _ => 0) 0 0 cap))), (b, .inr (1, [.ref a, .int 0, .int 0, .int (nI n)])), (v, .inl (T 1, cap, .inl f))]) rfl jl_J5_ensureCapacityInternal_d00df_1 rfl tyJ4_ok nmJ4 (by decide) (hx_ts C _ jw_J5_ensureCapacityInternal_d00df_f15) (fun _ h => h) rfl (by decide +kernel) rfl rfl (Nat.le_of_ble_eq_true rfl) rfl dJ5_ensureCapacityInternal_d00df_35 ?_
    have hab : a ≠ b := fun e => hna _ List.mem_cons_self e.symm
    refine hw_conv (sbW T b a (cap + max (q - cap) (cap + 2)) n (va_cpy f (fun _ => 0) 0 0 cap)) (fun x hx => ?_) (fun hD => sb_D hD) ?_
    · rcases List.mem_cons.mp hx with rfl | hx
      · exact List.mem_cons_of_mem _ List.mem_cons_self
      · rw [List.mem_singleton.mp hx]; exact List.mem_cons_self
    · refine hw_more (cells' := 1) (slots' := 2000) (by omega) (by omega) ?_
      exact hw_vret C hr _ ⟨a, _, _, rfl, by omega, by omega, fun j hj => sb_cpy0 (by omega), sb_fitC hf sb_fit0⟩ (fun t h1 h2 => ⟨h1, h2⟩) dJ5_ensureCapacityInternal_d00df_38
end
theorem h_ens {l : Launch} {N0 : Nat} {T : Nat → ClassId} {D : va_G} {ad : Nat → Nat → Nat → Nat} {b v cap n q : Nat} {f : Nat → Int32} (hn : n ≤ cap) (hcap : cap ≤ 2000) (hq : q ≤ 1000) (hf : sb_Fit f) : HwV l yJ5_ensureCapacityInternal_d00df wsJ5_ensureCapacityInternal_d00df (Rhw 4 1 2000) N0 T D ad ([(b, .inr (1, [.ref v, .int 0, .int 0, .int (nI n)])), (v, .inl (T 1, cap, .inl f))]) [.ref b, .int (nI q)] (fun w1 => ∃ v1 cap1 f1, w1 = sbW T b v1 cap1 n f1 ∧ q ≤ cap1 ∧ cap1 ≤ 2000 ∧ (∀ j, j < n → f1 j = f j) ∧ sb_Fit f1) 1 2000 :=
  hw_body 1 2000 (by decide +kernel) rfl (Nat.le_of_ble_eq_true rfl) (fun p e s m below meth c C hnm hr => w_ens hn hcap hq hf C hr)
theorem jw_J5_inflateIfNeededFor_a7421_f18 : (.fieldLink RJ5 18 "java/lang/String" "COMPACT_STRINGS" "Z" : Cond) ∈ wsJ5_inflateIfNeededFor_a7421 := by decide +kernel
theorem jw_J5_inflateIfNeededFor_a7421_f22 : (.fieldLink RJ5 22 "java/lang/AbstractStringBuilder" "coder" "B" : Cond) ∈ wsJ5_inflateIfNeededFor_a7421 := by decide +kernel
theorem jl_J5_inflateIfNeededFor_a7421_1 : ∀ w ∈ u_ws RJ4 TJ4 4, w ∈ wsJ5_inflateIfNeededFor_a7421 := by decide +kernel
section
variable {p : Program} {l : Launch} {e : Env} {s : State} {m : MethodId} {below : List Frame} {meth : Method} {c : Code} {N0 : Nat} {T : Nat → ClassId} {D : va_G} {ad : Nat → Nat → Nat → Nat}
theorem w_ifn {b v cap n i : Nat} {f : Nat → Int32} (h_i : i < 17) (C : Chw p s m [.ref b, .ref (ad 21 i 0)].toArray meth c cJ5_inflateIfNeededFor_a7421 2 wsJ5_inflateIfNeededFor_a7421 RJ5 N0 T D ad) (hr : meth.sig.returnType = none) : HW p l e (Rhw 2 0 0) s m [.ref b, .ref (ad 21 i 0)].toArray below meth c 2 N0 D 0 0 (MQ below (va_Qv (fun w1 => w1 = [(b, .inr (1, [.ref v, .int 0, .int 0, .int (nI n)])), (v, .inl (T 1, cap, .inl f))]) (HwB N0 D) (fun q => N0 ≤ q)) [.ref b, .ref (ad 21 i 0)].toArray s 0 0 (fun q => N0 ≤ q)) ([(b, .inr (1, [.ref v, .int 0, .int 0, .int (nI n)])), (v, .inl (T 1, cap, .inl f))]) 0 [(0, .ref b), (1, .ref (ad 21 i 0))] [] := by
  refine hw_gets C (hx_st C).2.2.2.2.2.1 (hx_ts C _ jw_J5_inflateIfNeededFor_a7421_f18) (fun _ h => h) dJ5_inflateIfNeededFor_a7421_0 ?_
  refine hw_if_eq C dJ5_inflateIfNeededFor_a7421_3 (tgt := 21) rfl (fun h9 => absurd h9 ((by decide))) (fun _ => ?_)
  refine hw_aload_n C dJ5_inflateIfNeededFor_a7421_6 rfl 0 rfl ?_
  refine hw_get C 0 (ci := 1) (Cn := RJ4) (Tc := TJ4) (N := 4) (j := 1) (v := .int 0) rfl jl_J5_inflateIfNeededFor_a7421_1 rfl (by decide) (hx_ts C _ jw_J5_inflateIfNeededFor_a7421_f22) (fun _ h => h) rfl dJ5_inflateIfNeededFor_a7421_7 ?_
  refine hw_aload_n C dJ5_inflateIfNeededFor_a7421_10 rfl 1 rfl ?_
  refine hw_callOi C (Cn := RJ0) (As := []) (h_cod h_i) (cwV 0 (hx_ts C) gJ5_inflateIfNeededFor_a7421_J0_coder_7d493 rfl rfl rfl (by decide +kernel) ⟨Nat.le_of_ble_eq_true rfl, Nat.le_of_ble_eq_true rfl⟩) ((hx_st C).1 i h_i).1 rfl (st := [.int 0]) rfl (Nat.le_of_ble_eq_true rfl) ⟨Nat.le_refl _, Nat.le_refl _⟩ dJ5_inflateIfNeededFor_a7421_11 (fun r w1 h1 => ?_)
  obtain ⟨rfl, rfl⟩ := h1
  refine hw_icmp_eq C dJ5_inflateIfNeededFor_a7421_14 (tgt := 21) rfl (fun _ => ?_) (fun h9 => absurd rfl h9)
  exact hw_vret C hr _ rfl (fun t h1 h2 => ⟨h1, h2⟩) dJ5_inflateIfNeededFor_a7421_21
end
theorem h_ifn {l : Launch} {N0 : Nat} {T : Nat → ClassId} {D : va_G} {ad : Nat → Nat → Nat → Nat} {b v cap n i : Nat} {f : Nat → Int32} (h_i : i < 17) : HwV l yJ5_inflateIfNeededFor_a7421 wsJ5_inflateIfNeededFor_a7421 (Rhw 2 0 0) N0 T D ad ([(b, .inr (1, [.ref v, .int 0, .int 0, .int (nI n)])), (v, .inl (T 1, cap, .inl f))]) [.ref b, .ref (ad 21 i 0)] (fun w1 => w1 = [(b, .inr (1, [.ref v, .int 0, .int 0, .int (nI n)])), (v, .inl (T 1, cap, .inl f))]) 0 0 :=
  hw_body 0 0 (by decide +kernel) rfl (Nat.le_of_ble_eq_true rfl) (fun p e s m below meth c C hnm hr => w_ifn h_i C hr)
theorem jw_J0_getBytes_840e7_f9 : (.fieldLink RJ0 9 "java/lang/String" "value" "[B" : Cond) ∈ wsJ0_getBytes_840e7 := by decide +kernel
theorem jw_J0_getBytes_840e7_a1 : (.methodLink RJ0 212 arraycopyName : Cond) ∈ wsJ0_getBytes_840e7 := by decide +kernel
theorem jw_J0_getBytes_840e7_a2 : (.native arraycopyName : Cond) ∈ wsJ0_getBytes_840e7 := by decide +kernel
theorem jw_J0_getBytes_840e7_a3 : (.static arraycopyName : Cond) ∈ wsJ0_getBytes_840e7 := by decide +kernel
theorem jw_J0_getBytes_840e7_a4 : (.initialized "java/lang/System" : Cond) ∈ wsJ0_getBytes_840e7 := by decide +kernel
section
variable {p : Program} {l : Launch} {e : Env} {s : State} {m : MethodId} {below : List Frame} {meth : Method} {c : Code} {N0 : Nat} {T : Nat → ClassId} {D : va_G} {ad : Nat → Nat → Nat → Nat}
theorem w_gby {b v cap n i k : Nat} {f : Nat → Int32} (h_i : i < 17) (hk : k + (sByt i).length ≤ cap) (hcap : cap ≤ 2000) (C : Chw p s m [.ref (ad 21 i 0), .ref v, .int (nI k), .int 0].toArray meth c cJ0_getBytes_840e7 4 wsJ0_getBytes_840e7 RJ0 N0 T D ad) (hr : meth.sig.returnType = none) : HW p l e (Rhw 3 0 0) s m [.ref (ad 21 i 0), .ref v, .int (nI k), .int 0].toArray below meth c 4 N0 D 0 0 (MQ below (va_Qv (fun w1 => w1 = sbW T b v cap n (va_cpy (fun j => (sByt i).getD j 0) f 0 k (sByt i).length)) (HwB N0 D) (fun q => N0 ≤ q)) [.ref (ad 21 i 0), .ref v, .int (nI k), .int 0].toArray s 0 0 (fun q => N0 ≤ q)) ([(b, .inr (1, [.ref v, .int 0, .int 0, .int (nI n)])), (v, .inl (T 1, cap, .inl f))]) 0 [(0, .ref (ad 21 i 0)), (1, .ref v), (2, .int (nI k)), (3, .int 0)] [] := by
  refine hw_aload_n C dJ0_getBytes_840e7_0 rfl 0 rfl ?_
  refine hw_callOi C (Cn := RJ0) (As := []) (h_cod h_i) (cwV 0 (hx_ts C) gJ0_getBytes_840e7_J0_coder_7d493 rfl rfl rfl (by decide +kernel) ⟨Nat.le_of_ble_eq_true rfl, Nat.le_of_ble_eq_true rfl⟩) ((hx_st C).1 i h_i).1 rfl (st := []) rfl (Nat.le_of_ble_eq_true rfl) ⟨Nat.le_refl _, Nat.le_refl _⟩ dJ0_getBytes_840e7_1 (fun r w1 h1 => ?_)
  obtain ⟨rfl, rfl⟩ := h1
  refine hw_iload_n C dJ0_getBytes_840e7_4 rfl 3 rfl ?_
  refine hw_icmp_ne C dJ0_getBytes_840e7_5 (tgt := 28) rfl (fun h9 => absurd rfl h9) (fun _ => ?_)
  refine hw_aload_n C dJ0_getBytes_840e7_8 rfl 0 rfl ?_
  refine hw_getO C ((hx_st C).1 i h_i).2.2.1 (hx_ts C _ jw_J0_getBytes_840e7_f9) (fun _ h => h) dJ0_getBytes_840e7_9 ?_
  refine hw_iconst C dJ0_getBytes_840e7_12 (v := nI 0) rfl ?_
  refine hw_aload_n C dJ0_getBytes_840e7_13 rfl 1 rfl ?_
  refine hw_iload_n C dJ0_getBytes_840e7_14 rfl 2 rfl ?_
  refine hw_iload_n C dJ0_getBytes_840e7_15 rfl 3 rfl ?_
  refine hw_ishl C dJ0_getBytes_840e7_16 ?_
  refine hw_topi (v' := nI k) (sb_shl0 _) ?_
  refine hw_aload_n C dJ0_getBytes_840e7_17 rfl 0 rfl ?_
  refine hw_getO C ((hx_st C).1 i h_i).2.2.1 (hx_ts C _ jw_J0_getBytes_840e7_f9) (fun _ h => h) dJ0_getBytes_840e7_18 ?_
  refine hw_tlen C ((hx_st C).1 i h_i).2.2.2 rfl dJ0_getBytes_840e7_21 ?_
  refine hw_copyT C 1 (sp := 0) (dp := k) (n := (sByt i).length) ((hx_st C).1 i h_i).2.2.2 rfl (by omega) hk (by have := sByt_len h_i; omega) (by omega) (fun j _ => sByt_fit h_i _) (w' := [(b, .inr (1, [.ref v, .int 0, .int 0, .int (nI n)])), (v, .inl (T 1, cap, .inl (va_cpy (fun j => (sByt i).getD j 0) f 0 k (sByt i).length)))]) rfl jw_J0_getBytes_840e7_a1 jw_J0_getBytes_840e7_a2 jw_J0_getBytes_840e7_a3 jw_J0_getBytes_840e7_a4 (Nat.le_of_ble_eq_true rfl) (by show (List.map (fun v => Value.category v) ([] : List Value)).sum + (nativeFrameWords "java/lang/System" "arraycopy" 5 + 11) ≤ 28 * 3; decide +kernel) dJ0_getBytes_840e7_22 ?_
  refine hw_goto C dJ0_getBytes_840e7_25 (tgt := 43) rfl ?_
  exact hw_vret C hr _ rfl (fun t h1 h2 => ⟨h1, h2⟩) dJ0_getBytes_840e7_43
end
theorem h_gby {l : Launch} {N0 : Nat} {T : Nat → ClassId} {D : va_G} {ad : Nat → Nat → Nat → Nat} {b v cap n i k : Nat} {f : Nat → Int32} (h_i : i < 17) (hk : k + (sByt i).length ≤ cap) (hcap : cap ≤ 2000) : HwV l yJ0_getBytes_840e7 wsJ0_getBytes_840e7 (Rhw 3 0 0) N0 T D ad ([(b, .inr (1, [.ref v, .int 0, .int 0, .int (nI n)])), (v, .inl (T 1, cap, .inl f))]) [.ref (ad 21 i 0), .ref v, .int (nI k), .int 0] (fun w1 => w1 = sbW T b v cap n (va_cpy (fun j => (sByt i).getD j 0) f 0 k (sByt i).length)) 0 0 :=
  hw_body 0 0 (by decide +kernel) rfl (Nat.le_of_ble_eq_true rfl) (fun p e s m below meth c C hnm hr => w_gby h_i hk hcap C hr)
theorem jw_J5_putStringAt_47b60_f15 : (.fieldLink RJ5 15 "java/lang/AbstractStringBuilder" "value" "[B" : Cond) ∈ wsJ5_putStringAt_47b60 := by decide +kernel
theorem jl_J5_putStringAt_47b60_1 : ∀ w ∈ u_ws RJ4 TJ4 4, w ∈ wsJ5_putStringAt_47b60 := by decide +kernel
theorem jw_J5_putStringAt_47b60_f22 : (.fieldLink RJ5 22 "java/lang/AbstractStringBuilder" "coder" "B" : Cond) ∈ wsJ5_putStringAt_47b60 := by decide +kernel
section
variable {p : Program} {l : Launch} {e : Env} {s : State} {m : MethodId} {below : List Frame} {meth : Method} {c : Code} {N0 : Nat} {T : Nat → ClassId} {D : va_G} {ad : Nat → Nat → Nat → Nat}
theorem w_pst {b v cap n i k : Nat} {f : Nat → Int32} (h_i : i < 17) (hk : k + (sByt i).length ≤ cap) (hcap : cap ≤ 2000) (C : Chw p s m [.ref b, .int (nI k), .ref (ad 21 i 0)].toArray meth c cJ5_putStringAt_47b60 3 wsJ5_putStringAt_47b60 RJ5 N0 T D ad) (hr : meth.sig.returnType = none) : HW p l e (Rhw 4 0 0) s m [.ref b, .int (nI k), .ref (ad 21 i 0)].toArray below meth c 3 N0 D 0 0 (MQ below (va_Qv (fun w1 => w1 = sbW T b v cap n (va_cpy (fun j => (sByt i).getD j 0) f 0 k (sByt i).length)) (HwB N0 D) (fun q => N0 ≤ q)) [.ref b, .int (nI k), .ref (ad 21 i 0)].toArray s 0 0 (fun q => N0 ≤ q)) ([(b, .inr (1, [.ref v, .int 0, .int 0, .int (nI n)])), (v, .inl (T 1, cap, .inl f))]) 0 [(0, .ref b), (1, .int (nI k)), (2, .ref (ad 21 i 0))] [] := by
  refine hw_aload_n C dJ5_putStringAt_47b60_0 rfl 0 rfl ?_
  refine hw_aload_n C dJ5_putStringAt_47b60_1 rfl 2 rfl ?_
  refine hw_callUv C 0 (ci := 1) (Cn := RJ4) (Tc := TJ4) (N := 4) (As := [.ref (ad 21 i 0)]) (h_ifn h_i) (va_cwU 1 (hx_ts C) gJ5_putStringAt_47b60_J5_inflateIfNeededFor_a7421_u397J4 rfl rfl rfl rfl (by decide +kernel) ⟨Nat.le_of_ble_eq_true rfl, Nat.le_of_ble_eq_true rfl⟩) rfl rfl rfl (st := []) rfl (Nat.le_of_ble_eq_true rfl) ⟨Nat.le_refl _, Nat.le_refl _⟩ dJ5_putStringAt_47b60_2 (fun w1 h1 => ?_)
  subst h1
  refine hw_aload_n C dJ5_putStringAt_47b60_5 rfl 2 rfl ?_
  refine hw_aload_n C dJ5_putStringAt_47b60_6 rfl 0 rfl ?_
  refine hw_get C 0 (ci := 1) (Cn := RJ4) (Tc := TJ4) (N := 4) (j := 0) (v := .ref v) rfl jl_J5_putStringAt_47b60_1 rfl (by decide) (hx_ts C _ jw_J5_putStringAt_47b60_f15) (fun _ h => h) rfl dJ5_putStringAt_47b60_7 ?_
  refine hw_iload_n C dJ5_putStringAt_47b60_10 rfl 1 rfl ?_
  refine hw_aload_n C dJ5_putStringAt_47b60_11 rfl 0 rfl ?_
  refine hw_get C 0 (ci := 1) (Cn := RJ4) (Tc := TJ4) (N := 4) (j := 1) (v := .int 0) rfl jl_J5_putStringAt_47b60_1 rfl (by decide) (hx_ts C _ jw_J5_putStringAt_47b60_f22) (fun _ h => h) rfl dJ5_putStringAt_47b60_12 ?_
  refine hw_callOv C (Cn := RJ0) (As := [.ref v, .int (nI k), .int 0]) (h_gby h_i hk hcap) (cwV 3 (hx_ts C) gJ5_putStringAt_47b60_J0_getBytes_840e7 rfl rfl rfl (by decide +kernel) ⟨Nat.le_of_ble_eq_true rfl, Nat.le_of_ble_eq_true rfl⟩) ((hx_st C).1 i h_i).1 rfl (st := []) rfl (Nat.le_of_ble_eq_true rfl) ⟨Nat.le_refl _, Nat.le_refl _⟩ dJ5_putStringAt_47b60_15 (fun w1 h1 => ?_)
  subst h1
  exact hw_vret C hr _ rfl (fun t h1 h2 => ⟨h1, h2⟩) dJ5_putStringAt_47b60_18
end
theorem h_pst {l : Launch} {N0 : Nat} {T : Nat → ClassId} {D : va_G} {ad : Nat → Nat → Nat → Nat} {b v cap n i k : Nat} {f : Nat → Int32} (h_i : i < 17) (hk : k + (sByt i).length ≤ cap) (hcap : cap ≤ 2000) : HwV l yJ5_putStringAt_47b60 wsJ5_putStringAt_47b60 (Rhw 4 0 0) N0 T D ad ([(b, .inr (1, [.ref v, .int 0, .int 0, .int (nI n)])), (v, .inl (T 1, cap, .inl f))]) [.ref b, .int (nI k), .ref (ad 21 i 0)] (fun w1 => w1 = sbW T b v cap n (va_cpy (fun j => (sByt i).getD j 0) f 0 k (sByt i).length)) 0 0 :=
  hw_body 0 0 (by decide +kernel) rfl (Nat.le_of_ble_eq_true rfl) (fun p e s m below meth c C hnm hr => w_pst h_i hk hcap C hr)
