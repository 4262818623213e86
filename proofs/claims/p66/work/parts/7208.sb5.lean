/-! THE JDK's STRINGBUILDER: a new one -/
theorem sb_D2 {N0 : Nat} {T : Nat → ClassId} {b a cap : Nat} {f : Nat → Int32} {fs : List Value} (h : va_D (fun q => N0 ≤ q) [(a, (.inl (T 1, cap, .inl f) : va_E)), (b, .inr (1, fs))]) : va_D (fun q => N0 ≤ q) (sbW T b a cap 0 f) := by
  have h1 := DM.of h
  have h2 := List.pairwise_cons.mp h1.1
  exact DM.to ⟨List.pairwise_cons.mpr ⟨fun x hx => by rw [List.mem_singleton.mp hx]; exact (h2.1 _ List.mem_cons_self).symm, List.pairwise_singleton _ _⟩, fun x hx => by
    rcases List.mem_cons.mp hx with rfl | hx
    · exact h1.2 (b, .inr (1, fs)) (List.mem_cons_of_mem _ List.mem_cons_self)
    · rw [List.mem_singleton.mp hx]; exact h1.2 _ List.mem_cons_self⟩
theorem jw_J5_init_a7421_o1 : (.methodLink RJ5 3 objectInit : Cond) ∈ wsJ5_init_a7421 := by decide +kernel
theorem jw_J5_init_a7421_o2 : (.instanceMethod objectInit : Cond) ∈ wsJ5_init_a7421 := by decide +kernel
theorem jw_J5_init_a7421_o3 : (.code objectInit ⟨#[0xb1]⟩ 1 none : Cond) ∈ wsJ5_init_a7421 := by decide +kernel
theorem jw_J5_init_a7421_c38 : (.constant RJ5 38 2147483631 : Cond) ∈ wsJ5_init_a7421 := by decide +kernel
theorem jw_J5_init_a7421_f22 : (.fieldLink RJ5 22 "java/lang/AbstractStringBuilder" "coder" "B" : Cond) ∈ wsJ5_init_a7421 := by decide +kernel
theorem jl_J5_init_a7421_1 : ∀ w ∈ u_ws RJ4 TJ4 4, w ∈ wsJ5_init_a7421 := by decide +kernel
theorem jw_J5_init_a7421_ab : (.arrayClass .byte : Cond) ∈ wsJ5_init_a7421 := by decide +kernel
theorem jw_J5_init_a7421_f15 : (.fieldLink RJ5 15 "java/lang/AbstractStringBuilder" "value" "[B" : Cond) ∈ wsJ5_init_a7421 := by decide +kernel
theorem jo_bi5 : (.code ⟨"java/lang/AbstractStringBuilder", "append", "(Ljava/lang/String;)Ljava/lang/AbstractStringBuilder;"⟩ cJ5_append_cf1ce 3 (some (.object "java/lang/AbstractStringBuilder")) : Cond) ∈ wsJ5_init_a7421 := by decide +kernel
section
variable {p : Program} {l : Launch} {e : Env} {s : State} {m : MethodId} {below : List Frame} {meth : Method} {c : Code} {N0 : Nat} {T : Nat → ClassId} {D : va_G} {ad : Nat → Nat → Nat → Nat}
theorem w_bi5 {b i : Nat} (h_i : i < 17) (C : Chw p s m [.ref b, .ref (ad 21 i 0)].toArray meth c cJ5_init_a7421 5 wsJ5_init_a7421 RJ5 N0 T D ad) (hi : meth.name = "<init>") (hr : meth.sig.returnType = none) : HW p l e (Rhw 8 2 3000) s m [.ref b, .ref (ad 21 i 0)].toArray below meth c 5 N0 D 0 0 (MQ below (va_Qv (fun w1 => ∃ v1 cap1 f1, w1 = sbW T b v1 cap1 (sByt i).length f1 ∧ (sByt i).length ≤ cap1 ∧ cap1 ≤ 2000 ∧ (∀ j, j < (sByt i).length → f1 j = (sByt i).getD j 0) ∧ sb_Fit f1) (HwB N0 D) (fun q => N0 ≤ q)) [.ref b, .ref (ad 21 i 0)].toArray s 2 3000 (fun q => N0 ≤ q)) ([(b, .inr (1, [.null, .int 0, .int 0, .int 0]))]) 0 [(0, .ref b), (1, .ref (ad 21 i 0))] [] := by
  have hl9 := sByt_len h_i
  refine hw_aload_n C dJ5_init_a7421_0 rfl 0 rfl ?_
  refine hw_objInit C jw_J5_init_a7421_o1 jw_J5_init_a7421_o2 jw_J5_init_a7421_o3 rfl ⟨Nat.le_of_ble_eq_true rfl, Nat.le_of_ble_eq_true rfl⟩ dJ5_init_a7421_1 ?_
  refine hw_aload_n C dJ5_init_a7421_4 rfl 1 rfl ?_
  refine hw_callOi C (Cn := RJ0) (As := []) (h_slen h_i) (cwV 0 (hx_ts C) gJ5_init_a7421_J0_length_8abf5 rfl rfl rfl (by decide +kernel) ⟨Nat.le_of_ble_eq_true rfl, Nat.le_of_ble_eq_true rfl⟩) ((hx_st C).1 i h_i).1 rfl (st := []) rfl (Nat.le_of_ble_eq_true rfl) ⟨by show 0 + 0 ≤ 2; omega, by show 0 + 0 ≤ 3000; omega⟩ dJ5_init_a7421_5 (fun r w1 h1 => ?_)
  obtain ⟨rfl, rfl⟩ := h1
  refine hw_istore_n C dJ5_init_a7421_8 rfl (by decide) rfl ?_
  refine hw_iload_n C dJ5_init_a7421_9 rfl 0 rfl ?_
  refine hw_ldc C (v := 2147483631) (hx_ts C _ jw_J5_init_a7421_c38) dJ5_init_a7421_10 ?_
  refine hw_icmp_ge C dJ5_init_a7421_12 (tgt := 22) rfl (fun h9 => absurd h9 ((nI_ge (b := 2147483631) (by have := sByt_len h_i; omega) (by decide)))) (fun _ => ?_)
  refine hw_iload_n C dJ5_init_a7421_15 rfl 0 rfl ?_
  refine hw_bipush C dJ5_init_a7421_16 (v := nI 16) (by decide) ?_
  refine hw_iadd C dJ5_init_a7421_18 ?_
  refine hw_topi (v' := nI ((sByt i).length + 16)) (nI_add _ _) ?_
  refine hw_goto C dJ5_init_a7421_19 (tgt := 24) rfl ?_
  refine hw_istore_n C dJ5_init_a7421_24 rfl (by decide) rfl ?_
  refine hw_aload_n C dJ5_init_a7421_25 rfl 3 rfl ?_
  refine hw_callOi C (Cn := RJ0) (As := []) (h_cod h_i) (cwV 0 (hx_ts C) gJ5_init_a7421_J0_coder_7d493 rfl rfl rfl (by decide +kernel) ⟨Nat.le_of_ble_eq_true rfl, Nat.le_of_ble_eq_true rfl⟩) ((hx_st C).1 i h_i).1 rfl (st := []) rfl (Nat.le_of_ble_eq_true rfl) ⟨by show 0 + 0 ≤ 2; omega, by show 0 + 0 ≤ 3000; omega⟩ dJ5_init_a7421_26 (fun r w1 h1 => ?_)
  obtain ⟨rfl, rfl⟩ := h1
  refine hw_istore C dJ5_init_a7421_29 (by decide) rfl ?_
  refine hw_aload_n C dJ5_init_a7421_31 rfl 3 rfl ?_
  refine hw_iload C dJ5_init_a7421_32 0 rfl ?_
  refine hw_put C 0 (ci := 1) (Cn := RJ4) (Tc := TJ4) (N := 4) (j := 1) (tyc := tyJ4) (ty := tyJ4 1) (w' := [(b, .inr (1, [.null, .int 0, .int 0, .int 0]))]) rfl jl_J5_init_a7421_1 rfl tyJ4_ok nmJ4 (by decide) (hx_ts C _ jw_J5_init_a7421_f22) (fun _ h => h) rfl (by decide +kernel) rfl rfl (Nat.le_of_ble_eq_true rfl) rfl dJ5_init_a7421_34 ?_
  refine hw_aload_n C dJ5_init_a7421_37 rfl 3 rfl ?_
  refine hw_iload C dJ5_init_a7421_38 0 rfl ?_
  refine hw_if_ne C dJ5_init_a7421_40 (tgt := 49) rfl (fun h9 => absurd h9 ((fun h8 => h8 rfl))) (fun _ => ?_)
  refine hw_iload_n C dJ5_init_a7421_43 rfl 1 rfl ?_
  refine hw_newb C (N := ((sByt i).length + 16)) jw_J5_init_a7421_ab (nI_pos (by have := sByt_len h_i; omega)) (nI_clamp (by have := sByt_len h_i; omega)) (by have := sByt_len h_i; omega) (by show 0 + 1 ≤ 2; omega) (by have := sByt_len h_i; show 0 + ((sByt i).length + 16) ≤ 3000; omega) dJ5_init_a7421_44 (fun a ha hna => ?_)
  refine hw_goto C dJ5_init_a7421_46 (tgt := 53) rfl ?_
  refine hw_put C 1 (ci := 1) (Cn := RJ4) (Tc := TJ4) (N := 4) (j := 0) (tyc := tyJ4) (ty := tyJ4 0) (w' := [(a, .inl (T 1, ((sByt i).length + 16), .inl (fun _ => 0))), (b, .inr (1, [.ref a, .int 0, .int 0, .int 0]))]) rfl jl_J5_init_a7421_1 rfl tyJ4_ok nmJ4 (by decide) (hx_ts C _ jw_J5_init_a7421_f15) (fun _ h => h) rfl (by decide +kernel) rfl rfl (Nat.le_of_ble_eq_true rfl) rfl dJ5_init_a7421_53 ?_
  have hab : a ≠ b := fun e => hna _ List.mem_cons_self e.symm
  refine hw_conv (sbW T b a ((sByt i).length + 16) 0 (fun _ => 0)) (fun x hx => ?_) (fun hD => sb_D2 hD) ?_
  · rcases List.mem_cons.mp hx with rfl | hx
    · exact List.mem_cons_of_mem _ List.mem_cons_self
    · rw [List.mem_singleton.mp hx]; exact List.mem_cons_self
  refine hw_aload_n C dJ5_init_a7421_56 rfl 3 rfl ?_
  refine hw_aload_n C dJ5_init_a7421_57 rfl 4 rfl ?_
  refine hw_callUq C 0 (ci := 1) (Cn := RJ4) (Tc := TJ4) (N := 4) (As := [.ref (ad 21 i 0)]) (h_apsB h_i (Nat.zero_le _) (by have := sByt_len h_i; omega) (by have := sByt_len h_i; omega) sb_fit0) (va_cwO 1 (hx_ts C) gJ5_init_a7421_J4_append_cf1ce_u43J4 rfl rfl rfl jo_bi5 (by decide +kernel) ⟨Nat.le_of_ble_eq_true rfl, Nat.le_of_ble_eq_true rfl⟩) rfl rfl rfl (st := []) rfl (Nat.le_of_ble_eq_true rfl) ⟨by show 0 + 1 + 1 ≤ 2; omega, by have := sByt_len h_i; show 0 + ((sByt i).length + 16) + 2000 ≤ 3000; omega⟩ dJ5_init_a7421_58 (fun r w1 h1 => ?_)
  obtain ⟨rfl, v1, cap1, f1, rfl, h2, h3, h4, h5, h6⟩ := h1
  refine hw_pop C dJ5_init_a7421_61 rfl ?_
  refine hw_more (cells' := 2) (slots' := 3000) (by omega) (by omega) ?_
  exact hw_vret C hr _ ⟨v1, cap1, f1, by rw [Nat.zero_add], by rw [Nat.zero_add] at h2; exact h2, h3, fun j hj => by have h9 := h5 j hj; rw [Nat.zero_add] at h9; exact h9, h6⟩ (fun t h1 h2 => ⟨h1, h2⟩) dJ5_init_a7421_62
end
theorem h_bi5 {l : Launch} {N0 : Nat} {T : Nat → ClassId} {D : va_G} {ad : Nat → Nat → Nat → Nat} {b i : Nat} (h_i : i < 17) : HwV l yJ5_init_a7421 wsJ5_init_a7421 (Rhw 8 2 3000) N0 T D ad ([(b, .inr (1, [.null, .int 0, .int 0, .int 0]))]) [.ref b, .ref (ad 21 i 0)] (fun w1 => ∃ v1 cap1 f1, w1 = sbW T b v1 cap1 (sByt i).length f1 ∧ (sByt i).length ≤ cap1 ∧ cap1 ≤ 2000 ∧ (∀ j, j < (sByt i).length → f1 j = (sByt i).getD j 0) ∧ sb_Fit f1) 2 3000 :=
  hw_body 2 3000 (by decide +kernel) rfl (Nat.le_of_ble_eq_true rfl) (fun p e s m below meth c C hnm hr => w_bi5 h_i C hnm hr)
theorem jw_J4_init_a7421_iJ5 : (.initialized RJ5 : Cond) ∈ wsJ4_init_a7421 := by decide +kernel
theorem jw_J4_init_a7421_k7 : (.methodLink RJ4 7 yJ5_init_a7421 : Cond) ∈ wsJ4_init_a7421 := by decide +kernel
theorem jw_J4_init_a7421_mJ5 : (.instanceMethod yJ5_init_a7421 : Cond) ∈ wsJ4_init_a7421 := by decide +kernel
section
variable {p : Program} {l : Launch} {e : Env} {s : State} {m : MethodId} {below : List Frame} {meth : Method} {c : Code} {N0 : Nat} {T : Nat → ClassId} {D : va_G} {ad : Nat → Nat → Nat → Nat}
theorem w_bi4 {b i : Nat} (h_i : i < 17) (C : Chw p s m [.ref b, .ref (ad 21 i 0)].toArray meth c cJ4_init_a7421 2 wsJ4_init_a7421 RJ4 N0 T D ad) (hi : meth.name = "<init>") (hr : meth.sig.returnType = none) : HW p l e (Rhw 9 2 3000) s m [.ref b, .ref (ad 21 i 0)].toArray below meth c 2 N0 D 0 0 (MQ below (va_Qv (fun w1 => ∃ v1 cap1 f1, w1 = sbW T b v1 cap1 (sByt i).length f1 ∧ (sByt i).length ≤ cap1 ∧ cap1 ≤ 2000 ∧ (∀ j, j < (sByt i).length → f1 j = (sByt i).getD j 0) ∧ sb_Fit f1) (HwB N0 D) (fun q => N0 ≤ q)) [.ref b, .ref (ad 21 i 0)].toArray s 2 3000 (fun q => N0 ≤ q)) ([(b, .inr (1, [.null, .int 0, .int 0, .int 0]))]) 0 [(0, .ref b), (1, .ref (ad 21 i 0))] [] := by
  refine hw_aload_n C dJ4_init_a7421_0 rfl 0 rfl ?_
  refine hw_aload_n C dJ4_init_a7421_1 rfl 1 rfl ?_
  refine hw_callIv C (As := [.ref (ad 21 i 0)]) (h_bi5 h_i) (cwI 1 (hx_ts C) gJ4_init_a7421_J5_init_a7421 rfl rfl rfl (hx_ts C _ jw_J4_init_a7421_iJ5) (hx_ts C _ jw_J4_init_a7421_k7) (hx_ts C _ jw_J4_init_a7421_mJ5) rfl (by decide +kernel) ⟨Nat.le_of_ble_eq_true rfl, Nat.le_of_ble_eq_true rfl⟩) rfl (st := []) rfl (Nat.le_of_ble_eq_true rfl) ⟨by show 0 + 2 ≤ 2; omega, by show 0 + 3000 ≤ 3000; omega⟩ dJ4_init_a7421_2 (fun w1 h1 => ?_)
  obtain ⟨v1, cap1, f1, rfl, h2⟩ := h1
  refine hw_more (cells' := 2) (slots' := 3000) (by omega) (by omega) ?_
  exact hw_vret C hr _ ⟨v1, cap1, f1, rfl, h2⟩ (fun t h1 h2 => ⟨h1, h2⟩) dJ4_init_a7421_5
end
theorem h_bi4 {l : Launch} {N0 : Nat} {T : Nat → ClassId} {D : va_G} {ad : Nat → Nat → Nat → Nat} {b i : Nat} (h_i : i < 17) : HwV l yJ4_init_a7421 wsJ4_init_a7421 (Rhw 9 2 3000) N0 T D ad ([(b, .inr (1, [.null, .int 0, .int 0, .int 0]))]) [.ref b, .ref (ad 21 i 0)] (fun w1 => ∃ v1 cap1 f1, w1 = sbW T b v1 cap1 (sByt i).length f1 ∧ (sByt i).length ≤ cap1 ∧ cap1 ≤ 2000 ∧ (∀ j, j < (sByt i).length → f1 j = (sByt i).getD j 0) ∧ sb_Fit f1) 2 3000 :=
  hw_body 2 3000 (by decide +kernel) rfl (Nat.le_of_ble_eq_true rfl) (fun p e s m below meth c C hnm hr => w_bi4 h_i C hnm hr)
