theorem jw_J5_append_cf1ce_f79 : (.fieldLink RJ5 79 "java/lang/AbstractStringBuilder" "count" "I" : Cond) ∈ wsJ5_append_cf1ce := by decide +kernel
theorem jl_J5_append_cf1ce_1 : ∀ w ∈ u_ws RJ4 TJ4 4, w ∈ wsJ5_append_cf1ce := by decide +kernel
section
variable {p : Program} {l : Launch} {e : Env} {s : State} {m : MethodId} {below : List Frame} {meth : Method} {c : Code} {N0 : Nat} {T : Nat → ClassId} {D : va_G} {ad : Nat → Nat → Nat → Nat}
theorem w_aps {b v cap n i : Nat} {f : Nat → Int32} (h_i : i < 17) (hn : n ≤ cap) (hcap : cap ≤ 2000) (hl : n + (sByt i).length ≤ 1000) (hf : sb_Fit f) (C : Chw p s m [.ref b, .ref (ad 21 i 0)].toArray meth c cJ5_append_cf1ce 3 wsJ5_append_cf1ce RJ5 N0 T D ad) (hr : meth.sig.returnType = (some (.object "java/lang/AbstractStringBuilder"))) : HW p l e (Rhw 5 1 2000) s m [.ref b, .ref (ad 21 i 0)].toArray below meth c 3 N0 D 0 0 (MQ below (va_Qq (fun r w1 => r = some b ∧ ∃ v1 cap1 f1, w1 = sbW T b v1 cap1 (n + (sByt i).length) f1 ∧ n + (sByt i).length ≤ cap1 ∧ cap1 ≤ 2000 ∧ (∀ j, j < n → f1 j = f j) ∧ (∀ j, j < (sByt i).length → f1 (n + j) = (sByt i).getD j 0) ∧ sb_Fit f1) (HwB N0 D) (fun q => N0 ≤ q)) [.ref b, .ref (ad 21 i 0)].toArray s 1 2000 (fun q => N0 ≤ q)) ([(b, .inr (1, [.ref v, .int 0, .int 0, .int (nI n)])), (v, .inl (T 1, cap, .inl f))]) 0 [(0, .ref b), (1, .ref (ad 21 i 0))] [] := by
  refine hw_aload_n C dJ5_append_cf1ce_0 rfl 1 rfl ?_
  refine hw_ifnonnull C dJ5_append_cf1ce_1 (tgt := 9) rfl ?_
  refine hw_aload_n C dJ5_append_cf1ce_9 rfl 1 rfl ?_
  refine hw_callOi C (Cn := RJ0) (As := []) (h_slen h_i) (cwV 0 (hx_ts C) gJ5_append_cf1ce_J0_length_8abf5 rfl rfl rfl (by decide +kernel) ⟨Nat.le_of_ble_eq_true rfl, Nat.le_of_ble_eq_true rfl⟩) ((hx_st C).1 i h_i).1 rfl (st := []) rfl (Nat.le_of_ble_eq_true rfl) ⟨by show 0 + 0 ≤ 1; omega, by show 0 + 0 ≤ 2000; omega⟩ dJ5_append_cf1ce_10 (fun r w1 h1 => ?_)
  obtain ⟨rfl, rfl⟩ := h1
  refine hw_istore_n C dJ5_append_cf1ce_13 rfl (by decide) rfl ?_
  refine hw_aload_n C dJ5_append_cf1ce_14 rfl 1 rfl ?_
  refine hw_aload_n C dJ5_append_cf1ce_15 rfl 1 rfl ?_
  refine hw_get C 0 (ci := 1) (Cn := RJ4) (Tc := TJ4) (N := 4) (j := 3) (v := .int (nI n)) rfl jl_J5_append_cf1ce_1 rfl (by decide) (hx_ts C _ jw_J5_append_cf1ce_f79) (fun _ h => h) rfl dJ5_append_cf1ce_16 ?_
  refine hw_iload_n C dJ5_append_cf1ce_19 rfl 0 rfl ?_
  refine hw_iadd C dJ5_append_cf1ce_20 ?_
  refine hw_topi (v' := nI (n + (sByt i).length)) (nI_add _ _) ?_
  refine hw_callUv C 0 (ci := 1) (Cn := RJ4) (Tc := TJ4) (N := 4) (As := [.int (nI (n + (sByt i).length))]) (h_ens hn hcap (by omega) hf) (va_cwU 1 (hx_ts C) gJ5_append_cf1ce_J5_ensureCapacityInternal_d00df_u100J4 rfl rfl rfl rfl (by decide +kernel) ⟨Nat.le_of_ble_eq_true rfl, Nat.le_of_ble_eq_true rfl⟩) rfl rfl rfl (st := []) rfl (Nat.le_of_ble_eq_true rfl) ⟨by show 0 + 1 ≤ 1; omega, by show 0 + 2000 ≤ 2000; omega⟩ dJ5_append_cf1ce_21 (fun w1 h1 => ?_)
  obtain ⟨v1, cap1, f1, rfl, hq1, hc1, hk1, hf1⟩ := h1
  refine hw_aload_n C dJ5_append_cf1ce_24 rfl 1 rfl ?_
  refine hw_aload_n C dJ5_append_cf1ce_25 rfl 1 rfl ?_
  refine hw_get C 0 (ci := 1) (Cn := RJ4) (Tc := TJ4) (N := 4) (j := 3) (v := .int (nI n)) rfl jl_J5_append_cf1ce_1 rfl (by decide) (hx_ts C _ jw_J5_append_cf1ce_f79) (fun _ h => h) rfl dJ5_append_cf1ce_26 ?_
  refine hw_aload_n C dJ5_append_cf1ce_29 rfl 2 rfl ?_
  refine hw_callUv C 0 (ci := 1) (Cn := RJ4) (Tc := TJ4) (N := 4) (As := [.int (nI n), .ref (ad 21 i 0)]) (h_pst h_i hq1 hc1) (va_cwU 2 (hx_ts C) gJ5_append_cf1ce_J5_putStringAt_47b60_u208J4 rfl rfl rfl rfl (by decide +kernel) ⟨Nat.le_of_ble_eq_true rfl, Nat.le_of_ble_eq_true rfl⟩) rfl rfl rfl (st := []) rfl (Nat.le_of_ble_eq_true rfl) ⟨by show 0 + 1 + 0 ≤ 1; omega, by show 0 + 2000 + 0 ≤ 2000; omega⟩ dJ5_append_cf1ce_30 (fun w1 h1 => ?_)
  subst h1
  refine hw_aload_n C dJ5_append_cf1ce_33 rfl 1 rfl ?_
  refine hw_dup C dJ5_append_cf1ce_34 rfl ?_
  refine hw_get C 0 (ci := 1) (Cn := RJ4) (Tc := TJ4) (N := 4) (j := 3) (v := .int (nI n)) rfl jl_J5_append_cf1ce_1 rfl (by decide) (hx_ts C _ jw_J5_append_cf1ce_f79) (fun _ h => h) rfl dJ5_append_cf1ce_35 ?_
  refine hw_iload_n C dJ5_append_cf1ce_38 rfl 0 rfl ?_
  refine hw_iadd C dJ5_append_cf1ce_39 ?_
  refine hw_topi (v' := nI (n + (sByt i).length)) (nI_add _ _) ?_
  refine hw_put C 0 (ci := 1) (Cn := RJ4) (Tc := TJ4) (N := 4) (j := 3) (tyc := tyJ4) (ty := tyJ4 3) (w' := [(b, .inr (1, [.ref v1, .int 0, .int 0, .int (nI (n + (sByt i).length))])), (v1, .inl (T 1, cap1, .inl (va_cpy (fun j => (sByt i).getD j 0) f1 0 n (sByt i).length)))]) rfl jl_J5_append_cf1ce_1 rfl tyJ4_ok nmJ4 (by decide) (hx_ts C _ jw_J5_append_cf1ce_f79) (fun _ h => h) rfl (by decide +kernel) rfl rfl (Nat.le_of_ble_eq_true rfl) rfl dJ5_append_cf1ce_40 ?_
  refine hw_aload_n C dJ5_append_cf1ce_43 rfl 1 rfl ?_
  refine hw_more (cells' := 1) (slots' := 2000) (by omega) (by omega) ?_
  exact hw_aret C hr (Or.inl ⟨_, rfl⟩) _ ⟨rfl, v1, cap1, _, rfl, hq1, hc1, fun j hj => by rw [pk_cpy_out (by omega)]; exact hk1 j hj, fun j hj => by rw [pk_cpy_in (by omega) (by omega), show 0 + (n + j - n) = j by omega], sb_fitC (fun j => sByt_fit h_i j) hf1⟩ (fun t h1 h2 => ⟨h1, h2⟩) dJ5_append_cf1ce_44
end
theorem h_aps {l : Launch} {N0 : Nat} {T : Nat → ClassId} {D : va_G} {ad : Nat → Nat → Nat → Nat} {b v cap n i : Nat} {f : Nat → Int32} (h_i : i < 17) (hn : n ≤ cap) (hcap : cap ≤ 2000) (hl : n + (sByt i).length ≤ 1000) (hf : sb_Fit f) : HwQ l yJ5_append_cf1ce wsJ5_append_cf1ce (Rhw 5 1 2000) N0 T D ad ([(b, .inr (1, [.ref v, .int 0, .int 0, .int (nI n)])), (v, .inl (T 1, cap, .inl f))]) [.ref b, .ref (ad 21 i 0)] (fun r w1 => r = some b ∧ ∃ v1 cap1 f1, w1 = sbW T b v1 cap1 (n + (sByt i).length) f1 ∧ n + (sByt i).length ≤ cap1 ∧ cap1 ≤ 2000 ∧ (∀ j, j < n → f1 j = f j) ∧ (∀ j, j < (sByt i).length → f1 (n + j) = (sByt i).getD j 0) ∧ sb_Fit f1) 1 2000 :=
  hw_body 1 2000 (by decide +kernel) rfl (Nat.le_of_ble_eq_true rfl) (fun p e s m below meth c C hnm hr => w_aps h_i hn hcap hl hf C hr)
section
variable {p : Program} {l : Launch} {e : Env} {s : State} {m : MethodId} {below : List Frame} {meth : Method} {c : Code} {N0 : Nat} {T : Nat → ClassId} {D : va_G} {ad : Nat → Nat → Nat → Nat}
theorem w_aps4 {b v cap n i : Nat} {f : Nat → Int32} (h_i : i < 17) (hn : n ≤ cap) (hcap : cap ≤ 2000) (hl : n + (sByt i).length ≤ 1000) (hf : sb_Fit f) (C : Chw p s m [.ref b, .ref (ad 21 i 0)].toArray meth c cJ4_append_15ec4 2 wsJ4_append_15ec4 RJ4 N0 T D ad) (hr : meth.sig.returnType = (some (.object "java/lang/StringBuilder"))) : HW p l e (Rhw 6 1 2000) s m [.ref b, .ref (ad 21 i 0)].toArray below meth c 2 N0 D 0 0 (MQ below (va_Qq (fun r w1 => r = some b ∧ ∃ v1 cap1 f1, w1 = sbW T b v1 cap1 (n + (sByt i).length) f1 ∧ n + (sByt i).length ≤ cap1 ∧ cap1 ≤ 2000 ∧ (∀ j, j < n → f1 j = f j) ∧ (∀ j, j < (sByt i).length → f1 (n + j) = (sByt i).getD j 0) ∧ sb_Fit f1) (HwB N0 D) (fun q => N0 ≤ q)) [.ref b, .ref (ad 21 i 0)].toArray s 1 2000 (fun q => N0 ≤ q)) ([(b, .inr (1, [.ref v, .int 0, .int 0, .int (nI n)])), (v, .inl (T 1, cap, .inl f))]) 0 [(0, .ref b), (1, .ref (ad 21 i 0))] [] := by
  refine hw_aload_n C dJ4_append_15ec4_0 rfl 0 rfl ?_
  refine hw_aload_n C dJ4_append_15ec4_1 rfl 1 rfl ?_
  refine hw_callPq C 0 (ci := 1) (Cn := RJ4) (Tc := TJ4) (N := 4) (As := [.ref (ad 21 i 0)]) (h_aps h_i hn hcap hl hf) (va_cwSU 1 (hx_ts C) gJ4_append_15ec4_J5_append_cf1ce_s29 rfl rfl rfl (by decide +kernel) ⟨Nat.le_of_ble_eq_true rfl, Nat.le_of_ble_eq_true rfl⟩) rfl rfl rfl (st := []) rfl (Nat.le_of_ble_eq_true rfl) ⟨by show 0 + 1 ≤ 1; omega, by show 0 + 2000 ≤ 2000; omega⟩ dJ4_append_15ec4_2 (fun r w1 h1 => ?_)
  obtain ⟨rfl, v1, cap1, f1, rfl, h2⟩ := h1
  refine hw_pop C dJ4_append_15ec4_5 rfl ?_
  refine hw_aload_n C dJ4_append_15ec4_6 rfl 0 rfl ?_
  refine hw_more (cells' := 1) (slots' := 2000) (by omega) (by omega) ?_
  exact hw_aret C hr (Or.inl ⟨_, rfl⟩) _ ⟨rfl, v1, cap1, f1, rfl, h2⟩ (fun t h1 h2 => ⟨h1, h2⟩) dJ4_append_15ec4_7
end
theorem h_aps4 {l : Launch} {N0 : Nat} {T : Nat → ClassId} {D : va_G} {ad : Nat → Nat → Nat → Nat} {b v cap n i : Nat} {f : Nat → Int32} (h_i : i < 17) (hn : n ≤ cap) (hcap : cap ≤ 2000) (hl : n + (sByt i).length ≤ 1000) (hf : sb_Fit f) : HwQ l yJ4_append_15ec4 wsJ4_append_15ec4 (Rhw 6 1 2000) N0 T D ad ([(b, .inr (1, [.ref v, .int 0, .int 0, .int (nI n)])), (v, .inl (T 1, cap, .inl f))]) [.ref b, .ref (ad 21 i 0)] (fun r w1 => r = some b ∧ ∃ v1 cap1 f1, w1 = sbW T b v1 cap1 (n + (sByt i).length) f1 ∧ n + (sByt i).length ≤ cap1 ∧ cap1 ≤ 2000 ∧ (∀ j, j < n → f1 j = f j) ∧ (∀ j, j < (sByt i).length → f1 (n + j) = (sByt i).getD j 0) ∧ sb_Fit f1) 1 2000 :=
  hw_body 1 2000 (by decide +kernel) rfl (Nat.le_of_ble_eq_true rfl) (fun p e s m below meth c C hnm hr => w_aps4 h_i hn hcap hl hf C hr)
section
variable {p : Program} {l : Launch} {e : Env} {s : State} {m : MethodId} {below : List Frame} {meth : Method} {c : Code} {N0 : Nat} {T : Nat → ClassId} {D : va_G} {ad : Nat → Nat → Nat → Nat}
theorem w_apsB {b v cap n i : Nat} {f : Nat → Int32} (h_i : i < 17) (hn : n ≤ cap) (hcap : cap ≤ 2000) (hl : n + (sByt i).length ≤ 1000) (hf : sb_Fit f) (C : Chw p s m [.ref b, .ref (ad 21 i 0)].toArray meth c cJ4_append_cf1ce 2 wsJ4_append_cf1ce RJ4 N0 T D ad) (hr : meth.sig.returnType = (some (.object "java/lang/AbstractStringBuilder"))) : HW p l e (Rhw 7 1 2000) s m [.ref b, .ref (ad 21 i 0)].toArray below meth c 2 N0 D 0 0 (MQ below (va_Qq (fun r w1 => r = some b ∧ ∃ v1 cap1 f1, w1 = sbW T b v1 cap1 (n + (sByt i).length) f1 ∧ n + (sByt i).length ≤ cap1 ∧ cap1 ≤ 2000 ∧ (∀ j, j < n → f1 j = f j) ∧ (∀ j, j < (sByt i).length → f1 (n + j) = (sByt i).getD j 0) ∧ sb_Fit f1) (HwB N0 D) (fun q => N0 ≤ q)) [.ref b, .ref (ad 21 i 0)].toArray s 1 2000 (fun q => N0 ≤ q)) ([(b, .inr (1, [.ref v, .int 0, .int 0, .int (nI n)])), (v, .inl (T 1, cap, .inl f))]) 0 [(0, .ref b), (1, .ref (ad 21 i 0))] [] := by
  refine hw_aload_n C dJ4_append_cf1ce_0 rfl 0 rfl ?_
  refine hw_aload_n C dJ4_append_cf1ce_1 rfl 1 rfl ?_
  refine hw_callWq C 0 (ci := 1) (Cn := RJ4) (Tc := TJ4) (N := 4) (As := [.ref (ad 21 i 0)]) (h_aps4 h_i hn hcap hl hf) (cwV 1 (hx_ts C) gJ4_append_cf1ce_J4_append_15ec4 rfl rfl rfl (by decide +kernel) ⟨Nat.le_of_ble_eq_true rfl, Nat.le_of_ble_eq_true rfl⟩) rfl rfl rfl (st := []) rfl (Nat.le_of_ble_eq_true rfl) ⟨by show 0 + 1 ≤ 1; omega, by show 0 + 2000 ≤ 2000; omega⟩ dJ4_append_cf1ce_2 (fun r w1 h1 => ?_)
  obtain ⟨rfl, v1, cap1, f1, rfl, h2⟩ := h1
  refine hw_more (cells' := 1) (slots' := 2000) (by omega) (by omega) ?_
  exact hw_aret C hr (Or.inl ⟨_, rfl⟩) _ ⟨rfl, v1, cap1, f1, rfl, h2⟩ (fun t h1 h2 => ⟨h1, h2⟩) dJ4_append_cf1ce_5
end
theorem h_apsB {l : Launch} {N0 : Nat} {T : Nat → ClassId} {D : va_G} {ad : Nat → Nat → Nat → Nat} {b v cap n i : Nat} {f : Nat → Int32} (h_i : i < 17) (hn : n ≤ cap) (hcap : cap ≤ 2000) (hl : n + (sByt i).length ≤ 1000) (hf : sb_Fit f) : HwQ l yJ4_append_cf1ce wsJ4_append_cf1ce (Rhw 7 1 2000) N0 T D ad ([(b, .inr (1, [.ref v, .int 0, .int 0, .int (nI n)])), (v, .inl (T 1, cap, .inl f))]) [.ref b, .ref (ad 21 i 0)] (fun r w1 => r = some b ∧ ∃ v1 cap1 f1, w1 = sbW T b v1 cap1 (n + (sByt i).length) f1 ∧ n + (sByt i).length ≤ cap1 ∧ cap1 ≤ 2000 ∧ (∀ j, j < n → f1 j = f j) ∧ (∀ j, j < (sByt i).length → f1 (n + j) = (sByt i).getD j 0) ∧ sb_Fit f1) 1 2000 :=
  hw_body 1 2000 (by decide +kernel) rfl (Nat.le_of_ble_eq_true rfl) (fun p e s m below meth c C hnm hr => w_apsB h_i hn hcap hl hf C hr)
theorem jw_J5_append_3fe6f_f79 : (.fieldLink RJ5 79 "java/lang/AbstractStringBuilder" "count" "I" : Cond) ∈ wsJ5_append_3fe6f := by decide +kernel
theorem jl_J5_append_3fe6f_1 : ∀ w ∈ u_ws RJ4 TJ4 4, w ∈ wsJ5_append_3fe6f := by decide +kernel
theorem jw_J5_append_3fe6f_f15 : (.fieldLink RJ5 15 "java/lang/AbstractStringBuilder" "value" "[B" : Cond) ∈ wsJ5_append_3fe6f := by decide +kernel
section
variable {p : Program} {l : Launch} {e : Env} {s : State} {m : MethodId} {below : List Frame} {meth : Method} {c : Code} {N0 : Nat} {T : Nat → ClassId} {D : va_G} {ad : Nat → Nat → Nat → Nat}
theorem w_apc {b v cap n x : Nat} {f : Nat → Int32} (hx : x < 128) (hn : n ≤ cap) (hcap : cap ≤ 2000) (hl : n + 1 ≤ 1000) (hf : sb_Fit f) (C : Chw p s m [.ref b, .int (nI x)].toArray meth c cJ5_append_3fe6f 2 wsJ5_append_3fe6f RJ5 N0 T D ad) (hr : meth.sig.returnType = (some (.object "java/lang/AbstractStringBuilder"))) : HW p l e (Rhw 5 1 2000) s m [.ref b, .int (nI x)].toArray below meth c 2 N0 D 0 0 (MQ below (va_Qq (fun r w1 => r = some b ∧ ∃ v1 cap1 f1, w1 = sbW T b v1 cap1 (n + [nI x].length) f1 ∧ n + [nI x].length ≤ cap1 ∧ cap1 ≤ 2000 ∧ (∀ j, j < n → f1 j = f j) ∧ (∀ j, j < [nI x].length → f1 (n + j) = [nI x].getD j 0) ∧ sb_Fit f1) (HwB N0 D) (fun q => N0 ≤ q)) [.ref b, .int (nI x)].toArray s 1 2000 (fun q => N0 ≤ q)) ([(b, .inr (1, [.ref v, .int 0, .int 0, .int (nI n)])), (v, .inl (T 1, cap, .inl f))]) 0 [(0, .ref b), (1, .int (nI x))] [] := by
  refine hw_aload_n C dJ5_append_3fe6f_0 rfl 0 rfl ?_
  refine hw_aload_n C dJ5_append_3fe6f_1 rfl 0 rfl ?_
  refine hw_get C 0 (ci := 1) (Cn := RJ4) (Tc := TJ4) (N := 4) (j := 3) (v := .int (nI n)) rfl jl_J5_append_3fe6f_1 rfl (by decide) (hx_ts C _ jw_J5_append_3fe6f_f79) (fun _ h => h) rfl dJ5_append_3fe6f_2 ?_
  refine hw_iconst C dJ5_append_3fe6f_5 (v := 1) rfl ?_
  refine hw_iadd C dJ5_append_3fe6f_6 ?_
  refine hw_topi (v' := nI (n + 1)) (nI_1 n) ?_
  refine hw_callUv C 0 (ci := 1) (Cn := RJ4) (Tc := TJ4) (N := 4) (As := [.int (nI (n + 1))]) (h_ens hn hcap (by omega) hf) (va_cwU 1 (hx_ts C) gJ5_append_3fe6f_J5_ensureCapacityInternal_d00df_u100J4 rfl rfl rfl rfl (by decide +kernel) ⟨Nat.le_of_ble_eq_true rfl, Nat.le_of_ble_eq_true rfl⟩) rfl rfl rfl (st := []) rfl (Nat.le_of_ble_eq_true rfl) ⟨by show 0 + 1 ≤ 1; omega, by show 0 + 2000 ≤ 2000; omega⟩ dJ5_append_3fe6f_7 (fun w1 h1 => ?_)
  obtain ⟨v1, cap1, f1, rfl, hq1, hc1, hk1, hf1⟩ := h1
  refine hw_aload_n C dJ5_append_3fe6f_10 rfl 0 rfl ?_
  refine hw_callUi C 0 (ci := 1) (Cn := RJ4) (Tc := TJ4) (N := 4) (As := []) (h_isL (q0 := 0) rfl) (va_cwU 0 (hx_ts C) gJ5_append_3fe6f_J5_isLatin1_aae02_u83J4 rfl rfl rfl rfl (by decide +kernel) ⟨Nat.le_of_ble_eq_true rfl, Nat.le_of_ble_eq_true rfl⟩) rfl rfl rfl (st := []) rfl (Nat.le_of_ble_eq_true rfl) ⟨by show 0 + 1 + 0 ≤ 1; omega, by show 0 + 2000 + 0 ≤ 2000; omega⟩ dJ5_append_3fe6f_11 (fun r w1 h1 => ?_)
  obtain ⟨rfl, rfl⟩ := h1
  refine hw_if_eq C dJ5_append_3fe6f_14 (tgt := 45) rfl (fun h9 => absurd h9 ((by decide))) (fun _ => ?_)
  refine hw_iload_n C dJ5_append_3fe6f_17 rfl 1 rfl ?_
  refine hw_callSi C (As := [.int (nI x)]) (h_can (nI_nlt (a := 255) (by omega) (by decide))) (va_cwS 1 (hx_ts C) gJ5_append_3fe6f_J1_canEncode_fc78d rfl rfl rfl (by decide +kernel) ⟨Nat.le_of_ble_eq_true rfl, Nat.le_of_ble_eq_true rfl⟩) rfl (st := []) rfl (Nat.le_of_ble_eq_true rfl) ⟨by show 0 + 1 + 0 ≤ 1; omega, by show 0 + 2000 + 0 ≤ 2000; omega⟩ dJ5_append_3fe6f_18 (fun r w1 h1 => ?_)
  obtain ⟨rfl, rfl⟩ := h1
  refine hw_if_eq C dJ5_append_3fe6f_21 (tgt := 45) rfl (fun h9 => absurd h9 ((by decide))) (fun _ => ?_)
  refine hw_aload_n C dJ5_append_3fe6f_24 rfl 0 rfl ?_
  refine hw_get C 0 (ci := 1) (Cn := RJ4) (Tc := TJ4) (N := 4) (j := 0) (v := .ref v1) rfl jl_J5_append_3fe6f_1 rfl (by decide) (hx_ts C _ jw_J5_append_3fe6f_f15) (fun _ h => h) rfl dJ5_append_3fe6f_25 ?_
  refine hw_aload_n C dJ5_append_3fe6f_28 rfl 0 rfl ?_
  refine hw_dup C dJ5_append_3fe6f_29 rfl ?_
  refine hw_get C 0 (ci := 1) (Cn := RJ4) (Tc := TJ4) (N := 4) (j := 3) (v := .int (nI n)) rfl jl_J5_append_3fe6f_1 rfl (by decide) (hx_ts C _ jw_J5_append_3fe6f_f79) (fun _ h => h) rfl dJ5_append_3fe6f_30 ?_
  refine hw_dup_x1 C dJ5_append_3fe6f_33 rfl rfl ?_
  refine hw_iconst C dJ5_append_3fe6f_34 (v := 1) rfl ?_
  refine hw_iadd C dJ5_append_3fe6f_35 ?_
  refine hw_topi (v' := nI (n + 1)) (nI_1 n) ?_
  refine hw_put C 0 (ci := 1) (Cn := RJ4) (Tc := TJ4) (N := 4) (j := 3) (tyc := tyJ4) (ty := tyJ4 3) (w' := [(b, .inr (1, [.ref v1, .int 0, .int 0, .int (nI (n + 1))])), (v1, .inl (T 1, cap1, .inl f1))]) rfl jl_J5_append_3fe6f_1 rfl tyJ4_ok nmJ4 (by decide) (hx_ts C _ jw_J5_append_3fe6f_f79) (fun _ h => h) rfl (by decide +kernel) rfl rfl (Nat.le_of_ble_eq_true rfl) rfl dJ5_append_3fe6f_36 ?_
  refine hw_iload_n C dJ5_append_3fe6f_39 rfl 1 rfl ?_
  refine hw_i2b C dJ5_append_3fe6f_40 (v := nI x) (i2b_nI hx) ?_
  refine hw_bast C 1 rfl (by omega) (by omega) (vp_nI hx) (w' := [(b, .inr (1, [.ref v1, .int 0, .int 0, .int (nI (n + 1))])), (v1, .inl (T 1, cap1, .inl (upd f1 n (nI x))))]) rfl dJ5_append_3fe6f_41 ?_
  refine hw_goto C dJ5_append_3fe6f_42 (tgt := 75) rfl ?_
  refine hw_aload_n C dJ5_append_3fe6f_75 rfl 0 rfl ?_
  refine hw_more (cells' := 1) (slots' := 2000) (by omega) (by omega) ?_
  exact hw_aret C hr (Or.inl ⟨_, rfl⟩) _ ⟨rfl, v1, cap1, _, rfl, hq1, hc1, fun j hj => by rw [pk_un (by omega)]; exact hk1 j hj, upd_at1, sb_fitU hf1 (fit_nI hx)⟩ (fun t h1 h2 => ⟨h1, h2⟩) dJ5_append_3fe6f_76
end
theorem h_apc {l : Launch} {N0 : Nat} {T : Nat → ClassId} {D : va_G} {ad : Nat → Nat → Nat → Nat} {b v cap n x : Nat} {f : Nat → Int32} (hx : x < 128) (hn : n ≤ cap) (hcap : cap ≤ 2000) (hl : n + 1 ≤ 1000) (hf : sb_Fit f) : HwQ l yJ5_append_3fe6f wsJ5_append_3fe6f (Rhw 5 1 2000) N0 T D ad ([(b, .inr (1, [.ref v, .int 0, .int 0, .int (nI n)])), (v, .inl (T 1, cap, .inl f))]) [.ref b, .int (nI x)] (fun r w1 => r = some b ∧ ∃ v1 cap1 f1, w1 = sbW T b v1 cap1 (n + [nI x].length) f1 ∧ n + [nI x].length ≤ cap1 ∧ cap1 ≤ 2000 ∧ (∀ j, j < n → f1 j = f j) ∧ (∀ j, j < [nI x].length → f1 (n + j) = [nI x].getD j 0) ∧ sb_Fit f1) 1 2000 :=
  hw_body 1 2000 (by decide +kernel) rfl (Nat.le_of_ble_eq_true rfl) (fun p e s m below meth c C hnm hr => w_apc hx hn hcap hl hf C hr)
section
variable {p : Program} {l : Launch} {e : Env} {s : State} {m : MethodId} {below : List Frame} {meth : Method} {c : Code} {N0 : Nat} {T : Nat → ClassId} {D : va_G} {ad : Nat → Nat → Nat → Nat}
theorem w_apc4 {b v cap n x : Nat} {f : Nat → Int32} (hx : x < 128) (hn : n ≤ cap) (hcap : cap ≤ 2000) (hl : n + 1 ≤ 1000) (hf : sb_Fit f) (C : Chw p s m [.ref b, .int (nI x)].toArray meth c cJ4_append_cf468 2 wsJ4_append_cf468 RJ4 N0 T D ad) (hr : meth.sig.returnType = (some (.object "java/lang/StringBuilder"))) : HW p l e (Rhw 6 1 2000) s m [.ref b, .int (nI x)].toArray below meth c 2 N0 D 0 0 (MQ below (va_Qq (fun r w1 => r = some b ∧ ∃ v1 cap1 f1, w1 = sbW T b v1 cap1 (n + [nI x].length) f1 ∧ n + [nI x].length ≤ cap1 ∧ cap1 ≤ 2000 ∧ (∀ j, j < n → f1 j = f j) ∧ (∀ j, j < [nI x].length → f1 (n + j) = [nI x].getD j 0) ∧ sb_Fit f1) (HwB N0 D) (fun q => N0 ≤ q)) [.ref b, .int (nI x)].toArray s 1 2000 (fun q => N0 ≤ q)) ([(b, .inr (1, [.ref v, .int 0, .int 0, .int (nI n)])), (v, .inl (T 1, cap, .inl f))]) 0 [(0, .ref b), (1, .int (nI x))] [] := by
  refine hw_aload_n C dJ4_append_cf468_0 rfl 0 rfl ?_
  refine hw_iload_n C dJ4_append_cf468_1 rfl 1 rfl ?_
  refine hw_callPq C 0 (ci := 1) (Cn := RJ4) (Tc := TJ4) (N := 4) (As := [.int (nI x)]) (h_apc hx hn hcap hl hf) (va_cwSU 1 (hx_ts C) gJ4_append_cf468_J5_append_3fe6f_s50 rfl rfl rfl (by decide +kernel) ⟨Nat.le_of_ble_eq_true rfl, Nat.le_of_ble_eq_true rfl⟩) rfl rfl rfl (st := []) rfl (Nat.le_of_ble_eq_true rfl) ⟨by show 0 + 1 ≤ 1; omega, by show 0 + 2000 ≤ 2000; omega⟩ dJ4_append_cf468_2 (fun r w1 h1 => ?_)
  obtain ⟨rfl, v1, cap1, f1, rfl, h2⟩ := h1
  refine hw_pop C dJ4_append_cf468_5 rfl ?_
  refine hw_aload_n C dJ4_append_cf468_6 rfl 0 rfl ?_
  refine hw_more (cells' := 1) (slots' := 2000) (by omega) (by omega) ?_
  exact hw_aret C hr (Or.inl ⟨_, rfl⟩) _ ⟨rfl, v1, cap1, f1, rfl, h2⟩ (fun t h1 h2 => ⟨h1, h2⟩) dJ4_append_cf468_7
end
theorem h_apc4 {l : Launch} {N0 : Nat} {T : Nat → ClassId} {D : va_G} {ad : Nat → Nat → Nat → Nat} {b v cap n x : Nat} {f : Nat → Int32} (hx : x < 128) (hn : n ≤ cap) (hcap : cap ≤ 2000) (hl : n + 1 ≤ 1000) (hf : sb_Fit f) : HwQ l yJ4_append_cf468 wsJ4_append_cf468 (Rhw 6 1 2000) N0 T D ad ([(b, .inr (1, [.ref v, .int 0, .int 0, .int (nI n)])), (v, .inl (T 1, cap, .inl f))]) [.ref b, .int (nI x)] (fun r w1 => r = some b ∧ ∃ v1 cap1 f1, w1 = sbW T b v1 cap1 (n + [nI x].length) f1 ∧ n + [nI x].length ≤ cap1 ∧ cap1 ≤ 2000 ∧ (∀ j, j < n → f1 j = f j) ∧ (∀ j, j < [nI x].length → f1 (n + j) = [nI x].getD j 0) ∧ sb_Fit f1) 1 2000 :=
  hw_body 1 2000 (by decide +kernel) rfl (Nat.le_of_ble_eq_true rfl) (fun p e s m below meth c C hnm hr => w_apc4 hx hn hcap hl hf C hr)
