/-! THE JDK's STRINGBUILDER: a number of one or two digits -/
def dig (u : Nat) : List Int32 := if u < 10 then [dOne u] else [dTen u, dOne u]
theorem dig_lo {u : Nat} (h : u < 10) : (dig u).length = 1 := by simp [dig, h]
theorem dig_hi {u : Nat} (h : ¬ u < 10) : (dig u).length = 2 := by simp [dig, h]
theorem dig_pos (u : Nat) : 1 ≤ (dig u).length := by
  by_cases h : u < 10
  · rw [dig_lo h]; decide
  · rw [dig_hi h]; decide
theorem ng_tab : ∀ u, u < 100 → (¬ -(nI u) ≤ (-100 : Int32)) ∧ ((-100 : Int32) < -(nI u)) ∧ (u < 10 → ¬ -(nI u) ≤ (-10 : Int32) ∧ (-9 : Int32) ≤ -(nI u)) ∧ (¬ u < 10 → -(nI u) ≤ (-10 : Int32) ∧ ¬ (-9 : Int32) ≤ -(nI u)) := by decide +kernel
theorem ng_nle100 {u : Nat} (h : u < 100) : ¬ -(nI u) ≤ (-100 : Int32) := (ng_tab u h).1
theorem ng_lt100 {u : Nat} (h : u < 100) : (-100 : Int32) < -(nI u) := (ng_tab u h).2.1
theorem ng_nle10 {u : Nat} (h : u < 10) : ¬ -(nI u) ≤ (-10 : Int32) := ((ng_tab u (by omega)).2.2.1 h).1
theorem ng_ge9 {u : Nat} (h : u < 10) : (-9 : Int32) ≤ -(nI u) := ((ng_tab u (by omega)).2.2.1 h).2
theorem ng_le10 {u : Nat} (h : 10 ≤ u) (hu : u < 100) : -(nI u) ≤ (-10 : Int32) := ((ng_tab u hu).2.2.2 (by omega)).1
theorem ng_nge9 {u : Nat} (h : 10 ≤ u) (hu : u < 100) : ¬ (-9 : Int32) ≤ -(nI u) := ((ng_tab u hu).2.2.2 (by omega)).2
theorem ng_ng (x : Int32) : - -x = x := Int32.neg_neg
theorem inb_nI2 {u : Nat} (h : u < 100) : inb (nI u) 100 = true := (by decide +kernel : ∀ u, u < 100 → inb (nI u) 100 = true) u h
theorem ix_nI {u : Nat} (h : u < 100) : ix (nI u) = u := (by decide +kernel : ∀ u, u < 100 → ix (nI u) = u) u h
theorem dOne_vp {u : Nat} (h : u < 100) : vp_nar .byte (dOne u) = dOne u := (by decide +kernel : ∀ u, u < 100 → vp_nar .byte (dOne u) = dOne u) u h
theorem dTen_vp {u : Nat} (h : u < 100) : vp_nar .byte (dTen u) = dTen u := (by decide +kernel : ∀ u, u < 100 → vp_nar .byte (dTen u) = dTen u) u h
theorem dOne_fit {u : Nat} (h : u < 100) : fits .byte (.int (dOne u)) = true := (by decide +kernel : ∀ u, u < 100 → fits .byte (.int (dOne u)) = true) u h
theorem dTen_fit {u : Nat} (h : u < 100) : fits .byte (.int (dTen u)) = true := (by decide +kernel : ∀ u, u < 100 → fits .byte (.int (dTen u)) = true) u h
theorem dec1 {k : Nat} (h : 1 ≤ k) : nI k + Int32.ofInt (-1) = nI (k - 1) := by
  obtain ⟨m, rfl⟩ : ∃ m, k = m + 1 := ⟨k - 1, by omega⟩
  rw [Nat.add_sub_cancel, ← nI_pred m, Int32.sub_eq_add_neg]
  rfl
theorem dec2 {k : Nat} (h : 2 ≤ k) : nI (k - 1) + Int32.ofInt (-1) = nI (k - 2) := by
  have h9 := dec1 (k := k - 1) (by omega)
  rw [show k - 1 - 1 = k - 2 by omega] at h9
  exact h9
theorem gch_lo {f : Nat → Int32} {k u : Nat} (hv : u < 10) (hk : 1 ≤ k) : (∀ j, j < k - (dig u).length → upd f (k - 1) (dOne u) j = f j) ∧ ∀ j, j < (dig u).length → upd f (k - 1) (dOne u) (k - (dig u).length + j) = (dig u).getD j 0 := by
  rw [dig_lo hv]
  refine ⟨fun j hj => pk_un (by omega), fun j hj => ?_⟩
  obtain rfl : j = 0 := by omega
  rw [Nat.add_zero, pk_us]
  simp [dig, hv]
theorem gch_hi {f : Nat → Int32} {k u : Nat} (hv : ¬ u < 10) (hk : 2 ≤ k) : (∀ j, j < k - (dig u).length → upd (upd f (k - 1) (dOne u)) (k - 2) (dTen u) j = f j) ∧ ∀ j, j < (dig u).length → upd (upd f (k - 1) (dOne u)) (k - 2) (dTen u) (k - (dig u).length + j) = (dig u).getD j 0 := by
  rw [dig_hi hv]
  refine ⟨fun j hj => by rw [pk_un (by omega), pk_un (by omega)], fun j hj => ?_⟩
  rcases (show j = 0 ∨ j = 1 by omega) with rfl | rfl
  · rw [Nat.add_zero, pk_us]
    simp [dig, hv]
  · rw [pk_un (by omega), show k - 2 + 1 = k - 1 by omega, pk_us]
    simp [dig, hv]
section
variable {p : Program} {l : Launch} {e : Env} {s : State} {m : MethodId} {below : List Frame} {meth : Method} {c : Code} {N0 : Nat} {T : Nat → ClassId} {D : va_G} {ad : Nat → Nat → Nat → Nat}
theorem w_ssz {w : va_W} {u : Nat} (hu : u < 100) (C : Chw p s m [.int (nI u)].toArray meth c cJ6_stringSize_0f7a4 4 wsJ6_stringSize_0f7a4 RJ6 N0 T D ad) (hr : meth.sig.returnType = (some .int)) : HW p l e (Rhw 1 0 0) s m [.int (nI u)].toArray below meth c 4 N0 D 0 0 (MQ below (va_Qi (fun r w1 => r = nI (dig u).length ∧ w1 = w) (HwB N0 D) (fun q => N0 ≤ q)) [.int (nI u)].toArray s 0 0 (fun q => N0 ≤ q)) w 0 [(0, .int (nI u))] [] := by
  refine hw_iconst C dJ6_stringSize_0f7a4_0 (v := 1) rfl ?_
  refine hw_istore_n C dJ6_stringSize_0f7a4_1 rfl (by decide) rfl ?_
  refine hw_iload_n C dJ6_stringSize_0f7a4_2 rfl 1 rfl ?_
  refine hw_if_lt C dJ6_stringSize_0f7a4_3 (tgt := 11) rfl (fun h9 => absurd h9 (nI_pos (by omega))) (fun _ => ?_)
  refine hw_iconst C dJ6_stringSize_0f7a4_6 (v := 0) rfl ?_
  refine hw_istore_n C dJ6_stringSize_0f7a4_7 rfl (by decide) rfl ?_
  refine hw_iload_n C dJ6_stringSize_0f7a4_8 rfl 1 rfl ?_
  refine hw_ineg C dJ6_stringSize_0f7a4_9 ?_
  refine hw_topi (v' := -(nI u)) rfl ?_
  refine hw_istore_n C dJ6_stringSize_0f7a4_10 rfl (by decide) rfl ?_
  refine hw_bipush C dJ6_stringSize_0f7a4_11 (v := (-10)) (by decide) ?_
  refine hw_istore_n C dJ6_stringSize_0f7a4_13 rfl (by decide) rfl ?_
  refine hw_iconst C dJ6_stringSize_0f7a4_14 (v := 1) rfl ?_
  refine hw_istore_n C dJ6_stringSize_0f7a4_15 rfl (by decide) rfl ?_
  refine hw_iload_n C dJ6_stringSize_0f7a4_16 rfl 0 rfl ?_
  refine hw_bipush C dJ6_stringSize_0f7a4_17 (v := 10) (by decide) ?_
  refine hw_icmp_ge C dJ6_stringSize_0f7a4_19 (tgt := 42) rfl (fun h9 => absurd h9 ((by decide))) (fun _ => ?_)
  refine hw_iload_n C dJ6_stringSize_0f7a4_22 rfl 2 rfl ?_
  refine hw_iload_n C dJ6_stringSize_0f7a4_23 rfl 1 rfl ?_
  by_cases hv : u < 10
  · refine hw_icmp_le C dJ6_stringSize_0f7a4_24 (tgt := 31) rfl (fun h9 => absurd h9 (ng_nle10 hv)) (fun _ => ?_)
    refine hw_iload_n C dJ6_stringSize_0f7a4_27 rfl 0 rfl ?_
    refine hw_iload_n C dJ6_stringSize_0f7a4_28 rfl 3 rfl ?_
    refine hw_iadd C dJ6_stringSize_0f7a4_29 ?_
    refine hw_topi (v' := 1) (by decide) ?_
    exact hw_iret C hr _ ⟨(congrArg nI (dig_lo hv)).symm, rfl⟩ (fun t h1 h2 => ⟨h1, h2⟩) dJ6_stringSize_0f7a4_30
  · refine hw_icmp_le C dJ6_stringSize_0f7a4_24 (tgt := 31) rfl (fun _ => ?_) (fun h9 => absurd (ng_le10 (by omega) hu) h9)
    refine hw_bipush C dJ6_stringSize_0f7a4_31 (v := 10) (by decide) ?_
    refine hw_iload_n C dJ6_stringSize_0f7a4_33 rfl 1 rfl ?_
    refine hw_imul C dJ6_stringSize_0f7a4_34 ?_
    refine hw_topi (v' := (-100)) (by decide) ?_
    refine hw_istore_n C dJ6_stringSize_0f7a4_35 rfl (by decide) rfl ?_
    refine hw_iinc C dJ6_stringSize_0f7a4_36 (kk := 1) rfl (v := 2) (by decide) (by decide) rfl ?_
    refine hw_goto C dJ6_stringSize_0f7a4_39 (tgt := 16) rfl ?_
    refine hw_iload_n C dJ6_stringSize_0f7a4_16 rfl 0 rfl ?_
    refine hw_bipush C dJ6_stringSize_0f7a4_17 (v := 10) (by decide) ?_
    refine hw_icmp_ge C dJ6_stringSize_0f7a4_19 (tgt := 42) rfl (fun h9 => absurd h9 ((by decide))) (fun _ => ?_)
    refine hw_iload_n C dJ6_stringSize_0f7a4_22 rfl 2 rfl ?_
    refine hw_iload_n C dJ6_stringSize_0f7a4_23 rfl 1 rfl ?_
    refine hw_icmp_le C dJ6_stringSize_0f7a4_24 (tgt := 31) rfl (fun h9 => absurd h9 (ng_nle100 hu)) (fun _ => ?_)
    refine hw_iload_n C dJ6_stringSize_0f7a4_27 rfl 0 rfl ?_
    refine hw_iload_n C dJ6_stringSize_0f7a4_28 rfl 3 rfl ?_
    refine hw_iadd C dJ6_stringSize_0f7a4_29 ?_
    refine hw_topi (v' := 2) (by decide) ?_
    exact hw_iret C hr _ ⟨(congrArg nI (dig_hi hv)).symm, rfl⟩ (fun t h1 h2 => ⟨h1, h2⟩) dJ6_stringSize_0f7a4_30
end
theorem h_ssz {l : Launch} {N0 : Nat} {T : Nat → ClassId} {D : va_G} {ad : Nat → Nat → Nat → Nat} {w : va_W} {u : Nat} (hu : u < 100) : HwI l yJ6_stringSize_0f7a4 wsJ6_stringSize_0f7a4 (Rhw 1 0 0) N0 T D ad w [.int (nI u)] (fun r w1 => r = nI (dig u).length ∧ w1 = w) 0 0 :=
  hw_body 0 0 (by decide +kernel) rfl (Nat.le_of_ble_eq_true rfl) (fun p e s m below meth c C hnm hr => w_ssz hu C hr)
theorem jw_J6_getChars_ba4f3_f83 : (.fieldLink RJ6 83 "java/lang/Integer" "DigitOnes" "[B" : Cond) ∈ wsJ6_getChars_ba4f3 := by decide +kernel
theorem jw_J6_getChars_ba4f3_f87 : (.fieldLink RJ6 87 "java/lang/Integer" "DigitTens" "[B" : Cond) ∈ wsJ6_getChars_ba4f3 := by decide +kernel
section
variable {p : Program} {l : Launch} {e : Env} {s : State} {m : MethodId} {below : List Frame} {meth : Method} {c : Code} {N0 : Nat} {T : Nat → ClassId} {D : va_G} {ad : Nat → Nat → Nat → Nat}
theorem w_gch {b v cap n k u : Nat} {f : Nat → Int32} (hu : u < 100) (hk : (dig u).length ≤ k) (hkc : k ≤ cap) (hcap : cap ≤ 2000) (hf : sb_Fit f) (C : Chw p s m [.int (nI u), .int (nI k), .ref v].toArray meth c cJ6_getChars_ba4f3 7 wsJ6_getChars_ba4f3 RJ6 N0 T D ad) (hr : meth.sig.returnType = (some .int)) : HW p l e (Rhw 1 0 0) s m [.int (nI u), .int (nI k), .ref v].toArray below meth c 7 N0 D 0 0 (MQ below (va_Qi (fun _ w1 => ∃ f1, w1 = sbW T b v cap n f1 ∧ ((∀ j, j < k - (dig u).length → f1 j = f j) ∧ ∀ j, j < (dig u).length → f1 (k - (dig u).length + j) = (dig u).getD j 0) ∧ sb_Fit f1) (HwB N0 D) (fun q => N0 ≤ q)) [.int (nI u), .int (nI k), .ref v].toArray s 0 0 (fun q => N0 ≤ q)) ([(b, .inr (1, [.ref v, .int 0, .int 0, .int (nI n)])), (v, .inl (T 1, cap, .inl f))]) 0 [(0, .int (nI u)), (1, .int (nI k)), (2, .ref v)] [] := by
  have hk1 : 1 ≤ k := Nat.le_trans (dig_pos u) hk
  refine hw_iload_n C dJ6_getChars_ba4f3_0 rfl 1 rfl ?_
  refine hw_istore C dJ6_getChars_ba4f3_1 (by decide) rfl ?_
  refine hw_iload_n C dJ6_getChars_ba4f3_3 rfl 1 rfl ?_
  refine hw_if_ge C dJ6_getChars_ba4f3_4 (tgt := 11) rfl (fun _ => ?_) (fun h9 => absurd (nI_pos' (by omega)) h9)
  refine hw_iconst C dJ6_getChars_ba4f3_11 (v := 0) rfl ?_
  refine hw_istore C dJ6_getChars_ba4f3_12 (by decide) rfl ?_
  refine hw_iload C dJ6_getChars_ba4f3_14 0 rfl ?_
  refine hw_if_ne C dJ6_getChars_ba4f3_16 (tgt := 22) rfl (fun h9 => absurd h9 ((fun h8 => h8 rfl))) (fun _ => ?_)
  refine hw_iload_n C dJ6_getChars_ba4f3_19 rfl 2 rfl ?_
  refine hw_ineg C dJ6_getChars_ba4f3_20 ?_
  refine hw_topi (v' := -(nI u)) rfl ?_
  refine hw_istore_n C dJ6_getChars_ba4f3_21 rfl (by decide) rfl ?_
  refine hw_iload_n C dJ6_getChars_ba4f3_22 rfl 0 rfl ?_
  refine hw_bipush C dJ6_getChars_ba4f3_23 (v := (-100)) (by decide) ?_
  refine hw_icmp_gt C dJ6_getChars_ba4f3_25 (tgt := 72) rfl (fun _ => ?_) (fun h9 => absurd (ng_lt100 hu) h9)
  refine hw_aload_n C dJ6_getChars_ba4f3_72 rfl 4 rfl ?_
  refine hw_iinc C dJ6_getChars_ba4f3_73 (kk := 2) rfl (v := nI (k - 1)) (dec1 (by omega)) (by decide) rfl ?_
  refine hw_iload C dJ6_getChars_ba4f3_76 0 rfl ?_
  refine hw_gets C (hx_st C).2.2.2.1.1 (hx_ts C _ jw_J6_getChars_ba4f3_f83) (fun _ h => h) dJ6_getChars_ba4f3_78 ?_
  refine hw_iload_n C dJ6_getChars_ba4f3_81 rfl 1 rfl ?_
  refine hw_ineg C dJ6_getChars_ba4f3_82 ?_
  refine hw_topi (v' := nI u) (ng_ng _) ?_
  refine hw_tb C (hx_st C).2.2.2.1.2 (inb_nI2 hu) (v := .int (dOne u)) (congrArg (fun j => Value.int (dOne j)) (ix_nI hu)) dJ6_getChars_ba4f3_83 ?_
  refine hw_bast C 1 (j := (k - 1)) rfl (by omega) (by omega) (dOne_vp hu) (w' := [(b, .inr (1, [.ref v, .int 0, .int 0, .int (nI n)])), (v, .inl (T 1, cap, .inl (upd f (k - 1) (dOne u))))]) rfl dJ6_getChars_ba4f3_84 ?_
  refine hw_iload_n C dJ6_getChars_ba4f3_85 rfl 1 rfl ?_
  refine hw_bipush C dJ6_getChars_ba4f3_86 (v := (-9)) (by decide) ?_
  by_cases hv : u < 10
  · refine hw_icmp_ge C dJ6_getChars_ba4f3_88 (tgt := 104) rfl (fun _ => ?_) (fun h9 => absurd (ng_ge9 hv) h9)
    refine hw_iload C dJ6_getChars_ba4f3_104 2 rfl ?_
    refine hw_if_eq C dJ6_getChars_ba4f3_106 (tgt := 118) rfl (fun _ => ?_) (fun h9 => absurd rfl h9)
    refine hw_iload C dJ6_getChars_ba4f3_118 0 rfl ?_
    exact hw_iret C hr _ ⟨_, rfl, gch_lo hv (by have h9 := dig_lo hv; omega), sb_fitU hf (dOne_fit hu)⟩ (fun t h1 h2 => ⟨h1, h2⟩) dJ6_getChars_ba4f3_120
  · refine hw_icmp_ge C dJ6_getChars_ba4f3_88 (tgt := 104) rfl (fun h9 => absurd h9 (ng_nge9 (by omega) hu)) (fun _ => ?_)
    have hk2 : 2 ≤ k := by have h9 := dig_hi hv; omega
    refine hw_aload_n C dJ6_getChars_ba4f3_91 rfl 4 rfl ?_
    refine hw_iinc C dJ6_getChars_ba4f3_92 (kk := 0) rfl (v := nI (k - 2)) (dec2 hk2) (by decide) rfl ?_
    refine hw_iload C dJ6_getChars_ba4f3_95 0 rfl ?_
    refine hw_gets C (hx_st C).2.2.2.2.1.1 (hx_ts C _ jw_J6_getChars_ba4f3_f87) (fun _ h => h) dJ6_getChars_ba4f3_97 ?_
    refine hw_iload_n C dJ6_getChars_ba4f3_100 rfl 1 rfl ?_
    refine hw_ineg C dJ6_getChars_ba4f3_101 ?_
    refine hw_topi (v' := nI u) (ng_ng _) ?_
    refine hw_tb C (hx_st C).2.2.2.2.1.2 (inb_nI2 hu) (v := .int (dTen u)) (congrArg (fun j => Value.int (dTen j)) (ix_nI hu)) dJ6_getChars_ba4f3_102 ?_
    refine hw_bast C 1 (j := (k - 2)) rfl (by omega) (by omega) (dTen_vp hu) (w' := [(b, .inr (1, [.ref v, .int 0, .int 0, .int (nI n)])), (v, .inl (T 1, cap, .inl (upd (upd f (k - 1) (dOne u)) (k - 2) (dTen u))))]) rfl dJ6_getChars_ba4f3_103 ?_
    refine hw_iload C dJ6_getChars_ba4f3_104 2 rfl ?_
    refine hw_if_eq C dJ6_getChars_ba4f3_106 (tgt := 118) rfl (fun _ => ?_) (fun h9 => absurd rfl h9)
    refine hw_iload C dJ6_getChars_ba4f3_118 0 rfl ?_
    exact hw_iret C hr _ ⟨_, rfl, gch_hi hv hk2, sb_fitU (sb_fitU hf (dOne_fit hu)) (dTen_fit hu)⟩ (fun t h1 h2 => ⟨h1, h2⟩) dJ6_getChars_ba4f3_120
end
theorem h_gch {l : Launch} {N0 : Nat} {T : Nat → ClassId} {D : va_G} {ad : Nat → Nat → Nat → Nat} {b v cap n k u : Nat} {f : Nat → Int32} (hu : u < 100) (hk : (dig u).length ≤ k) (hkc : k ≤ cap) (hcap : cap ≤ 2000) (hf : sb_Fit f) : HwI l yJ6_getChars_ba4f3 wsJ6_getChars_ba4f3 (Rhw 1 0 0) N0 T D ad ([(b, .inr (1, [.ref v, .int 0, .int 0, .int (nI n)])), (v, .inl (T 1, cap, .inl f))]) [.int (nI u), .int (nI k), .ref v] (fun _ w1 => ∃ f1, w1 = sbW T b v cap n f1 ∧ ((∀ j, j < k - (dig u).length → f1 j = f j) ∧ ∀ j, j < (dig u).length → f1 (k - (dig u).length + j) = (dig u).getD j 0) ∧ sb_Fit f1) 0 0 :=
  hw_body 0 0 (by decide +kernel) rfl (Nat.le_of_ble_eq_true rfl) (fun p e s m below meth c C hnm hr => w_gch hu hk hkc hcap hf C hr)
theorem jw_J5_append_c97b9_f79 : (.fieldLink RJ5 79 "java/lang/AbstractStringBuilder" "count" "I" : Cond) ∈ wsJ5_append_c97b9 := by decide +kernel
theorem jl_J5_append_c97b9_1 : ∀ w ∈ u_ws RJ4 TJ4 4, w ∈ wsJ5_append_c97b9 := by decide +kernel
theorem jw_J5_append_c97b9_f15 : (.fieldLink RJ5 15 "java/lang/AbstractStringBuilder" "value" "[B" : Cond) ∈ wsJ5_append_c97b9 := by decide +kernel
section
variable {p : Program} {l : Launch} {e : Env} {s : State} {m : MethodId} {below : List Frame} {meth : Method} {c : Code} {N0 : Nat} {T : Nat → ClassId} {D : va_G} {ad : Nat → Nat → Nat → Nat}
theorem w_api {b v cap n u : Nat} {f : Nat → Int32} (hu : u < 100) (hn : n ≤ cap) (hcap : cap ≤ 2000) (hl : n + (dig u).length ≤ 1000) (hf : sb_Fit f) (C : Chw p s m [.ref b, .int (nI u)].toArray meth c cJ5_append_c97b9 4 wsJ5_append_c97b9 RJ5 N0 T D ad) (hr : meth.sig.returnType = (some (.object "java/lang/AbstractStringBuilder"))) : HW p l e (Rhw 5 1 2000) s m [.ref b, .int (nI u)].toArray below meth c 4 N0 D 0 0 (MQ below (va_Qq (fun r w1 => r = some b ∧ ∃ v1 cap1 f1, w1 = sbW T b v1 cap1 (n + (dig u).length) f1 ∧ n + (dig u).length ≤ cap1 ∧ cap1 ≤ 2000 ∧ (∀ j, j < n → f1 j = f j) ∧ (∀ j, j < (dig u).length → f1 (n + j) = (dig u).getD j 0) ∧ sb_Fit f1) (HwB N0 D) (fun q => N0 ≤ q)) [.ref b, .int (nI u)].toArray s 1 2000 (fun q => N0 ≤ q)) ([(b, .inr (1, [.ref v, .int 0, .int 0, .int (nI n)])), (v, .inl (T 1, cap, .inl f))]) 0 [(0, .ref b), (1, .int (nI u))] [] := by
  refine hw_aload_n C dJ5_append_c97b9_0 rfl 0 rfl ?_
  refine hw_get C 0 (ci := 1) (Cn := RJ4) (Tc := TJ4) (N := 4) (j := 3) (v := .int (nI n)) rfl jl_J5_append_c97b9_1 rfl (by decide) (hx_ts C _ jw_J5_append_c97b9_f79) (fun _ h => h) rfl dJ5_append_c97b9_1 ?_
  refine hw_istore_n C dJ5_append_c97b9_4 rfl (by decide) rfl ?_
  refine hw_iload_n C dJ5_append_c97b9_5 rfl 0 rfl ?_
  refine hw_iload_n C dJ5_append_c97b9_6 rfl 2 rfl ?_
  refine hw_callSi C (As := [.int (nI u)]) (h_ssz hu) (va_cwS 1 (hx_ts C) gJ5_append_c97b9_J6_stringSize_0f7a4 rfl rfl rfl (by decide +kernel) ⟨Nat.le_of_ble_eq_true rfl, Nat.le_of_ble_eq_true rfl⟩) rfl (st := [.int (nI n)]) rfl (Nat.le_of_ble_eq_true rfl) ⟨by show 0 + 0 ≤ 1; omega, by show 0 + 0 ≤ 2000; omega⟩ dJ5_append_c97b9_7 (fun r w1 h1 => ?_)
  obtain ⟨rfl, rfl⟩ := h1
  refine hw_iadd C dJ5_append_c97b9_10 ?_
  refine hw_topi (v' := nI (n + (dig u).length)) (nI_add _ _) ?_
  refine hw_istore_n C dJ5_append_c97b9_11 rfl (by decide) rfl ?_
  refine hw_aload_n C dJ5_append_c97b9_12 rfl 2 rfl ?_
  refine hw_iload_n C dJ5_append_c97b9_13 rfl 0 rfl ?_
  refine hw_callUv C 0 (ci := 1) (Cn := RJ4) (Tc := TJ4) (N := 4) (As := [.int (nI (n + (dig u).length))]) (h_ens hn hcap (by omega) hf) (va_cwU 1 (hx_ts C) gJ5_append_c97b9_J5_ensureCapacityInternal_d00df_u100J4 rfl rfl rfl rfl (by decide +kernel) ⟨Nat.le_of_ble_eq_true rfl, Nat.le_of_ble_eq_true rfl⟩) rfl rfl rfl (st := []) rfl (Nat.le_of_ble_eq_true rfl) ⟨by show 0 + 1 ≤ 1; omega, by show 0 + 2000 ≤ 2000; omega⟩ dJ5_append_c97b9_14 (fun w1 h1 => ?_)
  obtain ⟨v1, cap1, f1, rfl, hq1, hc1, hk1, hf1⟩ := h1
  refine hw_aload_n C dJ5_append_c97b9_17 rfl 2 rfl ?_
  refine hw_callUi C 0 (ci := 1) (Cn := RJ4) (Tc := TJ4) (N := 4) (As := []) (h_isL (q0 := 0) rfl) (va_cwU 0 (hx_ts C) gJ5_append_c97b9_J5_isLatin1_aae02_u83J4 rfl rfl rfl rfl (by decide +kernel) ⟨Nat.le_of_ble_eq_true rfl, Nat.le_of_ble_eq_true rfl⟩) rfl rfl rfl (st := []) rfl (Nat.le_of_ble_eq_true rfl) ⟨by show 0 + 1 + 0 ≤ 1; omega, by show 0 + 2000 + 0 ≤ 2000; omega⟩ dJ5_append_c97b9_18 (fun r w1 h1 => ?_)
  obtain ⟨rfl, rfl⟩ := h1
  refine hw_if_eq C dJ5_append_c97b9_21 (tgt := 37) rfl (fun h9 => absurd h9 ((by decide))) (fun _ => ?_)
  refine hw_iload_n C dJ5_append_c97b9_24 rfl 3 rfl ?_
  refine hw_iload_n C dJ5_append_c97b9_25 rfl 0 rfl ?_
  refine hw_aload_n C dJ5_append_c97b9_26 rfl 2 rfl ?_
  refine hw_get C 0 (ci := 1) (Cn := RJ4) (Tc := TJ4) (N := 4) (j := 0) (v := .ref v1) rfl jl_J5_append_c97b9_1 rfl (by decide) (hx_ts C _ jw_J5_append_c97b9_f15) (fun _ h => h) rfl dJ5_append_c97b9_27 ?_
  refine hw_callSi C (As := [.int (nI u), .int (nI (n + (dig u).length)), .ref v1]) (h_gch hu (Nat.le_add_left _ _) hq1 hc1 hf1) (va_cwS 3 (hx_ts C) gJ5_append_c97b9_J6_getChars_ba4f3 rfl rfl rfl (by decide +kernel) ⟨Nat.le_of_ble_eq_true rfl, Nat.le_of_ble_eq_true rfl⟩) rfl (st := []) rfl (Nat.le_of_ble_eq_true rfl) ⟨by show 0 + 1 + 0 ≤ 1; omega, by show 0 + 2000 + 0 ≤ 2000; omega⟩ dJ5_append_c97b9_30 (fun r w1 h1 => ?_)
  obtain ⟨f2, rfl, ⟨hk2, hk3⟩, hf2⟩ := h1
  refine hw_pop C dJ5_append_c97b9_33 rfl ?_
  refine hw_goto C dJ5_append_c97b9_34 (tgt := 48) rfl ?_
  refine hw_aload_n C dJ5_append_c97b9_48 rfl 2 rfl ?_
  refine hw_iload_n C dJ5_append_c97b9_49 rfl 0 rfl ?_
  refine hw_put C 0 (ci := 1) (Cn := RJ4) (Tc := TJ4) (N := 4) (j := 3) (tyc := tyJ4) (ty := tyJ4 3) (w' := [(b, .inr (1, [.ref v1, .int 0, .int 0, .int (nI (n + (dig u).length))])), (v1, .inl (T 1, cap1, .inl f2))]) rfl jl_J5_append_c97b9_1 rfl tyJ4_ok nmJ4 (by decide) (hx_ts C _ jw_J5_append_c97b9_f79) (fun _ h => h) rfl (by decide +kernel) rfl rfl (Nat.le_of_ble_eq_true rfl) rfl dJ5_append_c97b9_50 ?_
  refine hw_aload_n C dJ5_append_c97b9_53 rfl 2 rfl ?_
  refine hw_more (cells' := 1) (slots' := 2000) (by omega) (by omega) ?_
  exact hw_aret C hr (Or.inl ⟨_, rfl⟩) _ ⟨rfl, v1, cap1, _, rfl, hq1, hc1, fun j hj => (hk2 j (by omega)).trans (hk1 j hj), fun j hj => by have h9 := hk3 j hj; rw [Nat.add_sub_cancel] at h9; exact h9, hf2⟩ (fun t h1 h2 => ⟨h1, h2⟩) dJ5_append_c97b9_54
end
theorem h_api {l : Launch} {N0 : Nat} {T : Nat → ClassId} {D : va_G} {ad : Nat → Nat → Nat → Nat} {b v cap n u : Nat} {f : Nat → Int32} (hu : u < 100) (hn : n ≤ cap) (hcap : cap ≤ 2000) (hl : n + (dig u).length ≤ 1000) (hf : sb_Fit f) : HwQ l yJ5_append_c97b9 wsJ5_append_c97b9 (Rhw 5 1 2000) N0 T D ad ([(b, .inr (1, [.ref v, .int 0, .int 0, .int (nI n)])), (v, .inl (T 1, cap, .inl f))]) [.ref b, .int (nI u)] (fun r w1 => r = some b ∧ ∃ v1 cap1 f1, w1 = sbW T b v1 cap1 (n + (dig u).length) f1 ∧ n + (dig u).length ≤ cap1 ∧ cap1 ≤ 2000 ∧ (∀ j, j < n → f1 j = f j) ∧ (∀ j, j < (dig u).length → f1 (n + j) = (dig u).getD j 0) ∧ sb_Fit f1) 1 2000 :=
  hw_body 1 2000 (by decide +kernel) rfl (Nat.le_of_ble_eq_true rfl) (fun p e s m below meth c C hnm hr => w_api hu hn hcap hl hf C hr)
section
variable {p : Program} {l : Launch} {e : Env} {s : State} {m : MethodId} {below : List Frame} {meth : Method} {c : Code} {N0 : Nat} {T : Nat → ClassId} {D : va_G} {ad : Nat → Nat → Nat → Nat}
theorem w_api4 {b v cap n u : Nat} {f : Nat → Int32} (hu : u < 100) (hn : n ≤ cap) (hcap : cap ≤ 2000) (hl : n + (dig u).length ≤ 1000) (hf : sb_Fit f) (C : Chw p s m [.ref b, .int (nI u)].toArray meth c cJ4_append_bf812 2 wsJ4_append_bf812 RJ4 N0 T D ad) (hr : meth.sig.returnType = (some (.object "java/lang/StringBuilder"))) : HW p l e (Rhw 6 1 2000) s m [.ref b, .int (nI u)].toArray below meth c 2 N0 D 0 0 (MQ below (va_Qq (fun r w1 => r = some b ∧ ∃ v1 cap1 f1, w1 = sbW T b v1 cap1 (n + (dig u).length) f1 ∧ n + (dig u).length ≤ cap1 ∧ cap1 ≤ 2000 ∧ (∀ j, j < n → f1 j = f j) ∧ (∀ j, j < (dig u).length → f1 (n + j) = (dig u).getD j 0) ∧ sb_Fit f1) (HwB N0 D) (fun q => N0 ≤ q)) [.ref b, .int (nI u)].toArray s 1 2000 (fun q => N0 ≤ q)) ([(b, .inr (1, [.ref v, .int 0, .int 0, .int (nI n)])), (v, .inl (T 1, cap, .inl f))]) 0 [(0, .ref b), (1, .int (nI u))] [] := by
  refine hw_aload_n C dJ4_append_bf812_0 rfl 0 rfl ?_
  refine hw_iload_n C dJ4_append_bf812_1 rfl 1 rfl ?_
  refine hw_callPq C 0 (ci := 1) (Cn := RJ4) (Tc := TJ4) (N := 4) (As := [.int (nI u)]) (h_api hu hn hcap hl hf) (va_cwSU 1 (hx_ts C) gJ4_append_bf812_J5_append_c97b9_s53 rfl rfl rfl (by decide +kernel) ⟨Nat.le_of_ble_eq_true rfl, Nat.le_of_ble_eq_true rfl⟩) rfl rfl rfl (st := []) rfl (Nat.le_of_ble_eq_true rfl) ⟨by show 0 + 1 ≤ 1; omega, by show 0 + 2000 ≤ 2000; omega⟩ dJ4_append_bf812_2 (fun r w1 h1 => ?_)
  obtain ⟨rfl, v1, cap1, f1, rfl, h2⟩ := h1
  refine hw_pop C dJ4_append_bf812_5 rfl ?_
  refine hw_aload_n C dJ4_append_bf812_6 rfl 0 rfl ?_
  refine hw_more (cells' := 1) (slots' := 2000) (by omega) (by omega) ?_
  exact hw_aret C hr (Or.inl ⟨_, rfl⟩) _ ⟨rfl, v1, cap1, f1, rfl, h2⟩ (fun t h1 h2 => ⟨h1, h2⟩) dJ4_append_bf812_7
end
theorem h_api4 {l : Launch} {N0 : Nat} {T : Nat → ClassId} {D : va_G} {ad : Nat → Nat → Nat → Nat} {b v cap n u : Nat} {f : Nat → Int32} (hu : u < 100) (hn : n ≤ cap) (hcap : cap ≤ 2000) (hl : n + (dig u).length ≤ 1000) (hf : sb_Fit f) : HwQ l yJ4_append_bf812 wsJ4_append_bf812 (Rhw 6 1 2000) N0 T D ad ([(b, .inr (1, [.ref v, .int 0, .int 0, .int (nI n)])), (v, .inl (T 1, cap, .inl f))]) [.ref b, .int (nI u)] (fun r w1 => r = some b ∧ ∃ v1 cap1 f1, w1 = sbW T b v1 cap1 (n + (dig u).length) f1 ∧ n + (dig u).length ≤ cap1 ∧ cap1 ≤ 2000 ∧ (∀ j, j < n → f1 j = f j) ∧ (∀ j, j < (dig u).length → f1 (n + j) = (dig u).getD j 0) ∧ sb_Fit f1) 1 2000 :=
  hw_body 1 2000 (by decide +kernel) rfl (Nat.le_of_ble_eq_true rfl) (fun p e s m below meth c C hnm hr => w_api4 hu hn hcap hl hf C hr)
