/-! THE JDK's STRINGBUILDER: toString -/
theorem i32_sub0 (x : Int32) : x - 0 = x := by simp
theorem mn_nI {a b : Nat} (h : a ≤ b) (hb : b < 2 ^ 31) : (if nI a < nI b then nI a else nI b) = nI a := by
  by_cases h9 : a < b
  · rw [if_pos (nI_lt h9 hb)]
  · rw [if_neg (nI_nlt (by omega) (by omega)), show b = a by omega]
section
variable {p : Program} {l : Launch} {e : Env} {s : State} {m : MethodId} {below : List Frame} {meth : Method} {c : Code} {N0 : Nat} {T : Nat → ClassId} {D : va_G} {ad : Nat → Nat → Nat → Nat}
theorem w_ckl {w : va_W} {x y : Nat} (hxy : x ≤ y) (hy : y ≤ 65536) (C : Chw p s m [.int (nI x), .int (nI y)].toArray meth c cJ7_checkLength_df160 2 wsJ7_checkLength_df160 RJ7 N0 T D ad) (hr : meth.sig.returnType = none) : HW p l e (Rhw 1 0 0) s m [.int (nI x), .int (nI y)].toArray below meth c 2 N0 D 0 0 (MQ below (va_Qv (fun w1 => w1 = w) (HwB N0 D) (fun q => N0 ≤ q)) [.int (nI x), .int (nI y)].toArray s 0 0 (fun q => N0 ≤ q)) w 0 [(0, .int (nI x)), (1, .int (nI y))] [] := by
  refine hw_iload_n C dJ7_checkLength_df160_0 rfl 1 rfl ?_
  refine hw_iload_n C dJ7_checkLength_df160_1 rfl 0 rfl ?_
  refine hw_icmp_ge C dJ7_checkLength_df160_2 (tgt := 37) rfl (fun _ => ?_) (fun h9 => absurd (nI_le hxy (by omega)) h9)
  exact hw_vret C hr _ rfl (fun t h1 h2 => ⟨h1, h2⟩) dJ7_checkLength_df160_37
end
theorem h_ckl {l : Launch} {N0 : Nat} {T : Nat → ClassId} {D : va_G} {ad : Nat → Nat → Nat → Nat} {w : va_W} {x y : Nat} (hxy : x ≤ y) (hy : y ≤ 65536) : HwV l yJ7_checkLength_df160 wsJ7_checkLength_df160 (Rhw 1 0 0) N0 T D ad w [.int (nI x), .int (nI y)] (fun w1 => w1 = w) 0 0 :=
  hw_body 0 0 (by decide +kernel) rfl (Nat.le_of_ble_eq_true rfl) (fun p e s m below meth c C hnm hr => w_ckl hxy hy C hr)
theorem jw_J7_copyOfRangeByte_39247_ab : (.arrayClass .byte : Cond) ∈ wsJ7_copyOfRangeByte_39247 := by decide +kernel
theorem jw_J7_copyOfRangeByte_39247_m304 : (.methodLink RJ7 304 Lib.Math.min.name : Cond) ∈ wsJ7_copyOfRangeByte_39247 := by decide +kernel
theorem jw_J7_copyOfRangeByte_39247_ms : (.static Lib.Math.min.name : Cond) ∈ wsJ7_copyOfRangeByte_39247 := by decide +kernel
theorem jw_J7_copyOfRangeByte_39247_mi : (.initialized "java/lang/Math" : Cond) ∈ wsJ7_copyOfRangeByte_39247 := by decide +kernel
theorem jw_J7_copyOfRangeByte_39247_mc : (.code Lib.Math.min.name Lib.Math.min.code 2 (some .int) : Cond) ∈ wsJ7_copyOfRangeByte_39247 := by decide +kernel
theorem jw_J7_copyOfRangeByte_39247_a1 : (.methodLink RJ7 150 arraycopyName : Cond) ∈ wsJ7_copyOfRangeByte_39247 := by decide +kernel
theorem jw_J7_copyOfRangeByte_39247_a2 : (.native arraycopyName : Cond) ∈ wsJ7_copyOfRangeByte_39247 := by decide +kernel
theorem jw_J7_copyOfRangeByte_39247_a3 : (.static arraycopyName : Cond) ∈ wsJ7_copyOfRangeByte_39247 := by decide +kernel
theorem jw_J7_copyOfRangeByte_39247_a4 : (.initialized "java/lang/System" : Cond) ∈ wsJ7_copyOfRangeByte_39247 := by decide +kernel
section
variable {p : Program} {l : Launch} {e : Env} {s : State} {m : MethodId} {below : List Frame} {meth : Method} {c : Code} {N0 : Nat} {T : Nat → ClassId} {D : va_G} {ad : Nat → Nat → Nat → Nat}
theorem w_crb {w : va_W} {q0 v cap n : Nat} {f : Nat → Int32} (he : w[q0]? = some (v, .inl (T 1, cap, .inl f))) (hn : n ≤ cap) (hcap : cap ≤ 2000) (hf : sb_Fit f) (C : Chw p s m [.ref v, .int 0, .int (nI n)].toArray meth c cJ7_copyOfRangeByte_39247 5 wsJ7_copyOfRangeByte_39247 RJ7 N0 T D ad) (hr : meth.sig.returnType = (some (.array .byte))) : HW p l e (Rhw 2 1 n) s m [.ref v, .int 0, .int (nI n)].toArray below meth c 5 N0 D 0 0 (MQ below (va_Qq (fun r w1 => ∃ a, r = some a ∧ N0 ≤ a ∧ (∀ q ∈ w, q.1 ≠ a) ∧ w1 = (a, .inl (T 1, n, .inl (va_cpy f (fun _ => 0) 0 0 n))) :: w) (HwB N0 D) (fun q => N0 ≤ q)) [.ref v, .int 0, .int (nI n)].toArray s 1 n (fun q => N0 ≤ q)) w 0 [(0, .ref v), (1, .int 0), (2, .int (nI n))] [] := by
  refine hw_iload_n C dJ7_copyOfRangeByte_39247_0 rfl 1 rfl ?_
  refine hw_iload_n C dJ7_copyOfRangeByte_39247_1 rfl 2 rfl ?_
  refine hw_callSv C (As := [.int 0, .int (nI n)]) (h_ckl (x := 0) (Nat.zero_le _) (by omega)) (va_cwS 2 (hx_ts C) gJ7_copyOfRangeByte_39247_J7_checkLength_df160 rfl rfl rfl (by decide +kernel) ⟨Nat.le_of_ble_eq_true rfl, Nat.le_of_ble_eq_true rfl⟩) rfl (st := []) rfl (Nat.le_of_ble_eq_true rfl) ⟨by show 0 + 0 ≤ 1; omega, by show 0 + 0 ≤ n; omega⟩ dJ7_copyOfRangeByte_39247_2 (fun w1 h1 => ?_)
  obtain rfl := h1.symm
  refine hw_iload_n C dJ7_copyOfRangeByte_39247_5 rfl 2 rfl ?_
  refine hw_iload_n C dJ7_copyOfRangeByte_39247_6 rfl 1 rfl ?_
  refine hw_isub C dJ7_copyOfRangeByte_39247_7 ?_
  refine hw_topi (v' := nI n) (i32_sub0 _) ?_
  refine hw_istore_n C dJ7_copyOfRangeByte_39247_8 rfl (by decide) rfl ?_
  refine hw_iload_n C dJ7_copyOfRangeByte_39247_9 rfl 0 rfl ?_
  refine hw_newb C (N := n) jw_J7_copyOfRangeByte_39247_ab (nI_pos (by omega)) (nI_clamp (by omega)) (by omega) (by show 0 + 1 ≤ 1; omega) (by show 0 + n ≤ n; omega) dJ7_copyOfRangeByte_39247_10 (fun a ha hna => ?_)
  refine hw_astore C dJ7_copyOfRangeByte_39247_12 (by decide) rfl ?_
  refine hw_aload_n C dJ7_copyOfRangeByte_39247_14 rfl 2 rfl ?_
  refine hw_iload_n C dJ7_copyOfRangeByte_39247_15 rfl 3 rfl ?_
  refine hw_topi (v' := nI 0) rfl ?_
  refine hw_aload C dJ7_copyOfRangeByte_39247_16 0 rfl ?_
  refine hw_iconst C dJ7_copyOfRangeByte_39247_18 (v := nI 0) rfl ?_
  refine hw_aload_n C dJ7_copyOfRangeByte_39247_19 rfl 2 rfl ?_
  refine hw_alen C (q0 + 1) he rfl dJ7_copyOfRangeByte_39247_20 ?_
  refine hw_iload_n C dJ7_copyOfRangeByte_39247_21 rfl 3 rfl ?_
  refine hw_isub C dJ7_copyOfRangeByte_39247_22 ?_
  refine hw_topi (v' := nI cap) (i32_sub0 _) ?_
  refine hw_iload_n C dJ7_copyOfRangeByte_39247_23 rfl 1 rfl ?_
  refine hw_mmin C (hx_ts C _ jw_J7_copyOfRangeByte_39247_m304) (hx_ts C _ jw_J7_copyOfRangeByte_39247_ms) (hx_ts C _ jw_J7_copyOfRangeByte_39247_mi) (hx_ts C _ jw_J7_copyOfRangeByte_39247_mc) (Nat.le_of_ble_eq_true rfl) (Nat.le_of_ble_eq_true rfl) ⟨by show 0 + 1 ≤ 1; omega, by show 0 + n ≤ n; omega⟩ dJ7_copyOfRangeByte_39247_24 ?_
  refine hw_topi (v' := nI n) (mn_nI (by omega) (by omega)) ?_
  refine hw_copy C (q0 + 1) 0 (sp := 0) (dp := 0) (n := n) he rfl (by omega) (by omega) (by omega) (by omega) (fun i _ => hf _) (w' := (a, .inl (T 1, n, .inl (va_cpy f (fun _ => 0) 0 0 n))) :: w) rfl jw_J7_copyOfRangeByte_39247_a1 jw_J7_copyOfRangeByte_39247_a2 jw_J7_copyOfRangeByte_39247_a3 jw_J7_copyOfRangeByte_39247_a4 (Nat.le_of_ble_eq_true rfl) (by show (List.map (fun v => Value.category v) ([] : List Value)).sum + (nativeFrameWords "java/lang/System" "arraycopy" 5 + 11) ≤ 28 * 2; decide +kernel) dJ7_copyOfRangeByte_39247_27 ?_
  refine hw_aload C dJ7_copyOfRangeByte_39247_30 0 rfl ?_
  refine hw_more (cells' := 1) (slots' := n) (by omega) (by omega) ?_
  exact hw_aret C hr (Or.inr ⟨_, rfl⟩) _ ⟨a, rfl, ha, hna, rfl⟩ (fun t h1 h2 => ⟨h1, h2⟩) dJ7_copyOfRangeByte_39247_32
end
theorem h_crb {l : Launch} {N0 : Nat} {T : Nat → ClassId} {D : va_G} {ad : Nat → Nat → Nat → Nat} {w : va_W} {q0 v cap n : Nat} {f : Nat → Int32} (he : w[q0]? = some (v, .inl (T 1, cap, .inl f))) (hn : n ≤ cap) (hcap : cap ≤ 2000) (hf : sb_Fit f) : HwQ l yJ7_copyOfRangeByte_39247 wsJ7_copyOfRangeByte_39247 (Rhw 2 1 n) N0 T D ad w [.ref v, .int 0, .int (nI n)] (fun r w1 => ∃ a, r = some a ∧ N0 ≤ a ∧ (∀ q ∈ w, q.1 ≠ a) ∧ w1 = (a, .inl (T 1, n, .inl (va_cpy f (fun _ => 0) 0 0 n))) :: w) 1 n :=
  hw_body 1 n (by decide +kernel) rfl (Nat.le_of_ble_eq_true rfl) (fun p e s m below meth c C hnm hr => w_crb he hn hcap hf C hr)
theorem jw_J7_copyOfRange_39247_q1 : (.methodLink RJ7 310 ⟨"[B", "clone", "()Ljava/lang/Object;"⟩ : Cond) ∈ wsJ7_copyOfRange_39247 := by decide +kernel
theorem jw_J7_copyOfRange_39247_q2 : (.sameMethod "[B" "java/lang/Object" "clone" "()Ljava/lang/Object;" : Cond) ∈ wsJ7_copyOfRange_39247 := by decide +kernel
theorem jw_J7_copyOfRange_39247_q3 : (.native ⟨"java/lang/Object", "clone", "()Ljava/lang/Object;"⟩ : Cond) ∈ wsJ7_copyOfRange_39247 := by decide +kernel
theorem jw_J7_copyOfRange_39247_q4 : (.instanceMethod ⟨"java/lang/Object", "clone", "()Ljava/lang/Object;"⟩ : Cond) ∈ wsJ7_copyOfRange_39247 := by decide +kernel
theorem jw_J7_copyOfRange_39247_q5 : (.selects "[B" ⟨"[B", "clone", "()Ljava/lang/Object;"⟩ ⟨"java/lang/Object", "clone", "()Ljava/lang/Object;"⟩ : Cond) ∈ wsJ7_copyOfRange_39247 := by decide +kernel
theorem jn_cast : (.castable "[B" "java/lang/Cloneable" : Cond) ∈ nestL := by decide +kernel
theorem jw_J7_copyOfRange_39247_c311 : (.classLink RJ7 311 "[B" : Cond) ∈ wsJ7_copyOfRange_39247 := by decide +kernel
section
variable {p : Program} {l : Launch} {e : Env} {s : State} {m : MethodId} {below : List Frame} {meth : Method} {c : Code} {N0 : Nat} {T : Nat → ClassId} {D : va_G} {ad : Nat → Nat → Nat → Nat}
theorem w_cra {w : va_W} {q0 v cap n : Nat} {f : Nat → Int32} (he : w[q0]? = some (v, .inl (T 1, cap, .inl f))) (hn : n ≤ cap) (hcap : cap ≤ 2000) (hf : sb_Fit f) (C : Chw p s m [.ref v, .int 0, .int (nI n)].toArray meth c cJ7_copyOfRange_39247 3 wsJ7_copyOfRange_39247 RJ7 N0 T D ad) (hr : meth.sig.returnType = (some (.array .byte))) : HW p l e (Rhw 3 1 n) s m [.ref v, .int 0, .int (nI n)].toArray below meth c 3 N0 D 0 0 (MQ below (va_Qq (fun r w1 => ∃ a f1, r = some a ∧ N0 ≤ a ∧ (∀ q ∈ w, q.1 ≠ a) ∧ w1 = (a, .inl (T 1, n, .inl f1)) :: w ∧ (∀ j, j < n → f1 j = f j) ∧ sb_Fit f1) (HwB N0 D) (fun q => N0 ≤ q)) [.ref v, .int 0, .int (nI n)].toArray s 1 n (fun q => N0 ≤ q)) w 0 [(0, .ref v), (1, .int 0), (2, .int (nI n))] [] := by
  refine hw_iload_n C dJ7_copyOfRange_39247_0 rfl 1 rfl ?_
  refine hw_if_ne C dJ7_copyOfRange_39247_1 (tgt := 10) rfl (fun h9 => absurd h9 ((fun h8 => h8 rfl))) (fun _ => ?_)
  refine hw_iload_n C dJ7_copyOfRange_39247_4 rfl 2 rfl ?_
  refine hw_aload_n C dJ7_copyOfRange_39247_5 rfl 0 rfl ?_
  refine hw_alen C q0 he rfl dJ7_copyOfRange_39247_6 ?_
  by_cases hv : n = cap
  · refine hw_icmp_eq C dJ7_copyOfRange_39247_7 (tgt := 17) rfl (fun _ => ?_) (fun h9 => absurd (by rw [hv]) h9)
    subst hv
    refine hw_aload_n C dJ7_copyOfRange_39247_17 rfl 0 rfl ?_
    refine hw_clone C q0 he (fun i _ => hf i) jw_J7_copyOfRange_39247_q1 jw_J7_copyOfRange_39247_q2 jw_J7_copyOfRange_39247_q3 jw_J7_copyOfRange_39247_q4 jw_J7_copyOfRange_39247_q5 jn_cast (Nat.le_of_ble_eq_true rfl) (Nat.le_of_ble_eq_true rfl) (by show 0 + 1 ≤ 1; omega) (by show 0 + n ≤ n; omega) dJ7_copyOfRange_39247_18 (fun a ha hna => ?_)
    refine hw_castB C 0 rfl jw_J7_copyOfRange_39247_c311 dJ7_copyOfRange_39247_21 ?_
    refine hw_more (cells' := 1) (slots' := n) (by omega) (by omega) ?_
    exact hw_aret C hr (Or.inr ⟨_, rfl⟩) _ ⟨a, f, rfl, ha, hna, rfl, fun _ _ => rfl, hf⟩ (fun t h1 h2 => ⟨h1, h2⟩) dJ7_copyOfRange_39247_24
  · refine hw_icmp_eq C dJ7_copyOfRange_39247_7 (tgt := 17) rfl (fun h9 => absurd ((nI_eq (by omega) (by omega)).mp h9) hv) (fun _ => ?_)
    refine hw_aload_n C dJ7_copyOfRange_39247_10 rfl 0 rfl ?_
    refine hw_iload_n C dJ7_copyOfRange_39247_11 rfl 1 rfl ?_
    refine hw_iload_n C dJ7_copyOfRange_39247_12 rfl 2 rfl ?_
    refine hw_callSq C (As := [.ref v, .int 0, .int (nI n)]) (h_crb he hn hcap hf) (va_cwS 3 (hx_ts C) gJ7_copyOfRange_39247_J7_copyOfRangeByte_39247 rfl rfl rfl (by decide +kernel) ⟨Nat.le_of_ble_eq_true rfl, Nat.le_of_ble_eq_true rfl⟩) rfl (st := []) rfl (Nat.le_of_ble_eq_true rfl) ⟨by show 0 + 1 ≤ 1; omega, by show 0 + n ≤ n; omega⟩ dJ7_copyOfRange_39247_13 (fun r w1 h1 => ?_)
    obtain ⟨a, rfl, ha, hna, rfl⟩ := h1
    refine hw_more (cells' := 1) (slots' := n) (by omega) (by omega) ?_
    exact hw_aret C hr (Or.inr ⟨_, rfl⟩) _ ⟨a, _, rfl, ha, hna, rfl, fun j hj => sb_cpy0 hj, sb_fitC hf sb_fit0⟩ (fun t h1 h2 => ⟨h1, h2⟩) dJ7_copyOfRange_39247_16
end
theorem h_cra {l : Launch} {N0 : Nat} {T : Nat → ClassId} {D : va_G} {ad : Nat → Nat → Nat → Nat} {w : va_W} {q0 v cap n : Nat} {f : Nat → Int32} (he : w[q0]? = some (v, .inl (T 1, cap, .inl f))) (hn : n ≤ cap) (hcap : cap ≤ 2000) (hf : sb_Fit f) : HwQ l yJ7_copyOfRange_39247 wsJ7_copyOfRange_39247 (Rhw 3 1 n) N0 T D ad w [.ref v, .int 0, .int (nI n)] (fun r w1 => ∃ a f1, r = some a ∧ N0 ≤ a ∧ (∀ q ∈ w, q.1 ≠ a) ∧ w1 = (a, .inl (T 1, n, .inl f1)) :: w ∧ (∀ j, j < n → f1 j = f j) ∧ sb_Fit f1) 1 n :=
  hw_body 1 n (by decide +kernel) rfl (Nat.le_of_ble_eq_true rfl) (fun p e s m below meth c C hnm hr => w_cra he hn hcap hf C hr)
theorem jo_si2 : (.code ⟨"java/lang/AbstractStringBuilder", "length", "()I"⟩ cJ5_length_8abf5 1 (some .int) : Cond) ∈ wsJ0_init_db425 := by decide +kernel
theorem jw_J0_init_db425_o1 : (.methodLink RJ0 1 objectInit : Cond) ∈ wsJ0_init_db425 := by decide +kernel
theorem jw_J0_init_db425_o2 : (.instanceMethod objectInit : Cond) ∈ wsJ0_init_db425 := by decide +kernel
theorem jw_J0_init_db425_o3 : (.code objectInit ⟨#[0xb1]⟩ 1 none : Cond) ∈ wsJ0_init_db425 := by decide +kernel
theorem jw_J0_init_db425_f15 : (.fieldLink RJ0 15 "java/lang/String" "coder" "B" : Cond) ∈ wsJ0_init_db425 := by decide +kernel
theorem jl_J0_init_db425_0 : ∀ w ∈ u_ws RJ0 TJ0 4, w ∈ wsJ0_init_db425 := by decide +kernel
theorem jw_J0_init_db425_f9 : (.fieldLink RJ0 9 "java/lang/String" "value" "[B" : Cond) ∈ wsJ0_init_db425 := by decide +kernel
section
variable {p : Program} {l : Launch} {e : Env} {s : State} {m : MethodId} {below : List Frame} {meth : Method} {c : Code} {N0 : Nat} {T : Nat → ClassId} {D : va_G} {ad : Nat → Nat → Nat → Nat}
theorem w_si2 {r b v cap n : Nat} {f : Nat → Int32} (hn : n ≤ cap) (hcap : cap ≤ 2000) (hf : sb_Fit f) (C : Chw p s m [.ref r, .ref b, .null].toArray meth c cJ0_init_db425 5 wsJ0_init_db425 RJ0 N0 T D ad) (hi : meth.name = "<init>") (hr : meth.sig.returnType = none) : HW p l e (Rhw 4 1 n) s m [.ref r, .ref b, .null].toArray below meth c 5 N0 D 0 0 (MQ below (va_Qv (fun w1 => ∃ a f1, (∀ q, q = r ∨ q = b ∨ q = v → q ≠ a) ∧ w1 = (a, .inl (T 1, n, .inl f1)) :: (r, .inr (0, [.ref a, .int 0, .int 0, .int 0])) :: sbW T b v cap n f ∧ (∀ j, j < n → f1 j = f j) ∧ sb_Fit f1) (HwB N0 D) (fun q => N0 ≤ q)) [.ref r, .ref b, .null].toArray s 1 n (fun q => N0 ≤ q)) ([(r, .inr (0, [.null, .int 0, .int 0, .int 0])), (b, .inr (1, [.ref v, .int 0, .int 0, .int (nI n)])), (v, .inl (T 1, cap, .inl f))]) 0 [(0, .ref r), (1, .ref b), (2, .null)] [] := by
  refine hw_aload_n C dJ0_init_db425_0 rfl 0 rfl ?_
  refine hw_objInit C jw_J0_init_db425_o1 jw_J0_init_db425_o2 jw_J0_init_db425_o3 rfl ⟨Nat.le_of_ble_eq_true rfl, Nat.le_of_ble_eq_true rfl⟩ dJ0_init_db425_1 ?_
  refine hw_aload_n C dJ0_init_db425_4 rfl 1 rfl ?_
  refine hw_callUq C 1 (ci := 1) (Cn := RJ4) (Tc := TJ4) (N := 4) (As := []) (h_getV (q0 := 1) rfl) (va_cwU 0 (hx_ts C) gJ0_init_db425_J5_getValue_6d5f1_u552J4 rfl rfl rfl rfl (by decide +kernel) ⟨Nat.le_of_ble_eq_true rfl, Nat.le_of_ble_eq_true rfl⟩) rfl rfl rfl (st := []) rfl (Nat.le_of_ble_eq_true rfl) ⟨by show 0 + 0 ≤ 1; omega, by show 0 + 0 ≤ n; omega⟩ dJ0_init_db425_5 (fun r w1 h1 => ?_)
  obtain ⟨rfl, rfl⟩ := h1
  refine hw_astore_n C dJ0_init_db425_8 rfl (by decide) rfl ?_
  refine hw_aload_n C dJ0_init_db425_9 rfl 2 rfl ?_
  refine hw_callUi C 1 (ci := 1) (Cn := RJ4) (Tc := TJ4) (N := 4) (As := []) (h_len4 (q0 := 1) rfl) (va_cwO 0 (hx_ts C) gJ0_init_db425_J4_length_8abf5_u549J4 rfl rfl rfl jo_si2 (by decide +kernel) ⟨Nat.le_of_ble_eq_true rfl, Nat.le_of_ble_eq_true rfl⟩) rfl rfl rfl (st := []) rfl (Nat.le_of_ble_eq_true rfl) ⟨by show 0 + 0 ≤ 1; omega, by show 0 + 0 ≤ n; omega⟩ dJ0_init_db425_10 (fun r w1 h1 => ?_)
  obtain ⟨rfl, rfl⟩ := h1
  refine hw_istore C dJ0_init_db425_13 (by decide) rfl ?_
  refine hw_aload_n C dJ0_init_db425_15 rfl 3 rfl ?_
  refine hw_callUi C 1 (ci := 1) (Cn := RJ4) (Tc := TJ4) (N := 4) (As := []) (h_isL (q0 := 1) rfl) (va_cwU 0 (hx_ts C) gJ0_init_db425_J5_isLatin1_aae02_u1047J4 rfl rfl rfl rfl (by decide +kernel) ⟨Nat.le_of_ble_eq_true rfl, Nat.le_of_ble_eq_true rfl⟩) rfl rfl rfl (st := []) rfl (Nat.le_of_ble_eq_true rfl) ⟨by show 0 + 0 ≤ 1; omega, by show 0 + 0 ≤ n; omega⟩ dJ0_init_db425_16 (fun r w1 h1 => ?_)
  obtain ⟨rfl, rfl⟩ := h1
  refine hw_if_eq C dJ0_init_db425_19 (tgt := 41) rfl (fun h9 => absurd h9 ((by decide))) (fun _ => ?_)
  refine hw_aload_n C dJ0_init_db425_22 rfl 2 rfl ?_
  refine hw_iconst C dJ0_init_db425_23 (v := 0) rfl ?_
  refine hw_putF C hi 0 (ci := 0) (Cn := RJ0) (Tc := TJ0) (N := 4) (j := 1) (tyc := tyJ0) (ty := tyJ0 1) (w' := [(r, .inr (0, [.null, .int 0, .int 0, .int 0])), (b, .inr (1, [.ref v, .int 0, .int 0, .int (nI n)])), (v, .inl (T 1, cap, .inl f))]) rfl jl_J0_init_db425_0 rfl tyJ0_ok nmJ0 (by decide) (hx_ts C _ jw_J0_init_db425_f15) (fun _ h => h) rfl rfl (by decide +kernel) rfl rfl (Nat.le_of_ble_eq_true rfl) rfl dJ0_init_db425_24 ?_
  refine hw_aload_n C dJ0_init_db425_27 rfl 2 rfl ?_
  refine hw_aload_n C dJ0_init_db425_28 rfl 1 rfl ?_
  refine hw_iconst C dJ0_init_db425_29 (v := 0) rfl ?_
  refine hw_iload C dJ0_init_db425_30 0 rfl ?_
  refine hw_callSq C (As := [.ref v, .int 0, .int (nI n)]) (h_cra (q0 := 2) rfl hn hcap hf) (va_cwS 3 (hx_ts C) gJ0_init_db425_J7_copyOfRange_39247 rfl rfl rfl (by decide +kernel) ⟨Nat.le_of_ble_eq_true rfl, Nat.le_of_ble_eq_true rfl⟩) rfl (st := [.ref r]) rfl (Nat.le_of_ble_eq_true rfl) ⟨by show 0 + 1 ≤ 1; omega, by show 0 + n ≤ n; omega⟩ dJ0_init_db425_32 (fun r w1 h1 => ?_)
  obtain ⟨a, f1, rfl, ha, hna, rfl, hk, hf1⟩ := h1
  refine hw_putF C hi 1 (ci := 0) (Cn := RJ0) (Tc := TJ0) (N := 4) (j := 0) (tyc := tyJ0) (ty := tyJ0 0) (w' := [(a, .inl (T 1, n, .inl f1)), (r, .inr (0, [.ref a, .int 0, .int 0, .int 0])), (b, .inr (1, [.ref v, .int 0, .int 0, .int (nI n)])), (v, .inl (T 1, cap, .inl f))]) rfl jl_J0_init_db425_0 rfl tyJ0_ok nmJ0 (by decide) (hx_ts C _ jw_J0_init_db425_f9) (fun _ h => h) rfl rfl (by decide +kernel) rfl rfl (Nat.le_of_ble_eq_true rfl) rfl dJ0_init_db425_35 ?_
  refine hw_goto C dJ0_init_db425_38 (tgt := 97) rfl ?_
  refine hw_more (cells' := 1) (slots' := n) (by omega) (by omega) ?_
  exact hw_vret C hr _ ⟨a, f1, fun q hq => by rcases hq with rfl | rfl | rfl <;> first | exact hna _ List.mem_cons_self | exact hna _ (List.mem_cons_of_mem _ List.mem_cons_self) | exact hna _ (List.mem_cons_of_mem _ (List.mem_cons_of_mem _ List.mem_cons_self)), rfl, hk, hf1⟩ (fun t h1 h2 => ⟨h1, h2⟩) dJ0_init_db425_97
end
theorem h_si2 {l : Launch} {N0 : Nat} {T : Nat → ClassId} {D : va_G} {ad : Nat → Nat → Nat → Nat} {r b v cap n : Nat} {f : Nat → Int32} (hn : n ≤ cap) (hcap : cap ≤ 2000) (hf : sb_Fit f) : HwV l yJ0_init_db425 wsJ0_init_db425 (Rhw 4 1 n) N0 T D ad ([(r, .inr (0, [.null, .int 0, .int 0, .int 0])), (b, .inr (1, [.ref v, .int 0, .int 0, .int (nI n)])), (v, .inl (T 1, cap, .inl f))]) [.ref r, .ref b, .null] (fun w1 => ∃ a f1, (∀ q, q = r ∨ q = b ∨ q = v → q ≠ a) ∧ w1 = (a, .inl (T 1, n, .inl f1)) :: (r, .inr (0, [.ref a, .int 0, .int 0, .int 0])) :: sbW T b v cap n f ∧ (∀ j, j < n → f1 j = f j) ∧ sb_Fit f1) 1 n :=
  hw_body 1 n (by decide +kernel) rfl (Nat.le_of_ble_eq_true rfl) (fun p e s m below meth c C hnm hr => w_si2 hn hcap hf C hnm hr)
theorem jw_J0_init_81219_iJ0 : (.initialized RJ0 : Cond) ∈ wsJ0_init_81219 := by decide +kernel
theorem jw_J0_init_81219_k489 : (.methodLink RJ0 489 yJ0_init_db425 : Cond) ∈ wsJ0_init_81219 := by decide +kernel
theorem jw_J0_init_81219_mJ0 : (.instanceMethod yJ0_init_db425 : Cond) ∈ wsJ0_init_81219 := by decide +kernel
section
variable {p : Program} {l : Launch} {e : Env} {s : State} {m : MethodId} {below : List Frame} {meth : Method} {c : Code} {N0 : Nat} {T : Nat → ClassId} {D : va_G} {ad : Nat → Nat → Nat → Nat}
theorem w_si1 {r b v cap n : Nat} {f : Nat → Int32} (hn : n ≤ cap) (hcap : cap ≤ 2000) (hf : sb_Fit f) (C : Chw p s m [.ref r, .ref b].toArray meth c cJ0_init_81219 2 wsJ0_init_81219 RJ0 N0 T D ad) (hi : meth.name = "<init>") (hr : meth.sig.returnType = none) : HW p l e (Rhw 5 1 n) s m [.ref r, .ref b].toArray below meth c 2 N0 D 0 0 (MQ below (va_Qv (fun w1 => ∃ a f1, (∀ q, q = r ∨ q = b ∨ q = v → q ≠ a) ∧ w1 = (a, .inl (T 1, n, .inl f1)) :: (r, .inr (0, [.ref a, .int 0, .int 0, .int 0])) :: sbW T b v cap n f ∧ (∀ j, j < n → f1 j = f j) ∧ sb_Fit f1) (HwB N0 D) (fun q => N0 ≤ q)) [.ref r, .ref b].toArray s 1 n (fun q => N0 ≤ q)) ([(r, .inr (0, [.null, .int 0, .int 0, .int 0])), (b, .inr (1, [.ref v, .int 0, .int 0, .int (nI n)])), (v, .inl (T 1, cap, .inl f))]) 0 [(0, .ref r), (1, .ref b)] [] := by
  refine hw_aload_n C dJ0_init_81219_0 rfl 0 rfl ?_
  refine hw_aload_n C dJ0_init_81219_1 rfl 1 rfl ?_
  refine hw_aconst_null C dJ0_init_81219_2 ?_
  refine hw_callIv C (As := [.ref b, .null]) (h_si2 hn hcap hf) (cwI 2 (hx_ts C) gJ0_init_81219_J0_init_db425 rfl rfl rfl (hx_ts C _ jw_J0_init_81219_iJ0) (hx_ts C _ jw_J0_init_81219_k489) (hx_ts C _ jw_J0_init_81219_mJ0) rfl (by decide +kernel) ⟨Nat.le_of_ble_eq_true rfl, Nat.le_of_ble_eq_true rfl⟩) rfl (st := []) rfl (Nat.le_of_ble_eq_true rfl) ⟨by show 0 + 1 ≤ 1; omega, by show 0 + n ≤ n; omega⟩ dJ0_init_81219_3 (fun w1 h1 => ?_)
  obtain ⟨a, f1, hq, rfl, hk, hf1⟩ := h1
  refine hw_more (cells' := 1) (slots' := n) (by omega) (by omega) ?_
  exact hw_vret C hr _ ⟨a, f1, hq, rfl, hk, hf1⟩ (fun t h1 h2 => ⟨h1, h2⟩) dJ0_init_81219_6
end
theorem h_si1 {l : Launch} {N0 : Nat} {T : Nat → ClassId} {D : va_G} {ad : Nat → Nat → Nat → Nat} {r b v cap n : Nat} {f : Nat → Int32} (hn : n ≤ cap) (hcap : cap ≤ 2000) (hf : sb_Fit f) : HwV l yJ0_init_81219 wsJ0_init_81219 (Rhw 5 1 n) N0 T D ad ([(r, .inr (0, [.null, .int 0, .int 0, .int 0])), (b, .inr (1, [.ref v, .int 0, .int 0, .int (nI n)])), (v, .inl (T 1, cap, .inl f))]) [.ref r, .ref b] (fun w1 => ∃ a f1, (∀ q, q = r ∨ q = b ∨ q = v → q ≠ a) ∧ w1 = (a, .inl (T 1, n, .inl f1)) :: (r, .inr (0, [.ref a, .int 0, .int 0, .int 0])) :: sbW T b v cap n f ∧ (∀ j, j < n → f1 j = f j) ∧ sb_Fit f1) 1 n :=
  hw_body 1 n (by decide +kernel) rfl (Nat.le_of_ble_eq_true rfl) (fun p e s m below meth c C hnm hr => w_si1 hn hcap hf C hnm hr)
theorem jw_J4_toString_0e30d_iJ0 : (.initialized RJ0 : Cond) ∈ wsJ4_toString_0e30d := by decide +kernel
theorem jw_J4_toString_0e30d_k137 : (.methodLink RJ4 137 yJ0_init_81219 : Cond) ∈ wsJ4_toString_0e30d := by decide +kernel
theorem jw_J4_toString_0e30d_mJ0 : (.instanceMethod yJ0_init_81219 : Cond) ∈ wsJ4_toString_0e30d := by decide +kernel
theorem jl_J4_toString_0e30d_0 : ∀ w ∈ u_ws RJ0 TJ0 4, w ∈ wsJ4_toString_0e30d := by decide +kernel
theorem jw_J4_toString_0e30d_c18 : (.classLink RJ4 18 RJ0 : Cond) ∈ wsJ4_toString_0e30d := by decide +kernel
theorem jw_J4_toString_0e30d_in : (.instantiable RJ0 4 : Cond) ∈ wsJ4_toString_0e30d := by decide +kernel
theorem jw_J4_toString_0e30d_ini : (.initialized RJ0 : Cond) ∈ wsJ4_toString_0e30d := by decide +kernel
section
variable {p : Program} {l : Launch} {e : Env} {s : State} {m : MethodId} {below : List Frame} {meth : Method} {c : Code} {N0 : Nat} {T : Nat → ClassId} {D : va_G} {ad : Nat → Nat → Nat → Nat}
theorem w_tos {b v cap n : Nat} {f : Nat → Int32} (hn : n ≤ cap) (hcap : cap ≤ 2000) (hf : sb_Fit f) (C : Chw p s m [.ref b].toArray meth c cJ4_toString_0e30d 1 wsJ4_toString_0e30d RJ4 N0 T D ad) (hr : meth.sig.returnType = (some (.object "java/lang/String"))) : HW p l e (Rhw 6 2 (n + 4)) s m [.ref b].toArray below meth c 1 N0 D 0 0 (MQ below (va_Qq (fun x w1 => ∃ r a f1, x = some r ∧ w1 = (a, .inl (T 1, n, .inl f1)) :: (r, .inr (0, [.ref a, .int 0, .int 0, .int 0])) :: sbW T b v cap n f ∧ (∀ j, j < n → f1 j = f j) ∧ sb_Fit f1) (HwB N0 D) (fun q => N0 ≤ q)) [.ref b].toArray s 2 (n + 4) (fun q => N0 ≤ q)) ([(b, .inr (1, [.ref v, .int 0, .int 0, .int (nI n)])), (v, .inl (T 1, cap, .inl f))]) 0 [(0, .ref b)] [] := by
  refine hw_new C (ci := 0) (fs := [.null, .int 0, .int 0, .int 0]) tyJ0 jl_J4_toString_0e30d_0 tyJ0_ok jw_J4_toString_0e30d_c18 jw_J4_toString_0e30d_in jw_J4_toString_0e30d_ini rfl (by decide) (by show 0 + 1 ≤ 2; omega) (by show 0 + 4 ≤ n + 4; omega) dJ4_toString_0e30d_0 (fun r hr0 hnr => ?_)
  refine hw_dup C dJ4_toString_0e30d_3 rfl ?_
  refine hw_aload_n C dJ4_toString_0e30d_4 rfl 0 rfl ?_
  refine hw_callIv C (As := [.ref b]) (h_si1 hn hcap hf) (cwI 1 (hx_ts C) gJ4_toString_0e30d_J0_init_81219 rfl rfl rfl (hx_ts C _ jw_J4_toString_0e30d_iJ0) (hx_ts C _ jw_J4_toString_0e30d_k137) (hx_ts C _ jw_J4_toString_0e30d_mJ0) rfl (by decide +kernel) ⟨Nat.le_of_ble_eq_true rfl, Nat.le_of_ble_eq_true rfl⟩) rfl (st := [.ref r]) rfl (Nat.le_of_ble_eq_true rfl) ⟨by show 0 + 1 + 1 ≤ 2; omega, by show 0 + 4 + n ≤ n + 4; omega⟩ dJ4_toString_0e30d_5 (fun w1 h1 => ?_)
  obtain ⟨a, f1, hq, rfl, hk, hf1⟩ := h1
  refine hw_more (cells' := 2) (slots' := n + 4) (by omega) (by omega) ?_
  exact hw_aret C hr (Or.inl ⟨_, rfl⟩) _ ⟨r, a, f1, rfl, rfl, hk, hf1⟩ (fun t h1 h2 => ⟨h1, h2⟩) dJ4_toString_0e30d_8
end
theorem h_tos {l : Launch} {N0 : Nat} {T : Nat → ClassId} {D : va_G} {ad : Nat → Nat → Nat → Nat} {b v cap n : Nat} {f : Nat → Int32} (hn : n ≤ cap) (hcap : cap ≤ 2000) (hf : sb_Fit f) : HwQ l yJ4_toString_0e30d wsJ4_toString_0e30d (Rhw 6 2 (n + 4)) N0 T D ad ([(b, .inr (1, [.ref v, .int 0, .int 0, .int (nI n)])), (v, .inl (T 1, cap, .inl f))]) [.ref b] (fun x w1 => ∃ r a f1, x = some r ∧ w1 = (a, .inl (T 1, n, .inl f1)) :: (r, .inr (0, [.ref a, .int 0, .int 0, .int 0])) :: sbW T b v cap n f ∧ (∀ j, j < n → f1 j = f j) ∧ sb_Fit f1) 2 (n + 4) :=
  hw_body 2 (n + 4) (by decide +kernel) rfl (Nat.le_of_ble_eq_true rfl) (fun p e s m below meth c C hnm hr => w_tos hn hcap hf C hr)
