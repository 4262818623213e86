/-! THE JDK's STRINGBUILDER: leaves -/
abbrev sbW (T : Nat → ClassId) (b v cap n : Nat) (f : Nat → Int32) : va_W := [(b, .inr (1, [.ref v, .int 0, .int 0, .int (nI n)])), (v, .inl (T 1, cap, .inl f))]
theorem mx_nI {a g : Nat} (ha : a < 2 ^ 31) (hg : g < 2 ^ 31) : (if nI a < nI g then nI g else nI a) = nI (max a g) := by
  by_cases h : a < g
  · rw [if_pos (nI_lt h hg), Nat.max_eq_right (Nat.le_of_lt h)]
  · rw [if_neg (nI_nlt (Nat.le_of_not_lt h) ha), Nat.max_eq_left (Nat.le_of_not_lt h)]
theorem sb_le {q cap : Nat} (h : q ≤ cap) (hc : cap < 2 ^ 30) : nI q - nI cap ≤ 0 := by
  rw [Int32.le_iff_toInt_le, pk_sub_toInt (by omega) hc, Int32.toInt_zero]; omega
theorem sb_gt {q cap : Nat} (h : ¬ q ≤ cap) (hq : q < 2 ^ 30) : ¬ nI q - nI cap ≤ 0 := by
  rw [Int32.le_iff_toInt_le, pk_sub_toInt hq (by omega), Int32.toInt_zero]; omega
theorem sb_D {N0 : Nat} {T : Nat → ClassId} {b v a cap cap1 n : Nat} {f f1 : Nat → Int32} (h : va_D (fun q => N0 ≤ q) [(a, (.inl (T 1, cap1, .inl f1) : va_E)), (b, .inr (1, [.ref a, .int 0, .int 0, .int (nI n)])), (v, .inl (T 1, cap, .inl f))]) : va_D (fun q => N0 ≤ q) (sbW T b a cap1 n f1) := by
  have h1 := DM.of h
  have h2 := List.pairwise_cons.mp h1.1
  exact DM.to ⟨List.pairwise_cons.mpr ⟨fun x hx => by rw [List.mem_singleton.mp hx]; exact (h2.1 _ List.mem_cons_self).symm, List.pairwise_singleton _ _⟩, fun x hx => by
    rcases List.mem_cons.mp hx with rfl | hx
    · exact h1.2 _ (List.mem_cons_of_mem _ List.mem_cons_self)
    · rw [List.mem_singleton.mp hx]; exact h1.2 _ List.mem_cons_self⟩
theorem jw_J5_isLatin1_aae02_f18 : (.fieldLink RJ5 18 "java/lang/String" "COMPACT_STRINGS" "Z" : Cond) ∈ wsJ5_isLatin1_aae02 := by decide +kernel
theorem jw_J5_isLatin1_aae02_f22 : (.fieldLink RJ5 22 "java/lang/AbstractStringBuilder" "coder" "B" : Cond) ∈ wsJ5_isLatin1_aae02 := by decide +kernel
theorem jl_J5_isLatin1_aae02_1 : ∀ w ∈ u_ws RJ4 TJ4 4, w ∈ wsJ5_isLatin1_aae02 := by decide +kernel
section
variable {p : Program} {l : Launch} {e : Env} {s : State} {m : MethodId} {below : List Frame} {meth : Method} {c : Code} {N0 : Nat} {T : Nat → ClassId} {D : va_G} {ad : Nat → Nat → Nat → Nat}
theorem w_isL {w : va_W} {q0 b v : Nat} {x z : Int32} (he : w[q0]? = some (b, .inr (1, [.ref v, .int 0, .int x, .int z]))) (C : Chw p s m [.ref b].toArray meth c cJ5_isLatin1_aae02 1 wsJ5_isLatin1_aae02 RJ5 N0 T D ad) (hr : meth.sig.returnType = (some .boolean)) : HW p l e (Rhw 1 0 0) s m [.ref b].toArray below meth c 1 N0 D 0 0 (MQ below (va_Qi (fun r w1 => r = 1 ∧ w1 = w) (HwB N0 D) (fun q => N0 ≤ q)) [.ref b].toArray s 0 0 (fun q => N0 ≤ q)) w 0 [(0, .ref b)] [] := by
  refine hw_gets C (hx_st C).2.2.2.2.2.1 (hx_ts C _ jw_J5_isLatin1_aae02_f18) (fun _ h => h) dJ5_isLatin1_aae02_0 ?_
  refine hw_if_eq C dJ5_isLatin1_aae02_3 (tgt := 17) rfl (fun h9 => absurd h9 ((by decide))) (fun _ => ?_)
  refine hw_aload_n C dJ5_isLatin1_aae02_6 rfl 0 rfl ?_
  refine hw_get C q0 (ci := 1) (Cn := RJ4) (Tc := TJ4) (N := 4) (j := 1) (v := .int 0) he jl_J5_isLatin1_aae02_1 rfl (by decide) (hx_ts C _ jw_J5_isLatin1_aae02_f22) (fun _ h => h) rfl dJ5_isLatin1_aae02_7 ?_
  refine hw_if_ne C dJ5_isLatin1_aae02_10 (tgt := 17) rfl (fun h9 => absurd h9 ((fun h8 => h8 rfl))) (fun _ => ?_)
  refine hw_iconst C dJ5_isLatin1_aae02_13 (v := 1) rfl ?_
  refine hw_goto C dJ5_isLatin1_aae02_14 (tgt := 18) rfl ?_
  exact hw_zret C hr (Or.inr rfl) _ ⟨rfl, rfl⟩ (fun t h1 h2 => ⟨h1, h2⟩) dJ5_isLatin1_aae02_18
end
theorem h_isL {l : Launch} {N0 : Nat} {T : Nat → ClassId} {D : va_G} {ad : Nat → Nat → Nat → Nat} {w : va_W} {q0 b v : Nat} {x z : Int32} (he : w[q0]? = some (b, .inr (1, [.ref v, .int 0, .int x, .int z]))) : HwI l yJ5_isLatin1_aae02 wsJ5_isLatin1_aae02 (Rhw 1 0 0) N0 T D ad w [.ref b] (fun r w1 => r = 1 ∧ w1 = w) 0 0 :=
  hw_body 0 0 (by decide +kernel) rfl (Nat.le_of_ble_eq_true rfl) (fun p e s m below meth c C hnm hr => w_isL he C hr)
theorem jw_J5_getValue_6d5f1_f15 : (.fieldLink RJ5 15 "java/lang/AbstractStringBuilder" "value" "[B" : Cond) ∈ wsJ5_getValue_6d5f1 := by decide +kernel
theorem jl_J5_getValue_6d5f1_1 : ∀ w ∈ u_ws RJ4 TJ4 4, w ∈ wsJ5_getValue_6d5f1 := by decide +kernel
section
variable {p : Program} {l : Launch} {e : Env} {s : State} {m : MethodId} {below : List Frame} {meth : Method} {c : Code} {N0 : Nat} {T : Nat → ClassId} {D : va_G} {ad : Nat → Nat → Nat → Nat}
theorem w_getV {w : va_W} {q0 b v : Nat} {x z : Int32} (he : w[q0]? = some (b, .inr (1, [.ref v, .int 0, .int x, .int z]))) (C : Chw p s m [.ref b].toArray meth c cJ5_getValue_6d5f1 1 wsJ5_getValue_6d5f1 RJ5 N0 T D ad) (hr : meth.sig.returnType = (some (.array .byte))) : HW p l e (Rhw 1 0 0) s m [.ref b].toArray below meth c 1 N0 D 0 0 (MQ below (va_Qq (fun r w1 => r = some v ∧ w1 = w) (HwB N0 D) (fun q => N0 ≤ q)) [.ref b].toArray s 0 0 (fun q => N0 ≤ q)) w 0 [(0, .ref b)] [] := by
  refine hw_aload_n C dJ5_getValue_6d5f1_0 rfl 0 rfl ?_
  refine hw_get C q0 (ci := 1) (Cn := RJ4) (Tc := TJ4) (N := 4) (j := 0) (v := .ref v) he jl_J5_getValue_6d5f1_1 rfl (by decide) (hx_ts C _ jw_J5_getValue_6d5f1_f15) (fun _ h => h) rfl dJ5_getValue_6d5f1_1 ?_
  exact hw_aret C hr (Or.inr ⟨_, rfl⟩) _ ⟨rfl, rfl⟩ (fun t h1 h2 => ⟨h1, h2⟩) dJ5_getValue_6d5f1_4
end
theorem h_getV {l : Launch} {N0 : Nat} {T : Nat → ClassId} {D : va_G} {ad : Nat → Nat → Nat → Nat} {w : va_W} {q0 b v : Nat} {x z : Int32} (he : w[q0]? = some (b, .inr (1, [.ref v, .int 0, .int x, .int z]))) : HwQ l yJ5_getValue_6d5f1 wsJ5_getValue_6d5f1 (Rhw 1 0 0) N0 T D ad w [.ref b] (fun r w1 => r = some v ∧ w1 = w) 0 0 :=
  hw_body 0 0 (by decide +kernel) rfl (Nat.le_of_ble_eq_true rfl) (fun p e s m below meth c C hnm hr => w_getV he C hr)
theorem jw_J5_length_8abf5_f79 : (.fieldLink RJ5 79 "java/lang/AbstractStringBuilder" "count" "I" : Cond) ∈ wsJ5_length_8abf5 := by decide +kernel
theorem jl_J5_length_8abf5_1 : ∀ w ∈ u_ws RJ4 TJ4 4, w ∈ wsJ5_length_8abf5 := by decide +kernel
section
variable {p : Program} {l : Launch} {e : Env} {s : State} {m : MethodId} {below : List Frame} {meth : Method} {c : Code} {N0 : Nat} {T : Nat → ClassId} {D : va_G} {ad : Nat → Nat → Nat → Nat}
theorem w_len5 {w : va_W} {q0 b v : Nat} {x z : Int32} (he : w[q0]? = some (b, .inr (1, [.ref v, .int 0, .int x, .int z]))) (C : Chw p s m [.ref b].toArray meth c cJ5_length_8abf5 1 wsJ5_length_8abf5 RJ5 N0 T D ad) (hr : meth.sig.returnType = (some .int)) : HW p l e (Rhw 1 0 0) s m [.ref b].toArray below meth c 1 N0 D 0 0 (MQ below (va_Qi (fun r w1 => r = z ∧ w1 = w) (HwB N0 D) (fun q => N0 ≤ q)) [.ref b].toArray s 0 0 (fun q => N0 ≤ q)) w 0 [(0, .ref b)] [] := by
  refine hw_aload_n C dJ5_length_8abf5_0 rfl 0 rfl ?_
  refine hw_get C q0 (ci := 1) (Cn := RJ4) (Tc := TJ4) (N := 4) (j := 3) (v := .int z) he jl_J5_length_8abf5_1 rfl (by decide) (hx_ts C _ jw_J5_length_8abf5_f79) (fun _ h => h) rfl dJ5_length_8abf5_1 ?_
  exact hw_iret C hr _ ⟨rfl, rfl⟩ (fun t h1 h2 => ⟨h1, h2⟩) dJ5_length_8abf5_4
end
theorem h_len5 {l : Launch} {N0 : Nat} {T : Nat → ClassId} {D : va_G} {ad : Nat → Nat → Nat → Nat} {w : va_W} {q0 b v : Nat} {x z : Int32} (he : w[q0]? = some (b, .inr (1, [.ref v, .int 0, .int x, .int z]))) : HwI l yJ5_length_8abf5 wsJ5_length_8abf5 (Rhw 1 0 0) N0 T D ad w [.ref b] (fun r w1 => r = z ∧ w1 = w) 0 0 :=
  hw_body 0 0 (by decide +kernel) rfl (Nat.le_of_ble_eq_true rfl) (fun p e s m below meth c C hnm hr => w_len5 he C hr)
section
variable {p : Program} {l : Launch} {e : Env} {s : State} {m : MethodId} {below : List Frame} {meth : Method} {c : Code} {N0 : Nat} {T : Nat → ClassId} {D : va_G} {ad : Nat → Nat → Nat → Nat}
theorem w_len4 {w : va_W} {q0 b v : Nat} {x z : Int32} (he : w[q0]? = some (b, .inr (1, [.ref v, .int 0, .int x, .int z]))) (C : Chw p s m [.ref b].toArray meth c cJ4_length_8abf5 1 wsJ4_length_8abf5 RJ4 N0 T D ad) (hr : meth.sig.returnType = (some .int)) : HW p l e (Rhw 2 0 0) s m [.ref b].toArray below meth c 1 N0 D 0 0 (MQ below (va_Qi (fun r w1 => r = z ∧ w1 = w) (HwB N0 D) (fun q => N0 ≤ q)) [.ref b].toArray s 0 0 (fun q => N0 ≤ q)) w 0 [(0, .ref b)] [] := by
  refine hw_aload_n C dJ4_length_8abf5_0 rfl 0 rfl ?_
  refine hw_callPi C q0 (ci := 1) (Cn := RJ4) (Tc := TJ4) (N := 4) (As := []) (h_len5 he) (va_cwSU 0 (hx_ts C) gJ4_length_8abf5_J5_length_8abf5_s343 rfl rfl rfl (by decide +kernel) ⟨Nat.le_of_ble_eq_true rfl, Nat.le_of_ble_eq_true rfl⟩) rfl he rfl (st := []) rfl (Nat.le_of_ble_eq_true rfl) ⟨Nat.le_refl _, Nat.le_refl _⟩ dJ4_length_8abf5_1 (fun r w1 h1 => ?_)
  obtain ⟨rfl, rfl⟩ := h1
  exact hw_iret C hr _ ⟨rfl, rfl⟩ (fun t h1 h2 => ⟨h1, h2⟩) dJ4_length_8abf5_4
end
theorem h_len4 {l : Launch} {N0 : Nat} {T : Nat → ClassId} {D : va_G} {ad : Nat → Nat → Nat → Nat} {w : va_W} {q0 b v : Nat} {x z : Int32} (he : w[q0]? = some (b, .inr (1, [.ref v, .int 0, .int x, .int z]))) : HwI l yJ4_length_8abf5 wsJ4_length_8abf5 (Rhw 2 0 0) N0 T D ad w [.ref b] (fun r w1 => r = z ∧ w1 = w) 0 0 :=
  hw_body 0 0 (by decide +kernel) rfl (Nat.le_of_ble_eq_true rfl) (fun p e s m below meth c C hnm hr => w_len4 he C hr)
theorem jw_J0_coder_7d493_f38 : (.fieldLink RJ0 38 "java/lang/String" "COMPACT_STRINGS" "Z" : Cond) ∈ wsJ0_coder_7d493 := by decide +kernel
theorem jw_J0_coder_7d493_f15 : (.fieldLink RJ0 15 "java/lang/String" "coder" "B" : Cond) ∈ wsJ0_coder_7d493 := by decide +kernel
section
variable {p : Program} {l : Launch} {e : Env} {s : State} {m : MethodId} {below : List Frame} {meth : Method} {c : Code} {N0 : Nat} {T : Nat → ClassId} {D : va_G} {ad : Nat → Nat → Nat → Nat}
theorem w_cod {w : va_W} {i : Nat} (h_i : i < 17) (C : Chw p s m [.ref (ad 21 i 0)].toArray meth c cJ0_coder_7d493 1 wsJ0_coder_7d493 RJ0 N0 T D ad) (hr : meth.sig.returnType = (some .byte)) : HW p l e (Rhw 1 0 0) s m [.ref (ad 21 i 0)].toArray below meth c 1 N0 D 0 0 (MQ below (va_Qi (fun r w1 => r = 0 ∧ w1 = w) (HwB N0 D) (fun q => N0 ≤ q)) [.ref (ad 21 i 0)].toArray s 0 0 (fun q => N0 ≤ q)) w 0 [(0, .ref (ad 21 i 0))] [] := by
  refine hw_gets C (hx_st C).2.2.2.2.2.1 (hx_ts C _ jw_J0_coder_7d493_f38) (fun _ h => h) dJ0_coder_7d493_0 ?_
  refine hw_if_eq C dJ0_coder_7d493_3 (tgt := 13) rfl (fun h9 => absurd h9 ((by decide))) (fun _ => ?_)
  refine hw_aload_n C dJ0_coder_7d493_6 rfl 0 rfl ?_
  refine hw_getO C ((hx_st C).1 i h_i).2.1 (hx_ts C _ jw_J0_coder_7d493_f15) (fun _ h => h) dJ0_coder_7d493_7 ?_
  refine hw_goto C dJ0_coder_7d493_10 (tgt := 14) rfl ?_
  exact hw_bret C hr rfl _ ⟨rfl, rfl⟩ (fun t h1 h2 => ⟨h1, h2⟩) dJ0_coder_7d493_14
end
theorem h_cod {l : Launch} {N0 : Nat} {T : Nat → ClassId} {D : va_G} {ad : Nat → Nat → Nat → Nat} {w : va_W} {i : Nat} (h_i : i < 17) : HwI l yJ0_coder_7d493 wsJ0_coder_7d493 (Rhw 1 0 0) N0 T D ad w [.ref (ad 21 i 0)] (fun r w1 => r = 0 ∧ w1 = w) 0 0 :=
  hw_body 0 0 (by decide +kernel) rfl (Nat.le_of_ble_eq_true rfl) (fun p e s m below meth c C hnm hr => w_cod h_i C hr)
theorem jw_J0_length_8abf5_f9 : (.fieldLink RJ0 9 "java/lang/String" "value" "[B" : Cond) ∈ wsJ0_length_8abf5 := by decide +kernel
section
variable {p : Program} {l : Launch} {e : Env} {s : State} {m : MethodId} {below : List Frame} {meth : Method} {c : Code} {N0 : Nat} {T : Nat → ClassId} {D : va_G} {ad : Nat → Nat → Nat → Nat}
theorem w_slen {w : va_W} {i : Nat} (h_i : i < 17) (C : Chw p s m [.ref (ad 21 i 0)].toArray meth c cJ0_length_8abf5 1 wsJ0_length_8abf5 RJ0 N0 T D ad) (hr : meth.sig.returnType = (some .int)) : HW p l e (Rhw 2 0 0) s m [.ref (ad 21 i 0)].toArray below meth c 1 N0 D 0 0 (MQ below (va_Qi (fun r w1 => r = nI (sByt i).length ∧ w1 = w) (HwB N0 D) (fun q => N0 ≤ q)) [.ref (ad 21 i 0)].toArray s 0 0 (fun q => N0 ≤ q)) w 0 [(0, .ref (ad 21 i 0))] [] := by
  refine hw_aload_n C dJ0_length_8abf5_0 rfl 0 rfl ?_
  refine hw_getO C ((hx_st C).1 i h_i).2.2.1 (hx_ts C _ jw_J0_length_8abf5_f9) (fun _ h => h) dJ0_length_8abf5_1 ?_
  refine hw_tlen C ((hx_st C).1 i h_i).2.2.2 rfl dJ0_length_8abf5_4 ?_
  refine hw_aload_n C dJ0_length_8abf5_5 rfl 0 rfl ?_
  refine hw_callOi C (Cn := RJ0) (As := []) (h_cod h_i) (cwV 0 (hx_ts C) gJ0_length_8abf5_J0_coder_7d493 rfl rfl rfl (by decide +kernel) ⟨Nat.le_of_ble_eq_true rfl, Nat.le_of_ble_eq_true rfl⟩) ((hx_st C).1 i h_i).1 rfl (st := [.int (nI (sByt i).length)]) rfl (Nat.le_of_ble_eq_true rfl) ⟨Nat.le_refl _, Nat.le_refl _⟩ dJ0_length_8abf5_6 (fun r w1 h1 => ?_)
  obtain ⟨rfl, rfl⟩ := h1
  refine hw_ishr C dJ0_length_8abf5_9 ?_
  refine hw_topi (v' := nI (sByt i).length) (sb_shr0 _) ?_
  exact hw_iret C hr _ ⟨rfl, rfl⟩ (fun t h1 h2 => ⟨h1, h2⟩) dJ0_length_8abf5_10
end
theorem h_slen {l : Launch} {N0 : Nat} {T : Nat → ClassId} {D : va_G} {ad : Nat → Nat → Nat → Nat} {w : va_W} {i : Nat} (h_i : i < 17) : HwI l yJ0_length_8abf5 wsJ0_length_8abf5 (Rhw 2 0 0) N0 T D ad w [.ref (ad 21 i 0)] (fun r w1 => r = nI (sByt i).length ∧ w1 = w) 0 0 :=
  hw_body 0 0 (by decide +kernel) rfl (Nat.le_of_ble_eq_true rfl) (fun p e s m below meth c C hnm hr => w_slen h_i C hr)
section
variable {p : Program} {l : Launch} {e : Env} {s : State} {m : MethodId} {below : List Frame} {meth : Method} {c : Code} {N0 : Nat} {T : Nat → ClassId} {D : va_G} {ad : Nat → Nat → Nat → Nat}
theorem w_can {w : va_W} {x : Int32} (hx : ¬ (255 : Int32) < x) (C : Chw p s m [.int x].toArray meth c cJ1_canEncode_fc78d 1 wsJ1_canEncode_fc78d RJ1 N0 T D ad) (hr : meth.sig.returnType = (some .boolean)) : HW p l e (Rhw 1 0 0) s m [.int x].toArray below meth c 1 N0 D 0 0 (MQ below (va_Qi (fun r w1 => r = 1 ∧ w1 = w) (HwB N0 D) (fun q => N0 ≤ q)) [.int x].toArray s 0 0 (fun q => N0 ≤ q)) w 0 [(0, .int x)] [] := by
  refine hw_iload_n C dJ1_canEncode_fc78d_0 rfl 0 rfl ?_
  refine hw_sipush C dJ1_canEncode_fc78d_1 (v := 255) (by decide) ?_
  refine hw_icmp_gt C dJ1_canEncode_fc78d_4 (tgt := 11) rfl (fun h9 => absurd h9 hx) (fun _ => ?_)
  refine hw_iconst C dJ1_canEncode_fc78d_7 (v := 1) rfl ?_
  refine hw_goto C dJ1_canEncode_fc78d_8 (tgt := 12) rfl ?_
  exact hw_zret C hr (Or.inr rfl) _ ⟨rfl, rfl⟩ (fun t h1 h2 => ⟨h1, h2⟩) dJ1_canEncode_fc78d_12
end
theorem h_can {l : Launch} {N0 : Nat} {T : Nat → ClassId} {D : va_G} {ad : Nat → Nat → Nat → Nat} {w : va_W} {x : Int32} (hx : ¬ (255 : Int32) < x) : HwI l yJ1_canEncode_fc78d wsJ1_canEncode_fc78d (Rhw 1 0 0) N0 T D ad w [.int x] (fun r w1 => r = 1 ∧ w1 = w) 0 0 :=
  hw_body 0 0 (by decide +kernel) rfl (Nat.le_of_ble_eq_true rfl) (fun p e s m below meth c C hnm hr => w_can hx C hr)
theorem jw_J8_newLength_cabcc_m194 : (.methodLink RJ8 194 Lib.Math.max.name : Cond) ∈ wsJ8_newLength_cabcc := by decide +kernel
theorem jw_J8_newLength_cabcc_ms : (.static Lib.Math.max.name : Cond) ∈ wsJ8_newLength_cabcc := by decide +kernel
theorem jw_J8_newLength_cabcc_mi : (.initialized "java/lang/Math" : Cond) ∈ wsJ8_newLength_cabcc := by decide +kernel
theorem jw_J8_newLength_cabcc_mc : (.code Lib.Math.max.name Lib.Math.max.code 2 (some .int) : Cond) ∈ wsJ8_newLength_cabcc := by decide +kernel
theorem jw_J8_newLength_cabcc_c200 : (.constant RJ8 200 2147483639 : Cond) ∈ wsJ8_newLength_cabcc := by decide +kernel
section
variable {p : Program} {l : Launch} {e : Env} {s : State} {m : MethodId} {below : List Frame} {meth : Method} {c : Code} {N0 : Nat} {T : Nat → ClassId} {D : va_G} {ad : Nat → Nat → Nat → Nat}
theorem w_newL {w : va_W} {o a g : Nat} (hp : 0 < o + max a g) (hq : o + max a g ≤ 65536) (C : Chw p s m [.int (nI o), .int (nI a), .int (nI g)].toArray meth c cJ8_newLength_cabcc 4 wsJ8_newLength_cabcc RJ8 N0 T D ad) (hr : meth.sig.returnType = (some .int)) : HW p l e (Rhw 1 0 0) s m [.int (nI o), .int (nI a), .int (nI g)].toArray below meth c 4 N0 D 0 0 (MQ below (va_Qi (fun r w1 => r = nI (o + max a g) ∧ w1 = w) (HwB N0 D) (fun q => N0 ≤ q)) [.int (nI o), .int (nI a), .int (nI g)].toArray s 0 0 (fun q => N0 ≤ q)) w 0 [(0, .int (nI o)), (1, .int (nI a)), (2, .int (nI g))] [] := by
  refine hw_iload_n C dJ8_newLength_cabcc_0 rfl 0 rfl ?_
  refine hw_iload_n C dJ8_newLength_cabcc_1 rfl 1 rfl ?_
  refine hw_iload_n C dJ8_newLength_cabcc_2 rfl 2 rfl ?_
  refine hw_mmax C (hx_ts C _ jw_J8_newLength_cabcc_m194) (hx_ts C _ jw_J8_newLength_cabcc_ms) (hx_ts C _ jw_J8_newLength_cabcc_mi) (hx_ts C _ jw_J8_newLength_cabcc_mc) (Nat.le_of_ble_eq_true rfl) (Nat.le_of_ble_eq_true rfl) ⟨Nat.le_refl _, Nat.le_refl _⟩ dJ8_newLength_cabcc_3 ?_
  refine hw_topi (v' := nI (max a g)) (mx_nI (by omega) (by omega)) ?_
  refine hw_iadd C dJ8_newLength_cabcc_6 ?_
  refine hw_topi (v' := nI (o + max a g)) (nI_add _ _) ?_
  refine hw_istore_n C dJ8_newLength_cabcc_7 rfl (by decide) rfl ?_
  refine hw_iconst C dJ8_newLength_cabcc_8 (v := 0) rfl ?_
  refine hw_iload_n C dJ8_newLength_cabcc_9 rfl 0 rfl ?_
  refine hw_icmp_ge C dJ8_newLength_cabcc_10 (tgt := 21) rfl (fun h9 => absurd h9 (nI_nle hp (by omega))) (fun _ => ?_)
  refine hw_iload_n C dJ8_newLength_cabcc_13 rfl 0 rfl ?_
  refine hw_ldc C (v := 2147483639) (hx_ts C _ jw_J8_newLength_cabcc_c200) dJ8_newLength_cabcc_14 ?_
  refine hw_icmp_gt C dJ8_newLength_cabcc_16 (tgt := 21) rfl (fun h9 => absurd h9 (nI_nlt (a := 2147483639) (by omega) (by decide))) (fun _ => ?_)
  refine hw_iload_n C dJ8_newLength_cabcc_19 rfl 0 rfl ?_
  exact hw_iret C hr _ ⟨rfl, rfl⟩ (fun t h1 h2 => ⟨h1, h2⟩) dJ8_newLength_cabcc_20
end
theorem h_newL {l : Launch} {N0 : Nat} {T : Nat → ClassId} {D : va_G} {ad : Nat → Nat → Nat → Nat} {w : va_W} {o a g : Nat} (hp : 0 < o + max a g) (hq : o + max a g ≤ 65536) : HwI l yJ8_newLength_cabcc wsJ8_newLength_cabcc (Rhw 1 0 0) N0 T D ad w [.int (nI o), .int (nI a), .int (nI g)] (fun r w1 => r = nI (o + max a g) ∧ w1 = w) 0 0 :=
  hw_body 0 0 (by decide +kernel) rfl (Nat.le_of_ble_eq_true rfl) (fun p e s m below meth c C hnm hr => w_newL hp hq C hr)
theorem jw_J5_newCapacity_0f7a4_f15 : (.fieldLink RJ5 15 "java/lang/AbstractStringBuilder" "value" "[B" : Cond) ∈ wsJ5_newCapacity_0f7a4 := by decide +kernel
theorem jl_J5_newCapacity_0f7a4_1 : ∀ w ∈ u_ws RJ4 TJ4 4, w ∈ wsJ5_newCapacity_0f7a4 := by decide +kernel
theorem jw_J5_newCapacity_0f7a4_f22 : (.fieldLink RJ5 22 "java/lang/AbstractStringBuilder" "coder" "B" : Cond) ∈ wsJ5_newCapacity_0f7a4 := by decide +kernel
theorem jw_J5_newCapacity_0f7a4_c39 : (.constant RJ5 39 2147483647 : Cond) ∈ wsJ5_newCapacity_0f7a4 := by decide +kernel
section
variable {p : Program} {l : Launch} {e : Env} {s : State} {m : MethodId} {below : List Frame} {meth : Method} {c : Code} {N0 : Nat} {T : Nat → ClassId} {D : va_G} {ad : Nat → Nat → Nat → Nat}
theorem w_newC {b v cap n q : Nat} {f : Nat → Int32} (hq : cap < q) (h2 : q ≤ 1000) (C : Chw p s m [.ref b, .int (nI q)].toArray meth c cJ5_newCapacity_0f7a4 6 wsJ5_newCapacity_0f7a4 RJ5 N0 T D ad) (hr : meth.sig.returnType = (some .int)) : HW p l e (Rhw 2 0 0) s m [.ref b, .int (nI q)].toArray below meth c 6 N0 D 0 0 (MQ below (va_Qi (fun r w1 => r = nI (cap + max (q - cap) (cap + 2)) ∧ w1 = [(b, .inr (1, [.ref v, .int 0, .int 0, .int (nI n)])), (v, .inl (T 1, cap, .inl f))]) (HwB N0 D) (fun q => N0 ≤ q)) [.ref b, .int (nI q)].toArray s 0 0 (fun q => N0 ≤ q)) ([(b, .inr (1, [.ref v, .int 0, .int 0, .int (nI n)])), (v, .inl (T 1, cap, .inl f))]) 0 [(0, .ref b), (1, .int (nI q))] [] := by
  refine hw_aload_n C dJ5_newCapacity_0f7a4_0 rfl 0 rfl ?_
  refine hw_get C 0 (ci := 1) (Cn := RJ4) (Tc := TJ4) (N := 4) (j := 0) (v := .ref v) rfl jl_J5_newCapacity_0f7a4_1 rfl (by decide) (hx_ts C _ jw_J5_newCapacity_0f7a4_f15) (fun _ h => h) rfl dJ5_newCapacity_0f7a4_1 ?_
  refine hw_alen C 1 rfl rfl dJ5_newCapacity_0f7a4_4 ?_
  refine hw_istore_n C dJ5_newCapacity_0f7a4_5 rfl (by decide) rfl ?_
  refine hw_iload_n C dJ5_newCapacity_0f7a4_6 rfl 2 rfl ?_
  refine hw_aload_n C dJ5_newCapacity_0f7a4_7 rfl 1 rfl ?_
  refine hw_get C 0 (ci := 1) (Cn := RJ4) (Tc := TJ4) (N := 4) (j := 1) (v := .int 0) rfl jl_J5_newCapacity_0f7a4_1 rfl (by decide) (hx_ts C _ jw_J5_newCapacity_0f7a4_f22) (fun _ h => h) rfl dJ5_newCapacity_0f7a4_8 ?_
  refine hw_ishl C dJ5_newCapacity_0f7a4_11 ?_
  refine hw_topi (v' := nI q) (sb_shl0 _) ?_
  refine hw_istore_n C dJ5_newCapacity_0f7a4_12 rfl (by decide) rfl ?_
  refine hw_iload_n C dJ5_newCapacity_0f7a4_13 rfl 0 rfl ?_
  refine hw_iload_n C dJ5_newCapacity_0f7a4_14 rfl 1 rfl ?_
  refine hw_isub C dJ5_newCapacity_0f7a4_15 ?_
  refine hw_topi (v' := nI (q - cap)) (pk_sub (by omega)) ?_
  refine hw_istore C dJ5_newCapacity_0f7a4_16 (by decide) rfl ?_
  refine hw_iload_n C dJ5_newCapacity_0f7a4_18 rfl 2 rfl ?_
  refine hw_iload C dJ5_newCapacity_0f7a4_19 0 rfl ?_
  refine hw_iload_n C dJ5_newCapacity_0f7a4_21 rfl 2 rfl ?_
  refine hw_iconst C dJ5_newCapacity_0f7a4_22 (v := 2) rfl ?_
  refine hw_aload_n C dJ5_newCapacity_0f7a4_23 rfl 3 rfl ?_
  refine hw_get C 0 (ci := 1) (Cn := RJ4) (Tc := TJ4) (N := 4) (j := 1) (v := .int 0) rfl jl_J5_newCapacity_0f7a4_1 rfl (by decide) (hx_ts C _ jw_J5_newCapacity_0f7a4_f22) (fun _ h => h) rfl dJ5_newCapacity_0f7a4_24 ?_
  refine hw_ishl C dJ5_newCapacity_0f7a4_27 ?_
  refine hw_topi (v' := 2) (by decide) ?_
  refine hw_iadd C dJ5_newCapacity_0f7a4_28 ?_
  refine hw_topi (v' := nI (cap + 2)) (nI_add cap 2) ?_
  refine hw_callSi C (As := [.int (nI cap), .int (nI (q - cap)), .int (nI (cap + 2))]) (h_newL (o := cap) (a := q - cap) (g := cap + 2) (by omega) (by omega)) (va_cwS 3 (hx_ts C) gJ5_newCapacity_0f7a4_J8_newLength_cabcc rfl rfl rfl (by decide +kernel) ⟨Nat.le_of_ble_eq_true rfl, Nat.le_of_ble_eq_true rfl⟩) rfl (st := []) rfl (Nat.le_of_ble_eq_true rfl) ⟨Nat.le_refl _, Nat.le_refl _⟩ dJ5_newCapacity_0f7a4_29 (fun r w1 h1 => ?_)
  obtain ⟨rfl, rfl⟩ := h1
  refine hw_istore C dJ5_newCapacity_0f7a4_32 (by decide) rfl ?_
  refine hw_iload C dJ5_newCapacity_0f7a4_34 0 rfl ?_
  refine hw_ldc C (v := 2147483647) (hx_ts C _ jw_J5_newCapacity_0f7a4_c39) dJ5_newCapacity_0f7a4_36 ?_
  refine hw_icmp_ne C dJ5_newCapacity_0f7a4_38 (tgt := 51) rfl (fun _ => ?_) (fun h9 => absurd h9 ((fun h8 => by have h9 := (nI_eq (b := 2147483647) (by omega) (by decide)).mp h8; omega)))
  refine hw_iload C dJ5_newCapacity_0f7a4_51 0 rfl ?_
  refine hw_aload_n C dJ5_newCapacity_0f7a4_53 rfl 4 rfl ?_
  refine hw_get C 0 (ci := 1) (Cn := RJ4) (Tc := TJ4) (N := 4) (j := 1) (v := .int 0) rfl jl_J5_newCapacity_0f7a4_1 rfl (by decide) (hx_ts C _ jw_J5_newCapacity_0f7a4_f22) (fun _ h => h) rfl dJ5_newCapacity_0f7a4_54 ?_
  refine hw_ishr C dJ5_newCapacity_0f7a4_57 ?_
  refine hw_topi (v' := nI (cap + max (q - cap) (cap + 2))) (sb_shr0 _) ?_
  exact hw_iret C hr _ ⟨rfl, rfl⟩ (fun t h1 h2 => ⟨h1, h2⟩) dJ5_newCapacity_0f7a4_58
end
theorem h_newC {l : Launch} {N0 : Nat} {T : Nat → ClassId} {D : va_G} {ad : Nat → Nat → Nat → Nat} {b v cap n q : Nat} {f : Nat → Int32} (hq : cap < q) (h2 : q ≤ 1000) : HwI l yJ5_newCapacity_0f7a4 wsJ5_newCapacity_0f7a4 (Rhw 2 0 0) N0 T D ad ([(b, .inr (1, [.ref v, .int 0, .int 0, .int (nI n)])), (v, .inl (T 1, cap, .inl f))]) [.ref b, .int (nI q)] (fun r w1 => r = nI (cap + max (q - cap) (cap + 2)) ∧ w1 = [(b, .inr (1, [.ref v, .int 0, .int 0, .int (nI n)])), (v, .inl (T 1, cap, .inl f))]) 0 0 :=
  hw_body 0 0 (by decide +kernel) rfl (Nat.le_of_ble_eq_true rfl) (fun p e s m below meth c C hnm hr => w_newC hq h2 C hr)
theorem jw_J7_copyOf_9075b_ab : (.arrayClass .byte : Cond) ∈ wsJ7_copyOf_9075b := by decide +kernel
theorem jw_J7_copyOf_9075b_m304 : (.methodLink RJ7 304 Lib.Math.min.name : Cond) ∈ wsJ7_copyOf_9075b := by decide +kernel
theorem jw_J7_copyOf_9075b_ms : (.static Lib.Math.min.name : Cond) ∈ wsJ7_copyOf_9075b := by decide +kernel
theorem jw_J7_copyOf_9075b_mi : (.initialized "java/lang/Math" : Cond) ∈ wsJ7_copyOf_9075b := by decide +kernel
theorem jw_J7_copyOf_9075b_mc : (.code Lib.Math.min.name Lib.Math.min.code 2 (some .int) : Cond) ∈ wsJ7_copyOf_9075b := by decide +kernel
theorem jw_J7_copyOf_9075b_a1 : (.methodLink RJ7 150 arraycopyName : Cond) ∈ wsJ7_copyOf_9075b := by decide +kernel
theorem jw_J7_copyOf_9075b_a2 : (.native arraycopyName : Cond) ∈ wsJ7_copyOf_9075b := by decide +kernel
theorem jw_J7_copyOf_9075b_a3 : (.static arraycopyName : Cond) ∈ wsJ7_copyOf_9075b := by decide +kernel
theorem jw_J7_copyOf_9075b_a4 : (.initialized "java/lang/System" : Cond) ∈ wsJ7_copyOf_9075b := by decide +kernel
section
variable {p : Program} {l : Launch} {e : Env} {s : State} {m : MethodId} {below : List Frame} {meth : Method} {c : Code} {N0 : Nat} {T : Nat → ClassId} {D : va_G} {ad : Nat → Nat → Nat → Nat}
theorem w_cpo {w : va_W} {q0 v cap N : Nat} {f : Nat → Int32} (he : w[q0]? = some (v, .inl (T 1, cap, .inl f))) (hN : cap < N) (hB : N ≤ 65536) (hf : sb_Fit f) (C : Chw p s m [.ref v, .int (nI N)].toArray meth c cJ7_copyOf_9075b 3 wsJ7_copyOf_9075b RJ7 N0 T D ad) (hr : meth.sig.returnType = (some (.array .byte))) : HW p l e (Rhw 2 1 N) s m [.ref v, .int (nI N)].toArray below meth c 3 N0 D 0 0 (MQ below (va_Qq (fun r w1 => ∃ a, r = some a ∧ N0 ≤ a ∧ (∀ q ∈ w, q.1 ≠ a) ∧ w1 = (a, .inl (T 1, N, .inl (va_cpy f (fun _ => 0) 0 0 cap))) :: w) (HwB N0 D) (fun q => N0 ≤ q)) [.ref v, .int (nI N)].toArray s 1 N (fun q => N0 ≤ q)) w 0 [(0, .ref v), (1, .int (nI N))] [] := by
  refine hw_iload_n C dJ7_copyOf_9075b_0 rfl 1 rfl ?_
  refine hw_aload_n C dJ7_copyOf_9075b_1 rfl 0 rfl ?_
  refine hw_alen C q0 he rfl dJ7_copyOf_9075b_2 ?_
  refine hw_icmp_ne C dJ7_copyOf_9075b_3 (tgt := 14) rfl (fun _ => ?_) (fun h9 => absurd h9 ((fun h8 => by have h9 := (nI_eq (by omega) (by omega)).mp h8; omega)))
  refine hw_iload_n C dJ7_copyOf_9075b_14 rfl 1 rfl ?_
  refine hw_newb C (N := N) jw_J7_copyOf_9075b_ab (nI_pos (by omega)) (nI_clamp (by omega)) (by omega) (Nat.le_refl _) (by show 0 + N ≤ N; omega) dJ7_copyOf_9075b_15 (fun a ha hna => ?_)
  refine hw_astore_n C dJ7_copyOf_9075b_17 rfl (by decide) rfl ?_
  refine hw_aload_n C dJ7_copyOf_9075b_18 rfl 1 rfl ?_
  refine hw_iconst C dJ7_copyOf_9075b_19 (v := nI 0) rfl ?_
  refine hw_aload_n C dJ7_copyOf_9075b_20 rfl 0 rfl ?_
  refine hw_iconst C dJ7_copyOf_9075b_21 (v := nI 0) rfl ?_
  refine hw_aload_n C dJ7_copyOf_9075b_22 rfl 1 rfl ?_
  refine hw_alen C (q0 + 1) he rfl dJ7_copyOf_9075b_23 ?_
  refine hw_iload_n C dJ7_copyOf_9075b_24 rfl 2 rfl ?_
  refine hw_mmin C (hx_ts C _ jw_J7_copyOf_9075b_m304) (hx_ts C _ jw_J7_copyOf_9075b_ms) (hx_ts C _ jw_J7_copyOf_9075b_mi) (hx_ts C _ jw_J7_copyOf_9075b_mc) (Nat.le_of_ble_eq_true rfl) (Nat.le_of_ble_eq_true rfl) ⟨by show 1 ≤ 1; omega, by show 0 + N ≤ N; omega⟩ dJ7_copyOf_9075b_25 ?_
  refine hw_topi (v' := nI cap) (if_neg (nI_nlt (by omega) (by omega))) ?_
  refine hw_copy C (q0 + 1) 0 (sp := 0) (dp := 0) (n := cap) he rfl (by omega) (by omega) (by omega) (by omega) (fun i _ => hf _) (w' := (a, .inl (T 1, N, .inl (va_cpy f (fun _ => 0) 0 0 cap))) :: w) rfl jw_J7_copyOf_9075b_a1 jw_J7_copyOf_9075b_a2 jw_J7_copyOf_9075b_a3 jw_J7_copyOf_9075b_a4 (Nat.le_of_ble_eq_true rfl) (by show (List.map (fun v => Value.category v) ([] : List Value)).sum + (nativeFrameWords "java/lang/System" "arraycopy" 5 + 11) ≤ 28 * 2; decide +kernel) dJ7_copyOf_9075b_28 ?_
  refine hw_aload_n C dJ7_copyOf_9075b_31 rfl 0 rfl ?_
  refine hw_more (cells' := 1) (slots' := N) (by omega) (by omega) ?_
  exact hw_aret C hr (Or.inr ⟨_, rfl⟩) _ ⟨a, rfl, ha, hna, rfl⟩ (fun t h1 h2 => ⟨h1, h2⟩) dJ7_copyOf_9075b_32
end
theorem h_cpo {l : Launch} {N0 : Nat} {T : Nat → ClassId} {D : va_G} {ad : Nat → Nat → Nat → Nat} {w : va_W} {q0 v cap N : Nat} {f : Nat → Int32} (he : w[q0]? = some (v, .inl (T 1, cap, .inl f))) (hN : cap < N) (hB : N ≤ 65536) (hf : sb_Fit f) : HwQ l yJ7_copyOf_9075b wsJ7_copyOf_9075b (Rhw 2 1 N) N0 T D ad w [.ref v, .int (nI N)] (fun r w1 => ∃ a, r = some a ∧ N0 ≤ a ∧ (∀ q ∈ w, q.1 ≠ a) ∧ w1 = (a, .inl (T 1, N, .inl (va_cpy f (fun _ => 0) 0 0 cap))) :: w) 1 N :=
  hw_body 1 N (by decide +kernel) rfl (Nat.le_of_ble_eq_true rfl) (fun p e s m below meth c C hnm hr => w_cpo he hN hB hf C hr)
