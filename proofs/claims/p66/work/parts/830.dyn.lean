/-! A STRING THAT THE WALK HAS MADE: length, charAt -/
section
variable {p : Program} {l : Launch} {e : Env} {R : Room} {s : State} {m : MethodId} {args : Array Value} {below : List Frame} {meth : Method} {c : Code} {cc : ByteArray} {nL N0 : Nat} {T : Nat → ClassId} {D : va_G} {ad : Nat → Nat → Nat → Nat} {cells slots : Nat} {Q : State → Prop} {w w' : va_W} {pc : Nat} {L L' : List (Nat × Value)} {st : List Value} {Ts : List Cond} {own : String}
theorem hw_getsq2 (C : Chw p s m args meth c cc nL Ts own N0 T D ad) {C0 n d0 ref : String} {index : Nat} (hZ : va_Zq C0 n d0 (fun q => N0 ≤ q) s s.heap) (hlink : (Cond.fieldLink own index ref n d0).before args s = true) (hsame : ∀ x, s.fieldFound? C0 n d0 = some x → s.fieldFound? ref n d0 = some x) (d : decode cc pc = .ok (.getstatic index, 3)) (k1 : HW p l e R s m args below meth c nL N0 D cells slots Q w (pc + 3) L (.null :: st)) (k2 : ∀ x : Nat, HW p l e R s m args below meth c nL N0 D cells slots Q w (pc + 3) L (.ref x :: st)) : HW p l e R s m args below meth c nL N0 D cells slots Q w pc L st := by
  rcases hZ with h | ⟨t, h⟩
  · exact hw_gets C h hlink hsame d k1
  · exact hw_gets C h hlink hsame d (k2 t)
end
theorem and255 {c : Nat} (h : c < 128) : nI c &&& 255 = nI c := (by decide +kernel : ∀ c, c < 128 → nI c &&& 255 = nI c) c h
theorem nar_c {c : Nat} (h : c < 128) : narrow .char (.int (nI c)) = .int (nI c) := (by decide +kernel : ∀ c, c < 128 → narrow .char (.int (nI c)) = .int (nI c)) c h
theorem jl_J0_coder_7d493_0 : ∀ w ∈ u_ws RJ0 TJ0 4, w ∈ wsJ0_coder_7d493 := by decide +kernel
section
variable {p : Program} {l : Launch} {e : Env} {s : State} {m : MethodId} {below : List Frame} {meth : Method} {c : Code} {N0 : Nat} {T : Nat → ClassId} {D : va_G} {ad : Nat → Nat → Nat → Nat}
theorem w_codD {w : va_W} {q0 r0 d0 : Nat} (heS : w[q0]? = some (r0, .inr (0, [.ref d0, .int 0, .int 0, .int 0])))  (C : Chw p s m [.ref r0].toArray meth c cJ0_coder_7d493 1 wsJ0_coder_7d493 RJ0 N0 T D ad) (hr : meth.sig.returnType = (some .byte)) : HW p l e (Rhw 1 0 0) s m [.ref r0].toArray below meth c 1 N0 D 0 0 (MQ below (va_Qi (fun r w1 => r = 0 ∧ w1 = w) (HwB N0 D) (fun q => N0 ≤ q)) [.ref r0].toArray s 0 0 (fun q => N0 ≤ q)) w 0 [(0, .ref r0)] [] := by
  refine hw_gets C (hx_st C).2.2.2.2.2.1 (hx_ts C _ jw_J0_coder_7d493_f38) (fun _ h => h) dJ0_coder_7d493_0 ?_
  refine hw_if_eq C dJ0_coder_7d493_3 (tgt := 13) rfl (fun h9 => absurd h9 ((by decide))) (fun _ => ?_)
  refine hw_aload_n C dJ0_coder_7d493_6 rfl 0 rfl ?_
  refine hw_get C q0 (ci := 0) (Cn := RJ0) (Tc := TJ0) (N := 4) (j := 1) (v := .int 0) heS jl_J0_coder_7d493_0 rfl (by decide) (hx_ts C _ jw_J0_coder_7d493_f15) (fun _ h => h) rfl dJ0_coder_7d493_7 ?_
  refine hw_goto C dJ0_coder_7d493_10 (tgt := 14) rfl ?_
  exact hw_bret C hr rfl _ ⟨rfl, rfl⟩ (fun t h1 h2 => ⟨h1, h2⟩) dJ0_coder_7d493_14
end
theorem h_codD {l : Launch} {N0 : Nat} {T : Nat → ClassId} {D : va_G} {ad : Nat → Nat → Nat → Nat} {w : va_W} {q0 r0 d0 : Nat} (heS : w[q0]? = some (r0, .inr (0, [.ref d0, .int 0, .int 0, .int 0])))  : HwI l yJ0_coder_7d493 wsJ0_coder_7d493 (Rhw 1 0 0) N0 T D ad w [.ref r0] (fun r w1 => r = 0 ∧ w1 = w) 0 0 :=
  hw_body 0 0 (by decide +kernel) rfl (Nat.le_of_ble_eq_true rfl) (fun p e s m below meth c C hnm hr => w_codD heS C hr)
theorem jl_J0_length_8abf5_0 : ∀ w ∈ u_ws RJ0 TJ0 4, w ∈ wsJ0_length_8abf5 := by decide +kernel
section
variable {p : Program} {l : Launch} {e : Env} {s : State} {m : MethodId} {below : List Frame} {meth : Method} {c : Code} {N0 : Nat} {T : Nat → ClassId} {D : va_G} {ad : Nat → Nat → Nat → Nat}
theorem w_lenD {w : va_W} {q0 q1 r0 d0 n : Nat} {f : Nat → Int32} (heS : w[q0]? = some (r0, .inr (0, [.ref d0, .int 0, .int 0, .int 0]))) (heB : w[q1]? = some (d0, .inl (T 1, n, .inl f))) (C : Chw p s m [.ref r0].toArray meth c cJ0_length_8abf5 1 wsJ0_length_8abf5 RJ0 N0 T D ad) (hr : meth.sig.returnType = (some .int)) : HW p l e (Rhw 2 0 0) s m [.ref r0].toArray below meth c 1 N0 D 0 0 (MQ below (va_Qi (fun r w1 => r = nI n ∧ w1 = w) (HwB N0 D) (fun q => N0 ≤ q)) [.ref r0].toArray s 0 0 (fun q => N0 ≤ q)) w 0 [(0, .ref r0)] [] := by
  refine hw_aload_n C dJ0_length_8abf5_0 rfl 0 rfl ?_
  refine hw_get C q0 (ci := 0) (Cn := RJ0) (Tc := TJ0) (N := 4) (j := 0) (v := .ref d0) heS jl_J0_length_8abf5_0 rfl (by decide) (hx_ts C _ jw_J0_length_8abf5_f9) (fun _ h => h) rfl dJ0_length_8abf5_1 ?_
  refine hw_alen C q1 heB rfl dJ0_length_8abf5_4 ?_
  refine hw_aload_n C dJ0_length_8abf5_5 rfl 0 rfl ?_
  refine hw_callWi C q0 (ci := 0) (Cn := RJ0) (Tc := TJ0) (N := 4) (As := []) (h_codD heS) (cwV 0 (hx_ts C) gJ0_length_8abf5_J0_coder_7d493 rfl rfl rfl (by decide +kernel) ⟨Nat.le_of_ble_eq_true rfl, Nat.le_of_ble_eq_true rfl⟩) rfl heS rfl (st := [.int (nI n)]) rfl (Nat.le_of_ble_eq_true rfl) ⟨Nat.le_refl _, Nat.le_refl _⟩ dJ0_length_8abf5_6 (fun r w1 h1 => ?_)
  obtain ⟨rfl, hw9⟩ := h1
  obtain rfl := hw9.symm
  refine hw_ishr C dJ0_length_8abf5_9 ?_
  refine hw_topi (v' := nI n) (sb_shr0 _) ?_
  exact hw_iret C hr _ ⟨rfl, rfl⟩ (fun t h1 h2 => ⟨h1, h2⟩) dJ0_length_8abf5_10
end
theorem h_lenD {l : Launch} {N0 : Nat} {T : Nat → ClassId} {D : va_G} {ad : Nat → Nat → Nat → Nat} {w : va_W} {q0 q1 r0 d0 n : Nat} {f : Nat → Int32} (heS : w[q0]? = some (r0, .inr (0, [.ref d0, .int 0, .int 0, .int 0]))) (heB : w[q1]? = some (d0, .inl (T 1, n, .inl f))) : HwI l yJ0_length_8abf5 wsJ0_length_8abf5 (Rhw 2 0 0) N0 T D ad w [.ref r0] (fun r w1 => r = nI n ∧ w1 = w) 0 0 :=
  hw_body 0 0 (by decide +kernel) rfl (Nat.le_of_ble_eq_true rfl) (fun p e s m below meth c C hnm hr => w_lenD heS heB C hr)
theorem jw_J0_isLatin1_aae02_f38 : (.fieldLink RJ0 38 "java/lang/String" "COMPACT_STRINGS" "Z" : Cond) ∈ wsJ0_isLatin1_aae02 := by decide +kernel
theorem jw_J0_isLatin1_aae02_f15 : (.fieldLink RJ0 15 "java/lang/String" "coder" "B" : Cond) ∈ wsJ0_isLatin1_aae02 := by decide +kernel
theorem jl_J0_isLatin1_aae02_0 : ∀ w ∈ u_ws RJ0 TJ0 4, w ∈ wsJ0_isLatin1_aae02 := by decide +kernel
section
variable {p : Program} {l : Launch} {e : Env} {s : State} {m : MethodId} {below : List Frame} {meth : Method} {c : Code} {N0 : Nat} {T : Nat → ClassId} {D : va_G} {ad : Nat → Nat → Nat → Nat}
theorem w_latD {w : va_W} {q0 r0 d0 : Nat} (heS : w[q0]? = some (r0, .inr (0, [.ref d0, .int 0, .int 0, .int 0])))  (C : Chw p s m [.ref r0].toArray meth c cJ0_isLatin1_aae02 1 wsJ0_isLatin1_aae02 RJ0 N0 T D ad) (hr : meth.sig.returnType = (some .boolean)) : HW p l e (Rhw 1 0 0) s m [.ref r0].toArray below meth c 1 N0 D 0 0 (MQ below (va_Qi (fun r w1 => r = 1 ∧ w1 = w) (HwB N0 D) (fun q => N0 ≤ q)) [.ref r0].toArray s 0 0 (fun q => N0 ≤ q)) w 0 [(0, .ref r0)] [] := by
  refine hw_gets C (hx_st C).2.2.2.2.2.1 (hx_ts C _ jw_J0_isLatin1_aae02_f38) (fun _ h => h) dJ0_isLatin1_aae02_0 ?_
  refine hw_if_eq C dJ0_isLatin1_aae02_3 (tgt := 17) rfl (fun h9 => absurd h9 ((by decide))) (fun _ => ?_)
  refine hw_aload_n C dJ0_isLatin1_aae02_6 rfl 0 rfl ?_
  refine hw_get C q0 (ci := 0) (Cn := RJ0) (Tc := TJ0) (N := 4) (j := 1) (v := .int 0) heS jl_J0_isLatin1_aae02_0 rfl (by decide) (hx_ts C _ jw_J0_isLatin1_aae02_f15) (fun _ h => h) rfl dJ0_isLatin1_aae02_7 ?_
  refine hw_if_ne C dJ0_isLatin1_aae02_10 (tgt := 17) rfl (fun h9 => absurd h9 ((fun h8 => h8 rfl))) (fun _ => ?_)
  refine hw_iconst C dJ0_isLatin1_aae02_13 (v := 1) rfl ?_
  refine hw_goto C dJ0_isLatin1_aae02_14 (tgt := 18) rfl ?_
  exact hw_zret C hr (Or.inr rfl) _ ⟨rfl, rfl⟩ (fun t h1 h2 => ⟨h1, h2⟩) dJ0_isLatin1_aae02_18
end
theorem h_latD {l : Launch} {N0 : Nat} {T : Nat → ClassId} {D : va_G} {ad : Nat → Nat → Nat → Nat} {w : va_W} {q0 r0 d0 : Nat} (heS : w[q0]? = some (r0, .inr (0, [.ref d0, .int 0, .int 0, .int 0])))  : HwI l yJ0_isLatin1_aae02 wsJ0_isLatin1_aae02 (Rhw 1 0 0) N0 T D ad w [.ref r0] (fun r w1 => r = 1 ∧ w1 = w) 0 0 :=
  hw_body 0 0 (by decide +kernel) rfl (Nat.le_of_ble_eq_true rfl) (fun p e s m below meth c C hnm hr => w_latD heS C hr)
section
variable {p : Program} {l : Launch} {e : Env} {s : State} {m : MethodId} {below : List Frame} {meth : Method} {c : Code} {N0 : Nat} {T : Nat → ClassId} {D : va_G} {ad : Nat → Nat → Nat → Nat}
theorem w_ckN {w : va_W} {i n : Nat} (hi : i < n) (hn : n ≤ 65536) (C : Chw p s m [.int (nI i), .int (nI n), .null].toArray meth c cJ3_checkIndex_8e157 3 wsJ3_checkIndex_8e157 RJ3 N0 T D ad) (hr : meth.sig.returnType = (some .int)) : HW p l e (Rhw 1 0 0) s m [.int (nI i), .int (nI n), .null].toArray below meth c 3 N0 D 0 0 (MQ below (va_Qi (fun r w1 => r = nI i ∧ w1 = w) (HwB N0 D) (fun q => N0 ≤ q)) [.int (nI i), .int (nI n), .null].toArray s 0 0 (fun q => N0 ≤ q)) w 0 [(0, .int (nI i)), (1, .int (nI n)), (2, .null)] [] := by
  refine hw_iload_n C dJ3_checkIndex_8e157_0 rfl 0 rfl ?_
  refine hw_if_lt C dJ3_checkIndex_8e157_1 (tgt := 9) rfl (fun h9 => absurd h9 (nI_pos (by omega))) (fun _ => ?_)
  refine hw_iload_n C dJ3_checkIndex_8e157_4 rfl 0 rfl ?_
  refine hw_iload_n C dJ3_checkIndex_8e157_5 rfl 1 rfl ?_
  refine hw_icmp_lt C dJ3_checkIndex_8e157_6 (tgt := 16) rfl (fun _ => ?_) (fun h9 => absurd (nI_lt hi (by omega)) h9)
  refine hw_iload_n C dJ3_checkIndex_8e157_16 rfl 0 rfl ?_
  exact hw_iret C hr _ ⟨rfl, rfl⟩ (fun t h1 h2 => ⟨h1, h2⟩) dJ3_checkIndex_8e157_17
end
theorem h_ckN {l : Launch} {N0 : Nat} {T : Nat → ClassId} {D : va_G} {ad : Nat → Nat → Nat → Nat} {w : va_W} {i n : Nat} (hi : i < n) (hn : n ≤ 65536) : HwI l yJ3_checkIndex_8e157 wsJ3_checkIndex_8e157 (Rhw 1 0 0) N0 T D ad w [.int (nI i), .int (nI n), .null] (fun r w1 => r = nI i ∧ w1 = w) 0 0 :=
  hw_body 0 0 (by decide +kernel) rfl (Nat.le_of_ble_eq_true rfl) (fun p e s m below meth c C hnm hr => w_ckN hi hn C hr)
section
variable {p : Program} {l : Launch} {e : Env} {s : State} {m : MethodId} {below : List Frame} {meth : Method} {c : Code} {N0 : Nat} {T : Nat → ClassId} {D : va_G} {ad : Nat → Nat → Nat → Nat}
theorem w_ckR {w : va_W} {i n : Nat} {x0 : Nat} (hi : i < n) (hn : n ≤ 65536) (C : Chw p s m [.int (nI i), .int (nI n), .ref x0].toArray meth c cJ3_checkIndex_8e157 3 wsJ3_checkIndex_8e157 RJ3 N0 T D ad) (hr : meth.sig.returnType = (some .int)) : HW p l e (Rhw 1 0 0) s m [.int (nI i), .int (nI n), .ref x0].toArray below meth c 3 N0 D 0 0 (MQ below (va_Qi (fun r w1 => r = nI i ∧ w1 = w) (HwB N0 D) (fun q => N0 ≤ q)) [.int (nI i), .int (nI n), .ref x0].toArray s 0 0 (fun q => N0 ≤ q)) w 0 [(0, .int (nI i)), (1, .int (nI n)), (2, .ref x0)] [] := by
  refine hw_iload_n C dJ3_checkIndex_8e157_0 rfl 0 rfl ?_
  refine hw_if_lt C dJ3_checkIndex_8e157_1 (tgt := 9) rfl (fun h9 => absurd h9 (nI_pos (by omega))) (fun _ => ?_)
  refine hw_iload_n C dJ3_checkIndex_8e157_4 rfl 0 rfl ?_
  refine hw_iload_n C dJ3_checkIndex_8e157_5 rfl 1 rfl ?_
  refine hw_icmp_lt C dJ3_checkIndex_8e157_6 (tgt := 16) rfl (fun _ => ?_) (fun h9 => absurd (nI_lt hi (by omega)) h9)
  refine hw_iload_n C dJ3_checkIndex_8e157_16 rfl 0 rfl ?_
  exact hw_iret C hr _ ⟨rfl, rfl⟩ (fun t h1 h2 => ⟨h1, h2⟩) dJ3_checkIndex_8e157_17
end
theorem h_ckR {l : Launch} {N0 : Nat} {T : Nat → ClassId} {D : va_G} {ad : Nat → Nat → Nat → Nat} {w : va_W} {i n : Nat} {x0 : Nat} (hi : i < n) (hn : n ≤ 65536) : HwI l yJ3_checkIndex_8e157 wsJ3_checkIndex_8e157 (Rhw 1 0 0) N0 T D ad w [.int (nI i), .int (nI n), .ref x0] (fun r w1 => r = nI i ∧ w1 = w) 0 0 :=
  hw_body 0 0 (by decide +kernel) rfl (Nat.le_of_ble_eq_true rfl) (fun p e s m below meth c C hnm hr => w_ckR hi hn C hr)
theorem jw_J0_checkIndex_df160_f1053 : (.fieldLink RJ0 1053 "jdk/internal/util/Preconditions" "SIOOBE_FORMATTER" "Ljava/util/function/BiFunction;" : Cond) ∈ wsJ0_checkIndex_df160 := by decide +kernel
section
variable {p : Program} {l : Launch} {e : Env} {s : State} {m : MethodId} {below : List Frame} {meth : Method} {c : Code} {N0 : Nat} {T : Nat → ClassId} {D : va_G} {ad : Nat → Nat → Nat → Nat}
theorem w_ckI {w : va_W} {i n : Nat} (hi : i < n) (hn : n ≤ 65536) (C : Chw p s m [.int (nI i), .int (nI n)].toArray meth c cJ0_checkIndex_df160 2 wsJ0_checkIndex_df160 RJ0 N0 T D ad) (hr : meth.sig.returnType = none) : HW p l e (Rhw 2 0 0) s m [.int (nI i), .int (nI n)].toArray below meth c 2 N0 D 0 0 (MQ below (va_Qv (fun w1 => w1 = w) (HwB N0 D) (fun q => N0 ≤ q)) [.int (nI i), .int (nI n)].toArray s 0 0 (fun q => N0 ≤ q)) w 0 [(0, .int (nI i)), (1, .int (nI n))] [] := by
  refine hw_iload_n C dJ0_checkIndex_df160_0 rfl 0 rfl ?_
  refine hw_iload_n C dJ0_checkIndex_df160_1 rfl 1 rfl ?_
  refine hw_getsq2 C (hx_st C).2.2.2.2.2.2.1 (hx_ts C _ jw_J0_checkIndex_df160_f1053) (fun _ h => h) dJ0_checkIndex_df160_2 ?_ (fun x0 => ?_)
  · skip
    refine hw_callSi C (As := [.int (nI i), .int (nI n), .null]) (h_ckN hi hn) (va_cwS 3 (hx_ts C) gJ0_checkIndex_df160_J3_checkIndex_8e157 rfl rfl rfl (by decide +kernel) ⟨Nat.le_of_ble_eq_true rfl, Nat.le_of_ble_eq_true rfl⟩) rfl (st := []) rfl (Nat.le_of_ble_eq_true rfl) ⟨Nat.le_refl _, Nat.le_refl _⟩ dJ0_checkIndex_df160_5 (fun r w1 h1 => ?_)
    obtain ⟨rfl, rfl⟩ := h1
    refine hw_pop C dJ0_checkIndex_df160_8 rfl ?_
    exact hw_vret C hr _ rfl (fun t h1 h2 => ⟨h1, h2⟩) dJ0_checkIndex_df160_9
  · skip
    refine hw_callSi C (As := [.int (nI i), .int (nI n), .ref x0]) (h_ckR hi hn) (va_cwS 3 (hx_ts C) gJ0_checkIndex_df160_J3_checkIndex_8e157 rfl rfl rfl (by decide +kernel) ⟨Nat.le_of_ble_eq_true rfl, Nat.le_of_ble_eq_true rfl⟩) rfl (st := []) rfl (Nat.le_of_ble_eq_true rfl) ⟨Nat.le_refl _, Nat.le_refl _⟩ dJ0_checkIndex_df160_5 (fun r w1 h1 => ?_)
    obtain ⟨rfl, rfl⟩ := h1
    refine hw_pop C dJ0_checkIndex_df160_8 rfl ?_
    exact hw_vret C hr _ rfl (fun t h1 h2 => ⟨h1, h2⟩) dJ0_checkIndex_df160_9
end
theorem h_ckI {l : Launch} {N0 : Nat} {T : Nat → ClassId} {D : va_G} {ad : Nat → Nat → Nat → Nat} {w : va_W} {i n : Nat} (hi : i < n) (hn : n ≤ 65536) : HwV l yJ0_checkIndex_df160 wsJ0_checkIndex_df160 (Rhw 2 0 0) N0 T D ad w [.int (nI i), .int (nI n)] (fun w1 => w1 = w) 0 0 :=
  hw_body 0 0 (by decide +kernel) rfl (Nat.le_of_ble_eq_true rfl) (fun p e s m below meth c C hnm hr => w_ckI hi hn C hr)
section
variable {p : Program} {l : Launch} {e : Env} {s : State} {m : MethodId} {below : List Frame} {meth : Method} {c : Code} {N0 : Nat} {T : Nat → ClassId} {D : va_G} {ad : Nat → Nat → Nat → Nat}
theorem w_chB {w : va_W} {q1 d0 n i c0 : Nat} {f : Nat → Int32} (heB : w[q1]? = some (d0, .inl (T 1, n, .inl f))) (hi : i < n) (hn : n ≤ 65536) (hc : f i = nI c0) (hc1 : c0 < 128) (C : Chw p s m [.ref d0, .int (nI i)].toArray meth c cJ1_charAt_3b067 2 wsJ1_charAt_3b067 RJ1 N0 T D ad) (hr : meth.sig.returnType = (some .char)) : HW p l e (Rhw 3 0 0) s m [.ref d0, .int (nI i)].toArray below meth c 2 N0 D 0 0 (MQ below (va_Qi (fun r w1 => r = nI c0 ∧ w1 = w) (HwB N0 D) (fun q => N0 ≤ q)) [.ref d0, .int (nI i)].toArray s 0 0 (fun q => N0 ≤ q)) w 0 [(0, .ref d0), (1, .int (nI i))] [] := by
  refine hw_iload_n C dJ1_charAt_3b067_0 rfl 1 rfl ?_
  refine hw_aload_n C dJ1_charAt_3b067_1 rfl 0 rfl ?_
  refine hw_alen C q1 heB rfl dJ1_charAt_3b067_2 ?_
  refine hw_callSv C (As := [.int (nI i), .int (nI n)]) (h_ckI hi hn) (va_cwS 2 (hx_ts C) gJ1_charAt_3b067_J0_checkIndex_df160 rfl rfl rfl (by decide +kernel) ⟨Nat.le_of_ble_eq_true rfl, Nat.le_of_ble_eq_true rfl⟩) rfl (st := []) rfl (Nat.le_of_ble_eq_true rfl) ⟨Nat.le_refl _, Nat.le_refl _⟩ dJ1_charAt_3b067_3 (fun w1 h1 => ?_)
  obtain rfl := h1.symm
  refine hw_aload_n C dJ1_charAt_3b067_6 rfl 0 rfl ?_
  refine hw_iload_n C dJ1_charAt_3b067_7 rfl 1 rfl ?_
  refine hw_bald C q1 heB hi hn hc dJ1_charAt_3b067_8 ?_
  refine hw_sipush C dJ1_charAt_3b067_9 (v := 255) (by decide) ?_
  refine hw_iand C dJ1_charAt_3b067_12 ?_
  refine hw_topi (v' := nI c0) (and255 hc1) ?_
  refine hw_i2c C dJ1_charAt_3b067_13 ?_
  refine hw_topi (v' := nI c0) (i2c_nI hc1) ?_
  exact hw_cret C hr (nar_c hc1) _ ⟨rfl, rfl⟩ (fun t h1 h2 => ⟨h1, h2⟩) dJ1_charAt_3b067_14
end
theorem h_chB {l : Launch} {N0 : Nat} {T : Nat → ClassId} {D : va_G} {ad : Nat → Nat → Nat → Nat} {w : va_W} {q1 d0 n i c0 : Nat} {f : Nat → Int32} (heB : w[q1]? = some (d0, .inl (T 1, n, .inl f))) (hi : i < n) (hn : n ≤ 65536) (hc : f i = nI c0) (hc1 : c0 < 128) : HwI l yJ1_charAt_3b067 wsJ1_charAt_3b067 (Rhw 3 0 0) N0 T D ad w [.ref d0, .int (nI i)] (fun r w1 => r = nI c0 ∧ w1 = w) 0 0 :=
  hw_body 0 0 (by decide +kernel) rfl (Nat.le_of_ble_eq_true rfl) (fun p e s m below meth c C hnm hr => w_chB heB hi hn hc hc1 C hr)
theorem jw_J0_charAt_5068e_f9 : (.fieldLink RJ0 9 "java/lang/String" "value" "[B" : Cond) ∈ wsJ0_charAt_5068e := by decide +kernel
theorem jl_J0_charAt_5068e_0 : ∀ w ∈ u_ws RJ0 TJ0 4, w ∈ wsJ0_charAt_5068e := by decide +kernel
section
variable {p : Program} {l : Launch} {e : Env} {s : State} {m : MethodId} {below : List Frame} {meth : Method} {c : Code} {N0 : Nat} {T : Nat → ClassId} {D : va_G} {ad : Nat → Nat → Nat → Nat}
theorem w_chD {w : va_W} {q0 q1 r0 d0 n i c0 : Nat} {f : Nat → Int32} (heS : w[q0]? = some (r0, .inr (0, [.ref d0, .int 0, .int 0, .int 0]))) (heB : w[q1]? = some (d0, .inl (T 1, n, .inl f))) (hi : i < n) (hn : n ≤ 65536) (hc : f i = nI c0) (hc1 : c0 < 128) (C : Chw p s m [.ref r0, .int (nI i)].toArray meth c cJ0_charAt_5068e 2 wsJ0_charAt_5068e RJ0 N0 T D ad) (hr : meth.sig.returnType = (some .char)) : HW p l e (Rhw 4 0 0) s m [.ref r0, .int (nI i)].toArray below meth c 2 N0 D 0 0 (MQ below (va_Qi (fun r w1 => r = nI c0 ∧ w1 = w) (HwB N0 D) (fun q => N0 ≤ q)) [.ref r0, .int (nI i)].toArray s 0 0 (fun q => N0 ≤ q)) w 0 [(0, .ref r0), (1, .int (nI i))] [] := by
  refine hw_aload_n C dJ0_charAt_5068e_0 rfl 0 rfl ?_
  refine hw_callWi C q0 (ci := 0) (Cn := RJ0) (Tc := TJ0) (N := 4) (As := []) (h_latD heS) (cwV 0 (hx_ts C) gJ0_charAt_5068e_J0_isLatin1_aae02 rfl rfl rfl (by decide +kernel) ⟨Nat.le_of_ble_eq_true rfl, Nat.le_of_ble_eq_true rfl⟩) rfl heS rfl (st := []) rfl (Nat.le_of_ble_eq_true rfl) ⟨Nat.le_refl _, Nat.le_refl _⟩ dJ0_charAt_5068e_1 (fun r w1 h1 => ?_)
  obtain ⟨rfl, hw9⟩ := h1
  obtain rfl := hw9.symm
  refine hw_if_eq C dJ0_charAt_5068e_4 (tgt := 16) rfl (fun h9 => absurd h9 ((by decide))) (fun _ => ?_)
  refine hw_aload_n C dJ0_charAt_5068e_7 rfl 0 rfl ?_
  refine hw_get C q0 (ci := 0) (Cn := RJ0) (Tc := TJ0) (N := 4) (j := 0) (v := .ref d0) heS jl_J0_charAt_5068e_0 rfl (by decide) (hx_ts C _ jw_J0_charAt_5068e_f9) (fun _ h => h) rfl dJ0_charAt_5068e_8 ?_
  refine hw_iload_n C dJ0_charAt_5068e_11 rfl 1 rfl ?_
  refine hw_callSi C (As := [.ref d0, .int (nI i)]) (h_chB heB hi hn hc hc1) (va_cwS 2 (hx_ts C) gJ0_charAt_5068e_J1_charAt_3b067 rfl rfl rfl (by decide +kernel) ⟨Nat.le_of_ble_eq_true rfl, Nat.le_of_ble_eq_true rfl⟩) rfl (st := []) rfl (Nat.le_of_ble_eq_true rfl) ⟨Nat.le_refl _, Nat.le_refl _⟩ dJ0_charAt_5068e_12 (fun r w1 h1 => ?_)
  obtain ⟨rfl, hw9⟩ := h1
  obtain rfl := hw9.symm
  exact hw_cret C hr (nar_c hc1) _ ⟨rfl, rfl⟩ (fun t h1 h2 => ⟨h1, h2⟩) dJ0_charAt_5068e_15
end
theorem h_chD {l : Launch} {N0 : Nat} {T : Nat → ClassId} {D : va_G} {ad : Nat → Nat → Nat → Nat} {w : va_W} {q0 q1 r0 d0 n i c0 : Nat} {f : Nat → Int32} (heS : w[q0]? = some (r0, .inr (0, [.ref d0, .int 0, .int 0, .int 0]))) (heB : w[q1]? = some (d0, .inl (T 1, n, .inl f))) (hi : i < n) (hn : n ≤ 65536) (hc : f i = nI c0) (hc1 : c0 < 128) : HwI l yJ0_charAt_5068e wsJ0_charAt_5068e (Rhw 4 0 0) N0 T D ad w [.ref r0, .int (nI i)] (fun r w1 => r = nI c0 ∧ w1 = w) 0 0 :=
  hw_body 0 0 (by decide +kernel) rfl (Nat.le_of_ble_eq_true rfl) (fun p e s m below meth c C hnm hr => w_chD heS heB hi hn hc hc1 C hr)
