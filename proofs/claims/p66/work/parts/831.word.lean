/-! CONTRACTS OVER GROUPS AS CONTRACTS OVER A LIST; the law's word -/
theorem Met_mono {l : Launch} {y : MethodName} {ws : List Cond} {rm : Room} {Pc : Array Value → State → Prop} {Qc Qd : Array Value → State → Outcome → State → Prop} {mc ms : Nat} {free : Addr → Prop} (h : Met l y ws rm Pc Qc mc ms free) (hQ : ∀ a st o t, Pc a st → Qc a st o t → Qd a st o t) : Met l y ws rm Pc Qd mc ms free := by
  intro p e h1 h2 h3 s m args below h4 h5 h6 h7
  obtain ⟨n, o, a1, a2, a3, a4, a5⟩ := h p e h1 h2 h3 s m args below h4 h5 h6 h7
  exact ⟨n, o, a1, a2, a3, hQ _ _ _ _ h6 a4, a5⟩
theorem CI_HI {l : Launch} {y : MethodName} {ws : List Cond} {rm : Room} {N0 : Nat} {T : Nat → ClassId} {D : va_G} {gr : List (Nat × Nat)} {ad : Nat → Nat → Nat → Nat} {Y : Mem} {av : List Value} {post : Int32 → Mem → Prop} (h : CI l y ws rm N0 T D gr ad Y av post) : HwI l y ws rm N0 T D ad (wC T gr ad Y) av (fun r w1 => ∃ Y1, post r Y1 ∧ w1 = wC T gr ad Y1) 0 0 := by
  refine Met_mono (Qc := va_Qi post (WB T D gr ad) (fun q => N0 ≤ q)) h (fun a st o t hp hq => ?_)
  obtain ⟨⟨r, u, h1, h2, h3⟩, h4⟩ := hq
  exact ⟨⟨r, wC T gr ad u, h1, ⟨u, h2, rfl⟩, h3, wC_D hp.2.2.2.2.1 u⟩, h4⟩
theorem CV_HV {l : Launch} {y : MethodName} {ws : List Cond} {rm : Room} {N0 : Nat} {T : Nat → ClassId} {D : va_G} {gr : List (Nat × Nat)} {ad : Nat → Nat → Nat → Nat} {Y : Mem} {av : List Value} {post : Mem → Prop} (h : CV l y ws rm N0 T D gr ad Y av post) : HwV l y ws rm N0 T D ad (wC T gr ad Y) av (fun w1 => ∃ Y1, post Y1 ∧ w1 = wC T gr ad Y1) 0 0 := by
  refine Met_mono (Qc := va_Qv post (WB T D gr ad) (fun q => N0 ≤ q)) h (fun a st o t hp hq => ?_)
  obtain ⟨⟨u, h1, h2, h3⟩, h4⟩ := hq
  exact ⟨⟨wC T gr ad u, h1, ⟨u, h2, rfl⟩, h3, wC_D hp.2.2.2.2.1 u⟩, h4⟩
theorem CVn_HV {l : Launch} {y : MethodName} {ws : List Cond} {rm : Room} {N0 : Nat} {T : Nat → ClassId} {D : va_G} {gr : List (Nat × Nat)} {ad : Nat → Nat → Nat → Nat} {Y : Mem} {av : List Value} {post : Mem → Prop} (h : CVn l y ws rm N0 T D gr ad Y av post) : HwV l y ws rm N0 T D ad (wC T gr ad Y) av (fun w1 => ∃ Y1, post Y1 ∧ w1 = wC T gr ad Y1) 2 28 := by
  refine Met_mono (Qc := va_Qv post (WB T D gr ad) (fun q => N0 ≤ q)) h (fun a st o t hp hq => ?_)
  obtain ⟨⟨u, h1, h2, h3⟩, h4⟩ := hq
  exact ⟨⟨wC T gr ad u, h1, ⟨u, h2, rfl⟩, h3, wC_D hp.2.2.2.2.1 u⟩, h4⟩
theorem wC_at {T : Nat → ClassId} {gr : List (Nat × Nat)} {ad : Nat → Nat → Nat → Nat} {k g o : Nat} (hg : (k, g) ∈ gr) (ho : o ∈ offs k g) : ∃ q0 : Nat, ∀ Y : Mem, (wC T gr ad Y)[q0]? = some (ad k g o, cell T ad k g o (Y k g o)) := by
  obtain ⟨q0, h⟩ := keys_at hg ho
  exact ⟨q0, fun Y => wC_key h⟩
/-- the letter at place j of a text of n letters: behind its end a blank -/
def gW (n : Nat) (f : Nat → Int32) (j : Nat) : Int32 := if j < n then f j else 32
def wdF (g : Nat → Int32) : Nat → Nat → Int32 → Int32
  | 0, _, v => v
  | d + 1, j, v => wdF g d (j + 1) (v <<< ((8 : Int32) &&& 31) ||| g j)
section
variable {p : Program} {l : Launch} {e : Env} {s : State} {m : MethodId} {below : List Frame} {meth : Method} {c : Code} {N0 : Nat} {T : Nat → ClassId} {D : va_G} {ad : Nat → Nat → Nat → Nat} {w : va_W} {q0 q1 r0 d0 n a : Nat} {f : Nat → Int32}
theorem w_word_loop (heS : w[q0]? = some (r0, .inr (0, [.ref d0, .int 0, .int 0, .int 0]))) (heB : w[q1]? = some (d0, .inl (T 1, n, .inl f))) (hn : n ≤ 2000) (ha : a ≤ 4000) (hf : ∀ j, j < n → ∃ c, c < 128 ∧ f j = nI c) (C : Chw p s m [.ref r0, .int (nI a)].toArray meth c cL_word 4 wsL_word RL N0 T D ad) (hr : meth.sig.returnType = some .int) : ∀ (d j : Nat) (v : Int32), j + d = a + 4 → wdF (gW n f) d j v = wdF (gW n f) 4 a 0 → HW p l e (Rhw 5 0 0) s m [.ref r0, .int (nI a)].toArray below meth c 4 N0 D 0 0 (MQ below (va_Qi (fun x w1 => x = wdF (gW n f) 4 a 0 ∧ w1 = w) (HwB N0 D) (fun q => N0 ≤ q)) [.ref r0, .int (nI a)].toArray s 0 0 (fun q => N0 ≤ q)) w 4 [(3, .int (nI j)), (2, .int v), (0, .ref r0), (1, .int (nI a))] [] := by
  intro d
  induction d with
  | zero =>
    intro j v e1 e2
    obtain rfl : j = a + 4 := by omega
    refine hw_iload_n C dL_word_4 rfl 0 rfl ?_
    refine hw_iload_n C dL_word_5 rfl 3 rfl ?_
    refine hw_iconst C dL_word_6 (v := nI 4) (by decide) ?_
    refine hw_iadd C dL_word_7 ?_
    refine hw_topi (v' := nI (a + 4)) (nI_add _ _) ?_
    refine hw_icmp_ge C dL_word_8 (tgt := 41) rfl (fun _ => ?_) (fun h9 => absurd (Int32.le_refl _) h9)
    refine hw_iload_n C dL_word_41 rfl 1 rfl ?_
    exact hw_iret C hr _ ⟨e2, rfl⟩ (fun t h1 h2 => ⟨h1, h2⟩) dL_word_42
  | succ d ih =>
    intro j v e1 e2
    refine hw_iload_n C dL_word_4 rfl 0 rfl ?_
    refine hw_iload_n C dL_word_5 rfl 3 rfl ?_
    refine hw_iconst C dL_word_6 (v := nI 4) (by decide) ?_
    refine hw_iadd C dL_word_7 ?_
    refine hw_topi (v' := nI (a + 4)) (nI_add _ _) ?_
    refine hw_icmp_ge C dL_word_8 (tgt := 41) rfl (fun h9 => absurd h9 (nI_ge (by omega) (by omega))) (fun _ => ?_)
    refine hw_iload_n C dL_word_11 rfl 1 rfl ?_
    refine hw_bipush C dL_word_12 (v := 8) (by decide) ?_
    refine hw_ishl C dL_word_14 ?_
    refine hw_iload_n C dL_word_15 rfl 0 rfl ?_
    refine hw_aload_n C dL_word_16 rfl 2 rfl ?_
    refine hw_callWi C q0 (ci := 0) (Cn := RJ0) (Tc := TJ0) (N := 4) (As := []) (h_lenD heS heB) (cwV 0 (hx_ts C) gL_word_J0_length_8abf5 rfl rfl rfl (by decide +kernel) ⟨Nat.le_of_ble_eq_true rfl, Nat.le_of_ble_eq_true rfl⟩) rfl heS rfl (st := [.int (nI j), .int (v <<< ((8 : Int32) &&& 31))]) rfl (Nat.le_of_ble_eq_true rfl) ⟨Nat.le_refl _, Nat.le_refl _⟩ dL_word_17 (fun r w1 h1 => ?_)
    obtain ⟨rfl, hw9⟩ := h1
    obtain rfl := hw9.symm
    have key : HW p l e (Rhw 5 0 0) s m [.ref r0, .int (nI a)].toArray below meth c 4 N0 D 0 0 (MQ below (va_Qi (fun x w1 => x = wdF (gW n f) 4 a 0 ∧ w1 = w) (HwB N0 D) (fun q => N0 ≤ q)) [.ref r0, .int (nI a)].toArray s 0 0 (fun q => N0 ≤ q)) w 33 [(3, .int (nI j)), (2, .int v), (0, .ref r0), (1, .int (nI a))] [.int (gW n f j), .int (v <<< ((8 : Int32) &&& 31))] := by
      refine hw_ior C dL_word_33 ?_
      refine hw_istore_n C dL_word_34 rfl (by decide) rfl ?_
      refine hw_iinc C dL_word_35 (kk := 1) rfl (v := nI (j + 1)) (nI_1 j) (by decide) rfl ?_
      refine hw_goto C dL_word_38 (tgt := 4) rfl ?_
      exact ih (j + 1) _ (by omega) e2
    by_cases hj : j < n
    · obtain ⟨c0, hc1, hc⟩ := hf j hj
      have eg : gW n f j = nI c0 := by unfold gW; rw [if_pos hj, hc]
      rw [eg] at key
      refine hw_icmp_ge C dL_word_20 (tgt := 31) rfl (fun h9 => absurd h9 (nI_ge hj (by omega))) (fun _ => ?_)
      refine hw_aload_n C dL_word_23 rfl 2 rfl ?_
      refine hw_iload_n C dL_word_24 rfl 0 rfl ?_
      refine hw_callWi C q0 (ci := 0) (Cn := RJ0) (Tc := TJ0) (N := 4) (As := [.int (nI j)]) (h_chD heS heB hj (by omega) hc hc1) (cwV 1 (hx_ts C) gL_word_J0_charAt_5068e rfl rfl rfl (by decide +kernel) ⟨Nat.le_of_ble_eq_true rfl, Nat.le_of_ble_eq_true rfl⟩) rfl heS rfl (st := [.int (v <<< ((8 : Int32) &&& 31))]) rfl (Nat.le_of_ble_eq_true rfl) ⟨Nat.le_refl _, Nat.le_refl _⟩ dL_word_25 (fun r w1 h1 => ?_)
      obtain ⟨rfl, hw9⟩ := h1
      obtain rfl := hw9.symm
      exact hw_goto C dL_word_28 (tgt := 33) rfl key
    · have eg : gW n f j = 32 := if_neg hj
      rw [eg] at key
      refine hw_icmp_ge C dL_word_20 (tgt := 31) rfl (fun _ => ?_) (fun h9 => absurd (nI_le (by omega) (by omega)) h9)
      exact hw_bipush C dL_word_31 (v := 32) (by decide) key
end
theorem h_word {l : Launch} {N0 : Nat} {T : Nat → ClassId} {D : va_G} {ad : Nat → Nat → Nat → Nat} {w : va_W} {q0 q1 r0 d0 n a : Nat} {f : Nat → Int32} (heS : w[q0]? = some (r0, .inr (0, [.ref d0, .int 0, .int 0, .int 0]))) (heB : w[q1]? = some (d0, .inl (T 1, n, .inl f))) (hn : n ≤ 2000) (ha : a ≤ 4000) (hf : ∀ j, j < n → ∃ c, c < 128 ∧ f j = nI c) : HwI l yL_word wsL_word (Rhw 5 0 0) N0 T D ad w [.ref r0, .int (nI a)] (fun x w1 => x = wdF (gW n f) 4 a 0 ∧ w1 = w) 0 0 := by
  refine hw_body 0 0 (by decide +kernel) rfl (Nat.le_of_ble_eq_true rfl) (fun p e s m below meth c C _ hr => ?_)
  refine hw_iconst C dL_word_0 (v := 0) rfl ?_
  refine hw_istore_n C dL_word_1 rfl (by decide) rfl ?_
  refine hw_iload_n C dL_word_2 rfl 2 rfl ?_
  refine hw_istore_n C dL_word_3 rfl (by decide) rfl ?_
  exact w_word_loop heS heB hn ha hf C hr 4 a 0 rfl rfl
