/-! THE SCRIPT: an array of ints below; pick -/
def HwX (N0 sa sl : Nat) (sf : Nat → Int32) (U : State) : Prop := sl < 2 ^ 31 ∧ va_T .int sa sl (fun j => .int (sf j)) (fun q => N0 ≤ q) U U.heap
def HwPx (N0 : Nat) (T : Nat → ClassId) (D : va_G) (ad : Nat → Nat → Nat → Nat) (w : va_W) (sa sl : Nat) (sf : Nat → Int32) (U : State) : Prop := HwP N0 T D ad w U ∧ HwX N0 sa sl sf U
theorem HwPx_blind (N0 : Nat) (T : Nat → ClassId) (D : va_G) (ad : Nat → Nat → Nat → Nat) (w : va_W) (sa sl : Nat) (sf : Nat → Int32) (av : List Value) : FrameBlind (va_Pc av (HwPx N0 T D ad w sa sl sf)) := by
  intro a U g mk h
  obtain ⟨h0, ⟨h1, h2, h3, h4, h5, h6⟩, h7, h8⟩ := h
  exact ⟨h0, ⟨h1, h2, va_K.moved (u := U) (U := U.calling g mk a) (Vm.Alike.refl U.vm) h3, h4, Nst_same (u := U) rfl h5, Stt_same (u := U) rfl rfl h6⟩, h7, va_T.moved (u := U) (U := U.calling g mk a) (Vm.Alike.refl U.vm) h8⟩
section HXR
variable {p : Program} {l : Launch} {e : Env} {R : Room} {s : State} {m : MethodId} {args : Array Value} {below : List Frame} {meth : Method} {c : Code} {cc : ByteArray} {nL N0 : Nat} {T : Nat → ClassId} {D : va_G} {ad : Nat → Nat → Nat → Nat} {cells slots : Nat} {Q : State → Prop} {w w' : va_W} {pc : Nat} {L L' : List (Nat × Value)} {st : List Value} {Ts : List Cond} {own : String} {sa sl : Nat} {sf : Nat → Int32}
theorem hw_callSx (C : Chw p s m args meth c cc nL Ts own N0 T D ad) (hX : HwX N0 sa sl sf s) {index n maxL : Nat} {y : MethodName} {bytes : ByteArray} {ret : Option FieldType} {ws : List Cond} {rm : Room} {As st0 : List Value} {post : Int32 → va_W → Prop} {k0 n0 : Nat} (hM : Met l y ws rm (va_Pc As (HwPx N0 T D ad w sa sl sf)) (va_Qi post (HwB N0 D) (fun q => N0 ≤ q)) k0 n0 (fun q => N0 ≤ q)) (cw : CallB R s args own index y bytes maxL ret ws rm k0 n0 n ∧ (Cond.static y).before args s = true) (hn : As.length = n) (hst : st0 = As.reverse ++ st) (hcat : (st.map fun v => v.category).sum ≤ 8) (hf : cells + k0 ≤ R.cells ∧ slots + n0 ≤ R.slots) (d : decode cc pc = .ok (.invokestatic index, 3)) (k : ∀ (r : Int32) (w1 : va_W), post r w1 → HW p l e R s m args below meth c nL N0 D (cells + k0) (slots + n0) Q w1 (pc + 3) L (.int r :: st)) : HW p l e R s m args below meth c nL N0 D cells slots Q w pc L st0 := by
  intro H locs ls hP hD hS hl1
  exact va_calli (va_runS (As := As) (rest := st) ⟨C.1, C.2.1, C.2.2.1, C.2.2.2.1, C.2.2.2.2.1⟩ hM cw ⟨HwPx_blind N0 T D ad w sa sl sf As, fun U hU hW => ⟨rfl, ⟨Nat.le_trans C.2.2.2.2.2.2.2.1 (by rw [hU]; exact hS.1), by rw [hU]; exact hP, va_K.moved hW.alike C.2.2.2.2.2.1, hD, Nst_warm hW C.2.2.2.2.2.2.2.2.2.1, Stt_moved hW (by rw [hU]; exact hS.1) (fun q h1 h2 => by rw [hU]; exact hS.2.1 q (Nat.lt_of_lt_of_le h1 C.2.2.2.2.2.2.2.1) (Nat.not_le.mpr h1)) C.2.2.2.2.2.2.2.2.2.2⟩, hX.1, va_T.moved hW.alike (by rw [hU]; exact va_T.kept hX.2 hS.2.1)⟩⟩ rfl hn hl1.1 hst (lv_room hcat) d hf) hS (fun q _ h => h) (fun q h => h) (fun r u t H1 locs1 ht hvm hw hB hz1 hk1 hS1 => k r u hw H1 locs1 ls (by rw [← ht]; exact hB.1) hB.2 hS1 hl1)
theorem hw_bodyx {l : Launch} {y : MethodName} {ws ws' : List Cond} {rm : Room} {cc : ByteArray} {maxL : Nat} {ret : Option FieldType} {w0 : va_W} {av : List Value} {Qc : Array Value → State → Outcome → State → Prop} (k n : Nat)
    (hy : plainName y.cls = true) (hw : ws = Cond.code y cc maxL ret :: ws') (hlen : (lg_sl av).length ≤ maxL)
    (body : ∀ (p : Program) (e : Env) (s : State) (m : MethodId) (below : List Frame) (meth : Method) (c : Code), Chw p s m av.toArray meth c cc maxL ws y.cls N0 T D ad → HwX N0 sa sl sf s → meth.sig.returnType = ret →
      HW p l e rm s m av.toArray below meth c maxL N0 D 0 0 (MQ below Qc av.toArray s k n (fun q => N0 ≤ q)) w0 0 (lv_args 0 av) []) :
    Met l y ws rm (va_Pc av (HwPx N0 T D ad w0 sa sl sf)) Qc k n (fun q => N0 ≤ q) := by
  refine Met.ofW (cc := cc) (maxL := maxL) (ret := ret) hy hw ?_
  intro p e s m args below meth c s₁ B hml hv
  obtain ⟨rfl, ⟨h1, h2, h3, h4, h5, h6⟩, h7⟩ := hv
  have hl := lv_entry av hlen
  rw [lg_entry_eq]
  exact body p e s m below meth c ⟨B.exec, B.bytes, hml, findClass_of_methodNamed B.named, atoms_spec (ws := ws) B.pre, h3, trivial, h1, B.notSynchronized, h5, h6⟩ h7 B.returns s.heap [] _ h2 h4 va_S.rf hl
theorem hw_ti (C : Chw p s m args meth c cc nL Ts own N0 T D ad) (hX : HwX N0 sa sl sf s) {kk : Nat} (hk : kk < sl) (d : decode cc pc = .ok (.iaload, 1)) (k : HW p l e R s m args below meth c nL N0 D cells slots Q w (pc + 1) L (.int (sf kk) :: st)) : HW p l e R s m args below meth c nL N0 D cells slots Q w pc L (.int (nI kk) :: .ref sa :: st) :=
  fun H locs ls hP hD hS hl1 => va_ti C.1 C.2.1 hX.2 hS (vp_in_nI hk hX.1) (congrArg (fun j => Value.int (sf j)) (nI_clamp (Nat.lt_trans hk hX.1))) d (k H locs ls hP hD hS hl1)
end HXR
/-- what pick answers -/
def pick (sf : Nat → Int32) (sl k n : Nat) : Nat := if k < sl then (sf k).toBitVec.toNat % 2 ^ 31 % n else 0
theorem pick_lt {sf : Nat → Int32} {sl k n : Nat} (h : 0 < n) : pick sf sl k n < n := by
  unfold pick
  split
  · exact Nat.mod_lt _ h
  · exact h
theorem jc_pick : (.constant RL 7 2147483647 : Cond) ∈ wsL_pick := by decide +kernel
theorem h_pick {l : Launch} {N0 : Nat} {T : Nat → ClassId} {D : va_G} {ad : Nat → Nat → Nat → Nat} {w : va_W} {sa sl : Nat} {sf : Nat → Int32} {kk n : Nat} (hk : kk < 2 ^ 31) (h0 : 0 < n) (hn : n < 2 ^ 31) :
    Met l yL_pick wsL_pick (Rhw 1 0 0) (va_Pc [.ref sa, .int (nI kk), .int (nI n)] (HwPx N0 T D ad w sa sl sf)) (va_Qi (fun r w1 => r = nI (pick sf sl kk n) ∧ w1 = w) (HwB N0 D) (fun q => N0 ≤ q)) 0 0 (fun q => N0 ≤ q) := by
  refine hw_bodyx 0 0 (by decide +kernel) rfl (Nat.le_of_ble_eq_true rfl) (fun p e s m below meth c C hX hr => ?_)
  refine hw_iload_n C dL_pick_0 rfl 1 rfl ?_
  refine hw_aload_n C dL_pick_1 rfl 0 rfl ?_
  refine hw_tlen C hX.2 (v := nI sl) rfl dL_pick_2 ?_
  refine hw_icmp_ge C dL_pick_3 (tgt := 17) rfl (fun h9 => ?_) (fun h9 => ?_)
  · have h8 : ¬ kk < sl := fun h7 => absurd h9 (nI_ge h7 hX.1)
    refine hw_iconst C dL_pick_17 (v := 0) rfl ?_
    exact hw_iret C hr _ ⟨by unfold pick; rw [if_neg h8]; rfl, rfl⟩ (fun t h1 h2 => ⟨h1, h2⟩) dL_pick_18
  · have h8 : kk < sl := Nat.lt_of_not_le fun h7 => h9 (nI_le h7 hk)
    refine hw_aload_n C dL_pick_6 rfl 0 rfl ?_
    refine hw_iload_n C dL_pick_7 rfl 1 rfl ?_
    refine hw_ti C hX h8 dL_pick_8 ?_
    refine hw_ldc C (v := 2147483647) (hx_ts C _ jc_pick) dL_pick_9 ?_
    refine hw_iand C dL_pick_11 ?_
    refine hw_topi (v' := nI ((sf kk).toBitVec.toNat % 2 ^ 31)) (pk_and (sf kk) 31 (by decide)) ?_
    refine hw_iload_n C dL_pick_12 rfl 2 rfl ?_
    refine hw_irem C dL_pick_13 (nI_ne0 h0 hn) ?_
    refine hw_topi (v' := nI ((sf kk).toBitVec.toNat % 2 ^ 31 % n)) (pk_rem (Nat.mod_lt _ (by decide)) h0 hn) ?_
    refine hw_goto C dL_pick_14 (tgt := 18) rfl ?_
    exact hw_iret C hr _ ⟨by unfold pick; rw [if_pos h8], rfl⟩ (fun t h1 h2 => ⟨h1, h2⟩) dL_pick_18
