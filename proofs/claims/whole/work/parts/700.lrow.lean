/-! PHASE 3: THE LAW'S HELPERS: rows -/
/-- a body with handlers that throws nothing itself -/
theorem lh_ofWH {l : Launch} {y : MethodName} {ws ws' : List Cond} {rm : Room} {Pc : Array Value → State → Prop} {Qc : Array Value → State → Outcome → State → Prop} {mc ms : Nat} {free : Addr → Prop} {cc : ByteArray} {maxL : Nat} {ret : Option FieldType} {hh : List (Nat × Nat × Nat × Nat)}
    (hy : plainName y.cls = true) (hw : ws = Cond.codeWith y cc maxL ret hh :: ws')
    (body : ∀ p e s m args below meth c s₁, BodyLoose p l y (headSpec ws rm) cc maxL ret e s m args below meth c s₁ → c.maxLocals = maxL → c.exceptionTable.toList = tableOf hh → Pc args s →
      W p l e (headSpec ws rm).room s m args below meth c s.heap [] 0 0 (MQ below Qc args s mc ms free) (entryFrame m args maxL)) : Met l y ws rm Pc Qc mc ms free := by
  refine MetFree.of_bodyS (code := cc) (maxLocals := maxL) (ret := ret) hy ?_ ?_
  · intro args s m h hn
    obtain ⟨m9, meth, c, hn9, h1, h2, h3, h4, -, h5, h6, -⟩ := Cond.codeWith_spec (atoms_spec (ws := ws) h _ (by rw [hw]; exact List.mem_cons_self))
    cases hn.symm.trans hn9
    exact ⟨meth, c, h1, h2, h3, h4, h5, h6⟩
  · intro p e s m args below meth c s₁ B hml hP _
    have hh0 : s₁.heap = s.heap := by rw [B.state]; rfl
    obtain ⟨t, a1, o, b1, b2, b3⟩ := body p e s m args below meth c s₁ B hml (vx_table (x := y) (y := y) B (atoms_spec (ws := ws) B.pre _ (by rw [hw]; exact List.mem_cons_self))) hP s₁ hh0 (Stand.of_body B)
    exact ⟨t, o, a1, b1, b2, b3⟩
/-- which exceptions are not which -/
def Exw (s : State) : Prop := va_Nc "java/lang/IllegalArgumentException" "java/lang/IndexOutOfBoundsException" s ∧ va_Nc "java/lang/IllegalStateException" "java/lang/IllegalArgumentException" s ∧ va_Nc "java/lang/IllegalStateException" "java/lang/IndexOutOfBoundsException" s
theorem Exw.moved {u U : State} (hvm : u.vm.Alike U.vm) (h : Exw u) : Exw U := ⟨h.1.moved hvm, h.2.1.moved hvm, h.2.2.moved hvm⟩
def WPx (N0 : Nat) (T : Nat → ClassId) (D : va_G) (gr : List (Nat × Nat)) (ad : Nat → Nat → Nat → Nat) (Y : Mem) (U : State) : Prop := WP N0 T D gr ad Y U ∧ Exw U
theorem WPx_blind (N0 : Nat) (T : Nat → ClassId) (D : va_G) (gr : List (Nat × Nat)) (ad : Nat → Nat → Nat → Nat) (Y : Mem) (av : List Value) : FrameBlind (va_Pc av (WPx N0 T D gr ad Y)) := by
  intro a U g mk h
  obtain ⟨h0, ⟨h1, h2, h3, h4, h5, h6⟩, h7⟩ := h
  exact ⟨h0, ⟨h1, h2, va_K.moved (u := U) (U := U.calling g mk a) (Vm.Alike.refl U.vm) h3, h4, Nst_same (u := U) rfl h5, Stt_same (u := U) rfl rfl h6⟩, h7.moved (U := U.calling g mk a) (Vm.Alike.refl U.vm)⟩
abbrev CH (l : Launch) (y : MethodName) (ws : List Cond) (rm : Room) (N0 : Nat) (T : Nat → ClassId) (D : va_G) (gr : List (Nat × Nat)) (ad : Nat → Nat → Nat → Nat) (Y : Mem) (av : List Value) (k : Nat) (r : Int32) (Y' : Mem) : Prop :=
  Met l y ws rm (va_Pc av (WPx N0 T D gr ad Y)) (va_Qi (fun r1 Y1 => r1 = r ∧ Y1 = Y') (WB T D gr ad) (fun q => N0 ≤ q)) k (6 * k) (fun q => N0 ≤ q)
theorem fw_hbody {l : Launch} {y : MethodName} {ws ws' : List Cond} {rm : Room} {cc : ByteArray} {maxL : Nat} {ret : Option FieldType} {hh : List (Nat × Nat × Nat × Nat)} {N0 : Nat} {T : Nat → ClassId} {D : va_G} {gr : List (Nat × Nat)} {ad : Nat → Nat → Nat → Nat} {Y : Mem} {av : List Value} {Qc : Array Value → State → Outcome → State → Prop} {K n : Nat}
    (hy : plainName y.cls = true) (hw : ws = Cond.codeWith y cc maxL ret hh :: ws') (hlen : (lg_sl av).length ≤ maxL)
    (body : ∀ (p : Program) (e : Env) (s : State) (m : MethodId) (below : List Frame) (meth : Method) (c : Code), Cx p s m av.toArray meth c cc maxL ws y.cls N0 T D gr ad → Exw s → meth.sig.returnType = ret → c.exceptionTable.toList = tableOf hh →
      FW p l e rm s m av.toArray below meth c maxL N0 T D gr ad 0 0 (MQ below Qc av.toArray s K n (fun q => N0 ≤ q)) Y 0 (lv_args 0 av) []) :
    Met l y ws rm (va_Pc av (WPx N0 T D gr ad Y)) Qc K n (fun q => N0 ≤ q) := by
  refine lh_ofWH (cc := cc) (maxL := maxL) (ret := ret) hy hw ?_
  intro p e s m args below meth c s₁ B hml htab hv
  obtain ⟨rfl, ⟨h1, h2, h3, h4, h5, h6⟩, h7⟩ := hv
  have hl := lv_entry av hlen
  rw [lg_entry_eq]
  exact body p e s m below meth c ⟨B.exec, B.bytes, hml, findClass_of_methodNamed B.named, atoms_spec (ws := ws) B.pre, h3, fun Y' => wC_D h4 Y', h1, B.notSynchronized, h5, h6⟩ h7 B.returns htab s.heap [] _ h2 va_S.rf hl
section FWL
variable {p : Program} {l : Launch} {e : Env} {R : Room} {s : State} {m : MethodId} {args : Array Value} {below : List Frame} {meth : Method} {c : Code} {cc : ByteArray} {nL N0 : Nat} {T : Nat → ClassId} {D : va_G} {gr : List (Nat × Nat)} {ad : Nat → Nat → Nat → Nat} {cells slots : Nat} {Q : State → Prop} {Y : Mem} {pc : Nat} {L L' : List (Nat × Value)} {st : List Value} {Ts : List Cond} {own : String}
theorem vp01 : vp_in (0 : Int32) 1 := vp_in_iff.mpr (by decide)
theorem ca11 (T : Nat → ClassId) (ad : Nat → Nat → Nat → Nat) (g o : Nat) (y : Nat → Int32) : cell T ad 11 g o y = .inl (T 7, 1, .inr (.inl (fun j => (y j).toInt64))) := rfl
/-- the law's answer cell -/
theorem fw_last (C : Cx p s m args meth c cc nL Ts own N0 T D gr ad) {x : Int32} {v : Int64} (hv : x.toInt64 = v) (hg : (11, 0) ∈ gr) (d : decode cc pc = .ok (.lastore, 1)) (k : FW p l e R s m args below meth c nL N0 T D gr ad cells slots Q (up Y 11 0 0 0 x) (pc + 1) L st) : FW p l e R s m args below meth c nL N0 T D gr ad cells slots Q Y pc L (.long v :: .int 0 :: .ref (ad 11 0 0) :: st) := by
  intro H locs ls hP hS hl1
  obtain ⟨q0, hq⟩ := keys_at hg (of11_0 0)
  subst hv
  refine va_last C.1 C.2.1 C.2.2.2.2.2.1 hP (C.2.2.2.2.2.2.1 Y) hS q0 7 (by rw [wC_key hq, ca11]) rfl vp01 d (fun H1 locs1 hP1 hD1 hS1 => ?_)
  have e1 : vp_updL (fun j => (Y 11 0 0 j).toInt64) (0 : Int32).toNatClampNeg x.toInt64 = fun j => (upd (Y 11 0 0) 0 x j).toInt64 := by
    funext j
    have e0 : (0 : Int32).toNatClampNeg = 0 := by decide
    unfold vp_updL upd
    rw [e0]
    split <;> rfl
  rw [e1, ← ca11 T ad 0 0 (upd (Y 11 0 0) 0 x), wC_set (C.2.2.2.2.2.2.1 Y) hq, ← up_eq] at hP1
  exact k H1 locs1 ls hP1 hS1 hl1
theorem fw_lald0 (C : Cx p s m args meth c cc nL Ts own N0 T D gr ad) (hg : (11, 0) ∈ gr) (d : decode cc pc = .ok (.laload, 1)) (k : FW p l e R s m args below meth c nL N0 T D gr ad cells slots Q Y (pc + 1) L (.long (Y 11 0 0 0).toInt64 :: st)) : FW p l e R s m args below meth c nL N0 T D gr ad cells slots Q Y pc L (.int 0 :: .ref (ad 11 0 0) :: st) := by
  intro H locs ls hP hS hl1
  obtain ⟨q0, hq⟩ := keys_at hg (of11_0 0)
  refine va_lald C.1 C.2.1 C.2.2.2.2.2.1 hP q0 7 (by rw [wC_key hq, ca11]) rfl vp01 d ?_
  have e0 : (0 : Int32).toNatClampNeg = 0 := by decide
  rw [e0]
  exact k H locs ls hP hS hl1
/-- a call whose exception this method catches -/
theorem fw_callXVi_c (C : Cx p s m args meth c cc nL Ts own N0 T D gr ad) {k1 k0 g0 o0 ci index n maxL N : Nat} {Cn : String} {Tc : u_T} {fs : List Value} {y : MethodName} {bytes : ByteArray} {ret : Option FieldType} {ws : List Cond} {rm : Room} {As st0 : List Value} {u1 : Nat × Mem} {name : String} (hM : CXi l y ws rm N0 T D gr ad Y (.ref (ad k0 g0 o0) :: As) k1 (.inl u1)) (cw : CallW R s args own Cn index y bytes maxL ret ws rm k1 (6 * k1) n) (hc : vwCl[ci]? = some (Cn, Tc, N)) (hg : (k0, g0) ∈ gr) (ho : o0 ∈ offs k0 g0) (he : cell T ad k0 g0 o0 (Y k0 g0 o0) = .inr (ci, fs)) (hn : As.length = n) (hst : st0 = As.reverse ++ .ref (ad k0 g0 o0) :: st) (hcat : (st.map fun v => v.category).sum ≤ 8) (hf : cells + k1 ≤ R.cells ∧ slots + 6 * k1 ≤ R.slots) (d : decode cc pc = .ok (.invokevirtual index, 3)) (pre : List ExceptionTableEntry) (x : ExceptionTableEntry) (suf : List ExceptionTableEntry) (hsplit : c.exceptionTable.toList = pre ++ x :: suf)
    (hpass : ∀ z ∈ pre, covers z pc = false ∨ (z.catchType ≠ 0 ∧ ∃ nm : String, (Cond.classLink own z.catchType nm).before args s = true ∧ va_Nc (xnm u1.1) nm s)) (hx : covers x pc = true) (h0 : x.catchType ≠ 0) (hlink : (Cond.classLink own x.catchType name).before args s = true) (hcast : (Cond.castable (xnm u1.1) name).before args s = true)
    (k : ∀ q : Nat, FW p l e R s m args below meth c nL N0 T D gr ad (cells + k1) (slots + 6 * k1) Q u1.2 x.handlerPc L [.ref q]) : FW p l e R s m args below meth c nL N0 T D gr ad cells slots Q Y pc L st0 := by
  intro H locs ls hP hS hl1
  obtain ⟨q0, hq⟩ := keys_at hg ho
  refine vx_calli (vx_runV (As := As) (rest := st) ⟨C.1, C.2.1, C.2.2.1, C.2.2.2.1, C.2.2.2.2.1⟩ hM cw ⟨WP_blind N0 T D gr ad Y (Value.ref (ad k0 g0 o0) :: As), va_recv C.2.2.2.2.2.1 hP (ci := ci) (q0 := q0) hc (by rw [wC_key hq, he]), fun U hU hW => ⟨rfl, Nat.le_trans C.2.2.2.2.2.2.2.1 (by rw [hU]; exact hS.1), by rw [hU]; exact hP, va_K.moved hW.alike C.2.2.2.2.2.1, C.2.2.2.2.2.2.1 Y, Nst_warm hW C.2.2.2.2.2.2.2.2.2.1, Stt_moved hW (by rw [hU]; exact hS.1) (fun q h1 h2 => by rw [hU]; exact hS.2.1 q (Nat.lt_of_lt_of_le h1 C.2.2.2.2.2.2.2.1) (Nat.not_le.mpr h1)) C.2.2.2.2.2.2.2.2.2.2⟩⟩ rfl hn hl1.1 hst (lv_room hcat) d hf) hS (fun q _ h => h) (fun q h => h) (fun q _ h => h) (fun E ce q9 u t H1 locs1 ht hvm hw hB hz1 hk1 hS1 h1 h2 h3 => ?_) (fun r u t H1 locs1 ht hvm hw hB hz1 hk1 hS1 => ?_)
  · obtain rfl := Sum.inl.inj hw
    have hE : E = xnm u.1 := hB.1
    subst hE
    exact vx_catch C.2.2.2.1 pre x suf hsplit hpass hx h0 hlink hcast h1 h2 h3 (k q9 H1 locs1 ls (by have e := hB.2; unfold WB at e; rw [← ht]; exact e) hS1 hl1)
  · cases hw
end FWL
