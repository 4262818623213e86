/-! METHODS THAT THROW: a Java exception is the left of a sum: its number, the memory -/
def xnm (n : Nat) : String := if n = 1 then "java/lang/IllegalStateException" else if n = 2 then "java/lang/IllegalArgumentException" else if n = 3 then "java/lang/IndexOutOfBoundsException" else "java/util/NoSuchElementException"
def XB (T : Nat → ClassId) (D : va_G) (gr : List (Nat × Nat)) (ad : Nat → Nat → Nat → Nat) : String → (Nat × Mem) → State → Prop := fun E u t => E = xnm u.1 ∧ WB T D gr ad u.2 t
abbrev Rx (d k : Nat) : Room := { frames := d, cells := k, slots := 6 * k, locals := 28 * d }
abbrev CXi (l : Launch) (y : MethodName) (ws : List Cond) (rm : Room) (N0 : Nat) (T : Nat → ClassId) (D : va_G) (gr : List (Nat × Nat)) (ad : Nat → Nat → Nat → Nat) (Y : Mem) (av : List Value) (k : Nat) (res : (Nat × Mem) ⊕ (Int32 × Mem)) : Prop :=
  vx_Met l y ws rm (va_Pc av (WP N0 T D gr ad Y)) (va_Qi (fun r Y1 => Sum.inr (r, Y1) = res) (WB T D gr ad) (fun q => N0 ≤ q)) (vx_X (fun u => Sum.inl u = res) (XB T D gr ad) (fun q => N0 ≤ q)) k (6 * k) (fun q => N0 ≤ q)
abbrev CXv (l : Launch) (y : MethodName) (ws : List Cond) (rm : Room) (N0 : Nat) (T : Nat → ClassId) (D : va_G) (gr : List (Nat × Nat)) (ad : Nat → Nat → Nat → Nat) (Y : Mem) (av : List Value) (k : Nat) (res : (Nat × Mem) ⊕ Mem) : Prop :=
  vx_Met l y ws rm (va_Pc av (WP N0 T D gr ad Y)) (va_Qv (fun Y1 => Sum.inr Y1 = res) (WB T D gr ad) (fun q => N0 ≤ q)) (vx_X (fun u => Sum.inl u = res) (XB T D gr ad) (fun q => N0 ≤ q)) k (6 * k) (fun q => N0 ≤ q)
def bdxi {β : Type} (o : Option ((Nat × Mem) ⊕ (Int32 × Mem))) (k : Int32 → Mem → Option ((Nat × Mem) ⊕ β)) : Option ((Nat × Mem) ⊕ β) := match o with
  | none => none
  | some (.inl e) => some (.inl e)
  | some (.inr a) => k a.1 a.2
theorem bdxi_some {β : Type} {o : Option ((Nat × Mem) ⊕ (Int32 × Mem))} {k : Int32 → Mem → Option ((Nat × Mem) ⊕ β)} {r : (Nat × Mem) ⊕ β} (h : bdxi o k = some r) : (∃ e, o = some (.inl e) ∧ .inl e = r) ∨ ∃ x y, o = some (.inr (x, y)) ∧ k x y = some r := by
  cases o with
  | none => cases h
  | some a =>
    cases a with
    | inl e => exact Or.inl ⟨e, rfl, Option.some.inj h⟩
    | inr a => exact Or.inr ⟨a.1, a.2, rfl, h⟩
def bdxv {β : Type} (o : Option ((Nat × Mem) ⊕ Mem)) (k : Mem → Option ((Nat × Mem) ⊕ β)) : Option ((Nat × Mem) ⊕ β) := match o with
  | none => none
  | some (.inl e) => some (.inl e)
  | some (.inr a) => k a
theorem bdxv_some {β : Type} {o : Option ((Nat × Mem) ⊕ Mem)} {k : Mem → Option ((Nat × Mem) ⊕ β)} {r : (Nat × Mem) ⊕ β} (h : bdxv o k = some r) : (∃ e, o = some (.inl e) ∧ .inl e = r) ∨ ∃ y, o = some (.inr y) ∧ k y = some r := by
  cases o with
  | none => cases h
  | some a =>
    cases a with
    | inl e => exact Or.inl ⟨e, rfl, Option.some.inj h⟩
    | inr a => exact Or.inr ⟨a, rfl, h⟩
section FWR4
variable {p : Program} {l : Launch} {e : Env} {R : Room} {s : State} {m : MethodId} {args : Array Value} {below : List Frame} {meth : Method} {c : Code} {cc : ByteArray} {nL N0 : Nat} {T : Nat → ClassId} {D : va_G} {gr : List (Nat × Nat)} {ad : Nat → Nat → Nat → Nat} {cells slots : Nat} {Q : State → Prop} {Y : Mem} {pc : Nat} {L L' : List (Nat × Value)} {st : List Value} {Ts : List Cond} {own : String}
theorem fw_widen {k n : Nat} (h1 : cells ≤ k) (h2 : slots ≤ n) (kk : FW p l e R s m args below meth c nL N0 T D gr ad k n Q Y pc L st) : FW p l e R s m args below meth c nL N0 T D gr ad cells slots Q Y pc L st :=
  fun H locs ls hP hS hl1 => W.widen h1 h2 (kk H locs ls hP hS hl1)
theorem fw_xr {K n : Nat} {Qc : Array Value → State → Outcome → State → Prop} {XC : String → State → State → Prop} {free : Addr → Prop} (h1 : cells ≤ K) (h2 : slots ≤ n) (kk : FW p l e R s m args below meth c nL N0 T D gr ad K n (MQ below Qc args s K n free) Y pc L st) : FW p l e R s m args below meth c nL N0 T D gr ad cells slots (vx_MQ below Qc XC args s K n free) Y pc L st :=
  fun H locs ls hP hS hl1 => W.widen h1 h2 (vx_ret (kk H locs ls hP hS hl1))
theorem fw_throwS (C : Cx p s m args meth c cc nL Ts own N0 T D gr ad) (hl : l.stackTraces = false) (hX : ∀ x ∈ c.exceptionTable.toList, False) {cls text : String} {names : List String} {ik is ic sa K n : Nat} {β : Type} {Qc : Array Value → State → Outcome → State → Prop} {res : (Nat × Mem) ⊕ β}
    (nx : Nat) (hcx : cls = xnm nx) (hcls : Bundle.fit cls = true) (hnames : ∀ n ∈ names, Bundle.fit n = true) (hk : (Cond.classLink own ik cls).before args s = true) (hini : (Cond.initialized cls).before args s = true) (hstr : vk_R own is text sa s) (hat : ∀ w ∈ vx_atS own ic cls names, w.before args s = true)
    (hgood : ∀ w ∈ Cond.classLink own ik cls :: Cond.initialized cls :: vx_atS own ic cls names, vx_ot w = true) (d0 : decode cc pc = .ok (.new ik, 3)) (d3 : decode cc (pc + 3) = .ok (.dup, 1)) (d4 : decode cc (pc + 4) = .ok (.ldc is, 2)) (d6 : decode cc (pc + 6) = .ok (.invokespecial ic, 3)) (d9 : decode cc (pc + 9) = .ok (.athrow, 1))
    (hRframes : names.length + 3 < R.frames) (hRlocals : (st.map fun v => v.category).sum + (13 * (names.length + 1) + 43) ≤ R.locals) (hRcells : cells + 1 ≤ R.cells) (hRslots : slots + 6 ≤ R.slots) (hc : cells + 1 ≤ K) (hs : slots + 6 ≤ n) (hres : .inl (nx, Y) = res) :
    FW p l e R s m args below meth c nL N0 T D gr ad cells slots (vx_MQ below Qc (vx_X (fun u => Sum.inl u = res) (XB T D gr ad) (fun q => N0 ≤ q)) args s K n (fun q => N0 ≤ q)) Y pc L st := by
  intro H locs ls hP hS hl1
  have hst := C.2.2.2.2.2.2.2.2.2.2
  exact vx_throwS C.1 C.2.1 hl C.2.2.2.1 hcls hnames hk hini hstr hat hgood hst.2.2.2.2.2.2.2.1 hst.2.2.2.2.2.2.2.2.1 hS (by rw [C.2.2.1, hl1.1]) d0 d3 d4 d6 d9 (fun x hx => (hX x hx).elim) hRframes hRlocals hRcells hRslots C.2.2.2.2.2.2.2.2.1
    (fun t ha hz ho => ⟨(nx, Y), hres, ⟨hcx, hP.kept (fun k q hk => ho q.1 (vx_lt hP hk))⟩, ⟨Nat.le_trans hS.1 hz, fun q h1 h2 => by rw [ho q (Nat.lt_of_lt_of_le h1 hS.1)]; exact hS.2.1 q h1 h2⟩⟩) hS.2.2 hc hs
theorem fw_throwSW (C : Cx p s m args meth c cc nL Ts own N0 T D gr ad) (hl : l.stackTraces = false) (hX : ∀ x ∈ c.exceptionTable.toList, False) {cls text : String} {names : List String} {ik is ic sa K n : Nat} {β : Type} {Qc : Array Value → State → Outcome → State → Prop} {res : (Nat × Mem) ⊕ β}
    (nx : Nat) (hcx : cls = xnm nx) (hcls : Bundle.fit cls = true) (hnames : ∀ n ∈ names, Bundle.fit n = true) (hk : (Cond.classLink own ik cls).before args s = true) (hini : (Cond.initialized cls).before args s = true) (hstr : vk_R own is text sa s) (hat : ∀ w ∈ vx_atS own ic cls names, w.before args s = true)
    (hgood : ∀ w ∈ Cond.classLink own ik cls :: Cond.initialized cls :: vx_atS own ic cls names, vx_ot w = true) (d0 : decode cc pc = .ok (.new ik, 3)) (d3 : decode cc (pc + 3) = .ok (.dup, 1)) (d4 : decode cc (pc + 4) = .ok (.ldc_w is, 3)) (d7 : decode cc (pc + 7) = .ok (.invokespecial ic, 3)) (d10 : decode cc (pc + 10) = .ok (.athrow, 1))
    (hRframes : names.length + 3 < R.frames) (hRlocals : (st.map fun v => v.category).sum + (13 * (names.length + 1) + 43) ≤ R.locals) (hRcells : cells + 1 ≤ R.cells) (hRslots : slots + 6 ≤ R.slots) (hc : cells + 1 ≤ K) (hs : slots + 6 ≤ n) (hres : .inl (nx, Y) = res) :
    FW p l e R s m args below meth c nL N0 T D gr ad cells slots (vx_MQ below Qc (vx_X (fun u => Sum.inl u = res) (XB T D gr ad) (fun q => N0 ≤ q)) args s K n (fun q => N0 ≤ q)) Y pc L st := by
  intro H locs ls hP hS hl1
  have hst := C.2.2.2.2.2.2.2.2.2.2
  exact vx_throwSW C.1 C.2.1 hl C.2.2.2.1 hcls hnames hk hini hstr hat hgood hst.2.2.2.2.2.2.2.1 hst.2.2.2.2.2.2.2.2.1 hS (by rw [C.2.2.1, hl1.1]) d0 d3 d4 d7 d10 (fun x hx => (hX x hx).elim) hRframes hRlocals hRcells hRslots C.2.2.2.2.2.2.2.2.1
    (fun t ha hz ho => ⟨(nx, Y), hres, ⟨hcx, hP.kept (fun k q hk => ho q.1 (vx_lt hP hk))⟩, ⟨Nat.le_trans hS.1 hz, fun q h1 h2 => by rw [ho q (Nat.lt_of_lt_of_le h1 hS.1)]; exact hS.2.1 q h1 h2⟩⟩) hS.2.2 hc hs
theorem fw_callXVi_r (C : Cx p s m args meth c cc nL Ts own N0 T D gr ad) {k1 k0 g0 o0 ci index n maxL N : Nat} {Cn : String} {Tc : u_T} {fs : List Value} {y : MethodName} {bytes : ByteArray} {ret : Option FieldType} {ws : List Cond} {rm : Room} {As st0 : List Value} {r1 : Int32} {Y1 : Mem}  (hM : CXi l y ws rm N0 T D gr ad Y (.ref (ad k0 g0 o0) :: As) k1 (.inr (r1, Y1))) (cw : CallW R s args own Cn index y bytes maxL ret ws rm k1 (6 * k1) n) (hc : vwCl[ci]? = some (Cn, Tc, N)) (hg : (k0, g0) ∈ gr) (ho : o0 ∈ offs k0 g0) (he : cell T ad k0 g0 o0 (Y k0 g0 o0) = .inr (ci, fs)) (hn : As.length = n) (hst : st0 = As.reverse ++ .ref (ad k0 g0 o0) :: st) (hcat : (st.map fun v => v.category).sum ≤ 8) (hf : cells + k1 ≤ R.cells ∧ slots + 6 * k1 ≤ R.slots) (d : decode cc pc = .ok (.invokevirtual index, 3)) (k : FW p l e R s m args below meth c nL N0 T D gr ad (cells + k1) (slots + 6 * k1) Q Y1 (pc + 3) L (.int r1 :: st)) : FW p l e R s m args below meth c nL N0 T D gr ad cells slots Q Y pc L st0 := by
  intro H locs ls hP hS hl1
  obtain ⟨q0, hq⟩ := keys_at hg ho
  refine vx_calli (vx_runV (As := As) (rest := st) ⟨C.1, C.2.1, C.2.2.1, C.2.2.2.1, C.2.2.2.2.1⟩ hM cw ⟨WP_blind N0 T D gr ad Y (Value.ref (ad k0 g0 o0) :: As), va_recv C.2.2.2.2.2.1 hP (ci := ci) (q0 := q0) hc (by rw [wC_key hq, he]), fun U hU hW => ⟨rfl, Nat.le_trans C.2.2.2.2.2.2.2.1 (by rw [hU]; exact hS.1), by rw [hU]; exact hP, va_K.moved hW.alike C.2.2.2.2.2.1, C.2.2.2.2.2.2.1 Y, Nst_warm hW C.2.2.2.2.2.2.2.2.2.1, Stt_moved hW (by rw [hU]; exact hS.1) (fun q h1 h2 => by rw [hU]; exact hS.2.1 q (Nat.lt_of_lt_of_le h1 C.2.2.2.2.2.2.2.1) (Nat.not_le.mpr h1)) C.2.2.2.2.2.2.2.2.2.2⟩⟩ rfl hn hl1.1 hst (lv_room hcat) d hf) hS (fun q _ h => h) (fun q h => h) (fun q _ h => h) (fun E ce q9 u t H1 locs1 ht hvm hw hB hz1 hk1 hS1 h1 h2 h3 => ?_) (fun r u t H1 locs1 ht hvm hw hB hz1 hk1 hS1 => ?_)
  · cases hw
  · obtain ⟨rfl, rfl⟩ := Prod.mk.inj (Sum.inr.inj hw)
    exact k H1 locs1 ls (by rw [← ht]; exact hB) hS1 hl1
theorem fw_callXVi_l (C : Cx p s m args meth c cc nL Ts own N0 T D gr ad) {k1 k0 g0 o0 ci index n maxL N : Nat} {Cn : String} {Tc : u_T} {fs : List Value} {y : MethodName} {bytes : ByteArray} {ret : Option FieldType} {ws : List Cond} {rm : Room} {As st0 : List Value} {u1 : Nat × Mem} {K n1 : Nat} {β : Type} {Qc : Array Value → State → Outcome → State → Prop} {res : (Nat × Mem) ⊕ β}  (hM : CXi l y ws rm N0 T D gr ad Y (.ref (ad k0 g0 o0) :: As) k1 (.inl u1)) (cw : CallW R s args own Cn index y bytes maxL ret ws rm k1 (6 * k1) n) (hc : vwCl[ci]? = some (Cn, Tc, N)) (hg : (k0, g0) ∈ gr) (ho : o0 ∈ offs k0 g0) (he : cell T ad k0 g0 o0 (Y k0 g0 o0) = .inr (ci, fs)) (hn : As.length = n) (hst : st0 = As.reverse ++ .ref (ad k0 g0 o0) :: st) (hcat : (st.map fun v => v.category).sum ≤ 8) (hf : cells + k1 ≤ R.cells ∧ slots + 6 * k1 ≤ R.slots) (d : decode cc pc = .ok (.invokevirtual index, 3)) (hX : ∀ x ∈ c.exceptionTable.toList, False) (hres : .inl u1 = res) (hcK : cells + k1 ≤ K) (hsK : slots + 6 * k1 ≤ n1) : FW p l e R s m args below meth c nL N0 T D gr ad cells slots (vx_MQ below Qc (vx_X (fun u => Sum.inl u = res) (XB T D gr ad) (fun q => N0 ≤ q)) args s K n1 (fun q => N0 ≤ q)) Y pc L st0 := by
  intro H locs ls hP hS hl1
  obtain ⟨q0, hq⟩ := keys_at hg ho
  refine vx_calli (vx_runV (As := As) (rest := st) ⟨C.1, C.2.1, C.2.2.1, C.2.2.2.1, C.2.2.2.2.1⟩ hM cw ⟨WP_blind N0 T D gr ad Y (Value.ref (ad k0 g0 o0) :: As), va_recv C.2.2.2.2.2.1 hP (ci := ci) (q0 := q0) hc (by rw [wC_key hq, he]), fun U hU hW => ⟨rfl, Nat.le_trans C.2.2.2.2.2.2.2.1 (by rw [hU]; exact hS.1), by rw [hU]; exact hP, va_K.moved hW.alike C.2.2.2.2.2.1, C.2.2.2.2.2.2.1 Y, Nst_warm hW C.2.2.2.2.2.2.2.2.2.1, Stt_moved hW (by rw [hU]; exact hS.1) (fun q h1 h2 => by rw [hU]; exact hS.2.1 q (Nat.lt_of_lt_of_le h1 C.2.2.2.2.2.2.2.1) (Nat.not_le.mpr h1)) C.2.2.2.2.2.2.2.2.2.2⟩⟩ rfl hn hl1.1 hst (lv_room hcat) d hf) hS (fun q _ h => h) (fun q h => h) (fun q _ h => h) (fun E ce q9 u t H1 locs1 ht hvm hw hB hz1 hk1 hS1 h1 h2 h3 => ?_) (fun r u t H1 locs1 ht hvm hw hB hz1 hk1 hS1 => ?_)
  · obtain rfl := Sum.inl.inj hw
    exact vx_out (fun x hx => (hX x hx).elim) C.2.2.2.2.2.2.2.2.1 h1 h2 h3 (fun t9 ht9 ha9 => ⟨u, hres, ⟨hB.1, by have e := hB.2; unfold WB at e ⊢; rw [ht9, ← ht]; exact e⟩, hS1.F ht9⟩) hS1.2.2 hcK hsK
  · cases hw
theorem fw_callXVv_r (C : Cx p s m args meth c cc nL Ts own N0 T D gr ad) {k1 k0 g0 o0 ci index n maxL N : Nat} {Cn : String} {Tc : u_T} {fs : List Value} {y : MethodName} {bytes : ByteArray} {ret : Option FieldType} {ws : List Cond} {rm : Room} {As st0 : List Value} {Y1 : Mem}  (hM : CXv l y ws rm N0 T D gr ad Y (.ref (ad k0 g0 o0) :: As) k1 (.inr Y1)) (cw : CallW R s args own Cn index y bytes maxL ret ws rm k1 (6 * k1) n) (hc : vwCl[ci]? = some (Cn, Tc, N)) (hg : (k0, g0) ∈ gr) (ho : o0 ∈ offs k0 g0) (he : cell T ad k0 g0 o0 (Y k0 g0 o0) = .inr (ci, fs)) (hn : As.length = n) (hst : st0 = As.reverse ++ .ref (ad k0 g0 o0) :: st) (hcat : (st.map fun v => v.category).sum ≤ 8) (hf : cells + k1 ≤ R.cells ∧ slots + 6 * k1 ≤ R.slots) (d : decode cc pc = .ok (.invokevirtual index, 3)) (k : FW p l e R s m args below meth c nL N0 T D gr ad (cells + k1) (slots + 6 * k1) Q Y1 (pc + 3) L st) : FW p l e R s m args below meth c nL N0 T D gr ad cells slots Q Y pc L st0 := by
  intro H locs ls hP hS hl1
  obtain ⟨q0, hq⟩ := keys_at hg ho
  refine vx_callv (vx_runV (As := As) (rest := st) ⟨C.1, C.2.1, C.2.2.1, C.2.2.2.1, C.2.2.2.2.1⟩ hM cw ⟨WP_blind N0 T D gr ad Y (Value.ref (ad k0 g0 o0) :: As), va_recv C.2.2.2.2.2.1 hP (ci := ci) (q0 := q0) hc (by rw [wC_key hq, he]), fun U hU hW => ⟨rfl, Nat.le_trans C.2.2.2.2.2.2.2.1 (by rw [hU]; exact hS.1), by rw [hU]; exact hP, va_K.moved hW.alike C.2.2.2.2.2.1, C.2.2.2.2.2.2.1 Y, Nst_warm hW C.2.2.2.2.2.2.2.2.2.1, Stt_moved hW (by rw [hU]; exact hS.1) (fun q h1 h2 => by rw [hU]; exact hS.2.1 q (Nat.lt_of_lt_of_le h1 C.2.2.2.2.2.2.2.1) (Nat.not_le.mpr h1)) C.2.2.2.2.2.2.2.2.2.2⟩⟩ rfl hn hl1.1 hst (lv_room hcat) d hf) hS (fun q _ h => h) (fun q h => h) (fun q _ h => h) (fun E ce q9 u t H1 locs1 ht hvm hw hB hz1 hk1 hS1 h1 h2 h3 => ?_) (fun u t H1 locs1 ht hvm hw hB hz1 hk1 hS1 => ?_)
  · cases hw
  · obtain rfl := Sum.inr.inj hw
    exact k H1 locs1 ls (by rw [← ht]; exact hB) hS1 hl1
theorem fw_callXVv_l (C : Cx p s m args meth c cc nL Ts own N0 T D gr ad) {k1 k0 g0 o0 ci index n maxL N : Nat} {Cn : String} {Tc : u_T} {fs : List Value} {y : MethodName} {bytes : ByteArray} {ret : Option FieldType} {ws : List Cond} {rm : Room} {As st0 : List Value} {u1 : Nat × Mem} {K n1 : Nat} {β : Type} {Qc : Array Value → State → Outcome → State → Prop} {res : (Nat × Mem) ⊕ β}  (hM : CXv l y ws rm N0 T D gr ad Y (.ref (ad k0 g0 o0) :: As) k1 (.inl u1)) (cw : CallW R s args own Cn index y bytes maxL ret ws rm k1 (6 * k1) n) (hc : vwCl[ci]? = some (Cn, Tc, N)) (hg : (k0, g0) ∈ gr) (ho : o0 ∈ offs k0 g0) (he : cell T ad k0 g0 o0 (Y k0 g0 o0) = .inr (ci, fs)) (hn : As.length = n) (hst : st0 = As.reverse ++ .ref (ad k0 g0 o0) :: st) (hcat : (st.map fun v => v.category).sum ≤ 8) (hf : cells + k1 ≤ R.cells ∧ slots + 6 * k1 ≤ R.slots) (d : decode cc pc = .ok (.invokevirtual index, 3)) (hX : ∀ x ∈ c.exceptionTable.toList, False) (hres : .inl u1 = res) (hcK : cells + k1 ≤ K) (hsK : slots + 6 * k1 ≤ n1) : FW p l e R s m args below meth c nL N0 T D gr ad cells slots (vx_MQ below Qc (vx_X (fun u => Sum.inl u = res) (XB T D gr ad) (fun q => N0 ≤ q)) args s K n1 (fun q => N0 ≤ q)) Y pc L st0 := by
  intro H locs ls hP hS hl1
  obtain ⟨q0, hq⟩ := keys_at hg ho
  refine vx_callv (vx_runV (As := As) (rest := st) ⟨C.1, C.2.1, C.2.2.1, C.2.2.2.1, C.2.2.2.2.1⟩ hM cw ⟨WP_blind N0 T D gr ad Y (Value.ref (ad k0 g0 o0) :: As), va_recv C.2.2.2.2.2.1 hP (ci := ci) (q0 := q0) hc (by rw [wC_key hq, he]), fun U hU hW => ⟨rfl, Nat.le_trans C.2.2.2.2.2.2.2.1 (by rw [hU]; exact hS.1), by rw [hU]; exact hP, va_K.moved hW.alike C.2.2.2.2.2.1, C.2.2.2.2.2.2.1 Y, Nst_warm hW C.2.2.2.2.2.2.2.2.2.1, Stt_moved hW (by rw [hU]; exact hS.1) (fun q h1 h2 => by rw [hU]; exact hS.2.1 q (Nat.lt_of_lt_of_le h1 C.2.2.2.2.2.2.2.1) (Nat.not_le.mpr h1)) C.2.2.2.2.2.2.2.2.2.2⟩⟩ rfl hn hl1.1 hst (lv_room hcat) d hf) hS (fun q _ h => h) (fun q h => h) (fun q _ h => h) (fun E ce q9 u t H1 locs1 ht hvm hw hB hz1 hk1 hS1 h1 h2 h3 => ?_) (fun u t H1 locs1 ht hvm hw hB hz1 hk1 hS1 => ?_)
  · obtain rfl := Sum.inl.inj hw
    exact vx_out (fun x hx => (hX x hx).elim) C.2.2.2.2.2.2.2.2.1 h1 h2 h3 (fun t9 ht9 ha9 => ⟨u, hres, ⟨hB.1, by have e := hB.2; unfold WB at e ⊢; rw [ht9, ← ht]; exact e⟩, hS1.F ht9⟩) hS1.2.2 hcK hsK
  · cases hw
end FWR4
theorem fw_xbody {l : Launch} {y : MethodName} {ws ws' : List Cond} {rm : Room} {cc : ByteArray} {maxL : Nat} {ret : Option FieldType} {N0 : Nat} {T : Nat → ClassId} {D : va_G} {gr : List (Nat × Nat)} {ad : Nat → Nat → Nat → Nat} {Y : Mem} {av : List Value} {Qc : Array Value → State → Outcome → State → Prop} {XC : String → State → State → Prop} {K n : Nat}
    (hy : plainName y.cls = true) (hw : ws = Cond.code y cc maxL ret :: ws') (hlen : (lg_sl av).length ≤ maxL)
    (body : ∀ (p : Program) (e : Env) (s : State) (m : MethodId) (below : List Frame) (meth : Method) (c : Code), Cx p s m av.toArray meth c cc maxL ws y.cls N0 T D gr ad → meth.sig.returnType = ret → (∀ x ∈ c.exceptionTable.toList, False) →
      FW p l e rm s m av.toArray below meth c maxL N0 T D gr ad 0 0 (vx_MQ below Qc XC av.toArray s K n (fun q => N0 ≤ q)) Y 0 (lv_args 0 av) []) :
    vx_Met l y ws rm (va_Pc av (WP N0 T D gr ad Y)) Qc XC K n (fun q => N0 ≤ q) := by
  refine vx_ofW (cc := cc) (maxL := maxL) (ret := ret) hy hw ?_
  intro p e s m args below meth c s₁ B hml ht hv
  obtain ⟨rfl, h1, h2, h3, h4, h5, h6⟩ := hv
  have hl := lv_entry av hlen
  rw [lg_entry_eq]
  exact body p e s m below meth c ⟨B.exec, B.bytes, hml, findClass_of_methodNamed B.named, atoms_spec (ws := ws) B.pre, h3, fun Y' => wC_D h4 Y', h1, B.notSynchronized, h5, h6⟩ B.returns ht s.heap [] _ h2 va_S.rf hl
