/-! PHASE 3: CONSTRUCTORS: rows; worlds by membership -/
def PM (D : va_G) (ws : va_W) (H : Heap) : Prop := ∀ q ∈ ws, va_at D vwCl q H
def DM (A : Nat → Prop) (ws : va_W) : Prop := ws.Pairwise (fun a b => a.1 ≠ b.1) ∧ ∀ q ∈ ws, A q.1
theorem PM.to {D : va_G} {ws : va_W} {H : Heap} (h : PM D ws H) : va_P D vwCl ws H := fun _ q hk => h q (List.mem_of_getElem? hk)
theorem PM.of {D : va_G} {ws : va_W} {H : Heap} (h : va_P D vwCl ws H) : PM D ws H := fun q hq => by
  obtain ⟨k, hk⟩ := List.getElem?_of_mem hq
  exact h k q hk
theorem DM.lt {A : Nat → Prop} {ws : va_W} (h : DM A ws) {i j : Nat} {p q : Nat × va_E} (hi : ws[i]? = some p) (hj : ws[j]? = some q) (hl : i < j) : p.1 ≠ q.1 := by
  obtain ⟨h1, e1⟩ := List.getElem?_eq_some_iff.mp hi
  obtain ⟨h2, e2⟩ := List.getElem?_eq_some_iff.mp hj
  have h3 := List.pairwise_iff_getElem.mp h.1 i j h1 h2 hl
  rw [e1, e2] at h3
  exact h3
theorem DM.to {A : Nat → Prop} {ws : va_W} (h : DM A ws) : va_D A ws := by
  refine ⟨fun i j p q hi hj e => ?_, fun k q hk => h.2 q (List.mem_of_getElem? hk)⟩
  rcases Nat.lt_trichotomy i j with hl | hl | hl
  · exact absurd e (h.lt hi hj hl)
  · exact hl
  · exact absurd e.symm (h.lt hj hi hl)
theorem DM.of {A : Nat → Prop} {ws : va_W} (h : va_D A ws) : DM A ws := by
  refine ⟨List.pairwise_iff_getElem.mpr fun i j hi hj hl e => ?_, fun q hq => ?_⟩
  · exact absurd (h.1 i j _ _ (List.getElem?_eq_getElem hi) (List.getElem?_eq_getElem hj) e) (Nat.ne_of_lt hl)
  · obtain ⟨k, hk⟩ := List.getElem?_of_mem hq
    exact h.2 k q hk
theorem PM.kept {D : va_G} {ws : va_W} {H H1 : Heap} (h : PM D ws H) (hk : ∀ q ∈ ws, H1[q.1]? = H[q.1]?) : PM D ws H1 := PM.of (h.to.kept fun _ x hx => hk x (List.mem_of_getElem? hx))
theorem PM.app {D : va_G} {w1 w2 : va_W} {H : Heap} (h1 : PM D w1 H) (h2 : PM D w2 H) : PM D (w1 ++ w2) H := fun q hq => (List.mem_append.mp hq).elim (h1 q) (h2 q)
theorem PM.cons {D : va_G} {x : Nat × va_E} {w2 : va_W} {H : Heap} (h1 : va_at D vwCl x H) (h2 : PM D w2 H) : PM D (x :: w2) H := fun q hq => by
  rcases List.mem_cons.mp hq with rfl | h
  · exact h1
  · exact h2 q h
theorem DM.cons {A : Nat → Prop} {ws : va_W} {a : Nat} {e : va_E} (h : DM A ws) (h1 : A a) (h2 : ∀ q ∈ ws, a ≠ q.1) : DM A ((a, e) :: ws) :=
  ⟨List.pairwise_cons.mpr ⟨h2, h.1⟩, fun q hq => by
    rcases List.mem_cons.mp hq with rfl | h3
    · exact h1
    · exact h.2 q h3⟩
theorem DM.perm {A : Nat → Prop} {w1 w2 : va_W} (hp : w1.Perm w2) (h : DM A w1) : DM A w2 := ⟨(hp.pairwise_iff (fun h => Ne.symm h)).mp h.1, fun q hq => h.2 q (hp.mem_iff.mpr hq)⟩
theorem PM.perm {D : va_G} {w1 w2 : va_W} {H : Heap} (hp : w1.Perm w2) (h : PM D w1 H) : PM D w2 H := fun q hq => h q (hp.mem_iff.mpr hq)
theorem va_S_step {A : Nat → Prop} {H0 H H1 : Heap} {locs locs1 : List Loc} (h1 : va_S A H0 H locs) (h2 : va_S A H H1 locs1) : va_S A H0 H1 locs1 :=
  ⟨Nat.le_trans h1.1 h2.1, fun q hq hA => (h2.2.1 q (Nat.lt_of_lt_of_le hq h1.1) hA).trans (h1.2.1 q hq hA), h2.2.2⟩
theorem va_S_here {A : Nat → Prop} {H0 H : Heap} {locs : List Loc} (h : va_S A H0 H locs) : va_S A H H locs := ⟨Nat.le_refl _, fun _ _ _ => rfl, h.2.2⟩
theorem va_S_grow {A : Nat → Prop} {H0 H H1 : Heap} {locs : List Loc} (h : va_S A H0 H locs) (hz : H.size ≤ H1.size) (ho : ∀ q : Nat, q < H.size → H1[q]? = H[q]?) : va_S A H0 H1 locs :=
  ⟨Nat.le_trans h.1 hz, fun q hq hA => (ho q (Nat.lt_of_lt_of_le hq h.1)).trans (h.2.1 q hq hA), h.2.2⟩
/-- the classes of arrays that no word of a method can carry -/
def Aov (U : State) : Prop := va_AO RX8 U ∧ va_AO RX1 U ∧ AOA .byte U ∧ AOA .int U
theorem Aov.moved {u U : State} (hvm : u.vm.Alike U.vm) (h : Aov u) : Aov U := ⟨h.1.moved hvm, h.2.1.moved hvm, h.2.2.1.moved hvm, h.2.2.2.moved hvm⟩
def CG (p : Program) (s : State) (m : MethodId) (args : Array Value) (meth : Method) (c : Code) (cc : ByteArray) (nL : Nat) (Ts : List Cond) (own : String) (T : Nat → ClassId) (D : va_G) (A : Nat → Prop) (sz : Nat) : Prop :=
  p.tables.exec = Jvm.exec ∧ c.code = cc ∧ c.maxLocals = nL ∧ s.vm.findClass own = some m.cls ∧ (∀ w ∈ Ts, w.before args s = true) ∧ va_K D vwCl (ftys T) s ∧ (∀ q : Nat, s.heap.size ≤ q → A q) ∧ meth.locks = false ∧ Nst s ∧ Aov s ∧ s.heap.size = sz
def GW (p : Program) (l : Launch) (e : Env) (R : Room) (s : State) (m : MethodId) (args : Array Value) (below : List Frame) (meth : Method) (c : Code) (nL : Nat) (D : va_G) (A : Nat → Prop) (sz cells slots : Nat) (Q : State → Prop) (ws : va_W) (pc : Nat) (L : List (Nat × Value)) (st : List Value) : Prop :=
  ∀ (H : Heap) (locs : List Loc) (ls : Array Slot), PM D ws H → DM A ws → H.size = sz + cells → va_S A s.heap H locs → lv_has ls nL L → W p l e R s m args below meth c H locs cells slots Q (F0 m pc ls st)
def Afr (h sz : Nat) (q : Nat) : Prop := q = h ∨ sz ≤ q
abbrev Ct (l : Launch) (y : MethodName) (wsy : List Cond) (rm : Room) (D : va_G) (T : Nat → ClassId) (av : List Value) (h : Nat) (raw : va_E) (sz : Nat) (w1 : va_W) (k n : Nat) : Prop :=
  Met l y wsy rm (va_Pc (.ref h :: av) (fun U => U.heap.size = sz ∧ PM D [(h, raw)] U.heap ∧ va_K D vwCl (ftys T) U ∧ Nst U ∧ Aov U)) (va_Qv (fun _ : Unit => True) (fun _ t => PM D w1 t.heap ∧ t.heap.size = sz + k ∧ DM (Afr h sz) w1) (Afr h sz)) k n (Afr h sz)
theorem Ct_blind (D : va_G) (T : Nat → ClassId) (av : List Value) (h : Nat) (raw : va_E) (sz : Nat) : FrameBlind (va_Pc (.ref h :: av) (fun U => U.heap.size = sz ∧ PM D [(h, raw)] U.heap ∧ va_K D vwCl (ftys T) U ∧ Nst U ∧ Aov U)) := by
  intro a U g mk h
  obtain ⟨h0, h1, h2, h3, h4, h5⟩ := h
  exact ⟨h0, h1, h2, va_K.moved (u := U) (U := U.calling g mk a) (Vm.Alike.refl U.vm) h3, Nst_same (u := U) rfl h4, Aov.moved (u := U) (U := U.calling g mk a) (Vm.Alike.refl U.vm) h5⟩
section GWR
variable {p : Program} {l : Launch} {e : Env} {R : Room} {s : State} {m : MethodId} {args : Array Value} {below : List Frame} {meth : Method} {c : Code} {cc : ByteArray} {nL : Nat} {T : Nat → ClassId} {D : va_G} {A : Nat → Prop} {sz cells slots : Nat} {Q : State → Prop} {ws : va_W} {pc : Nat} {L L' : List (Nat × Value)} {st : List Value} {Ts : List Cond} {own : String}
theorem W_sz {H : Heap} {locs : List Loc} {g : JFrame} (k : H.size ≤ s.heap.size + cells → W p l e R s m args below meth c H locs cells slots Q g) : W p l e R s m args below meth c H locs cells slots Q g :=
  fun T0 hT X => k (by rw [← hT]; exact X.heapSize) T0 hT X
theorem cg_ts (C : CG p s m args meth c cc nL Ts own T D A sz) : ∀ w ∈ Ts, w.before args s = true := C.2.2.2.2.1
theorem cg_nst (C : CG p s m args meth c cc nL Ts own T D A sz) : Nst s := C.2.2.2.2.2.2.2.2.1
theorem cg_aov (C : CG p s m args meth c cc nL Ts own T D A sz) : Aov s := C.2.2.2.2.2.2.2.2.2.1
theorem cg_sz (C : CG p s m args meth c cc nL Ts own T D A sz) : s.heap.size = sz := C.2.2.2.2.2.2.2.2.2.2
theorem cg_fresh (C : CG p s m args meth c cc nL Ts own T D A sz) {q : Nat} (h : sz ≤ q) : A q := C.2.2.2.2.2.2.1 q (by rw [cg_sz C]; exact h)
theorem gw_perm {ws' : va_W} (hp : ws.Perm ws') (k : GW p l e R s m args below meth c nL D A sz cells slots Q ws' pc L st) : GW p l e R s m args below meth c nL D A sz cells slots Q ws pc L st :=
  fun H locs ls hP hD hz hS hl1 => k H locs ls (hP.perm hp) (hD.perm hp) hz hS hl1
theorem gw_world {ws' : va_W} (hp : ws = ws') (k : GW p l e R s m args below meth c nL D A sz cells slots Q ws' pc L st) : GW p l e R s m args below meth c nL D A sz cells slots Q ws pc L st := by
  subst hp; exact k
theorem gw_sub (ks : List Nat) (hl : lv_pick L ks = L') (k : GW p l e R s m args below meth c nL D A sz cells slots Q ws pc L' st) : GW p l e R s m args below meth c nL D A sz cells slots Q ws pc L st :=
  fun H locs ls hP hD hz hS hl1 => k H locs ls hP hD hz hS (lv_sub hl1 ks hl)
theorem gw_top {v v' : Value} (h : v = v') (k : GW p l e R s m args below meth c nL D A sz cells slots Q ws pc L (v' :: st)) : GW p l e R s m args below meth c nL D A sz cells slots Q ws pc L (v :: st) := by
  subst h; exact k
theorem gw_st {st' : List Value} (h : st = st') (k : GW p l e R s m args below meth c nL D A sz cells slots Q ws pc L st') : GW p l e R s m args below meth c nL D A sz cells slots Q ws pc L st := by
  subst h; exact k
theorem gw_L {L1 : List (Nat × Value)} (h : L = L1) (k : GW p l e R s m args below meth c nL D A sz cells slots Q ws pc L1 st) : GW p l e R s m args below meth c nL D A sz cells slots Q ws pc L st := by
  subst h; exact k
theorem gw_iload_n (C : CG p s m args meth c cc nL Ts own T D A sz) {kk : Fin 4} {i : Nat} {x : Int32} (d : decode cc pc = .ok (.iload_n kk, 1)) (hi : (kk : Nat) = i) (j : Nat) (hj : L[j]? = some (i, .int x)) (k : GW p l e R s m args below meth c nL D A sz cells slots Q ws (pc + 1) L (.int x :: st)) : GW p l e R s m args below meth c nL D A sz cells slots Q ws pc L st :=
  fun H locs ls hP hD hz hS hl1 => lv_iload_n C.1 C.2.1 d hi (lv_at hl1 j hj) (k H locs ls hP hD hz hS hl1)
theorem gw_iload (C : CG p s m args meth c cc nL Ts own T D A sz) {i : Nat} {x : Int32} (d : decode cc pc = .ok (.iload i, 2)) (j : Nat) (hj : L[j]? = some (i, .int x)) (k : GW p l e R s m args below meth c nL D A sz cells slots Q ws (pc + 2) L (.int x :: st)) : GW p l e R s m args below meth c nL D A sz cells slots Q ws pc L st :=
  fun H locs ls hP hD hz hS hl1 => lv_iload C.1 C.2.1 d (lv_at hl1 j hj) (k H locs ls hP hD hz hS hl1)
theorem gw_aload_n (C : CG p s m args meth c cc nL Ts own T D A sz) {kk : Fin 4} {i : Nat} {x : Nat} (d : decode cc pc = .ok (.aload_n kk, 1)) (hi : (kk : Nat) = i) (j : Nat) (hj : L[j]? = some (i, .ref x)) (k : GW p l e R s m args below meth c nL D A sz cells slots Q ws (pc + 1) L (.ref x :: st)) : GW p l e R s m args below meth c nL D A sz cells slots Q ws pc L st :=
  fun H locs ls hP hD hz hS hl1 => lv_aload_n C.1 C.2.1 d hi (lv_at hl1 j hj) (k H locs ls hP hD hz hS hl1)
theorem gw_aload (C : CG p s m args meth c cc nL Ts own T D A sz) {i : Nat} {x : Nat} (d : decode cc pc = .ok (.aload i, 2)) (j : Nat) (hj : L[j]? = some (i, .ref x)) (k : GW p l e R s m args below meth c nL D A sz cells slots Q ws (pc + 2) L (.ref x :: st)) : GW p l e R s m args below meth c nL D A sz cells slots Q ws pc L st :=
  fun H locs ls hP hD hz hS hl1 => lv_aload C.1 C.2.1 d (lv_at hl1 j hj) (k H locs ls hP hD hz hS hl1)
theorem gw_istore_n (C : CG p s m args meth c cc nL Ts own T D A sz) {kk : Fin 4} {i : Nat} {x : Int32} (d : decode cc pc = .ok (.istore_n kk, 1)) (hi : (kk : Nat) = i) (hn : i < nL) (hl : (i, Value.int x) :: L.filter (fun q => !(q.1 == i) && !(q.1 + 1 == i && q.2.category == 2)) = L') (k : GW p l e R s m args below meth c nL D A sz cells slots Q ws (pc + 1) L' st) : GW p l e R s m args below meth c nL D A sz cells slots Q ws pc L (.int x :: st) :=
  fun H locs ls hP hD hz hS hl1 => lv_istore_n C.1 C.2.1 d hi hl1 hn hl (fun ls1 hl2 => k H locs ls1 hP hD hz hS hl2)
theorem gw_istore (C : CG p s m args meth c cc nL Ts own T D A sz) {i : Nat} {x : Int32} (d : decode cc pc = .ok (.istore i, 2)) (hn : i < nL) (hl : (i, Value.int x) :: L.filter (fun q => !(q.1 == i) && !(q.1 + 1 == i && q.2.category == 2)) = L') (k : GW p l e R s m args below meth c nL D A sz cells slots Q ws (pc + 2) L' st) : GW p l e R s m args below meth c nL D A sz cells slots Q ws pc L (.int x :: st) :=
  fun H locs ls hP hD hz hS hl1 => lv_istore C.1 C.2.1 d hl1 hn hl (fun ls1 hl2 => k H locs ls1 hP hD hz hS hl2)
theorem gw_astore_n (C : CG p s m args meth c cc nL Ts own T D A sz) {kk : Fin 4} {i : Nat} {x : Nat} (d : decode cc pc = .ok (.astore_n kk, 1)) (hi : (kk : Nat) = i) (hn : i < nL) (hl : (i, Value.ref x) :: L.filter (fun q => !(q.1 == i) && !(q.1 + 1 == i && q.2.category == 2)) = L') (k : GW p l e R s m args below meth c nL D A sz cells slots Q ws (pc + 1) L' st) : GW p l e R s m args below meth c nL D A sz cells slots Q ws pc L (.ref x :: st) :=
  fun H locs ls hP hD hz hS hl1 => lv_astore_n C.1 C.2.1 d hi hl1 hn hl (fun ls1 hl2 => k H locs ls1 hP hD hz hS hl2)
theorem gw_astore (C : CG p s m args meth c cc nL Ts own T D A sz) {i : Nat} {x : Nat} (d : decode cc pc = .ok (.astore i, 2)) (hn : i < nL) (hl : (i, Value.ref x) :: L.filter (fun q => !(q.1 == i) && !(q.1 + 1 == i && q.2.category == 2)) = L') (k : GW p l e R s m args below meth c nL D A sz cells slots Q ws (pc + 2) L' st) : GW p l e R s m args below meth c nL D A sz cells slots Q ws pc L (.ref x :: st) :=
  fun H locs ls hP hD hz hS hl1 => lv_astore C.1 C.2.1 d hl1 hn hl (fun ls1 hl2 => k H locs ls1 hP hD hz hS hl2)
theorem gw_iinc (C : CG p s m args meth c cc nL Ts own T D A sz) {i kk : Nat} {n : Int} {x v : Int32} (d : decode cc pc = .ok (.iinc i n, 3)) (hk : L[kk]? = some (i, .int x)) (hv : x + Int32.ofInt n = v) (hn : i < nL) (hl : (i, Value.int v) :: L.filter (fun q => !(q.1 == i) && !(q.1 + 1 == i && q.2.category == 2)) = L') (k : GW p l e R s m args below meth c nL D A sz cells slots Q ws (pc + 3) L' st) : GW p l e R s m args below meth c nL D A sz cells slots Q ws pc L st :=
  fun H locs ls hP hD hz hS hl1 => lv_iinc C.1 C.2.1 d hl1 (k := kk) hk hv hn hl (fun ls1 hl2 => k H locs ls1 hP hD hz hS hl2)
theorem gw_iconst (C : CG p s m args meth c cc nL Ts own T D A sz) {n : Int} {v : Int32} (d : decode cc pc = .ok (.iconst n, 1)) (hv : Int32.ofInt n = v) (k : GW p l e R s m args below meth c nL D A sz cells slots Q ws (pc + 1) L (.int v :: st)) : GW p l e R s m args below meth c nL D A sz cells slots Q ws pc L st :=
  fun H locs ls hP hD hz hS hl1 => lv_iconst C.1 C.2.1 d hv (k H locs ls hP hD hz hS hl1)
theorem gw_bipush (C : CG p s m args meth c cc nL Ts own T D A sz) {n : Int} {v : Int32} (d : decode cc pc = .ok (.bipush n, 2)) (hv : (Int8.ofInt n).toInt32 = v) (k : GW p l e R s m args below meth c nL D A sz cells slots Q ws (pc + 2) L (.int v :: st)) : GW p l e R s m args below meth c nL D A sz cells slots Q ws pc L st :=
  fun H locs ls hP hD hz hS hl1 => lv_bipush C.1 C.2.1 d hv (k H locs ls hP hD hz hS hl1)
theorem gw_sipush (C : CG p s m args meth c cc nL Ts own T D A sz) {n : Int} {v : Int32} (d : decode cc pc = .ok (.sipush n, 3)) (hv : (Int16.ofInt n).toInt32 = v) (k : GW p l e R s m args below meth c nL D A sz cells slots Q ws (pc + 3) L (.int v :: st)) : GW p l e R s m args below meth c nL D A sz cells slots Q ws pc L st :=
  fun H locs ls hP hD hz hS hl1 => lv_sipush C.1 C.2.1 d hv (k H locs ls hP hD hz hS hl1)
theorem gw_dup (C : CG p s m args meth c cc nL Ts own T D A sz) {va : Value} (d : decode cc pc = .ok (.dup, 1)) (hva : va.category = 1) (k : GW p l e R s m args below meth c nL D A sz cells slots Q ws (pc + 1) L (va :: va :: st)) : GW p l e R s m args below meth c nL D A sz cells slots Q ws pc L (va :: st) :=
  fun H locs ls hP hD hz hS hl1 => lv_dup C.1 C.2.1 d hva (k H locs ls hP hD hz hS hl1)
theorem gw_pop (C : CG p s m args meth c cc nL Ts own T D A sz) {va : Value} (d : decode cc pc = .ok (.pop, 1)) (hva : va.category = 1) (k : GW p l e R s m args below meth c nL D A sz cells slots Q ws (pc + 1) L st) : GW p l e R s m args below meth c nL D A sz cells slots Q ws pc L (va :: st) :=
  fun H locs ls hP hD hz hS hl1 => lv_pop C.1 C.2.1 d hva (k H locs ls hP hD hz hS hl1)
theorem gw_goto (C : CG p s m args meth c cc nL Ts own T D A sz) {off : Int} {tgt : Nat} (d : decode cc pc = .ok (.goto off, 3)) (ht : (pc : Int) + off = (tgt : Int)) (k : GW p l e R s m args below meth c nL D A sz cells slots Q ws tgt L st) : GW p l e R s m args below meth c nL D A sz cells slots Q ws pc L st :=
  fun H locs ls hP hD hz hS hl1 => lv_goto C.1 C.2.1 d ht (k H locs ls hP hD hz hS hl1)
theorem gw_icmp_ge (C : CG p s m args meth c cc nL Ts own T D A sz) {x y : Int32} {off : Int} {tgt : Nat} (d : decode cc pc = .ok (.if_icmp .ge off, 3)) (ht : (pc : Int) + off = (tgt : Int)) (kt : y ≤ x → GW p l e R s m args below meth c nL D A sz cells slots Q ws tgt L st) (kf : ¬ (y ≤ x) → GW p l e R s m args below meth c nL D A sz cells slots Q ws (pc + 3) L st) : GW p l e R s m args below meth c nL D A sz cells slots Q ws pc L (.int y :: .int x :: st) :=
  fun H locs ls hP hD hz hS hl1 => lv_icmp_ge C.1 C.2.1 d ht (fun h => kt h H locs ls hP hD hz hS hl1) (fun h => kf h H locs ls hP hD hz hS hl1)
theorem gw_icmp_gt (C : CG p s m args meth c cc nL Ts own T D A sz) {x y : Int32} {off : Int} {tgt : Nat} (d : decode cc pc = .ok (.if_icmp .gt off, 3)) (ht : (pc : Int) + off = (tgt : Int)) (kt : y < x → GW p l e R s m args below meth c nL D A sz cells slots Q ws tgt L st) (kf : ¬ (y < x) → GW p l e R s m args below meth c nL D A sz cells slots Q ws (pc + 3) L st) : GW p l e R s m args below meth c nL D A sz cells slots Q ws pc L (.int y :: .int x :: st) :=
  fun H locs ls hP hD hz hS hl1 => lv_icmp_gt C.1 C.2.1 d ht (fun h => kt h H locs ls hP hD hz hS hl1) (fun h => kf h H locs ls hP hD hz hS hl1)
/-- Object.<init> -/
theorem gw_objInit (C : CG p s m args meth c cc nL Ts own T D A sz) {idx a : Nat} (hlink : Cond.methodLink own idx objectInit ∈ Ts) (hinst : Cond.instanceMethod objectInit ∈ Ts) (hcode : Cond.code objectInit ⟨#[0xb1]⟩ 1 none ∈ Ts) (hst : st.length = 0) (hR : 1 ≤ R.frames ∧ 12 ≤ R.locals) (d : decode cc pc = .ok (.invokespecial idx, 3)) (k : GW p l e R s m args below meth c nL D A sz cells slots Q ws (pc + 3) L st) : GW p l e R s m args below meth c nL D A sz cells slots Q ws pc L (.ref a :: st) := by
  intro H locs ls hP hD hz hS hl1
  obtain rfl := List.length_eq_zero_iff.mp hst
  refine W.objInit C.1 C.2.1 C.2.2.2.1 (cg_ts C _ hlink) (cg_ts C _ hinst) (cg_ts C _ hcode) rfl (by rw [C.2.2.1]; exact hl1.1) rfl d hR.1 (by simpa [F0, JFrame.monitorRoom] using hR.2) ?_
  exact W.eq (g2 := F0 m (pc + 3) ls []) rfl (k H locs ls hP hD hz hS hl1)
theorem gw_putF (C : CG p s m args meth c cc nL Ts own T D A sz) (hmn : meth.name = "<init>") {ci index N j a : Nat} {ref Cn : String} {Tc : u_T} {tyc : Nat → FieldType} {fs : List Value} {v : Value} {ty : FieldType} {ws' : va_W} (q0 : Nat) (he : ws[q0]? = some (a, .inr (ci, fs))) (hlay : ∀ w ∈ u_ws Cn Tc N, w ∈ Ts) (hc : vwCl[ci]? = some (Cn, Tc, N)) (hty : ∀ k, k < N → parseFieldDescriptor (Tc k).2.2.1 = some (tyc k)) (hnm : ∀ a, a < N → ∀ b, b < N → a ≠ b → (Tc a).2.1 ≠ (Tc b).2.1) (hj : j < N) (hlink : (Cond.fieldLink own index ref (Tc j).2.1 (Tc j).2.2.1).before args s = true) (hsame : ∀ x, s.fieldFound? (Tc j).1 (Tc j).2.1 (Tc j).2.2.1 = some x → s.fieldFound? ref (Tc j).2.1 (Tc j).2.2.1 = some x) (hfin : (Tc j).2.2.2 = true) (hdecl : (Tc j).1 = own) (hd : parseFieldDescriptor (Tc j).2.2.1 = some ty) (hn : narrow ty v = v) (hfit : fits ty v = true) (hl : j < fs.length) (hw : ws.set q0 (a, .inr (ci, fs.set j v)) = ws') (d : decode cc pc = .ok (.putfield index, 3)) (k : GW p l e R s m args below meth c nL D A sz cells slots Q ws' (pc + 3) L st) : GW p l e R s m args below meth c nL D A sz cells slots Q ws pc L (v :: .ref a :: st) := by
  intro H locs ls hP hD hz hS hl1
  subst hw
  refine va_putF C.1 C.2.1 C.2.2.2.2.1 hlay tyc hty hnm C.2.2.2.1 C.2.2.2.2.2.1 hP.to hD.to (va_S_here hS) q0 he hc j hj hlink hsame hfin hmn hdecl hd hn hfit hl d (fun H1 locs1 hP1 hD1 hS1 => W_sz fun hu => ?_)
  exact k H1 locs1 ls (PM.of hP1) (DM.of hD1) (by have h1 := hS1.1; rw [cg_sz C] at hu; omega) (va_S_step hS hS1) hl1
theorem gw_put (C : CG p s m args meth c cc nL Ts own T D A sz) {ci index N j a : Nat} {ref Cn : String} {Tc : u_T} {tyc : Nat → FieldType} {fs : List Value} {v : Value} {ty : FieldType} {ws' : va_W} (q0 : Nat) (he : ws[q0]? = some (a, .inr (ci, fs))) (hlay : ∀ w ∈ u_ws Cn Tc N, w ∈ Ts) (hc : vwCl[ci]? = some (Cn, Tc, N)) (hty : ∀ k, k < N → parseFieldDescriptor (Tc k).2.2.1 = some (tyc k)) (hnm : ∀ a, a < N → ∀ b, b < N → a ≠ b → (Tc a).2.1 ≠ (Tc b).2.1) (hj : j < N) (hlink : (Cond.fieldLink own index ref (Tc j).2.1 (Tc j).2.2.1).before args s = true) (hsame : ∀ x, s.fieldFound? (Tc j).1 (Tc j).2.1 (Tc j).2.2.1 = some x → s.fieldFound? ref (Tc j).2.1 (Tc j).2.2.1 = some x) (hfin : (Tc j).2.2.2 = false) (hd : parseFieldDescriptor (Tc j).2.2.1 = some ty) (hn : narrow ty v = v) (hfit : fits ty v = true) (hl : j < fs.length) (hw : ws.set q0 (a, .inr (ci, fs.set j v)) = ws') (d : decode cc pc = .ok (.putfield index, 3)) (k : GW p l e R s m args below meth c nL D A sz cells slots Q ws' (pc + 3) L st) : GW p l e R s m args below meth c nL D A sz cells slots Q ws pc L (v :: .ref a :: st) := by
  intro H locs ls hP hD hz hS hl1
  subst hw
  refine va_put C.1 C.2.1 C.2.2.2.2.1 hlay tyc hty hnm C.2.2.2.1 C.2.2.2.2.2.1 hP.to hD.to (va_S_here hS) q0 he hc j hj hlink hsame hfin hd hn hfit hl d (fun H1 locs1 hP1 hD1 hS1 => W_sz fun hu => ?_)
  exact k H1 locs1 ls (PM.of hP1) (DM.of hD1) (by have h1 := hS1.1; rw [cg_sz C] at hu; omega) (va_S_step hS hS1) hl1
theorem gw_putN (C : CG p s m args meth c cc nL Ts own T D A sz) {ci index N j a : Nat} {ref Cn host : String} {Tc : u_T} {tyc : Nat → FieldType} {fs : List Value} {v : Value} {ty : FieldType} {ws' : va_W} (q0 : Nat) (he : ws[q0]? = some (a, .inr (ci, fs))) (hlay : ∀ w ∈ u_ws Cn Tc N, w ∈ Ts) (hc : vwCl[ci]? = some (Cn, Tc, N)) (hty : ∀ k, k < N → parseFieldDescriptor (Tc k).2.2.1 = some (tyc k)) (hnm : ∀ a, a < N → ∀ b, b < N → a ≠ b → (Tc a).2.1 ≠ (Tc b).2.1) (hj : j < N) (hlink : (Cond.fieldLinkNest own index ref (Tc j).2.1 (Tc j).2.2.1 host).before args s = true) (hsame : ∀ x, s.fieldFound? (Tc j).1 (Tc j).2.1 (Tc j).2.2.1 = some x → s.fieldFound? ref (Tc j).2.1 (Tc j).2.2.1 = some x) (hfin : (Tc j).2.2.2 = false) (hd : parseFieldDescriptor (Tc j).2.2.1 = some ty) (hn : narrow ty v = v) (hfit : fits ty v = true) (hl : j < fs.length) (hw : ws.set q0 (a, .inr (ci, fs.set j v)) = ws') (d : decode cc pc = .ok (.putfield index, 3)) (k : GW p l e R s m args below meth c nL D A sz cells slots Q ws' (pc + 3) L st) : GW p l e R s m args below meth c nL D A sz cells slots Q ws pc L (v :: .ref a :: st) := by
  intro H locs ls hP hD hz hS hl1
  subst hw
  refine va_putN C.1 C.2.1 C.2.2.2.2.1 hlay tyc hty hnm C.2.2.2.1 C.2.2.2.2.2.1 hP.to hD.to (va_S_here hS) q0 he hc j hj hlink hsame hfin hd hn hfit hl d (fun H1 locs1 hP1 hD1 hS1 => W_sz fun hu => ?_)
  exact k H1 locs1 ls (PM.of hP1) (DM.of hD1) (by have h1 := hS1.1; rw [cg_sz C] at hu; omega) (va_S_step hS hS1) hl1
/-- a new object -/
theorem gw_new (C : CG p s m args meth c cc nL Ts own T D A sz) {ci index N : Nat} {Cn : String} {Tc : u_T} {fs : List Value} (ty : Nat → FieldType) (hlay : ∀ w ∈ u_ws Cn Tc N, w ∈ Ts) (hty : ∀ k, k < N → parseFieldDescriptor (Tc k).2.2.1 = some (ty k)) (hcl : Cond.classLink own index Cn ∈ Ts) (hinst : Cond.instantiable Cn N ∈ Ts) (hini : Cond.initialized Cn ∈ Ts) (hc : vwCl[ci]? = some (Cn, Tc, N)) (hfs : ∀ j, j < N → defaultValue (ty j) = vp_V fs j) (hcells : cells + 1 ≤ R.cells) (hslots : slots + N ≤ R.slots) (d : decode cc pc = .ok (.new index, 3)) (k : GW p l e R s m args below meth c nL D A sz (cells + 1) (slots + N) Q ((sz + cells, .inr (ci, fs)) :: ws) (pc + 3) L (.ref (sz + cells) :: st)) : GW p l e R s m args below meth c nL D A sz cells slots Q ws pc L st := by
  intro H locs ls hP hD hz hS hl1
  have hKn := C.2.2.2.2.2.1.1 ci _ hc
  refine W.newcK C.1 C.2.1 C.2.2.2.1 (cg_ts C _ hcl) (cg_ts C _ hinst) (cg_ts C _ hini) rfl d hcells hslots hKn.2.1 hz fun H1 kC hkC e1 z1 o1 => ?_
  refine W.eq (g2 := F0 m (pc + 3) ls (.ref (sz + cells) :: st)) rfl (k H1 locs ls (PM.cons ⟨_, hc, (u_born ty (cg_ts C) hlay hKn hkC e1 hty).to hfs⟩ (hP.kept fun q hq => o1 _ (by rw [← hz]; exact (hP q hq).lt))) (hD.cons (cg_fresh C (Nat.le_add_right _ _)) fun q hq e => ?_) (by omega) (va_S_grow hS (by omega) (fun q hq => o1 q (by omega))) hl1)
  have h1 := (hP q hq).lt
  rw [hz, ← e] at h1
  exact Nat.lt_irrefl _ h1
/-- a new array of a primitive type -/
theorem gw_newa (C : CG p s m args meth c cc nL Ts own T D A sz) {atype : ArrayType} {cT : ClassId} (t0 : Nat) (ht : (ftys T)[t0]? = some (cT, newarray.typeOf atype)) (harr : Cond.arrayClass (newarray.typeOf atype) ∈ Ts) {n : Int32} {N : Nat} {a0 : vp_A} (ha : vp_cell cT a0 = arrV cT N (fun _ => defaultValue (newarray.typeOf atype))) (hra : va_RA s cT (newarray.typeOf atype) → s.vm.findClass ("[" ++ (newarray.typeOf atype).toString) = some cT) (hn : ¬ n < 0) (hN : n.toNatClampNeg = N) (hbytes : N * componentBytes (newarray.typeOf atype) ≤ 536870912) (hcells : cells + 1 ≤ R.cells) (hslots : slots + N ≤ R.slots) (d : decode cc pc = .ok (.newarray atype, 2)) (k : GW p l e R s m args below meth c nL D A sz (cells + 1) (slots + N) Q ((sz + cells, .inl (cT, a0)) :: ws) (pc + 2) L (.ref (sz + cells) :: st)) : GW p l e R s m args below meth c nL D A sz cells slots Q ws pc L (.int n :: st) := by
  intro H locs ls hP hD hz hS hl1
  refine va_newaK C.1 C.2.1 (cg_ts C _ harr) rfl d rfl hn hN hbytes hcells hslots hz fun H1 cA e1 z1 o1 _ hnm => ?_
  have ec : cA = cT := Option.some.inj (hnm.symm.trans (hra (C.2.2.2.2.2.1.2 t0 _ ht).2))
  subst ec
  rw [← ha] at e1
  refine W.eq (g2 := F0 m (pc + 2) ls (.ref (sz + cells) :: st)) rfl (k H1 locs ls (PM.cons e1 (hP.kept fun q hq => o1 _ (by rw [← hz]; exact (hP q hq).lt))) (hD.cons (cg_fresh C (Nat.le_add_right _ _)) fun q hq e => ?_) (by omega) (va_S_grow hS (by omega) (fun q hq => o1 q (by omega))) hl1)
  have h1 := (hP q hq).lt
  rw [hz, ← e] at h1
  exact Nat.lt_irrefl _ h1
/-- a new array of objects -/
theorem gw_newq (C : CG p s m args meth c cc nL Ts own T D A sz) {Cn : String} {index : Nat} {cT : ClassId} (t0 : Nat) (ht : (ftys T)[t0]? = some (cT, .object Cn)) (hcl : Cond.classLink own index Cn ∈ Ts) (hover : va_AO Cn s) {n : Int32} {N : Nat} (hn : ¬ n < 0) (hN : n.toNatClampNeg = N) (hbytes : N * 4 ≤ 536870912) (hcells : cells + 1 ≤ R.cells) (hslots : slots + N ≤ R.slots) (d : decode cc pc = .ok (.anewarray index, 3)) (k : GW p l e R s m args below meth c nL D A sz (cells + 1) (slots + N) Q ((sz + cells, .inl (cT, N, .inr (.inr (.inr (.inr (fun _ => none)))))) :: ws) (pc + 3) L (.ref (sz + cells) :: st)) : GW p l e R s m args below meth c nL D A sz cells slots Q ws pc L (.int n :: st) := by
  intro H locs ls hP hD hz hS hl1
  subst hN
  refine W.anew C.1 C.2.1 C.2.2.2.1 (cg_ts C _ hcl) (va_AO.use hover) rfl d rfl hn hbytes hcells hslots fun cA kA comp f1 f2 f3 f4 => ?_
  obtain ⟨kA', comp', -, -, -, g4⟩ := (C.2.2.2.2.2.1.2 t0 _ ht).2
  have ec : cA = cT := Option.some.inj (f1.symm.trans g4)
  subst ec
  generalize hH1 : H.push ({ cls := cA, slots := Array.replicate n.toNatClampNeg .null, vm := .none } : Cell) = H1
  have z1 : H1.size = H.size + 1 := by rw [← hH1, Array.size_push]
  have e1 : H1[sz + cells]? = some (arrV cA n.toNatClampNeg (fun _ => .null)) := by rw [← hz, ← hH1, Array.getElem?_push_size, ← arrV_new]
  have o1 : ∀ q : Nat, q < H.size → H1[q]? = H[q]? := fun q hq => by rw [← hH1, Array.getElem?_push, if_neg (Nat.ne_of_lt hq)]
  refine W.eq (g2 := F0 m (pc + 3) ls (.ref (sz + cells) :: st)) (by rw [hz]) (k H1 locs ls (PM.cons e1 (hP.kept fun q hq => o1 _ (hP q hq).lt)) (hD.cons (cg_fresh C (Nat.le_add_right _ _)) fun q hq e => ?_) (by omega) (va_S_grow hS (by omega) o1) hl1)
  have h1 := (hP q hq).lt
  rw [hz, ← e] at h1
  exact Nat.lt_irrefl _ h1
theorem arrV_cong {cI : ClassId} {N : Nat} {f g : Nat → Value} (h : ∀ j, j < N → f j = g j) : arrV cI N f = arrV cI N g := by
  unfold arrV
  congr 1
  apply Array.ext
  · simp
  · intro i h1 h2
    simp only [Array.size_ofFn] at h1
    simp [h i h1]
/-- the rows of a new array of arrays -/
def rowsW (cT : ClassId) (b0 : vp_A) (a : Nat) (i : Nat) : va_W := (List.range i).map fun j => (a + j, .inl (cT, b0))
/-- a new array of arrays -/
theorem gw_mna (C : CG p s m args meth c cc nL Ts own T D A sz) {ty : FieldType} {index : Nat} {cO cT : ClassId} (t0 t1 : Nat) (hto : (ftys T)[t1]? = some (cO, .array ty)) (ht : (ftys T)[t0]? = some (cT, ty)) (hra : va_RA s cT ty → s.vm.findClass ("[" ++ ty.toString) = some cT) (hstr : (FieldType.array ty).toString = "[" ++ ty.toString) (hcl : Cond.classLink own index ("[" ++ (FieldType.array ty).toString) ∈ Ts) (hover : AOA ty s) (harr : Cond.arrayClass ty ∈ Ts) {n m1 : Int32} {N M : Nat} {b0 : vp_A} (hb0 : vp_cell cT b0 = arrV cT M (fun _ => defaultValue ty)) (hn : ¬ n < 0) (hm : ¬ m1 < 0) (hN : n.toNatClampNeg = N) (hM : m1.toNatClampNeg = M) (hb1 : N * 4 ≤ 536870912) (hb2 : M * componentBytes ty ≤ 536870912) (hb3 : M ≤ 536870912) (hdf : fits ty (defaultValue ty) = true) (hdd : (defaultValue ty).isDefault = true) (hcells : cells + (1 + N) ≤ R.cells) (hslots : slots + (N + N * M) ≤ R.slots) (d : decode cc pc = .ok (.multianewarray index 2, 4))
    (k : GW p l e R s m args below meth c nL D A sz (cells + 1 + N) (slots + N + N * M) Q ((sz + cells, .inl (cO, N, .inr (.inr (.inr (.inr (fun j => some (sz + cells + 1 + j))))))) :: rowsW cT b0 (sz + cells + 1) N ++ ws) (pc + 4) L (.ref (sz + cells) :: st)) : GW p l e R s m args below meth c nL D A sz cells slots Q ws pc L (.int m1 :: .int n :: st) := by
  intro H locs ls hP hD hz hS hl1 T0 hT X
  subst hN
  subst hM
  have hb := C.2.1
  subst hb
  obtain ⟨vm₁, cA, comp, g1, g2, X', step⟩ := mn_run X C.1 C.2.2.2.1 (cg_ts C _ hcl) hover (cg_ts C _ harr) (g := F0 m pc ls (.int m1 :: .int n :: st)) rfl d rfl hn hm hb1 hb2 hb3 hdf hdd hcells hslots
  have e1 : cA = cO := Option.some.inj (g1.symm.trans (C.2.2.2.2.2.1.2 t1 _ hto).2)
  have e2 : comp = cT := Option.some.inj (g2.symm.trans (by rw [hstr]; exact hra (C.2.2.2.2.2.1.2 t0 _ ht).2))
  subst e1
  subst e2
  have hz0 : (T0.setVm vm₁).heap.size = sz + cells := by show T0.heap.size = _; rw [hT]; exact hz
  obtain ⟨f1, f2, -, -⟩ := mf_facts (T0.setVm vm₁) cA comp n.toNatClampNeg m1.toNatClampNeg (defaultValue ty) n.toNatClampNeg
  have f3 := mf_row (T0.setVm vm₁) cA comp n.toNatClampNeg m1.toNatClampNeg (defaultValue ty) n.toNatClampNeg
  have f4 := fun {a : Addr} (ha : a < (T0.setVm vm₁).heap.size) => mf_old (T0.setVm vm₁) cA comp n.toNatClampNeg m1.toNatClampNeg (defaultValue ty) ha n.toNatClampNeg
  have hTz : T0.heap.size = sz + cells := hz0
  have hTH : (T0.setVm vm₁).heap = H := hT
  rw [hz0] at f1 f2 f3
  rw [hTH] at f4
  rw [hTz] at X' step
  generalize mf (T0.setVm vm₁) cA comp n.toNatClampNeg m1.toNatClampNeg (defaultValue ty) n.toNatClampNeg = T9 at X' step f1 f2 f3 f4
  have f4' : ∀ q : Nat, q < H.size → T9.heap[q]? = H[q]? := fun q hq => f4 hq
  have hold : PM D ws T9.heap := hP.kept fun q hq => f4' _ (hP q hq).lt
  have hrow : PM D (rowsW comp b0 (sz + cells + 1) n.toNatClampNeg) T9.heap := by
    intro q hq
    obtain ⟨j, hj, rfl⟩ := List.mem_map.mp hq
    show T9.heap[sz + cells + 1 + j]? = some (vp_cell comp b0)
    rw [f3 j (List.mem_range.mp hj), hb0]
    rfl
  have hout : T9.heap[sz + cells]? = some (vp_cell cA (n.toNatClampNeg, .inr (.inr (.inr (.inr (fun j => some (sz + cells + 1 + j))))))) := by
    rw [f2, vp_cell_q]
    unfold mo
    congr 1
    refine arrV_cong fun j hj => ?_
    rw [if_pos hj]
    rfl
  have hlt : ∀ q ∈ ws, q.1 < sz + cells := fun q hq => by rw [← hz]; exact (hP q hq).lt
  have hDr : DM A (rowsW comp b0 (sz + cells + 1) n.toNatClampNeg ++ ws) := by
    refine ⟨List.pairwise_append.mpr ⟨?_, hD.1, fun a ha b hb e => ?_⟩, fun q hq => ?_⟩
    · unfold rowsW
      rw [List.pairwise_map]
      exact List.nodup_range.imp fun h e => h (Nat.add_left_cancel e)
    · obtain ⟨j, -, rfl⟩ := List.mem_map.mp ha
      have h1 := hlt b hb
      rw [← e] at h1
      dsimp only at h1
      omega
    · rcases List.mem_append.mp hq with h | h
      · obtain ⟨j, -, rfl⟩ := List.mem_map.mp h
        exact cg_fresh C (show sz ≤ sz + cells + 1 + j by omega)
      · exact hD.2 q h
  have hA9 : ∀ q ∈ locs ++ (List.range n.toNatClampNeg).map (fun j => (⟨sz + cells, j⟩ : Loc)), A q.base := fun q hq => by
    rcases List.mem_append.mp hq with h | h
    · exact hS.2.2 q h
    · obtain ⟨j, -, rfl⟩ := List.mem_map.mp h
      exact cg_fresh C (Nat.le_add_right _ _)
  have hS9 : va_S A s.heap T9.heap (locs ++ (List.range n.toNatClampNeg).map fun j => (⟨sz + cells, j⟩ : Loc)) := by
    have h9 := va_S_grow hS (H1 := T9.heap) (by rw [f1, hz]; omega) f4'
    exact ⟨h9.1, h9.2.1, hA9⟩
  obtain ⟨t, a1, b1⟩ := k T9.heap _ ls (PM.cons hout (hrow.app hold)) (hDr.cons (cg_fresh C (Nat.le_add_right _ _)) fun q hq e => by
    rcases List.mem_append.mp hq with h | h
    · obtain ⟨j, -, rfl⟩ := List.mem_map.mp h
      dsimp only at e
      omega
    · have h1 := hlt q h
      omega) (by rw [f1]; omega) hS9 hl1 T9 rfl X'
  exact ⟨t, step t a1, b1⟩
/-- an object into an array of objects -/
theorem gw_aast (C : CG p s m args meth c cc nL Ts own T D A sz) (q0 t0 qk ci : Nat) {a : Nat} {cA : ClassId} {r : vw_C} {n v : Nat} {vs : List Value} {f : Nat → Option Nat} {i : Int32} {ws' : va_W} (ha : ws[q0]? = some (a, .inl (cA, n, .inr (.inr (.inr (.inr f)))))) (ht : (ftys T)[t0]? = some (cA, .object r.1)) (hv : ws[qk]? = some (v, .inr (ci, vs))) (hc : vwCl[ci]? = some r) (hin : vp_in i n) (hw : ws.set q0 (a, .inl (cA, n, .inr (.inr (.inr (.inr (va_up f i.toNatClampNeg (some v))))))) = ws') (d : decode cc pc = .ok (.aastore, 1)) (k : GW p l e R s m args below meth c nL D A sz cells slots Q ws' (pc + 1) L st) : GW p l e R s m args below meth c nL D A sz cells slots Q ws pc L (.ref v :: .int i :: .ref a :: st) := by
  intro H locs ls hP hD hz hS hl1
  subst hw
  refine va_astq C.1 C.2.1 C.2.2.2.2.2.1 hP.to hD.to (va_S_here hS) q0 t0 qk ci ha ht hv hc hin d (fun H1 locs1 hP1 hD1 hS1 => W_sz fun hu => ?_)
  exact k H1 locs1 ls (PM.of hP1) (DM.of hD1) (by have h1 := hS1.1; rw [cg_sz C] at hu; omega) (va_S_step hS hS1) hl1
/-- a final field read in the constructor -/
theorem gw_get (C : CG p s m args meth c cc nL Ts own T D A sz) {ci index N j a : Nat} {ref Cn : String} {Tc : u_T} {fs : List Value} {v : Value} (q0 : Nat) (he : ws[q0]? = some (a, .inr (ci, fs))) (hlay : ∀ w ∈ u_ws Cn Tc N, w ∈ Ts) (hc : vwCl[ci]? = some (Cn, Tc, N)) (hj : j < N) (hlink : (Cond.fieldLink own index ref (Tc j).2.1 (Tc j).2.2.1).before args s = true) (hsame : ∀ x, s.fieldFound? (Tc j).1 (Tc j).2.1 (Tc j).2.2.1 = some x → s.fieldFound? ref (Tc j).2.1 (Tc j).2.2.1 = some x) (hv : fs[j]? = some v) (d : decode cc pc = .ok (.getfield index, 3)) (k : GW p l e R s m args below meth c nL D A sz cells slots Q ws (pc + 3) L (v :: st)) : GW p l e R s m args below meth c nL D A sz cells slots Q ws pc L (.ref a :: st) := by
  intro H locs ls hP hD hz hS hl1
  exact va_get C.1 C.2.1 C.2.2.2.2.1 hlay C.2.2.2.1 C.2.2.2.2.2.1 hP.to q0 he hc j hj hlink hsame hv d (k H locs ls hP hD hz hS hl1)
/-- a constructor's call -/
theorem gw_ctor {l : Launch} {p : Program} {e : Env} {below : List Frame} {R : Room} {Q : State → Prop} (C : CG p s m args meth c cc nL Ts own T D A sz) {h index n maxL k0 n0 : Nat} {raw : va_E} {y : MethodName} {bytes : ByteArray} {wsy : List Cond} {rm : Room} {As st0 : List Value} {w1 : va_W} (hM : Ct l y wsy rm D T As h raw (sz + cells) w1 k0 n0) (cw : CallB R s args own index y bytes maxL none wsy rm k0 n0 n ∧ y.name = "<init>" ∧ (Cond.instanceMethod y).before args s = true) (hn : As.length = n) (hst : st0 = As.reverse ++ .ref h :: st) (hcat : (st.map fun v => v.category).sum ≤ 8) (hf : cells + k0 ≤ R.cells ∧ slots + n0 ≤ R.slots) (d : decode cc pc = .ok (.invokespecial index, 3)) (k : GW p l e R s m args below meth c nL D A sz (cells + k0) (slots + n0) Q (w1 ++ ws) (pc + 3) L st) : GW p l e R s m args below meth c nL D A sz cells slots Q ((h, raw) :: ws) pc L st0 := by
  intro H locs ls hP hD hz hS hl1
  have hPh := hP (h, raw) List.mem_cons_self
  have hAh : A h := hD.2 _ List.mem_cons_self
  have hlow : sz ≤ sz + cells := Nat.le_add_right _ _
  have hmid : ∀ q ∈ ws, q.1 < H.size ∧ q.1 ≠ h := fun q hq => ⟨(hP q (List.mem_cons_of_mem _ hq)).lt, fun e => (List.pairwise_cons.mp hD.1).1 q hq e.symm⟩
  refine va_callv (va_runI (As := As) (rest := st) ⟨C.1, C.2.1, C.2.2.1, C.2.2.2.1, C.2.2.2.2.1⟩ hM cw ⟨Ct_blind D T As h raw (sz + cells), fun U hU hW => ⟨rfl, by rw [hU]; exact hz, fun q hq => by rw [List.mem_singleton.mp hq, hU]; exact hPh, va_K.moved hW.alike C.2.2.2.2.2.1, Nst_warm hW (cg_nst C), (cg_aov C).moved hW.alike⟩⟩ rfl hn hl1.1 hst (lv_room hcat) d hf) hS (fun q _ h2 => ?_) (fun q h2 => ?_) (fun u t H1 locs1 ht _ _ hB hz1 hk1 hS1 => ?_)
  · rcases h2 with rfl | h2
    · exact hAh
    · exact cg_fresh C (Nat.le_trans hlow h2)
  · rcases h2 with rfl | h2
    · exact hAh
    · exact cg_fresh C (Nat.le_trans hlow h2)
  · obtain ⟨hP1, hz9, hD1⟩ := hB
    rw [ht] at hP1 hz9
    have hno : ∀ q ∈ ws, ¬ Afr h (sz + cells) q.1 := fun q hq h2 => by
      have h3 := hmid q hq
      rw [hz] at h3
      rcases h2 with h2 | h2
      · exact h3.2 h2
      · omega
    refine k H1 locs1 ls (hP1.app (PM.kept (fun q hq => hP q (List.mem_cons_of_mem _ hq)) fun q hq => hk1 _ (hmid q hq).1 (hno q hq))) ⟨List.pairwise_append.mpr ⟨hD1.1, (List.pairwise_cons.mp hD.1).2, fun a ha b hb e => hno b hb (by rw [← e]; exact hD1.2 a ha)⟩, fun q hq => ?_⟩ (by rw [hz9]; omega) hS1 hl1
    rcases List.mem_append.mp hq with h2 | h2
    · rcases hD1.2 q h2 with h3 | h3
      · rw [h3]; exact hAh
      · exact cg_fresh C (Nat.le_trans hlow h3)
    · exact hD.2 q (List.mem_cons_of_mem _ h2)
/-- a constructor's call -/
theorem gw_ctorN {l : Launch} {p : Program} {e : Env} {below : List Frame} {R : Room} {Q : State → Prop} (C : CG p s m args meth c cc nL Ts own T D A sz) {h index n maxL k0 n0 : Nat} {raw : va_E} {y : MethodName} {host : String} {bytes : ByteArray} {wsy : List Cond} {rm : Room} {As st0 : List Value} {w1 : va_W} (hM : Ct l y wsy rm D T As h raw (sz + cells) w1 k0 n0) (cw : va_CN R s args own index y host bytes maxL none wsy rm k0 n0 n ∧ y.name = "<init>" ∧ (Cond.instanceMethod y).before args s = true) (hn : As.length = n) (hst : st0 = As.reverse ++ .ref h :: st) (hcat : (st.map fun v => v.category).sum ≤ 8) (hf : cells + k0 ≤ R.cells ∧ slots + n0 ≤ R.slots) (d : decode cc pc = .ok (.invokespecial index, 3)) (k : GW p l e R s m args below meth c nL D A sz (cells + k0) (slots + n0) Q (w1 ++ ws) (pc + 3) L st) : GW p l e R s m args below meth c nL D A sz cells slots Q ((h, raw) :: ws) pc L st0 := by
  intro H locs ls hP hD hz hS hl1
  have hPh := hP (h, raw) List.mem_cons_self
  have hAh : A h := hD.2 _ List.mem_cons_self
  have hlow : sz ≤ sz + cells := Nat.le_add_right _ _
  have hmid : ∀ q ∈ ws, q.1 < H.size ∧ q.1 ≠ h := fun q hq => ⟨(hP q (List.mem_cons_of_mem _ hq)).lt, fun e => (List.pairwise_cons.mp hD.1).1 q hq e.symm⟩
  refine va_callv (va_runIN (As := As) (rest := st) ⟨C.1, C.2.1, C.2.2.1, C.2.2.2.1, C.2.2.2.2.1⟩ hM cw ⟨Ct_blind D T As h raw (sz + cells), fun U hU hW => ⟨rfl, by rw [hU]; exact hz, fun q hq => by rw [List.mem_singleton.mp hq, hU]; exact hPh, va_K.moved hW.alike C.2.2.2.2.2.1, Nst_warm hW (cg_nst C), (cg_aov C).moved hW.alike⟩⟩ rfl hn hl1.1 hst (lv_room hcat) d hf) hS (fun q _ h2 => ?_) (fun q h2 => ?_) (fun u t H1 locs1 ht _ _ hB hz1 hk1 hS1 => ?_)
  · rcases h2 with rfl | h2
    · exact hAh
    · exact cg_fresh C (Nat.le_trans hlow h2)
  · rcases h2 with rfl | h2
    · exact hAh
    · exact cg_fresh C (Nat.le_trans hlow h2)
  · obtain ⟨hP1, hz9, hD1⟩ := hB
    rw [ht] at hP1 hz9
    have hno : ∀ q ∈ ws, ¬ Afr h (sz + cells) q.1 := fun q hq h2 => by
      have h3 := hmid q hq
      rw [hz] at h3
      rcases h2 with h2 | h2
      · exact h3.2 h2
      · omega
    refine k H1 locs1 ls (hP1.app (PM.kept (fun q hq => hP q (List.mem_cons_of_mem _ hq)) fun q hq => hk1 _ (hmid q hq).1 (hno q hq))) ⟨List.pairwise_append.mpr ⟨hD1.1, (List.pairwise_cons.mp hD.1).2, fun a ha b hb e => hno b hb (by rw [← e]; exact hD1.2 a ha)⟩, fun q hq => ?_⟩ (by rw [hz9]; omega) hS1 hl1
    rcases List.mem_append.mp hq with h2 | h2
    · rcases hD1.2 q h2 with h3 | h3
      · rw [h3]; exact hAh
      · exact cg_fresh C (Nat.le_trans hlow h3)
    · exact hD.2 q (List.mem_cons_of_mem _ h2)
theorem gx_new {o : Nat × va_E} {r : va_W} (C : CG p s m args meth c cc nL Ts own T D A sz) {ci index N : Nat} {Cn : String} {Tc : u_T} {fs : List Value} (ty : Nat → FieldType) (hlay : ∀ w ∈ u_ws Cn Tc N, w ∈ Ts) (hty : ∀ k, k < N → parseFieldDescriptor (Tc k).2.2.1 = some (ty k)) (hcl : Cond.classLink own index Cn ∈ Ts) (hinst : Cond.instantiable Cn N ∈ Ts) (hini : Cond.initialized Cn ∈ Ts) (hc : vwCl[ci]? = some (Cn, Tc, N)) (hfs : ∀ j, j < N → defaultValue (ty j) = vp_V fs j) (hcells : cells + 1 ≤ R.cells) (hslots : slots + N ≤ R.slots) (d : decode cc pc = .ok (.new index, 3)) (k : GW p l e R s m args below meth c nL D A sz (cells + 1) (slots + N) Q (o :: (sz + cells, .inr (ci, fs)) :: r) (pc + 3) L (.ref (sz + cells) :: st)) : GW p l e R s m args below meth c nL D A sz cells slots Q (o :: r) pc L st := by
  exact gw_new C ty hlay hty hcl hinst hini hc hfs hcells hslots d (gw_perm (List.Perm.swap _ _ _) k)
theorem gx_newa {o : Nat × va_E} {r : va_W} (C : CG p s m args meth c cc nL Ts own T D A sz) {atype : ArrayType} {cT : ClassId} (t0 : Nat) (ht : (ftys T)[t0]? = some (cT, newarray.typeOf atype)) (harr : Cond.arrayClass (newarray.typeOf atype) ∈ Ts) {n : Int32} {N : Nat} {a0 : vp_A} (ha : vp_cell cT a0 = arrV cT N (fun _ => defaultValue (newarray.typeOf atype))) (hra : va_RA s cT (newarray.typeOf atype) → s.vm.findClass ("[" ++ (newarray.typeOf atype).toString) = some cT) (hn : ¬ n < 0) (hN : n.toNatClampNeg = N) (hbytes : N * componentBytes (newarray.typeOf atype) ≤ 536870912) (hcells : cells + 1 ≤ R.cells) (hslots : slots + N ≤ R.slots) (d : decode cc pc = .ok (.newarray atype, 2)) (k : GW p l e R s m args below meth c nL D A sz (cells + 1) (slots + N) Q (o :: (sz + cells, .inl (cT, a0)) :: r) (pc + 2) L (.ref (sz + cells) :: st)) : GW p l e R s m args below meth c nL D A sz cells slots Q (o :: r) pc L (.int n :: st) := by
  exact gw_newa C t0 ht harr ha hra hn hN hbytes hcells hslots d (gw_perm (List.Perm.swap _ _ _) k)
theorem gx_newq {o : Nat × va_E} {r : va_W} (C : CG p s m args meth c cc nL Ts own T D A sz) {Cn : String} {index : Nat} {cT : ClassId} (t0 : Nat) (ht : (ftys T)[t0]? = some (cT, .object Cn)) (hcl : Cond.classLink own index Cn ∈ Ts) (hover : va_AO Cn s) {n : Int32} {N : Nat} (hn : ¬ n < 0) (hN : n.toNatClampNeg = N) (hbytes : N * 4 ≤ 536870912) (hcells : cells + 1 ≤ R.cells) (hslots : slots + N ≤ R.slots) (d : decode cc pc = .ok (.anewarray index, 3)) (k : GW p l e R s m args below meth c nL D A sz (cells + 1) (slots + N) Q (o :: (sz + cells, .inl (cT, N, .inr (.inr (.inr (.inr (fun _ => none)))))) :: r) (pc + 3) L (.ref (sz + cells) :: st)) : GW p l e R s m args below meth c nL D A sz cells slots Q (o :: r) pc L (.int n :: st) := by
  exact gw_newq C t0 ht hcl hover hn hN hbytes hcells hslots d (gw_perm (List.Perm.swap _ _ _) k)
theorem gx_mna {o : Nat × va_E} {r : va_W} (C : CG p s m args meth c cc nL Ts own T D A sz) {ty : FieldType} {index : Nat} {cO cT : ClassId} (t0 t1 : Nat) (hto : (ftys T)[t1]? = some (cO, .array ty)) (ht : (ftys T)[t0]? = some (cT, ty)) (hra : va_RA s cT ty → s.vm.findClass ("[" ++ ty.toString) = some cT) (hstr : (FieldType.array ty).toString = "[" ++ ty.toString) (hcl : Cond.classLink own index ("[" ++ (FieldType.array ty).toString) ∈ Ts) (hover : AOA ty s) (harr : Cond.arrayClass ty ∈ Ts) {n m1 : Int32} {N M : Nat} {b0 : vp_A} (hb0 : vp_cell cT b0 = arrV cT M (fun _ => defaultValue ty)) (hn : ¬ n < 0) (hm : ¬ m1 < 0) (hN : n.toNatClampNeg = N) (hM : m1.toNatClampNeg = M) (hb1 : N * 4 ≤ 536870912) (hb2 : M * componentBytes ty ≤ 536870912) (hb3 : M ≤ 536870912) (hdf : fits ty (defaultValue ty) = true) (hdd : (defaultValue ty).isDefault = true) (hcells : cells + (1 + N) ≤ R.cells) (hslots : slots + (N + N * M) ≤ R.slots) (d : decode cc pc = .ok (.multianewarray index 2, 4))
    (k : GW p l e R s m args below meth c nL D A sz (cells + 1 + N) (slots + N + N * M) Q (o :: ((sz + cells, .inl (cO, N, .inr (.inr (.inr (.inr (fun j => some (sz + cells + 1 + j))))))) :: rowsW cT b0 (sz + cells + 1) N ++ r)) (pc + 4) L (.ref (sz + cells) :: st)) : GW p l e R s m args below meth c nL D A sz cells slots Q (o :: r) pc L (.int m1 :: .int n :: st) := by
  exact gw_mna C t0 t1 hto ht hra hstr hcl hover harr hb0 hn hm hN hM hb1 hb2 hb3 hdf hdd hcells hslots d (gw_perm (List.perm_middle (l₁ := _ :: rowsW cT b0 (sz + cells + 1) N)) k)
theorem gx_ctor {o : Nat × va_E} {r : va_W} {l : Launch} {p : Program} {e : Env} {below : List Frame} {R : Room} {Q : State → Prop} (C : CG p s m args meth c cc nL Ts own T D A sz) {h index n maxL k0 n0 : Nat} {raw : va_E} {y : MethodName} {bytes : ByteArray} {wsy : List Cond} {rm : Room} {As st0 : List Value} {w1 : va_W} (hM : Ct l y wsy rm D T As h raw (sz + cells) w1 k0 n0) (cw : CallB R s args own index y bytes maxL none wsy rm k0 n0 n ∧ y.name = "<init>" ∧ (Cond.instanceMethod y).before args s = true) (hn : As.length = n) (hst : st0 = As.reverse ++ .ref h :: st) (hcat : (st.map fun v => v.category).sum ≤ 8) (hf : cells + k0 ≤ R.cells ∧ slots + n0 ≤ R.slots) (d : decode cc pc = .ok (.invokespecial index, 3)) (k : GW p l e R s m args below meth c nL D A sz (cells + k0) (slots + n0) Q (o :: (w1 ++ r)) (pc + 3) L st) : GW p l e R s m args below meth c nL D A sz cells slots Q (o :: (h, raw) :: r) pc L st0 := by
  exact gw_perm (List.Perm.swap _ _ _) (gw_ctor C hM cw hn hst hcat hf d (gw_perm List.perm_middle k))
theorem gx_ctorN {o : Nat × va_E} {r : va_W} {l : Launch} {p : Program} {e : Env} {below : List Frame} {R : Room} {Q : State → Prop} (C : CG p s m args meth c cc nL Ts own T D A sz) {h index n maxL k0 n0 : Nat} {raw : va_E} {y : MethodName} {host : String} {bytes : ByteArray} {wsy : List Cond} {rm : Room} {As st0 : List Value} {w1 : va_W} (hM : Ct l y wsy rm D T As h raw (sz + cells) w1 k0 n0) (cw : va_CN R s args own index y host bytes maxL none wsy rm k0 n0 n ∧ y.name = "<init>" ∧ (Cond.instanceMethod y).before args s = true) (hn : As.length = n) (hst : st0 = As.reverse ++ .ref h :: st) (hcat : (st.map fun v => v.category).sum ≤ 8) (hf : cells + k0 ≤ R.cells ∧ slots + n0 ≤ R.slots) (d : decode cc pc = .ok (.invokespecial index, 3)) (k : GW p l e R s m args below meth c nL D A sz (cells + k0) (slots + n0) Q (o :: (w1 ++ r)) (pc + 3) L st) : GW p l e R s m args below meth c nL D A sz cells slots Q (o :: (h, raw) :: r) pc L st0 := by
  exact gw_perm (List.Perm.swap _ _ _) (gw_ctorN C hM cw hn hst hcat hf d (gw_perm List.perm_middle k))
/-- the end -/
theorem gw_vret (C : CG p s m args meth c cc nL Ts own T D A sz) (hr : meth.sig.returnType = none) {S : Type} {post : S → Prop} {B : S → State → Prop} (u : S) (hp : post u) (hB : ∀ t : State, PM D ws t.heap → DM A ws → t.heap.size = sz + cells → B u t) (d : decode cc pc = .ok (.return_, 1)) : GW p l e R s m args below meth c nL D A sz cells slots (MQ below (va_Qv post B A) args s cells slots A) ws pc L [] := by
  intro H locs ls hP hD hz hS hl1
  exact W.vret C.1 C.2.1 hr (fun t ht _ => ⟨⟨u, rfl, hp, hB t (by rw [ht]; exact hP) hD (by rw [ht]; exact hz)⟩, hS.F ht⟩) hS.2.2 d C.2.2.2.2.2.2.2.1
end GWR
/-- the body of a constructor -/
theorem gw_body {l : Launch} {y : MethodName} {wsy ws' : List Cond} {rm : Room} {cc : ByteArray} {maxL : Nat} {T : Nat → ClassId} {D : va_G} {av : List Value} {h sz : Nat} {raw : va_E} {w1 : va_W} {K n : Nat}
    (hy : plainName y.cls = true) (hw : wsy = Cond.code y cc maxL none :: ws') (hi : y.name = "<init>") (hlen : (lg_sl (.ref h :: av)).length ≤ maxL)
    (body : ∀ (p : Program) (e : Env) (s : State) (m : MethodId) (below : List Frame) (meth : Method) (c : Code), CG p s m (Value.ref h :: av).toArray meth c cc maxL wsy y.cls T D (Afr h sz) sz → meth.name = "<init>" → meth.sig.returnType = none →
      GW p l e rm s m (Value.ref h :: av).toArray below meth c maxL D (Afr h sz) sz 0 0 (MQ below (va_Qv (fun _ : Unit => True) (fun _ t => PM D w1 t.heap ∧ t.heap.size = sz + K ∧ DM (Afr h sz) w1) (Afr h sz)) (Value.ref h :: av).toArray s K n (Afr h sz)) [(h, raw)] 0 (lv_args 0 (.ref h :: av)) []) : Ct l y wsy rm D T av h raw sz w1 K n := by
  refine Met.ofW (cc := cc) (maxL := maxL) (ret := none) hy hw ?_
  intro p e s m args below meth c s₁ B hml hv
  obtain ⟨rfl, h1, h2, h3, h4, h5⟩ := hv
  have hl := lv_entry (.ref h :: av) hlen
  rw [lg_entry_eq]
  exact body p e s m below meth c ⟨B.exec, B.bytes, hml, findClass_of_methodNamed B.named, atoms_spec (ws := wsy) B.pre, h3, fun q hq => Or.inr (by rw [← h1]; exact hq), B.notSynchronized, h4, h5, h1⟩ ((name_of_methodNamed B.named B.method).1.trans hi) B.returns s.heap [] _ h2 ⟨List.pairwise_singleton _ _, fun q hq => by rw [List.mem_singleton.mp hq]; exact Or.inl rfl⟩ (by rw [h1]; rfl) va_S.rf hl
