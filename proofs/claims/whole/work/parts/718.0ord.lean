/-! PHASE 3: A CALL OF A METHOD WHOSE CLASS THE TABLES DON'T CALL INITIALISED (Enum.ordinal): the machine doesn't ask for it; the callee is walked where it stands -/
section
variable {l : Launch} {R : Room} {p : Program} {e : Env} {below : List Frame} {s : State} {sargs : Array Value} {y : MethodName} {len W0 : Nat}
theorem nb_back {ws ws' : List Cond} {rm : Room} {Pc : Array Value → State → Prop} {Qc : Array Value → State → Outcome → State → Prop} {mc ms : Nat} {free : Addr → Prop} {cc : ByteArray} {maxL : Nat} {ret : Option FieldType}
    (hy : plainName y.cls = true) (hw : ws = Cond.code y cc maxL ret :: ws') (hexec : p.tables.exec = Jvm.exec)
    (body : ∀ (s' : State) (m : MethodId) (args : Array Value) (below' : List Frame) (meth : Method) (c : Code), c.code = cc → c.maxLocals = maxL → meth.sig.returnType = ret → meth.locks = false → s'.vm.findClass y.cls = some m.cls → (∀ w ∈ ws, w.before args s' = true) → Pc args s' →
      W p l e rm s' m args below' meth c s'.heap [] 0 0 (MQ below' Qc args s' mc ms free) (entryFrame m args maxL))
    (hblind : FrameBlind Pc) (hrc : rm.cells = mc) (hrs : rm.slots = ms) (hframes : rm.frames + 1 ≤ R.frames) (hlocals : W0 + (maxL + 11) + rm.locals ≤ R.locals)
    (hws : ∀ w ∈ ws, ∀ (a' : Array Value) (U : State), s.WarmedH U.vm → w.before a' U = true) :
    Back l R p e below s sargs y len W0 (PreOf R mc ms Pc) (PostOf Qc mc ms free) := by
  intro m meth c A g ig mk a X hg hsize hdg hW hn hp
  obtain ⟨U, Ls, c0, s0⟩ := A
  obtain ⟨hc1, hs1, hPc⟩ := hp
  dsimp only [Pt.U, Pt.locs, Pt.cells, Pt.slots] at hc1 hs1 hPc X hn ⊢
  have hcd : (Cond.code y cc maxL ret).before a U = true := hws _ (by rw [hw]; exact List.mem_cons_self) _ _ X.warmed
  obtain ⟨methY, cY, hmY, hcY, hbY, hlY, hrY, hkY, -, -⟩ := Cond.code_spec hn hcd
  have h : At U g.method c below := by rw [hg]; exact X.here
  have hroom : (U.calling g mk a).hasRoom e.platform rm = true := X.room_calling (g := g) (R' := rm) hsize hmY hcY hframes (by rw [hlY]; omega) (by rw [hrc]; exact hc1) (by rw [hrs]; exact hs1)
  have hf : (U.calling g mk a).frames = .invoking mk a :: (U.setTop g).frames := by rw [State.frames_calling h.top g mk a, State.frames_setTop' g h.top]
  have hcode : (U.calling g mk a).code? g.method = some c := by
    have := h.code
    rw [State.code?_eq] at this ⊢
    simpa [State.calling, State.pushFrame, State.setFrames] using this
  have hrun : (U.calling g mk a).status = .running := h.running
  have hable : (U.calling g mk a).curStatus? = some .runnable := by simpa [State.calling] using h.runnable
  have halone : (U.calling g mk a).alone = true := by simpa [State.calling] using h.alone
  have hhears : (U.calling g mk a).hears mk (U.setTop g).frames = true := by
    rw [State.frames_setTop' g h.top]
    simp [State.hears, hcode, hdg, Except.toOption]
  have hname : (U.calling g mk a).methodNamed? y = some mk := hn
  have hmeth : (U.calling g mk a).vm.method? mk = some methY := hmY
  obtain ⟨mid, hmid⟩ := h.above
  have hfr : (U.setTop g).frames = (.java g :: mid) ++ below := by rw [State.frames_setTop' g h.top, hmid]; rfl
  -- into the callee
  have hcur := State.cur_lt_of_frames hf
  have hf1 : ((U.calling g mk a).setFrames (.java (entryFrame mk a maxL) :: (U.setTop g).frames)).frames = .java (entryFrame mk a maxL) :: (U.setTop g).frames := State.frames_setFrames _ hcur
  have ht1 := State.topJava?_of_frames hf1
  have hplain : ((U.calling g mk a).setFrames (.java (entryFrame mk a maxL) :: (U.setTop g).frames)).plainMethod mk := State.plainMethod.of_named (s := U.calling g mk a) (plainFor_of_name hy) hname hmeth
  have hAt : At ((U.calling g mk a).setFrames (.java (entryFrame mk a maxL) :: (U.setTop g).frames)) mk cY (U.setTop g).frames :=
    ⟨by rw [ht1]; rfl, ⟨[], by rw [hf1]; rfl⟩, hrun, by simpa using hable, by simpa using halone,
      by rw [State.code?_eq]; simp [State.setFrames, hmeth, hcY], hplain⟩
  obtain ⟨t9, ht9, -⟩ := State.frames_cons hf
  have X0 : Stand p l e rm (U.calling g mk a) mk a (U.setTop g).frames methY cY ((U.calling g mk a).setFrames (.java (entryFrame mk a maxL) :: (U.setTop g).frames)) [] 0 0 :=
    ⟨X.admits, X.cas, X.clock, hf, hroom, hhears, hmeth, hcY, hAt, by rw [hf1]; rfl, State.WarmedH.refl _, by rw [State.stackLimits_setFrames], by rw [State.stackBytes_setFrames],
      (State.sameButNew.refl _ ht9).setFrames (.java (entryFrame mk a maxL) :: (U.setTop g).frames) hcur⟩
  have hstep1 : (stepThread p.tables e (U.calling g mk a)).1 = ((U.calling g mk a).setFrames (.java (entryFrame mk a maxL) :: (U.setTop g).frames)).setTop (entryFrame mk a maxL) := by
    have hfull : e.platform.stackFull ((U.calling g mk a).setFrames (U.setTop g).frames).me ((U.calling g mk a).setFrames (U.setTop g).frames).frames cY.maxLocals = false := by
      obtain ⟨-, h1, -, h2⟩ := State.hasRoom_stack hroom
      rw [hf, List.length_cons] at h1
      rw [State.localsInUse_invoking hf hmeth hcY] at h2
      have hw9 := stackUse_le_stackWeight (U.setTop g).frames
      rw [State.frames_setFrames _ hcur]
      exact Platform.stackFull_eq_false (by rw [State.stackLimits_setFrames]; omega) (by rw [State.stackLimits_setFrames]; omega)
    rw [stepThread_invoking hf, (doInvoke_java (s := (U.calling g mk a).setFrames (U.setTop g).frames) (e := e) (meth := methY) (code := cY) hmeth hcY hkY hfull).1, State.setTop_self ht1]
    simp only [State.pushFrame, State.frames_setFrames _ hcur, State.setFrames_setFrames, hlY, entryFrame]
  have hstep2 : (stepThread p.tables e (U.calling g mk a)).1 = (doInvoke e (U.setTop g) [] mk a).1 := by
    obtain ⟨t8, ht8⟩ : ∃ t, (U.setTop g).threads[(U.setTop g).cur]? = some t := by
      obtain ⟨t, ht, -⟩ := State.frames_cons (s := U.setTop g) (State.frames_setTop' g h.top)
      exact ⟨t, ht⟩
    have h7 : ((U.setTop g).pushFrame (.invoking mk a)).frames = .invoking mk a :: (U.setTop g).frames := hf
    show (stepThread p.tables e ((U.setTop g).pushFrame (.invoking mk a))).1 = _
    rw [stepThread_invoking h7, doInvoke_state e (U.setTop g) [], State.pushFrame, State.setFrames_setFrames, State.setFrames_self ht8]
  -- the callee's walk
  obtain ⟨s₂, hsteps, o, hr2, hend, hq, L, hfe, hL⟩ := body (U.calling g mk a) mk a (U.setTop g).frames methY cY hbY hlY hrY hkY (findClass_of_methodNamed hname) (fun w hw1 => hws w hw1 _ _ X.warmed) (hblind _ _ _ _ hPc) ((U.calling g mk a).setFrames (.java (entryFrame mk a maxL) :: (U.setTop g).frames)) rfl X0
  rw [← hstep1, hstep2, hfr] at hsteps
  obtain ⟨n9, hn9, hw9⟩ := hsteps
  have hsteps : Steps p.tables e below (doInvoke e (U.setTop g) [] mk a).1 s₂ := ⟨n9, hn9, fun j hj => (hw9 j hj).weaken⟩
  rw [State.frames_setTop' g h.top] at hend
  obtain ⟨⟨v, rfl⟩, hW₂, e2, q2, q3, q4, q5, q6⟩ := id hfe
  have e3 : s₂ = ({ (U.calling g mk a).setFrames s₂.frames with heap := s₂.heap, slotsUsed := s₂.slotsUsed } : State).setVm s₂.vm := by
    have : s₂ = ({ s₂ with vm := (U.calling g mk a).vm } : State).setVm s₂.vm := rfl
    rw [e2] at this
    exact this
  obtain ⟨c₂, i₂, len₂, hc₂, hd₂, hf₂⟩ := hend
  have hW' : U.WarmedH s₂.vm := hW₂
  have hcc : c₂ = c := by
    have h1 : s₂.code? g.method = U.code? g.method := by
      rw [State.code?_eq, State.code?_eq, hW'.alike.method?]
    exact Option.some.inj (hc₂.symm.trans (h1.trans h.code))
  subst hcc
  have hlen : len₂ = len := by rw [hdg] at hd₂; cases hd₂; rfl
  subst hlen
  obtain ⟨g₀, hg0⟩ := Option.isSome_iff_exists.mp h.top
  obtain ⟨r, hr⟩ := State.topJava?_eq_some.mp hg0
  have hs₂ : s₂ = (({ U with heap := s₂.heap, slotsUsed := s₂.slotsUsed } : State).setVm s₂.vm).setTop { g with pc := g.pc + len₂, stack := v.toList ++ g.stack } := by
    have hr' : (({ U with heap := s₂.heap, slotsUsed := s₂.slotsUsed } : State).setVm s₂.vm).frames = .java g₀ :: r := hr
    refine e3.trans ?_
    rw [hf₂, State.calling_eq h.top, State.setFrames_setFrames, State.setTop_of_frames _ hr', hr]
    rfl
  have hsame : U.sameButNew ({ U with heap := s₂.heap, slotsUsed := s₂.slotsUsed } : State) L mc ms := by
    refine ⟨?_, q2, q3, q4, q5, q6⟩
    obtain ⟨t, ht, -⟩ := State.frames_cons hr
    show ({ U with heap := s₂.heap, slotsUsed := s₂.slotsUsed } : State) = { U.setFrames U.frames with heap := s₂.heap, slotsUsed := s₂.slotsUsed }
    rw [State.setFrames_self ht]
  subst hg
  refine ⟨v, ⟨(({ U with heap := s₂.heap, slotsUsed := s₂.slotsUsed } : State).setVm s₂.vm), Ls ++ L, c0 + mc, s0 + ms⟩,
    ⟨X.admits, X.cas, X.clock, X.frames, X.room, X.hears, X.method, X.code, (X.here.setHeapUsed s₂.heap s₂.slotsUsed).setVm hW'.alike, X.tail, State.WarmedH.trans X.warmed hW', X.limits, X.bytes, X.same.trans (hsame.setVm s.vm)⟩,
    ⟨g, mk, s₂, L, rfl, rfl, hq, rfl, hL, rfl, rfl⟩, ?_⟩
  show Steps p.tables e below _ ((({ U with heap := s₂.heap, slotsUsed := s₂.slotsUsed } : State).setVm s₂.vm).setTop { g with pc := g.pc + len₂, stack := v.toList ++ g.stack })
  rw [← hs₂]
  exact hsteps
end
/-- the words of such a call -/
def wsU0 (own : String) (idx : Nat) (C owner : String) (x y : MethodName) (ws : List Cond) : List Cond := ([.methodLink own idx x, .sameMethod x.cls owner x.name x.desc, .selects C x y, .instanceMethod y] : List Cond) ++ ws
section
variable {p : Program} {l : Launch} {e : Env} {R : Room} {s : State} {m : MethodId} {args : Array Value} {below : List Frame} {meth : Method} {c : Code} {cc : ByteArray} {nL N0 : Nat} {T : Nat → ClassId} {D : va_G} {gr : List (Nat × Nat)} {ad : Nat → Nat → Nat → Nat} {cells slots : Nat} {Q : State → Prop} {Y : Mem} {pc : Nat} {L L' : List (Nat × Value)} {st : List Value} {Ts : List Cond} {own : String}
/-- c.ordinal() -/
theorem fw_ordinal (C : Cx p s m args meth c cc nL Ts own N0 T D gr ad) {i index : Nat} (hi : i < 8) (hT : GoodIn Ts (wsU0 own index RX1 "java/lang/Enum" ⟨"RecipeScheduler$Command", "ordinal", "()I"⟩ yJx29ce0_ordinal_8abf5 wsJx29ce0_ordinal_8abf5)) (hR : 1 ≤ R.frames ∧ 20 ≤ R.locals) (hcat : (st.map fun v => v.category).sum ≤ 8) (hf : cells ≤ R.cells ∧ slots ≤ R.slots) (d : decode cc pc = .ok (.invokevirtual index, 3)) (k : FW p l e R s m args below meth c nL N0 T D gr ad cells slots Q Y (pc + 3) L (.int (Int32.ofNat i) :: st)) : FW p l e R s m args below meth c nL N0 T D gr ad cells slots Q Y pc L (.ref (ad 20 i 0) :: st) := by
  intro H locs ls hP hS hl1
  have ok : ∀ w ∈ wsU0 own index RX1 "java/lang/Enum" ⟨"RecipeScheduler$Command", "ordinal", "()I"⟩ yJx29ce0_ordinal_8abf5 wsJx29ce0_ordinal_8abf5, w.before args s = true := fun w h => C.2.2.2.2.1 w (hT w h).1
  have hG : GoodIn Ts wsJx29ce0_ordinal_8abf5 := fun w h => hT w (by unfold wsU0; exact List.mem_append_right _ h)
  have hK : Back l R p e below s args yJx29ce0_ordinal_8abf5 3 8 (PreOf R 0 0 (va_Pc [.ref (ad 20 i 0)] (WP N0 T D gr ad Y))) (PostOf (va_Qi (fun r Y1 => r = Int32.ofNat i ∧ Y1 = Y) (WB T D gr ad) (fun q => N0 ≤ q)) 0 0 (fun q => N0 ≤ q)) := by
    refine nb_back (ws := wsJx29ce0_ordinal_8abf5) (rm := Rm 0) (cc := cJx29ce0_ordinal_8abf5) (maxL := 1) (ret := some .int) (by decide +kernel) rfl C.1 ?_ (WP_blind N0 T D gr ad Y _) rfl rfl hR.1 (by show 8 + (1 + 11) + 28 * 0 ≤ R.locals; omega) (pay_in C.2.2.2.2.1 hG)
    intro s' m' args' below' meth' c' hb hl hr hk hfc hw hPc
    obtain ⟨rfl, q1, q2, q3, q4, q5, q6⟩ := hPc
    have hl0 := lv_entry [Value.ref (ad 20 i 0)] (n := 1) (Nat.le_of_ble_eq_true rfl)
    rw [lg_entry_eq]
    have C' : Cx p s' m' [Value.ref (ad 20 i 0)].toArray meth' c' cJx29ce0_ordinal_8abf5 1 wsJx29ce0_ordinal_8abf5 RJx29ce0 N0 T D gr ad := ⟨C.1, hb, hl, hfc, hw, q3, fun Y' => wC_D q4 Y', q1, hk, q5, q6⟩
    have hF : FW p l e (Rm 0) s' m' [Value.ref (ad 20 i 0)].toArray below' meth' c' 1 N0 T D gr ad 0 0 (MQ below' (va_Qi (fun r Y1 => r = Int32.ofNat i ∧ Y1 = Y) (WB T D gr ad) (fun q => N0 ≤ q)) [Value.ref (ad 20 i 0)].toArray s' 0 0 (fun q => N0 ≤ q)) Y 0 [(0, .ref (ad 20 i 0))] [] := by
      refine fw_aload_n C' dJx29ce0_ordinal_8abf5_0 rfl 0 rfl ?_
      refine fw_getO C' (v := .int (Int32.ofNat i)) ((cx_st C').2.2.1 _ hi).2.1 (cx_ts C' _ fl_ordinal) (fun _ h => h) dJx29ce0_ordinal_8abf5_1 ?_
      exact fw_iret C' hr Y ⟨rfl, rfl⟩ (fun t ht => ht) dJx29ce0_ordinal_8abf5_4
    exact hF s'.heap [] _ q2 va_S.rf hl0
  have hO := ((cx_st C).2.2.1 _ hi).1
  obtain ⟨cell0, h01, h02, h03, -⟩ := hO.kept hS.2.1
  have hU : va_Run p l e R s m args below meth c H locs cells slots 0 0 (F0 m pc ls (.ref (ad 20 i 0) :: st)) st (va_Qi (fun r Y1 => r = Int32.ofNat i ∧ Y1 = Y) (WB T D gr ad) (fun q => N0 ≤ q) [.ref (ad 20 i 0)].toArray) (fun q => N0 ≤ q) := by
    intro T0 hT0 X
    have hcodeW : Cond.code yJx29ce0_ordinal_8abf5 cJx29ce0_ordinal_8abf5 1 (some .int) ∈ wsJx29ce0_ordinal_8abf5 := List.mem_cons_self
    have k1 : (Cond.methodLink own index ⟨"RecipeScheduler$Command", "ordinal", "()I"⟩).before args s = true := ok _ (List.mem_append_left _ (List.mem_of_getElem? (i := 0) rfl))
    have k2 : (Cond.sameMethod "RecipeScheduler$Command" "java/lang/Enum" "ordinal" "()I").before args s = true := ok _ (List.mem_append_left _ (List.mem_of_getElem? (i := 1) rfl))
    have k3 : (Cond.selects RX1 ⟨"RecipeScheduler$Command", "ordinal", "()I"⟩ yJx29ce0_ordinal_8abf5).before args s = true := ok _ (List.mem_append_left _ (List.mem_of_getElem? (i := 2) rfl))
    have k4 : (Cond.instanceMethod yJx29ce0_ordinal_8abf5).before args s = true := ok _ (List.mem_append_left _ (List.mem_of_getElem? (i := 3) rfl))
    obtain ⟨v, vm₁, ⟨U', l2, c2, s2⟩, hW₁, X', ⟨g', mk, t, L2, e1, e2, hq, h1, hL, h2, h3⟩, st2⟩ := va_callVU X C.1 (C := RX1) (owner := "java/lang/Enum") (x := ⟨"RecipeScheduler$Command", "ordinal", "()I"⟩) (bytes := cJx29ce0_ordinal_8abf5) (maxL := 1) (ret := some .int) C.2.2.2.1 (index := index) k1 k2 (va_Decl.of k4 (C.2.2.2.2.1 _ (hG _ hcodeW).1)) (by decide +kernel) k3 k4 (C.2.2.2.2.1 _ (hG _ hcodeW).1) hK (by rw [hT0]; exact h01) h02 h03 (g := F0 m pc ls (.ref (ad 20 i 0) :: st)) rfl (by rw [C.2.2.1]; exact hl1.1) (argsL := []) (rest := st) (fun sig h => by
        have e9 : (parseMethodDescriptor "()I").map (fun d => d.parameters.length) = some 0 := by decide +kernel
        have h' : parseMethodDescriptor "()I" = some sig := h
        rw [h'] at e9
        exact (Option.some.inj e9).symm) rfl (lv_room hcat) (by rw [C.2.1]; exact d)
      (fun vm₁ hW₁ => ⟨hf.1, hf.2, rfl, Nat.le_trans C.2.2.2.2.2.2.2.1 (by show s.heap.size ≤ T0.heap.size; rw [hT0]; exact hS.1), by show va_P D vwCl (wC T gr ad Y) T0.heap; rw [hT0]; exact hP, va_K.moved hW₁.alike C.2.2.2.2.2.1, C.2.2.2.2.2.2.1 Y, Nst_warm hW₁ C.2.2.2.2.2.2.2.2.2.1, Stt_moved (U := T0.setVm vm₁) (H' := T0.heap) hW₁ (by rw [hT0]; exact hS.1) (fun q h1 h2 => by rw [hT0]; exact hS.2.1 q (Nat.lt_of_lt_of_le h1 C.2.2.2.2.2.2.2.1) (Nat.not_le.mpr h1)) C.2.2.2.2.2.2.2.2.2.2⟩)
    dsimp only [Pt.U, Pt.locs, Pt.cells, Pt.slots] at X' e1 e2 h1 h2 h3 st2
    subst h1; subst h2; subst h3
    exact ⟨v, (T0.setVm vm₁).calling g' mk [.ref (ad 20 i 0)].toArray, t, U', L2, hT0, X', hL, e1, e2, hq, st2⟩
  refine va_calli hU hS (fun q _ h => h) (fun q h => h) (fun r u t H1 locs1 ht hvm hw hB hz1 hk1 hS1 => ?_)
  obtain ⟨rfl, rfl⟩ := hw
  exact k H1 locs1 ls (by rw [← ht]; exact hB) hS1 hl1
end
