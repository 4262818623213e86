/-! THE LAW: rules over worlds that its walk alone needs -/
theorem wC_app {T : Nat → ClassId} {ad : Nat → Nat → Nat → Nat} {Y : Mem} (g1 g2 : List (Nat × Nat)) : wC T (g1 ++ g2) ad Y = wC T g1 ad Y ++ wC T g2 ad Y := by simp [wC, keys]
theorem DM_fst {A : Nat → Prop} {w w' : va_W} (h : DM A w) (e : w'.map Prod.fst = w.map Prod.fst) : DM A w' := by
  refine ⟨?_, fun q hq => ?_⟩
  · have h1 : (w.map Prod.fst).Pairwise (fun a b => a ≠ b) := List.pairwise_map.mpr h.1
    rw [← e] at h1
    exact List.pairwise_map.mp h1
  · have h1 : q.1 ∈ w'.map Prod.fst := List.mem_map.mpr ⟨q, hq, rfl⟩
    rw [e] at h1
    obtain ⟨x, hx, hx1⟩ := List.mem_map.mp h1
    rw [← hx1]
    exact h.2 x hx
theorem at_ints {D : va_G} {a : Nat} {cT : ClassId} {n : Nat} {f f' : Nat → Int32} {H : Heap} (hf : ∀ j, j < n → f' j = f j) (h : va_at D vwCl (a, .inl (cT, n, .inl f)) H) : va_at D vwCl (a, .inl (cT, n, .inl f')) H := by
  show H[a]? = some (vp_cell cT (n, .inl f'))
  have h1 : H[a]? = some (vp_cell cT (n, .inl f)) := h
  rw [h1, vp_cell_i, vp_cell_i]
  congr 1
  exact arrV_cong fun j hj => by rw [hf j hj]
/-- the class's cells lie as another naming says them -/
theorem wC_adX {T : Nat → ClassId} {gr : List (Nat × Nat)} {ad ad' : Nat → Nat → Nat → Nat} {Y Y' : Mem} (h : ∀ k, k < 15 → ad' k = ad k) (h20 : ad' 20 = ad 20) (hno : ∀ q ∈ gr, q.1 < 12) (hY : ∀ k, k < 12 → Y' k = Y k) : wC T gr ad' Y' = wC T gr ad Y := by
  unfold wC
  refine List.map_congr_left fun c hc => ?_
  have hne : c.1 < 12 := by
    unfold keys at hc
    obtain ⟨q, q1, q2⟩ := List.mem_flatMap.mp hc
    obtain ⟨o, o1, o2⟩ := List.mem_map.mp q2
    rw [← o2]
    exact hno q q1
  have hcell : ∀ y, cell T ad' c.1 c.2.1 c.2.2 y = cell T ad c.1 c.2.1 c.2.2 y := fun y => by
    unfold cell cmdr
    rw [if_neg (show ¬ c.1 = 15 by omega), if_neg (show ¬ c.1 = 15 by omega)]
    rw [h 0 (by decide), h 1 (by decide), h 2 (by decide), h 3 (by decide), h 4 (by decide), h 5 (by decide), h 6 (by decide), h 7 (by decide), h 8 (by decide), h 9 (by decide), h 12 (by decide), h20]
  rw [h c.1 (by omega), hY c.1 hne, hcell]
theorem Stt_adX {N0 : Nat} {ad ad' : Nat → Nat → Nat → Nat} {s : State} {H : Heap} (h : ∀ k, 20 ≤ k → ad' k = ad k) (hS : Stt N0 ad s H) : Stt N0 ad' s H := by
  unfold Stt SStr SEnum SCmds SSw SJdk at hS ⊢
  rw [h 20 (by decide), h 21 (by decide), h 22 (by decide), h 24 (by decide), h 25 (by decide)]
  exact hS
theorem Chw_ad {p : Program} {s : State} {m : MethodId} {args : Array Value} {meth : Method} {c : Code} {cc : ByteArray} {nL : Nat} {Ts : List Cond} {own : String} {N0 : Nat} {T : Nat → ClassId} {D : va_G} {ad ad' : Nat → Nat → Nat → Nat} (C : Chw p s m args meth c cc nL Ts own N0 T D ad) (h : ∀ k, 20 ≤ k → ad' k = ad k) : Chw p s m args meth c cc nL Ts own N0 T D ad' :=
  ⟨C.1, C.2.1, C.2.2.1, C.2.2.2.1, C.2.2.2.2.1, C.2.2.2.2.2.1, trivial, C.2.2.2.2.2.2.2.1, C.2.2.2.2.2.2.2.2.1, C.2.2.2.2.2.2.2.2.2.1, Stt_adX h (hx_st C)⟩
section
variable {p : Program} {l : Launch} {e : Env} {R : Room} {s : State} {m : MethodId} {args : Array Value} {below : List Frame} {meth : Method} {c : Code} {cc : ByteArray} {nL N0 : Nat} {T : Nat → ClassId} {D : va_G} {ad : Nat → Nat → Nat → Nat} {cells slots : Nat} {Q : State → Prop} {w : va_W} {pc : Nat} {L : List (Nat × Value)} {st : List Value} {Ts : List Cond} {own : String} {sa sl : Nat} {sf : Nat → Int32}
/-- the world told otherwise -/
theorem hw_convP (w1 : va_W) (hP : ∀ H : Heap, PM D w H → PM D w1 H) (hD : DM (fun q => N0 ≤ q) w → DM (fun q => N0 ≤ q) w1) (k : HW p l e R s m args below meth c nL N0 D cells slots Q w1 pc L st) : HW p l e R s m args below meth c nL N0 D cells slots Q w pc L st :=
  fun H locs ls hP0 hD0 hS hl1 => k H locs ls (PM.to (hP H (PM.of hP0))) (DM.to (hD (DM.of hD0))) hS hl1
/-- a call that knows nothing of what has been made before -/
theorem hw_callN (C : Chw p s m args meth c cc nL Ts own N0 T D ad) (hX : HwX N0 sa sl sf s) {index n maxL k0 n0 : Nat} {y : MethodName} {bytes : ByteArray} {ret : Option FieldType} {ws : List Cond} {rm : Room} {As st0 : List Value} {post : Option Nat → va_W → Prop} (hM : ∀ N1 : Nat, N0 ≤ N1 → Met l y ws rm (va_Pc As (HwPx N1 T D ad [] sa sl sf)) (va_Qq post (HwB N1 D) (fun q => N1 ≤ q)) k0 n0 (fun q => N1 ≤ q)) (cw : CallB R s args own index y bytes maxL ret ws rm k0 n0 n ∧ (Cond.static y).before args s = true) (hn : As.length = n) (hst : st0 = As.reverse ++ st) (hcat : (st.map fun v => v.category).sum ≤ 8) (hf : cells + k0 ≤ R.cells ∧ slots + n0 ≤ R.slots) (d : decode cc pc = .ok (.invokestatic index, 3)) (k : ∀ (r : Option Nat) (w1 : va_W), post r w1 → HW p l e R s m args below meth c nL N0 D (cells + k0) (slots + n0) Q (w1 ++ w) (pc + 3) L (va_rf r :: st)) : HW p l e R s m args below meth c nL N0 D cells slots Q w pc L st0 := by
  intro H locs ls hP hD hS hl1
  have hN : N0 ≤ H.size := Nat.le_trans C.2.2.2.2.2.2.2.1 hS.1
  have hPw : PM D w H := PM.of hP
  have hDw := DM.of hD
  refine va_callq (va_runS (As := As) (rest := st) ⟨C.1, C.2.1, C.2.2.1, C.2.2.2.1, C.2.2.2.2.1⟩ (hM H.size hN) cw ⟨HwPx_blind H.size T D ad [] sa sl sf As, fun U hU hW => ⟨rfl, ⟨by rw [hU]; exact Nat.le_refl _, PM.to (fun q hq => nomatch hq), va_K.moved hW.alike C.2.2.2.2.2.1, DM.to ⟨List.Pairwise.nil, fun q hq => nomatch hq⟩, Nst_warm hW C.2.2.2.2.2.2.2.2.2.1, (Stt_moved hW (by rw [hU]; exact hS.1) (fun q h1 h2 => by rw [hU]; exact hS.2.1 q (Nat.lt_of_lt_of_le h1 C.2.2.2.2.2.2.2.1) (Nat.not_le.mpr h1)) C.2.2.2.2.2.2.2.2.2.2).narrow hN⟩, hX.1, (va_T.moved hW.alike (by rw [hU]; exact va_T.kept hX.2 hS.2.1)).narrow (fun q h => Nat.le_trans hN h)⟩⟩ rfl hn hl1.1 hst (lv_room hcat) d hf) hS (fun q _ h => Nat.le_trans hN h) (fun q h => Nat.le_trans hN h) (fun r u t H1 locs1 ht hvm hw hB hz1 hk1 hS1 => k r u hw H1 locs1 ls (PM.to (PM.app (PM.of (by rw [← ht]; exact hB.1)) (hPw.kept fun q hq => hk1 _ (hPw q hq).lt (Nat.not_le.mpr (hPw q hq).lt)))) (DM.to ?_) hS1 hl1)
  have h1 := DM.of hB.2
  refine ⟨List.pairwise_append.mpr ⟨h1.1, hDw.1, fun a ha b hb e9 => ?_⟩, fun q hq => ?_⟩
  · have h2 := h1.2 a ha
    have h3 := (hPw b hb).lt
    rw [← e9] at h3
    exact absurd h2 (Nat.not_le.mpr h3)
  · rcases List.mem_append.mp hq with h | h
    · exact Nat.le_trans hN (h1.2 q h)
    · exact hDw.2 q h
/-- from counted cells to a world alone -/
theorem gw_HW (k : HW p l e R s m args below meth c nL N0 D cells slots Q w pc L st) : GW p l e R s m args below meth c nL D (fun q => N0 ≤ q) N0 cells slots Q w pc L st :=
  fun H locs ls hP hD _ hS hl1 => k H locs ls (PM.to hP) (DM.to hD) hS hl1
/-- the end: 1 -/
theorem hw_law_end {s : State} {meth : Method} (C : Chw p s m #[.ref sa] meth c code nL Ts own s.heap.size T D ad) (hr : meth.sig.returnType = ret) (hc : cells ≤ 600086) (hs : slots ≤ 7301442) : HW p l e room_1 s m #[.ref sa] below meth c nL s.heap.size D cells slots (lw_Z below #[.ref sa] s) w 203 L [] := by
  refine hw_iconst C dL_law_203 (v := 1) rfl ?_
  intro H locs ls hP hD hS hl1
  refine W.widen hc hs ?_
  refine va_forget (fun q hq => hS.2.2 q hq) ?_
  exact lw_ret C.1 C.2.1 hr C.2.2.2.2.2.2.2.2.1 dL_law_204
end
