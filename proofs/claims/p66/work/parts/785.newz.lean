/-! A NEW ARRAY OF BOOLEANS in a world of groups -/
abbrev Rn (d : Nat) : Room := { frames := d, cells := 2, slots := 28, locals := 28 * d }
abbrev CVn (l : Launch) (y : MethodName) (ws : List Cond) (rm : Room) (N0 : Nat) (T : Nat → ClassId) (D : va_G) (gr : List (Nat × Nat)) (ad : Nat → Nat → Nat → Nat) (Y : Mem) (av : List Value) (post : Mem → Prop) : Prop :=
  Met l y ws rm (va_Pc av (WP N0 T D gr ad Y)) (va_Qv post (WB T D gr ad) (fun q => N0 ≤ q)) 2 28 (fun q => N0 ≤ q)
theorem fw_bodyn {l : Launch} {y : MethodName} {ws ws' : List Cond} {rm : Room} {cc : ByteArray} {maxL : Nat} {ret : Option FieldType} {N0 : Nat} {T : Nat → ClassId} {D : va_G} {gr : List (Nat × Nat)} {ad : Nat → Nat → Nat → Nat} {Y : Mem} {av : List Value} {Qc : Array Value → State → Outcome → State → Prop}
    (hy : plainName y.cls = true) (hw : ws = Cond.code y cc maxL ret :: ws') (hlen : (lg_sl av).length ≤ maxL)
    (body : ∀ (p : Program) (e : Env) (s : State) (m : MethodId) (below : List Frame) (meth : Method) (c : Code), Cx p s m av.toArray meth c cc maxL ws y.cls N0 T D gr ad → meth.sig.returnType = ret →
      FW p l e rm s m av.toArray below meth c maxL N0 T D gr ad 0 0 (MQ below Qc av.toArray s 2 28 (fun q => N0 ≤ q)) Y 0 (lv_args 0 av) []) :
    Met l y ws rm (va_Pc av (WP N0 T D gr ad Y)) Qc 2 28 (fun q => N0 ≤ q) := by
  refine Met.ofW (cc := cc) (maxL := maxL) (ret := ret) hy hw ?_
  intro p e s m args below meth c s₁ B hml hv
  obtain ⟨rfl, h1, h2, h3, h4, h5, h6⟩ := hv
  have hl := lv_entry av hlen
  rw [lg_entry_eq]
  exact body p e s m below meth c ⟨B.exec, B.bytes, hml, findClass_of_methodNamed B.named, atoms_spec (ws := ws) B.pre, h3, fun Y' => wC_D h4 Y', h1, B.notSynchronized, h5, h6⟩ B.returns s.heap [] _ h2 va_S.rf hl
theorem cell_cg {T : Nat → ClassId} {ad ad' : Nat → Nat → Nat → Nat} (h : ∀ k, k ≠ 13 → k ≠ 14 → ad' k = ad k) (k g o : Nat) (y : Nat → Int32) : cell T ad' k g o y = cell T ad k g o y := by
  unfold cell cmdr
  rw [h 0 (by decide) (by decide), h 1 (by decide) (by decide), h 2 (by decide) (by decide), h 3 (by decide) (by decide), h 4 (by decide) (by decide), h 5 (by decide) (by decide), h 6 (by decide) (by decide), h 7 (by decide) (by decide), h 8 (by decide) (by decide), h 9 (by decide) (by decide), h 12 (by decide) (by decide), h 16 (by decide) (by decide), h 20 (by decide) (by decide)]
theorem Stt_ad {N0 : Nat} {ad ad' : Nat → Nat → Nat → Nat} {s : State} {H : Heap} (h : ∀ k, k ≠ 13 → k ≠ 14 → ad' k = ad k) (hS : Stt N0 ad s H) : Stt N0 ad' s H := by
  unfold Stt SStr SEnum SCmds SSw SJdk at hS ⊢
  rw [h 20 (by decide) (by decide), h 21 (by decide) (by decide), h 22 (by decide) (by decide), h 24 (by decide) (by decide), h 25 (by decide) (by decide)]
  exact hS
theorem wC_cg {T : Nat → ClassId} {gr : List (Nat × Nat)} {ad ad' : Nat → Nat → Nat → Nat} {Y Y' : Mem} {kA : Nat} (hk : kA = 13 ∨ kA = 14) (h : ∀ k, k ≠ kA → ad' k = ad k) (hno : ∀ q ∈ gr, q.1 ≠ kA) (hY : ∀ k, k ≠ kA → Y' k = Y k) : wC T gr ad' Y' = wC T gr ad Y := by
  unfold wC
  refine List.map_congr_left fun c hc => ?_
  have hne : c.1 ≠ kA := by
    unfold keys at hc
    obtain ⟨q, q1, q2⟩ := List.mem_flatMap.mp hc
    obtain ⟨o, o1, o2⟩ := List.mem_map.mp q2
    rw [← o2]
    exact hno q q1
  rw [h c.1 hne, hY c.1 hne, cell_cg (fun k h13 h14 => h k (by rcases hk with rfl | rfl <;> assumption))]
theorem wC_snoc {T : Nat → ClassId} {gr : List (Nat × Nat)} {ad : Nat → Nat → Nat → Nat} {Y : Mem} {kA : Nat} (hk : kA = 13 ∨ kA = 14) : wC T (gr ++ [(kA, 0)]) ad Y = wC T gr ad Y ++ [(ad kA 0 0, .inl (T 2, 14, .inl (Y kA 0 0)))] := by
  rcases hk with rfl | rfl
  · unfold wC keys
    rw [List.flatMap_append, List.map_append]
    rfl
  · unfold wC keys
    rw [List.flatMap_append, List.map_append]
    rfl
section
variable {p : Program} {l : Launch} {e : Env} {R : Room} {s : State} {m : MethodId} {args : Array Value} {below : List Frame} {meth : Method} {c : Code} {cc : ByteArray} {nL N0 : Nat} {T : Nat → ClassId} {D : va_G} {gr : List (Nat × Nat)} {ad : Nat → Nat → Nat → Nat} {cells slots : Nat} {Q : State → Prop} {Y : Mem} {pc : Nat} {L : List (Nat × Value)} {Ts : List Cond} {own : String}
theorem fw_newZ (C : Cx p s m args meth c cc nL Ts own N0 T D gr ad) {kA : Nat} {L2 : (Nat → Nat → Nat → Nat) → List (Nat × Value)} (hkA : kA = 13 ∨ kA = 14) (hno : ∀ q ∈ gr, q.1 ≠ kA) (hL : ∀ ad', (∀ k, k ≠ kA → ad' k = ad k) → L2 ad' = L) (harr : Cond.arrayClass .boolean ∈ Ts) (hcells : cells + 1 ≤ R.cells) (hslots : slots + 14 ≤ R.slots) (d : decode cc pc = .ok (.newarray .boolean, 2))
    (k : ∀ (gr' : List (Nat × Nat)) (ad' : Nat → Nat → Nat → Nat), Cx p s m args meth c cc nL Ts own N0 T D gr' ad' → (∀ q ∈ gr, q ∈ gr') → (kA, 0) ∈ gr' → (∀ kB, kB ≠ kA → (∀ q ∈ gr, q.1 ≠ kB) → ∀ q ∈ gr', q.1 ≠ kB) → (∀ (Z : Mem) (H : Heap), va_P D vwCl (wC T gr' ad' Z) H → va_P D vwCl (wC T gr ad Z) H) → FW p l e R s m args below meth c nL N0 T D gr' ad' (cells + 1) (slots + 14) Q (upR Y kA 0 0 (fun _ => 0)) (pc + 2) (L2 ad') [.ref (ad' kA 0 0)]) :
    FW p l e R s m args below meth c nL N0 T D gr ad cells slots Q Y pc L [.int 14] := by
  intro H locs ls hP hS hl1
  refine va_newaK (N := 14) (rest := []) C.1 C.2.1 (show (Cond.arrayClass (newarray.typeOf .boolean)).before args s = true from cx_ts C _ harr) rfl d rfl (by decide) (by decide) (by decide +kernel) hcells hslots rfl fun H1 cA e1 z1 o1 _ hnm => ?_
  have ec : cA = T 2 := Option.some.inj (hnm.symm.trans (C.2.2.2.2.2.1.2 2 _ rfl).2)
  subst ec
  have e2 : va_at D vwCl (H.size, .inl (T 2, 14, .inl (fun _ => 0))) H1 := e1
  obtain ⟨ad', had, hA⟩ : ∃ ad' : Nat → Nat → Nat → Nat, (∀ k, k ≠ kA → ad' k = ad k) ∧ ad' kA 0 0 = H.size := ⟨fun k g o => if k = kA then H.size else ad k g o, fun k hk => by funext g o; exact if_neg hk, if_pos rfl⟩
  have hw : ∀ Z Z' : Mem, (∀ k, k ≠ kA → Z' k = Z k) → wC T (gr ++ [(kA, 0)]) ad' Z' = wC T gr ad Z ++ [(H.size, .inl (T 2, 14, .inl (Z' kA 0 0)))] := fun Z Z' hz => by rw [wC_snoc hkA, wC_cg hkA had hno hz, hA]
  have hlt : ∀ Z, ∀ q ∈ wC T gr ad Z, q.1 < H.size := fun Z q hq => by
    obtain ⟨i, hi⟩ := List.getElem?_of_mem hq
    obtain ⟨e9, h9⟩ := wC_addr (Y := Y) hi
    exact (hP i _ h9).lt
  have hN : N0 ≤ H.size := Nat.le_trans C.2.2.2.2.2.2.2.1 hS.1
  have hD : ∀ Z, va_D (fun q => N0 ≤ q) (wC T (gr ++ [(kA, 0)]) ad' Z) := fun Z => by
    rw [hw Z Z (fun _ _ => rfl)]
    have h8 := DM.of (C.2.2.2.2.2.2.1 Z)
    refine DM.to ⟨List.pairwise_append.mpr ⟨h8.1, List.pairwise_singleton _ _, fun a ha b hb => ?_⟩, fun q hq => ?_⟩
    · rw [List.mem_singleton.mp hb]
      exact Nat.ne_of_lt (hlt Z a ha)
    · rcases List.mem_append.mp hq with h | h
      · exact h8.2 q h
      · rw [List.mem_singleton.mp h]; exact hN
  have hcv : ∀ (Z : Mem) (H2 : Heap), va_P D vwCl (wC T (gr ++ [(kA, 0)]) ad' Z) H2 → va_P D vwCl (wC T gr ad Z) H2 := fun Z H2 h2 => PM.to fun q hq => PM.of h2 q (by rw [hw Z Z (fun _ _ => rfl)]; exact List.mem_append_left _ hq)
  have C' : Cx p s m args meth c cc nL Ts own N0 T D (gr ++ [(kA, 0)]) ad' := ⟨C.1, C.2.1, C.2.2.1, C.2.2.2.1, C.2.2.2.2.1, C.2.2.2.2.2.1, hD, C.2.2.2.2.2.2.2.1, C.2.2.2.2.2.2.2.2.1, C.2.2.2.2.2.2.2.2.2.1, Stt_ad (fun k h13 h14 => had k (by rcases hkA with rfl | rfl <;> assumption)) (cx_st C)⟩
  refine W.eq (g2 := F0 m (pc + 2) ls [.ref (ad' kA 0 0)]) (by rw [hA]) (k (gr ++ [(kA, 0)]) ad' C' (fun q hq => List.mem_append_left _ hq) (List.mem_append_right _ (List.mem_singleton.mpr rfl)) (fun kB hB h q hq => ?_) hcv H1 locs ls ?_ ?_ ?_)
  · rcases List.mem_append.mp hq with h9 | h9
    · exact h q h9
    · rw [List.mem_singleton.mp h9]; exact fun e9 => hB e9.symm
  · rw [hw Y _ (fun k hk => by funext g o; exact upR_ne Y _ (fun q => hk q.1)), upR_at]
    refine PM.to (PM.app (PM.kept (PM.of hP) fun q hq => o1 _ (hlt Y q hq)) fun q hq => ?_)
    rw [List.mem_singleton.mp hq]
    exact e2
  · exact va_S_grow hS (by omega) (fun q hq => o1 q (by omega))
  · rw [hL ad' had]; exact hl1
end
