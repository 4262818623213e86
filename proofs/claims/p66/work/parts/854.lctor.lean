/-! THE LAW: a constructor's call out of counted cells; where the law begins -/
section
variable {p : Program} {l : Launch} {e : Env} {R : Room} {s : State} {m : MethodId} {args : Array Value} {below : List Frame} {meth : Method} {c : Code} {cc : ByteArray} {nL : Nat} {T : Nat → ClassId} {D : va_G} {A : Nat → Prop} {sz cells slots : Nat} {Q : State → Prop} {ws : va_W} {pc : Nat} {L L' : List (Nat × Value)} {st : List Value} {Ts : List Cond} {own : String}
/-- a constructor's call, its cells beyond all that is there -/
theorem gw_ctorM (C : CG p s m args meth c cc nL Ts own T D A sz) {Nc N0 : Nat} {gr' : List (Nat × Nat)} {ad : Nat → Nat → Nat → Nat} {Y Y' : Mem} {h index n maxL k0 n0 : Nat} {raw : va_E} {y : MethodName} {bytes : ByteArray} {wsy : List Cond} {rm : Room} {As st0 : List Value} (hM : CtW l y wsy rm D T N0 ad As h raw (sz + cells) [] Y gr' Y' k0 n0) (cw : CallB R s args own index y bytes maxL none wsy rm k0 n0 n ∧ y.name = "<init>" ∧ (Cond.instanceMethod y).before args s = true)
    (hDn : DM (fun q => N0 ≤ q) (wC T gr' ad Y')) (hlo : ∀ q ∈ ws, q.1 < N0) (hA : ∀ q, N0 ≤ q → A q) (hSt : Stt Nc ad s s.heap) (hNc : Nc ≤ N0) (hcA : ∀ q, q < Nc → ¬ A q) (hNcs : Nc ≤ sz)
    (hn : As.length = n) (hst : st0 = As.reverse ++ .ref h :: st) (hcat : (st.map fun v => v.category).sum ≤ 8) (hf : cells + k0 ≤ R.cells ∧ slots + n0 ≤ R.slots) (d : decode cc pc = .ok (.invokespecial index, 3)) (k : GW p l e R s m args below meth c nL D A sz (cells + k0) (slots + n0) Q (wC T gr' ad Y' ++ ws) (pc + 3) L st) : GW p l e R s m args below meth c nL D A sz cells slots Q ((h, raw) :: ws) pc L st0 := by
  intro H locs ls hP hD hz hS hl1
  have hss : Nc ≤ s.heap.size := by rw [cg_sz C]; exact hNcs
  refine va_callv (va_runI (As := As) (rest := st) ⟨C.1, C.2.1, C.2.2.1, C.2.2.2.1, C.2.2.2.2.1⟩ hM cw ⟨CtW_blind D T N0 ad As h raw (sz + cells) [] Y, fun U hU hW => ⟨rfl, by rw [hU]; exact hz, by rw [hU]; exact fun q hq => hP q (by rcases List.mem_cons.mp hq with rfl | h9; exact List.mem_cons_self; exact nomatch h9), va_K.moved hW.alike C.2.2.2.2.2.1, Nst_warm hW (cg_nst C), (cg_aov C).moved hW.alike, (Stt_moved hW (by rw [hU]; exact hS.1) (fun q h1 _ => by rw [hU]; exact hS.2.1 q (Nat.lt_of_lt_of_le h1 hss) (hcA q h1)) hSt).narrow hNc⟩⟩ rfl hn hl1.1 hst (lv_room hcat) d hf) hS (fun q _ h2 => hA q h2) (fun q h2 => hA q h2) (fun u t H1 locs1 ht _ _ hB hz1 hk1 hS1 => ?_)
  obtain ⟨hP1, hz9⟩ := hB
  rw [ht] at hP1 hz9
  have hPw : PM D ws H := fun q hq => hP q (List.mem_cons_of_mem _ hq)
  refine k H1 locs1 ls (hP1.app (hPw.kept fun q hq => hk1 _ (hPw q hq).lt (Nat.not_le.mpr (hlo q hq)))) ⟨List.pairwise_append.mpr ⟨hDn.1, (List.pairwise_cons.mp hD.1).2, fun a ha b hb e => ?_⟩, fun q hq => ?_⟩ (by rw [hz9]; omega) hS1 hl1
  · have h2 := hDn.2 a ha
    have h3 := hlo b hb
    rw [e] at h2
    omega
  · rcases List.mem_append.mp hq with h2 | h2
    · exact hA _ (hDn.2 q h2)
    · exact hD.2 q (List.mem_cons_of_mem _ h2)
end
theorem Yz_6 : Yz 6 0 0 = fun j => if j = 5 then -1 else 0 := by
  funext j
  show (if 6 = 6 ∧ 0 = 0 ∧ 0 = 0 ∧ j = 5 then (-1 : Int32) else if 6 = 0 ∧ 0 = 0 ∧ 0 = 0 ∧ j = 10 then 1 else if 6 = 10 ∧ 0 = 0 ∧ 0 = 0 ∧ j = 6 then -1 else if 6 = 8 ∧ 0 = 0 ∧ 0 = 1 then 1 else 0) = if j = 5 then -1 else 0
  by_cases h : j = 5
  · rw [if_pos ⟨rfl, rfl, rfl, h⟩, if_pos h]
  · rw [if_neg (fun q => h q.2.2.2), if_neg (by omega), if_neg (by omega), if_neg (by omega), if_neg h]
