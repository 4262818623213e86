/-! THE ENUM: its ordinal; an array of its constants -/
theorem fl_ordinal : Cond.fieldLink RJx29ce0 7 "java/lang/Enum" "ordinal" "I" ∈ wsJx29ce0_ordinal_8abf5 := by decide +kernel
set_option maxRecDepth 100000 in
theorem c_ordinal {l : Launch} {N0 : Nat} {T : Nat → ClassId} {D : va_G} {gr : List (Nat × Nat)} {ad : Nat → Nat → Nat → Nat} {Y : Mem} {i : Nat} (hG : ∀ q ∈ ([] : List (Nat × Nat)), q ∈ gr) (hi : i < 8) : CI l yJx29ce0_ordinal_8abf5 wsJx29ce0_ordinal_8abf5 (Rm 0) N0 T D gr ad Y [.ref (ad 20 i 0)] (fun r Y1 => r = Int32.ofNat i ∧ Y1 = Y) :=
  fw_body (by decide +kernel) rfl (Nat.le_of_ble_eq_true rfl) (fun p e s m below meth c C hrt => by
    show FW p l e (Rm 0) s m [Value.ref (ad 20 i 0)].toArray below meth c 1 N0 T D gr ad 0 0 _ Y 0 [(0, .ref (ad 20 i 0))] []
    refine fw_aload_n C dJx29ce0_ordinal_8abf5_0 rfl 0 rfl ?_
    refine fw_getO C (v := .int (Int32.ofNat i)) ((cx_st C).2.2.1 _ hi).2.1 (cx_ts C _ fl_ordinal) (fun _ h => h) dJx29ce0_ordinal_8abf5_1 ?_
    exact fw_iret C hrt Y ⟨rfl, rfl⟩ (fun t ht => ht) dJx29ce0_ordinal_8abf5_4)
section FWR5
variable {p : Program} {l : Launch} {e : Env} {R : Room} {s : State} {m : MethodId} {args : Array Value} {below : List Frame} {meth : Method} {c : Code} {cc : ByteArray} {nL N0 : Nat} {T : Nat → ClassId} {D : va_G} {gr : List (Nat × Nat)} {ad : Nat → Nat → Nat → Nat} {cells slots : Nat} {Q : State → Prop} {Y : Mem} {pc : Nat} {L L' : List (Nat × Value)} {st : List Value} {Ts : List Cond} {own : String}
theorem fw_castq (C : Cx p s m args meth c cc nL Ts own N0 T D gr ad) {k0 g0 o0 n : Nat} {i : Int32} {v : Nat} (hg : (k0, g0) ∈ gr) (ho : o0 ∈ offs k0 g0) (he : ∀ y, cell T ad k0 g0 o0 y = .inl (T 6, n, .inr (.inr (.inr (.inr (fun i => cmdr ad (y i))))))) (hb : inb i n = true) (hn : n < 2 ^ 31) (hv : v < 8) (d : decode cc pc = .ok (.aastore, 1)) (k : FW p l e R s m args below meth c nL N0 T D gr ad cells slots Q (up Y k0 g0 o0 (ix i) (Int32.ofNat (v + 1))) (pc + 1) L st) : FW p l e R s m args below meth c nL N0 T D gr ad cells slots Q Y pc L (.ref (ad 20 v 0) :: .int i :: .ref (ad k0 g0 o0) :: st) := by
  intro H locs ls hP hS hl1
  obtain ⟨q0, hq⟩ := keys_at hg ho
  obtain ⟨cell0, h1, h2, h3, -⟩ := ((cx_st C).2.2.1 _ hv).1.kept hS.2.1
  obtain ⟨kE, hkE, -⟩ := Vm.findClass_spec h3
  refine va_astqM C.1 C.2.1 C.2.2.2.2.2.1 hP (C.2.2.2.2.2.2.1 Y) hS q0 6 (by rw [wC_key hq, he]) rfl ⟨cell0, h1, h2, ⟨kE, hkE⟩, fun comp hc => by have hc2 : s.vm.findClass "RecipeScheduler$Command" = some comp := hc; rw [h3] at hc2; cases hc2; exact (show s.vm.assignableAux _ _ _ = true by unfold Vm.assignableAux; simp)⟩ (inb_vp hb) d (fun H1 locs1 hP1 hD1 hS1 => ?_)
  have e1 : (fun j => cmdr ad (upd (Y k0 g0 o0) (ix i) (Int32.ofNat (v + 1)) j)) = va_up (fun j => cmdr ad (Y k0 g0 o0 j)) i.toNatClampNeg (some (ad 20 v 0)) := by
    funext j
    have e2 : (Int32.ofNat (v + 1)).toNatClampNeg = v + 1 := nI_clamp (n := v + 1) (by omega)
    have e3 : ¬ Int32.ofNat (v + 1) = 0 := nI_ne0 (n := v + 1) (by omega) (by omega)
    by_cases hj : j = ix i
    · subst hj
      have e4 : upd (Y k0 g0 o0) (ix i) (Int32.ofNat (v + 1)) (ix i) = Int32.ofNat (v + 1) := pk_us
      have e5 : va_up (fun j => cmdr ad (Y k0 g0 o0 j)) i.toNatClampNeg (some (ad 20 v 0)) (ix i) = some (ad 20 v 0) := by simp [va_up]
      show cmdr ad (upd (Y k0 g0 o0) (ix i) (Int32.ofNat (v + 1)) (ix i)) = va_up (fun j => cmdr ad (Y k0 g0 o0 j)) i.toNatClampNeg (some (ad 20 v 0)) (ix i)
      rw [e4, e5]
      unfold cmdr
      rw [if_neg e3, e2, Nat.add_sub_cancel]
    · have hj2 : ¬ j = i.toNatClampNeg := hj
      simp [upd, va_up, hj2]
  rw [← e1, ← he, wC_set (C.2.2.2.2.2.2.1 Y) hq] at hP1
  rw [up_eq] at k
  exact k H1 locs1 ls hP1 hS1 hl1
end FWR5
