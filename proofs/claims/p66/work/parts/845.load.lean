section
/-! THE MADE TEXT is read, and the kitchen stands still -/
variable (sf : Nat → Int32) (sl : Nat)
theorem made_t {Z : Mem} {n : Nat} (hn : 1 ≤ n) (h9 : n ≤ 9) (hM : TM (bL (mL sf sl n)) (mL sf sl n).length Z) : ∃ Z', (bd1 (M12_begin Z) fun Y6 => M12_parseSetup Y6) = some (1, Z') ∧ Z' 10 0 1 13 = nI n ∧ Z' 10 0 1 1 = nI (pick sf sl 4 6) := by
  obtain ⟨m, rfl⟩ : ∃ m, n = m + 1 := ⟨n - 1, by omega⟩
  have p1 := pick_lt (sf := sf) (sl := sl) (k := 3) (n := 3) (by decide)
  have p2 := pick_lt (sf := sf) (sl := sl) (k := 4) (n := 6) (by decide)
  have p3 := pick_lt (sf := sf) (sl := sl) (k := 2) (n := 12) (by decide)
  have p4 := pick_lt (sf := sf) (sl := sl) (k := 5) (n := 20) (by decide)
  have p5 : mK sf sl < 4 := pick_lt (sf := sf) (sl := sl) (k := 1) (n := 4) (by decide)
  exact set_t (V := mV sf sl) (D := mD sf sl) (T := mT sf sl) (O := mO sf sl) (H := mH sf sl) (A := mA sf sl) (X := mX sf sl) (K := mK sf sl) (n := 0) ⟨by omega, by omega⟩ (by omega) (Nat.le_add_right _ _) (by omega) (fun k => by
    have := pick_lt (sf := sf) (sl := sl) (k := 6 + k) (n := 3) (by decide)
    unfold mV; omega) (fun k => by unfold mD; omega) (fun k => by unfold mT; omega) (fun k p hp => by
    unfold mO at hp
    split at hp
    · rename_i q
      rw [← Option.some.inj hp]; exact Nat.mod_lt _ q.1
    · cases hp) (fun k => by
    unfold mX
    split
    · rename_i q
      obtain ⟨a, b, c⟩ := prX_ok (z := mZ sf sl k) q.1 q.2 3 0 0 (by omega)
      exact ⟨a, fun x hx => (b x hx).1, by omega⟩
    · exact ⟨List.nodup_nil, fun x hx => absurd hx List.not_mem_nil, Nat.zero_le _⟩) (by omega) (by omega) rfl hM
/-- what has been read as a setup stands still -/
theorem MID_JJ {Y : Mem} {r K S : Nat} {m : Nat → Int32} (q : MID Y r m K S ff false false 0 ff) : JJ m ∧ m 4 = 0 := by
  have en := (MID_WF q).2.1
  obtain ⟨⟨a1, a2, a3, a4⟩, -, -, hz, -, f1, -⟩ := q
  have z : ∀ s, s < S → ∀ w, 17 ≤ w → w < 24 → fld m s w = 0 := fun s hs => (f1 s hs).2.2.2.2.2.2.2.2.2.2
  have w1 : wSt m 1 = 0 := by
    unfold wSt
    rw [en]
    exact cnt_0.mpr (fun s hs => by rw [z s hs 17 (by omega) (by omega)]; rfl)
  refine ⟨⟨?_, fun s hs h => ?_, fun s hs h => ?_, fun s hs h => ?_⟩, hz 4 (by omega) (by omega)⟩
  · rw [hz 7 (by omega) (by omega), hz 8 (by omega) (by omega), hz 11 (by omega) (by omega), w1]; rfl
  · rw [en] at hs
    rw [z s hs 17 (by omega) (by omega)] at h
    exact absurd h (by decide)
  · rw [en] at hs
    rw [z s hs 17 (by omega) (by omega)] at h
    exact absurd h (by decide)
  · rw [en] at hs
    exact z s hs 18 (by omega) (by omega)
end
