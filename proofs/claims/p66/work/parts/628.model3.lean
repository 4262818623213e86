/-! THE MODEL'S MINUTE, on the block -/
def W_ (s w : Nat) : Nat := 46 + s * 24 + w
def mW1 (m : Nat → Int32) (s : Nat) : Nat → Int32 :=
  let a := upd m (46 + s * 24 + 23) 0
  let b := upd a 10 (a 10 + (1 - fld a s 11))
  upd b (46 + s * 24 + 18) (fld b s 18 - 1)
def mW2 (c : Nat → Int32) (s : Nat) : Nat → Int32 :=
  let d := upd c (46 + s * 24 + 17) 2
  let e := upd d (46 + s * 24 + 19) 0
  let f := upd e (46 + s * 24 + 21) 1
  let h := upd f (46 + s * 24 + 23) 1
  upd h 8 (h 8 + 1)
def mWork (m : Nat → Int32) (s : Nat) : Nat → Int32 :=
  if fld (upd m (46 + s * 24 + 23) 0) s 17 = 1 then (if fld (mW1 m s) s 18 ≤ 0 then mW2 (mW1 m s) s else mW1 m s) else upd m (46 + s * 24 + 23) 0
theorem work_ok (Y : Mem) {s : Nat} (hs : s < 14) : M12_work Y (nI s) = some (upR Y 10 0 1 (mWork (Y 10 0 1) s)) := by
  unfold M12_work
  simp (disch := omega) only [litI, pk_mul, nI_add, gdi, ix_n, lt_e, bd1_e, bd2_e, of_ok, set_ok, upR_at, upR_upR, up_upR]
  unfold mWork
  simp only [litI]
  by_cases c1 : fld (upd (Y 10 0 1) (46 + s * 24 + 23) (nI 0)) s 17 = nI 1
  · rw [if_pos c1, if_pos c1]
    unfold mW1 mW2
    simp only [litI]
    split <;> rfl
  · rw [if_neg c1, if_neg c1]
def mC1 (m : Nat → Int32) (s : Nat) : Nat → Int32 := upd m (46 + s * 24 + 19) (fld m s 19 + 1)
def mC2 (a : Nat → Int32) (s : Nat) : Nat → Int32 :=
  let b := upd a (46 + s * 24 + 17) 3
  let c := upd b (46 + s * 24 + 19) 0
  let d := upd c (46 + s * 24 + 22) (fld c s 22 + 1)
  upd d 9 (d 9 + 1)
def mCool (m : Nat → Int32) (s : Nat) : Nat → Int32 :=
  if fld m s 10 = 0 then m else if fld m s 17 = 2 then (if fld m s 23 = 1 then m else if isTaken m s = true then m else if (mC1 m s) 1 < fld (mC1 m s) s 19 then mC2 (mC1 m s) s else mC1 m s) else m
theorem cool_ok (Y : Mem) {s : Nat} (W : WF (Y 10 0 1)) (hs : s < nS (Y 10 0 1)) : M12_cool Y (nI s) = some (upR Y 10 0 1 (mCool (Y 10 0 1) s)) := by
  have h14 := W.2.1
  unfold M12_cool
  simp (disch := omega) only [litI, pk_mul, nI_add, gdi, ix_n, lt_e, bd1_e, bd2_e, of_ok, set_ok, upR_at, upR_upR, up_upR, isTaken_ok Y W hs, bI_n]
  unfold mCool
  simp only [litI]
  by_cases c1 : fld (Y 10 0 1) s 10 = nI 0
  · rw [if_pos c1, if_pos c1, upR_self]
  · rw [if_neg c1, if_neg c1]
    by_cases c2 : fld (Y 10 0 1) s 17 = nI 2
    · rw [if_pos c2, if_pos c2]
      by_cases c3 : fld (Y 10 0 1) s 23 = nI 1
      · rw [if_pos c3, if_pos c3, upR_self]
      · rw [if_neg c3, if_neg c3]
        cases hT : isTaken (Y 10 0 1) s
        · rw [if_neg (by decide), if_neg (show ¬ (false = true) by decide)]
          unfold mC1 mC2
          simp only [litI]
          split <;> rfl
        · rw [if_pos rfl, if_pos rfl, upR_self]
    · rw [if_neg c2, if_neg c2, upR_self]
def mSt1 (m : Nat → Int32) (s : Nat) : Nat → Int32 :=
  let a := upd m (46 + s * 24 + 17) 1
  let b := upd a (46 + s * 24 + 18) (fld a s 7)
  let c := upd b (46 + s * 24 + 20) (fld b s 20 + 1)
  upd c 7 (c 7 + 1)
def mStart (m : Nat → Int32) (s : Nat) : Nat → Int32 := if hasCook m s = true then (if hasPan m s = true then mSt1 m s else m) else m
theorem start_ok (Y : Mem) {s : Nat} (W : WF (Y 10 0 1)) (hs : s < nS (Y 10 0 1)) : M12_startIfPossible Y (nI s) = some (upR Y 10 0 1 (mStart (Y 10 0 1) s)) := by
  have h14 := W.2.1
  unfold M12_startIfPossible
  simp (disch := omega) only [litI, pk_mul, nI_add, gdi, ix_n, lt_e, bd1_e, bd2_e, of_ok, set_ok, upR_at, upR_upR, up_upR, hasCook_ok Y W hs, hasPan_ok Y W hs, bI_n]
  unfold mStart
  cases hasCook (Y 10 0 1) s
  · rw [if_neg (by decide), if_neg (by decide), upR_self]
  · rw [if_pos rfl, if_pos rfl]
    cases hasPan (Y 10 0 1) s
    · rw [if_neg (by decide), if_neg (by decide), upR_self]
    · rw [if_pos rfl, if_pos rfl]
      unfold mSt1
      simp only [litI]
/-! a State's content -/
def uo (σ : Nat → Nat → Int32) (o j : Nat) (v : Int32) : Nat → Nat → Int32 := fun o' j' => if o' = o ∧ j' = j then v else σ o' j'
def wS (Y : Mem) (g : Nat) (σ : Nat → Nat → Int32) : Mem := fun k' g' o' => if k' = 2 ∧ g' = g then σ o' else Y k' g' o'
theorem uo_s (σ : Nat → Nat → Int32) (o j : Nat) (v : Int32) : uo σ o j v o j = v := if_pos ⟨rfl, rfl⟩
theorem uo_o {σ : Nat → Nat → Int32} {o j o' j' : Nat} {v : Int32} (h : ¬ (o' = o ∧ j' = j)) : uo σ o j v o' j' = σ o' j' := if_neg h
theorem uo_f {σ : Nat → Nat → Int32} {o j o' : Nat} {v : Int32} (h : ¬ o' = o) : uo σ o j v o' = σ o' := by
  funext j'
  exact if_neg fun q => h q.1
theorem uo_u (σ : Nat → Nat → Int32) (o j : Nat) (v : Int32) : uo σ o j v o = upd (σ o) j v := by
  funext j'
  unfold uo upd
  by_cases e : j' = j
  · rw [if_pos ⟨rfl, e⟩, if_pos e]
  · rw [if_neg (fun q => e q.2), if_neg e]
theorem wS_at (Y : Mem) (g : Nat) (σ : Nat → Nat → Int32) (o : Nat) : wS Y g σ 2 g o = σ o := if_pos ⟨rfl, rfl⟩
theorem wS_o {Y : Mem} {g : Nat} {σ : Nat → Nat → Int32} {k' g' o' : Nat} (h : ¬ (k' = 2 ∧ g' = g)) : wS Y g σ k' g' o' = Y k' g' o' := if_neg h
theorem wS_k {Y : Mem} {g : Nat} {σ : Nat → Nat → Int32} {k' : Nat} (h : ¬ k' = 2) : wS Y g σ k' = Y k' := by
  funext g' o'
  exact if_neg fun q => h q.1
theorem wS_self (Y : Mem) (g : Nat) : wS Y g (Y 2 g) = Y := by
  funext k' g' o'
  unfold wS
  by_cases e : k' = 2 ∧ g' = g
  · obtain ⟨rfl, rfl⟩ := e; rw [if_pos ⟨rfl, rfl⟩]
  · rw [if_neg e]
theorem up_wS (Y : Mem) (g : Nat) (σ : Nat → Nat → Int32) (o j : Nat) (v : Int32) : up (wS Y g σ) 2 g o j v = wS Y g (uo σ o j v) := by
  funext k' g' o' j'
  unfold up wS uo
  by_cases e : k' = 2 ∧ g' = g
  · obtain ⟨rfl, rfl⟩ := e
    by_cases e2 : o' = o ∧ j' = j
    · obtain ⟨rfl, rfl⟩ := e2; simp
    · have : ¬ (2 = 2 ∧ g' = g' ∧ o' = o ∧ j' = j) := fun q => e2 q.2.2
      simp [e2]
  · have : ¬ (k' = 2 ∧ g' = g ∧ o' = o ∧ j' = j) := fun q => e ⟨q.1, q.2.1⟩
    simp [e, this]
theorem wS_wS (Y : Mem) (g : Nat) (σ τ : Nat → Nat → Int32) : wS (wS Y g σ) g τ = wS Y g τ := by
  funext k' g' o'
  unfold wS
  by_cases e : k' = 2 ∧ g' = g
  · rw [if_pos e, if_pos e]
  · rw [if_neg e, if_neg e, if_neg e]
def sBit (s : Nat) : Int32 := 1 <<< (nI s &&& 31)
def sComplete (σ : Nat → Nat → Int32) (s : Nat) : Nat → Nat → Int32 := uo (uo (uo σ 0 6 (σ 0 6 &&& (sBit s ^^^ (-1)))) 0 7 (σ 0 7 ||| sBit s)) 5 s (σ 5 s + 1)
theorem complete_ok (Y : Mem) (g : Nat) (σ : Nat → Nat → Int32) {s : Nat} (hs : s < 14) : X8_complete (wS Y g σ) g (nI s) = some (wS Y g (sComplete σ s)) := by
  unfold X8_complete sComplete sBit
  simp (disch := omega) only [wS_at, up_wS, lt_e, gdi, ix_n, uo_o]
def sBurn (σ : Nat → Nat → Int32) (s : Nat) : Nat → Nat → Int32 := uo (uo (uo (uo σ 0 7 (σ 0 7 &&& (sBit s ^^^ (-1)))) 0 8 (σ 0 8 ||| sBit s)) 3 s 0) 6 s (σ 6 s + 1)
theorem burn_ok (Y : Mem) (g : Nat) (σ : Nat → Nat → Int32) {s : Nat} (hs : s < 14) : X8_burn (wS Y g σ) g (nI s) = some (wS Y g (sBurn σ s)) := by
  unfold X8_burn sBurn sBit
  simp (disch := omega) only [wS_at, up_wS, lt_e, gdi, ix_n, uo_o]
def sStart (σ : Nat → Nat → Int32) (s : Nat) : Nat → Nat → Int32 := uo (uo (uo (uo σ 0 8 (σ 0 8 &&& (sBit s ^^^ (-1)))) 0 6 (σ 0 6 ||| sBit s)) 2 s (σ 1 s)) 4 s (σ 4 s + 1)
theorem startC_ok (Y : Mem) (g : Nat) (σ : Nat → Nat → Int32) {s : Nat} (hs : s < 14) : X8_start (wS Y g σ) g (nI s) = some (wS Y g (sStart σ s)) := by
  unfold X8_start sStart sBit
  simp (disch := omega) only [wS_at, up_wS, lt_e, gdi, ix_n, uo_o]
