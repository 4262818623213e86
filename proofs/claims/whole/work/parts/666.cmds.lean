section
/-! COMMANDS of a script -/
def PRP (Y Y' : Mem) (j : Nat) (st nu : Int32) : Prop := FrS Y Y' ∧ Y' 8 0 0 4 = nI (j + 1) ∧ Y' 8 0 1 = Y 8 0 1 ∧ (∀ i, i ≠ j → Y' 8 0 2 i = Y 8 0 2 i ∧ Y' 8 0 3 i = Y 8 0 3 i) ∧ Y' 8 0 2 j = st ∧ Y' 8 0 3 j = nu
theorem PRP_a (Y : Mem) (f1 f2 : Nat → Int32) (j : Nat) (st nu : Int32) : PRP Y (up (upR (up (upR (up Y 8 0 2 j st) 6 0 0 f1) 8 0 3 j nu) 6 0 0 f2) 8 0 0 4 (nI (j + 1))) j st nu := by
  refine ⟨FrS_trans (FrS_trans (FrS_trans (FrS_trans (FrS_8 _ _ _ _ _) (FrS_6 _ _)) (FrS_8 _ _ _ _ _)) (FrS_6 _ _)) (FrS_8 _ _ _ _ _), by rw [up_at, pk_us], ?_, fun i hi => ⟨?_, ?_⟩, ?_, ?_⟩
  · rw [up_eq, upR_o (by omega), upR_o (by omega), up_eq, upR_o (by omega), upR_o (by omega), up_eq, upR_o (by omega)]
  · rw [up_eq, upR_o (by omega), upR_o (by omega), up_eq, upR_o (by omega), upR_o (by omega), up_at, pk_un hi]
  · rw [up_eq, upR_o (by omega), upR_o (by omega), up_at, pk_un hi, upR_o (by omega), up_eq, upR_o (by omega)]
  · rw [up_eq, upR_o (by omega), upR_o (by omega), up_eq, upR_o (by omega), upR_o (by omega), up_at, pk_us]
  · rw [up_eq, upR_o (by omega), upR_o (by omega), up_at, pk_us]
theorem b108_j {Y Z : Mem} {b : Nat → Nat} {n k s e j : Nat} (h : TJ Y Z b n k s e) (hj : j < 30) (h8 : Y 8 0 0 4 = nI j) (g : Nat) (v : Int32) : (∃ f h k' s' e', X6_readCommand_b108 g Y v (nI j) = some (up (upR (up Y 8 0 3 j v) 6 0 0 f) 8 0 0 4 (nI (j + 1))) ∧ X12_semicolon Z = some (1, upR Z 10 0 0 h) ∧ HF Z h ∧ TJ (up (upR (up Y 8 0 3 j v) 6 0 0 f) 8 0 0 4 (nI (j + 1))) (upR Z 10 0 0 h) b n k' s' e') ∨ (∃ f h, X6_readCommand_b108 g Y v (nI j) = some (up (upR (up Y 8 0 3 j v) 6 0 0 f) 8 0 0 4 (nI (j + 1))) ∧ X12_semicolon Z = some (0, upR Z 10 0 0 h) ∧ HF Z h ∧ BF f h) := by
  have hJ : TJ (up Y 8 0 3 j v) Z b n k s e := TJ_fr (by funext o; rw [up_eq, upR_o (by omega)]) (by rw [up_eq, upR_o (by omega)]) rfl rfl h
  unfold X6_readCommand_b108
  rw [gdi hj, ix_n (by omega), lt_e]
  have e4 : ∀ f, (upR (up Y 8 0 3 j v) 6 0 0 f) 8 0 0 4 = nI j := fun f => by rw [upR_o (by omega), up_eq, upR_o (by omega)]; exact h8
  rcases semi_j hJ with ⟨f, h', k', s', e', a1, a2, a3, a4⟩ | ⟨f, h', a1, a2, a3, a4⟩
  · left
    refine ⟨f, h', k', s', e', ?_, a2, a3, TJ_fr (by funext o; rw [up_eq, upR_o (by omega)]) (by rw [up_eq, upR_o (by omega)]) rfl rfl a4⟩
    rw [a1, bd1_e, e4, nI_1, lt_e]
  · right
    refine ⟨f, h', ?_, a2, a3, a4⟩
    rw [a1, bd1_e, e4, nI_1, lt_e]
theorem b108_e {Y : Mem} {j : Nat} (h : Y 6 0 0 1 = 5) (hj : j < 30) (h8 : Y 8 0 0 4 = nI j) (g : Nat) (v : Int32) : X6_readCommand_b108 g Y v (nI j) = some (up (up Y 8 0 3 j v) 8 0 0 4 (nI (j + 1))) := by
  unfold X6_readCommand_b108
  rw [gdi hj, ix_n (by omega), lt_e, e_semi (by rw [up_eq, upR_o (by omega)]; exact h), bd1_e]
  rw [show (up Y 8 0 3 j v) 8 0 0 4 = nI j from by rw [up_eq, upR_o (by omega)]; exact h8, nI_1, lt_e]
/-- the end of a command: bad -/
def Bad1 (Y Z : Mem) (c : Option Mem) (Z' : Mem) : Prop := ∃ Y', c = some Y' ∧ FrS Y Y' ∧ FrN Z Z' ∧ BP Y' Z'
theorem BP_8 {Y Y' Z : Mem} (h6 : Y' 6 0 0 = Y 6 0 0) (h : BP Y Z) : BP Y' Z := by unfold BP at h ⊢; rw [h6]; exact h
theorem b77_e {Y : Mem} {j c : Nat} (h : Y 6 0 0 1 = 5) (hc : c < 8) (hj : j < 30) (h8 : Y 8 0 0 4 = nI j) (g : Nat) (st : Int32) : ∃ Y', X6_readCommand_b77 g Y c st (nI j) = some Y' ∧ FrS Y Y' ∧ Y' 6 0 0 = Y 6 0 0 := by
  have h' : (up Y 8 0 2 j st) 6 0 0 1 = 5 := by rw [up_eq, upR_o (by omega)]; exact h
  have h8' : (up Y 8 0 2 j st) 8 0 0 4 = nI j := by rw [up_eq, upR_o (by omega)]; exact h8
  unfold X6_readCommand_b77
  rw [gdi hj, ix_n (by omega), lt_e, gd_t (decide_eq_true hc), h8', e_num h', bd2_e, b108_e h' hj h8', ite_self]
  exact ⟨_, rfl, FrS_trans (FrS_trans (FrS_8 _ _ _ _ _) (FrS_8 _ _ _ _ _)) (FrS_8 _ _ _ _ _), by rw [up_eq, upR_o (by omega), up_eq, upR_o (by omega), up_eq, upR_o (by omega)]⟩
theorem tailV {Y Z : Mem} {b : Nat → Nat} {n k s e j c w : Nat} (h : TJ Y Z b n k s e) (hc : c < 8) (hv : (sCmd c).2 = 1) (hj : j < 30) (h8 : Y 8 0 0 4 = nI j) (hw : w < 90) (g : Nat) (st : Int32) : (∃ v Z1 Y' Z2 k' s' e', v < 1000 ∧ X6_readCommand_b77 g Y c st (nI j) = some Y' ∧ X12_parseNumber Z (nI w) = some (1, Z1) ∧ X12_semicolon Z1 = some (1, Z2) ∧ TJ Y' Z2 b n k' s' e' ∧ PRP Y Y' j st (nI v) ∧ Z2 10 0 9 = upd (Z 10 0 9) w (nI v) ∧ FrN Z Z2) ∨ (∃ Z', Bad1 Y Z (X6_readCommand_b77 g Y c st (nI j)) Z' ∧ (X12_parseNumber Z (nI w) = some (0, Z') ∨ ∃ Z1, X12_parseNumber Z (nI w) = some (1, Z1) ∧ X12_semicolon Z1 = some (0, Z'))) := by
  have hJ : TJ (up Y 8 0 2 j st) Z b n k s e := TJ_fr (by funext o; rw [up_eq, upR_o (by omega)]) (by rw [up_eq, upR_o (by omega)]) rfl rfl h
  have h8' : (up Y 8 0 2 j st) 8 0 0 4 = nI j := by rw [up_eq, upR_o (by omega)]; exact h8
  have h8f : ∀ f, (upR (up Y 8 0 2 j st) 6 0 0 f) 8 0 0 4 = nI j := fun f => by rw [upR_o (by omega)]; exact h8'
  unfold X6_readCommand_b77
  rw [gdi hj, ix_n (by omega), lt_e, gd_t (decide_eq_true hc), h8', hv, if_neg (by decide)]
  rcases numb_j hJ hw with ⟨v, f, h', k', s', e', q1, a1, a2, a3, a4⟩ | ⟨f, h', a1, a2, a3, a4⟩
  · rcases b108_j a4 hj (h8f f) g (nI v) with ⟨f2, h2, k2, s2, e2, c1, c2, c3, c4⟩ | ⟨f2, h2, c1, c2, c3, c4⟩
    · left
      refine ⟨v, _, _, _, k2, s2, e2, q1, ?_, a2, c2, c4, PRP_a Y f f2 j st (nI v), ?_, FrN_trans (FrN_trans (FrN_9 _ _) (FrN_0 ?_)) (FrN_0 c3)⟩
      · rw [a1, bd2_e, c1]
      · rw [upR_o (by omega), upR_o (by omega), upR_at]
      · intro x q1 q2 q3 q4 q5 q6
        rw [a3 x q1 q2 q3 q4 q5 q6, upR_o (by omega)]
    · right
      refine ⟨_, ⟨_, by rw [a1, bd2_e, c1], (PRP_a Y f f2 j st (nI v)).1, FrN_trans (FrN_trans (FrN_9 _ _) (FrN_0 ?_)) (FrN_0 c3), ?_⟩, Or.inr ⟨_, a2, c2⟩⟩
      · intro x q1 q2 q3 q4 q5 q6
        rw [a3 x q1 q2 q3 q4 q5 q6, upR_o (by omega)]
      · refine BP_8 (Y := upR (up (upR (up Y 8 0 2 j st) 6 0 0 f) 8 0 3 j (nI v)) 6 0 0 f2) (by rw [up_eq, upR_o (by omega)]) (BP_of c4)
  · right
    have e5 : (upR (up Y 8 0 2 j st) 6 0 0 f) 6 0 0 1 = 5 := by rw [u6]; exact a4.1
    refine ⟨_, ⟨_, by rw [a1, bd2_e, b108_e e5 hj (h8f f)], FrS_trans (FrS_trans (FrS_trans (FrS_8 _ _ _ _ _) (FrS_6 _ _)) (FrS_8 _ _ _ _ _)) (FrS_8 _ _ _ _ _), FrN_0 a3, ?_⟩, Or.inl a2⟩
    exact BP_8 (Y := upR (up Y 8 0 2 j st) 6 0 0 f) (by rw [up_eq, upR_o (by omega), up_eq, upR_o (by omega)]) (BP_of a4)
theorem tailN {Y Z : Mem} {b : Nat → Nat} {n k s e j c : Nat} (h : TJ Y Z b n k s e) (hc : c < 8) (hv : (sCmd c).2 = 0) (hj : j < 30) (h8 : Y 8 0 0 4 = nI j) (g : Nat) (st : Int32) : (∃ Y' Z2 k' s' e', X6_readCommand_b77 g Y c st (nI j) = some Y' ∧ X12_semicolon Z = some (1, Z2) ∧ TJ Y' Z2 b n k' s' e' ∧ PRP Y Y' j st 0 ∧ Z2 10 0 9 = Z 10 0 9 ∧ FrN Z Z2) ∨ (∃ Z', Bad1 Y Z (X6_readCommand_b77 g Y c st (nI j)) Z' ∧ X12_semicolon Z = some (0, Z')) := by
  have hJ : TJ (up Y 8 0 2 j st) Z b n k s e := TJ_fr (by funext o; rw [up_eq, upR_o (by omega)]) (by rw [up_eq, upR_o (by omega)]) rfl rfl h
  have h8' : (up Y 8 0 2 j st) 8 0 0 4 = nI j := by rw [up_eq, upR_o (by omega)]; exact h8
  have e6 : upR (up Y 8 0 2 j st) 6 0 0 ((up Y 8 0 2 j st) 6 0 0) = up Y 8 0 2 j st := upR_self _ _ _ _
  unfold X6_readCommand_b77
  rw [gdi hj, ix_n (by omega), lt_e, gd_t (decide_eq_true hc), h8', hv, if_pos rfl]
  rcases b108_j hJ hj h8' g 0 with ⟨f2, h2, k2, s2, e2, c1, c2, c3, c4⟩ | ⟨f2, h2, c1, c2, c3, c4⟩
  · left
    have := PRP_a Y ((up Y 8 0 2 j st) 6 0 0) f2 j st 0
    rw [e6] at this
    exact ⟨_, _, k2, s2, e2, c1, c2, c4, this, upR_o (by omega), FrN_0 c3⟩
  · right
    have := PRP_a Y ((up Y 8 0 2 j st) 6 0 0) f2 j st 0
    rw [e6] at this
    exact ⟨_, ⟨_, c1, this.1, FrN_0 c3, BP_8 (Y := upR (up (up Y 8 0 2 j st) 8 0 3 j 0) 6 0 0 f2) (by rw [up_eq, upR_o (by omega)]) (BP_of c4)⟩, c2⟩
/-- what stands behind a command's word: class -/
noncomputable def argC (g : Nat) (Y : Mem) (c j : Nat) : Option Mem := if (sCmd c).1 = 0 then X6_readCommand_b77 g Y c (-1) (nI j) else bd2 (X6_readStepName Y g) fun r32 Y34 => X6_readCommand_b77 g Y34 c r32 (nI j)
noncomputable def argM (Z : Mem) (c w : Nat) (K : Mem → Option (Int32 × Mem)) : Option (Int32 × Mem) := bd2 (X12_parseArguments Z (nI c) (nI w)) fun r15 Y17 => if r15 = 0 then some (-1, Y17) else bd2 (X12_semicolon Y17) fun r19 Y21 => if r19 = 0 then some (-1, Y21) else K Y21
theorem args_j {Y Z : Mem} {b : Nat → Nat} {n k s e j c g ns : Nat} (h : TJ Y Z b n k s e) (hN : NN Y g (Z 10 0 1) 46 24 ns) (h13 : Z 10 0 1 13 = nI ns) (hns : ns ≤ 14) (hc : c < 8) (hj : j < 30) (h8 : Y 8 0 0 4 = nI j) (K : Mem → Option (Int32 × Mem)) : (∃ Y' Z' st nu k' s' e' si v, argC g Y c j = some Y' ∧ argM Z c (j * 3 + 1) K = K Z' ∧ TJ Y' Z' b n k' s' e' ∧ PRP Y Y' j st nu ∧ FrN Z Z' ∧ (∀ x, x ≠ j * 3 + 1 → x ≠ j * 3 + 2 → Z' 10 0 9 x = Z 10 0 9 x) ∧ (hasN c → si < ns ∧ st = nI si ∧ Z' 10 0 9 (j * 3 + 1) = nI si) ∧ (hasV c → v < 1000 ∧ nu = nI v ∧ Z' 10 0 9 (if c = 6 then j * 3 + 2 else j * 3 + 1) = nI v)) ∨ (∃ Z', Bad1 Y Z (argC g Y c j) Z' ∧ argM Z c (j * 3 + 1) K = some (-1, Z')) := by
  obtain ⟨s1, s2, s3, s4⟩ := sCmd_n c hc
  have c0 : ∀ i, i < 8 → (nI c = nI i ↔ c = i) := fun i hi => nI_lit (by omega) (by omega)
  have c3 : nI c = 3 ↔ c = 3 := c0 3 (by omega)
  have c4 : nI c = 4 ↔ c = 4 := c0 4 (by omega)
  have c5 : nI c = 5 ↔ c = 5 := c0 5 (by omega)
  have c6 : nI c = 6 ↔ c = 6 := c0 6 (by omega)
  have c7 : nI c = 7 ↔ c = 7 := c0 7 (by omega)
  unfold argC argM X12_parseArguments
  by_cases hn : c = 3 ∨ c = 4 ∨ c = 6
  · -- a name
    rw [s3.mpr hn, if_neg (by decide)]
    rcases stepN_j (w := j * 3 + 1) h hN h13 hns (by omega) with ⟨i, f, h', k', s', e', hi, a1, a2, a3, a4⟩ | ⟨f, Z', a1, a2, a3, a4⟩
    · rw [a1, bd2_e]
      have h8f : (upR Y 6 0 0 f) 8 0 0 4 = nI j := by rw [upR_o (by omega)]; exact h8
      have fr1 : FrN Z (upR (upR Z 10 0 9 (upd (Z 10 0 9) (j * 3 + 1) (nI i))) 10 0 0 h') := FrN_trans (FrN_9 _ _) (FrN_0 (fun x q1 q2 q3 q4 q5 q6 => by rw [a3 x q1 q2 q3 q4 q5 q6, upR_o (by omega)]))
      have r9 : (upR (upR Z 10 0 9 (upd (Z 10 0 9) (j * 3 + 1) (nI i))) 10 0 0 h') 10 0 9 = upd (Z 10 0 9) (j * 3 + 1) (nI i) := by rw [upR_o (by omega), upR_at]
      have prp : ∀ {Y' : Mem} {st nu : Int32}, PRP (upR Y 6 0 0 f) Y' j st nu → PRP Y Y' j st nu := fun p => by
        obtain ⟨p1, p2, p3, p4, p5, p6⟩ := p
        exact ⟨FrS_trans (FrS_6 _ _) p1, p2, by rw [p3, upR_o (by omega)], fun i hi => by rw [(p4 i hi).1, (p4 i hi).2, upR_o (by omega), upR_o (by omega)]; exact ⟨rfl, rfl⟩, p5, p6⟩
      by_cases h6 : c = 6
      · have v1 := s4.mpr (show c = 0 ∨ c = 1 ∨ c = 2 ∨ c = 5 ∨ c = 6 by omega)
        rw [if_neg (fun q => by have := c3.mp q; omega), if_neg (fun q => by have := c4.mp q; omega), if_neg (fun q => by have := c5.mp q; omega), if_pos (c6.mpr h6), a2, bd2_e, if_neg (by decide), nI_1]
        rcases tailV a4 hc v1 hj h8f (w := j * 3 + 1 + 1) (by omega) g (nI i) with ⟨v, Z1, Y', Z2, k2, s2', e2, q1, d1, d2, d3, d4, d5, d6, d7⟩ | ⟨Z', ⟨Y', d1, d2, d3, d4⟩, d5⟩
        · left
          refine ⟨Y', Z2, nI i, nI v, k2, s2', e2, i, v, d1, ?_, d4, prp d5, FrN_trans fr1 d7, fun x x1 x2 => ?_, fun _ => ⟨hi, rfl, ?_⟩, fun _ => ⟨q1, rfl, ?_⟩⟩
          · rw [d2, bd2_e, if_neg (by decide), bd2_e, if_neg (by decide), d3, bd2_e, if_neg (by decide)]
          · rw [d6, r9, pk_un x2, pk_un x1]
          · rw [d6, r9, pk_un (by omega), pk_us]
          · rw [d6, if_pos h6, pk_us]
        · right
          refine ⟨Z', ⟨Y', d1, FrS_trans (FrS_6 _ _) d2, FrN_trans fr1 d3, d4⟩, ?_⟩
          rcases d5 with d5 | ⟨Z1, d5, d6⟩
          · rw [d5, bd2_e, if_pos rfl, bd2_e, if_pos rfl]
          · rw [d5, bd2_e, if_neg (by decide), bd2_e, if_neg (by decide), d6, bd2_e, if_pos rfl]
      · have v0 : (sCmd c).2 = 0 := by
          rcases s2 with q | q
          · exact q
          · have := s4.mp q; omega
        have key : ∀ {X : Option (Int32 × Mem)}, X = some (1, upR (upR Z 10 0 9 (upd (Z 10 0 9) (j * 3 + 1) (nI i))) 10 0 0 h') → (∃ Y' Z' st nu k' s' e' si v, X6_readCommand_b77 g (upR Y 6 0 0 f) c (nI i) (nI j) = some Y' ∧ (bd2 X fun r15 Y17 => if r15 = 0 then some (-1, Y17) else bd2 (X12_semicolon Y17) fun r19 Y21 => if r19 = 0 then some (-1, Y21) else K Y21) = K Z' ∧ TJ Y' Z' b n k' s' e' ∧ PRP Y Y' j st nu ∧ FrN Z Z' ∧ (∀ x, x ≠ j * 3 + 1 → x ≠ j * 3 + 2 → Z' 10 0 9 x = Z 10 0 9 x) ∧ (hasN c → si < ns ∧ st = nI si ∧ Z' 10 0 9 (j * 3 + 1) = nI si) ∧ (hasV c → v < 1000 ∧ nu = nI v ∧ Z' 10 0 9 (if c = 6 then j * 3 + 2 else j * 3 + 1) = nI v)) ∨ (∃ Z', Bad1 Y Z (X6_readCommand_b77 g (upR Y 6 0 0 f) c (nI i) (nI j)) Z' ∧ (bd2 X fun r15 Y17 => if r15 = 0 then some (-1, Y17) else bd2 (X12_semicolon Y17) fun r19 Y21 => if r19 = 0 then some (-1, Y21) else K Y21) = some (-1, Z')) := by
          intro X hX
          rw [hX, bd2_e, if_neg (by decide)]
          rcases tailN a4 hc v0 hj h8f g (nI i) with ⟨Y', Z2, k2, s2', e2, d1, d3, d4, d5, d6, d7⟩ | ⟨Z', ⟨Y', d1, d2, d3, d4⟩, d5⟩
          · left
            refine ⟨Y', Z2, nI i, 0, k2, s2', e2, i, 0, d1, ?_, d4, prp d5, FrN_trans fr1 d7, fun x x1 x2 => ?_, fun _ => ⟨hi, rfl, ?_⟩, fun q => by unfold hasV at q; omega⟩
            · rw [d3, bd2_e, if_neg (by decide)]
            · rw [d6, r9, pk_un x1]
            · rw [d6, r9, pk_us]
          · right
            refine ⟨Z', ⟨Y', d1, FrS_trans (FrS_6 _ _) d2, FrN_trans fr1 d3, d4⟩, ?_⟩
            rw [d5, bd2_e, if_pos rfl]
        by_cases h3 : c = 3
        · rw [if_pos (c3.mpr h3)]
          exact key (by rw [a2, bd2_e, gd_t (by decide)])
        · rw [if_neg (fun q => h3 (c3.mp q)), if_pos (c4.mpr (by omega))]
          exact key (by rw [a2, bd2_e, gd_t (by decide)])
    · right
      have e5 : (upR Y 6 0 0 f) 6 0 0 1 = 5 := a4.1
      obtain ⟨Y', d1, d2, d3⟩ := b77_e e5 hc hj (show (upR Y 6 0 0 f) 8 0 0 4 = nI j by rw [upR_o (by omega)]; exact h8) g (-1)
      refine ⟨Z', ⟨Y', by rw [a1, bd2_e, d1], FrS_trans (FrS_6 _ _) d2, a3, BP_8 d3 a4⟩, ?_⟩
      by_cases h3 : c = 3
      · rw [if_pos (c3.mpr h3), a2, bd2_e, gd_t (by decide), bd2_e, if_pos rfl]
      · by_cases h4 : c = 4
        · rw [if_neg (fun q => h3 (c3.mp q)), if_pos (c4.mpr h4), a2, bd2_e, gd_t (by decide), bd2_e, if_pos rfl]
        · rw [if_neg (fun q => h3 (c3.mp q)), if_neg (fun q => h4 (c4.mp q)), if_neg (fun q => by have := c5.mp q; omega), if_pos (c6.mpr (by omega)), a2, bd2_e, if_pos rfl, bd2_e, if_pos rfl]
  · have n0 : (sCmd c).1 = 0 := by
      rcases s1 with q | q
      · exact q
      · exact absurd (s3.mp q) hn
    rw [n0, if_pos rfl, if_neg (fun q => by have := c3.mp q; omega), if_neg (fun q => by have := c4.mp q; omega)]
    by_cases h7 : c = 7
    · have v0 : (sCmd c).2 = 0 := by
        rcases s2 with q | q
        · exact q
        · have := s4.mp q; omega
      rw [if_neg (fun q => by have := c5.mp q; omega), if_neg (fun q => by have := c6.mp q; omega), if_pos (c7.mpr h7), bd2_e, if_neg (by decide)]
      rcases tailN h hc v0 hj h8 g (-1) with ⟨Y', Z2, k2, s2', e2, d1, d3, d4, d5, d6, d7⟩ | ⟨Z', d1, d5⟩
      · left
        refine ⟨Y', Z2, -1, 0, k2, s2', e2, 0, 0, d1, ?_, d4, d5, d7, fun x x1 x2 => by rw [d6], fun q => absurd q hn, fun q => by unfold hasV at q; omega⟩
        rw [d3, bd2_e, if_neg (by decide)]
      · right
        exact ⟨Z', d1, by rw [d5, bd2_e, if_pos rfl]⟩
    · have hV : c = 0 ∨ c = 1 ∨ c = 2 ∨ c = 5 ∨ c = 6 := by omega
      have v1 := s4.mpr hV
      have key : ∀ {X : Option (Int32 × Mem)}, (∀ r Z', (r = 0 ∨ r = 1) → X12_parseNumber Z (nI (j * 3 + 1)) = some (r, Z') → X = some (r, Z')) → (∃ Y' Z' st nu k' s' e' si v, X6_readCommand_b77 g Y c (-1) (nI j) = some Y' ∧ (bd2 X fun r15 Y17 => if r15 = 0 then some (-1, Y17) else bd2 (X12_semicolon Y17) fun r19 Y21 => if r19 = 0 then some (-1, Y21) else K Y21) = K Z' ∧ TJ Y' Z' b n k' s' e' ∧ PRP Y Y' j st nu ∧ FrN Z Z' ∧ (∀ x, x ≠ j * 3 + 1 → x ≠ j * 3 + 2 → Z' 10 0 9 x = Z 10 0 9 x) ∧ (hasN c → si < ns ∧ st = nI si ∧ Z' 10 0 9 (j * 3 + 1) = nI si) ∧ (hasV c → v < 1000 ∧ nu = nI v ∧ Z' 10 0 9 (if c = 6 then j * 3 + 2 else j * 3 + 1) = nI v)) ∨ (∃ Z', Bad1 Y Z (X6_readCommand_b77 g Y c (-1) (nI j)) Z' ∧ (bd2 X fun r15 Y17 => if r15 = 0 then some (-1, Y17) else bd2 (X12_semicolon Y17) fun r19 Y21 => if r19 = 0 then some (-1, Y21) else K Y21) = some (-1, Z')) := by
        intro X hX
        rcases tailV h hc v1 hj h8 (w := j * 3 + 1) (by omega) g (-1) with ⟨v, Z1, Y', Z2, k2, s2', e2, q1, d1, d2, d3, d4, d5, d6, d7⟩ | ⟨Z', d1, d5⟩
        · left
          refine ⟨Y', Z2, -1, nI v, k2, s2', e2, 0, v, d1, ?_, d4, d5, d7, fun x x1 x2 => ?_, fun q => absurd q hn, fun _ => ⟨q1, rfl, ?_⟩⟩
          · rw [hX _ _ (Or.inr rfl) d2, bd2_e, if_neg (by decide), d3, bd2_e, if_neg (by decide)]
          · rw [d6, pk_un x1]
          · rw [if_neg (by omega), d6, pk_us]
        · right
          refine ⟨Z', d1, ?_⟩
          rcases d5 with d5 | ⟨Z1, d5, d6⟩
          · rw [hX _ _ (Or.inl rfl) d5, bd2_e, if_pos rfl]
          · rw [hX _ _ (Or.inr rfl) d5, bd2_e, if_neg (by decide), d6, bd2_e, if_pos rfl]
      by_cases h5 : c = 5
      · rw [if_pos (c5.mpr h5)]
        exact key (fun r Z' hr e => by rw [e, bd2_e, gd_t (decide_eq_true hr)])
      · rw [if_neg (fun q => h5 (c5.mp q)), if_neg (fun q => by have := c6.mp q; omega), if_neg (fun q => h7 (c7.mp q))]
        exact key (fun r Z' hr e => by rw [e, bd2_e, gd_t (decide_eq_true hr)])
end
