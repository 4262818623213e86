section
/-! READING A SCRIPT -/
def FrS (Y Y' : Mem) : Prop := ∀ k g o, ¬ (k = 6 ∧ g = 0 ∧ o = 0) → k ≠ 8 → Y' k g o = Y k g o
def FrN (Z Z' : Mem) : Prop := (∀ k g o, ¬ (k = 10 ∧ g = 0 ∧ (o = 0 ∨ o = 9)) → Z' k g o = Z k g o) ∧ HF Z (Z' 10 0 0)
def BP (Y Z : Mem) : Prop := Y 6 0 0 1 = 5 ∧ Y 6 0 0 4 = Z 10 0 0 5 ∧ Y 6 0 0 5 = Z 10 0 0 6 ∧ ∃ c, 1 ≤ c ∧ c ≤ 5 ∧ Z 10 0 0 5 = nI c
theorem FrS_refl (Y : Mem) : FrS Y Y := fun _ _ _ _ _ => rfl
theorem FrS_trans {a b c : Mem} (h1 : FrS a b) (h2 : FrS b c) : FrS a c := fun k g o q1 q2 => (h2 k g o q1 q2).trans (h1 k g o q1 q2)
theorem FrS_6 (Y : Mem) (f : Nat → Int32) : FrS Y (upR Y 6 0 0 f) := fun k g o q1 _ => upR_o q1
theorem FrS_8 (Y : Mem) (g o j : Nat) (v : Int32) : FrS Y (up Y 8 g o j v) := fun k g' o' _ q => by rw [up_eq]; exact upR_o (by omega)
theorem HF_refl (Z : Mem) : HF Z (Z 10 0 0) := fun _ _ _ _ _ _ _ => rfl
theorem FrN_refl (Z : Mem) : FrN Z Z := ⟨fun _ _ _ _ => rfl, HF_refl Z⟩
theorem FrN_trans {a b c : Mem} (h1 : FrN a b) (h2 : FrN b c) : FrN a c := ⟨fun k g o q => (h2.1 k g o q).trans (h1.1 k g o q), fun x q1 q2 q3 q4 q5 q6 => (h2.2 x q1 q2 q3 q4 q5 q6).trans (h1.2 x q1 q2 q3 q4 q5 q6)⟩
theorem FrN_0 {Z : Mem} {h : Nat → Int32} (hh : HF Z h) : FrN Z (upR Z 10 0 0 h) := ⟨fun k g o q => upR_o (by omega), by rw [u10]; exact hh⟩
theorem FrN_9 (Z : Mem) (f : Nat → Int32) : FrN Z (upR Z 10 0 9 f) := ⟨fun k g o q => upR_o (by omega), by rw [upR_o (by omega)]; exact HF_refl Z⟩
theorem HF_9 {Z : Mem} {f h : Nat → Int32} (hh : HF (upR Z 10 0 9 f) h) : HF Z h := fun x q1 q2 q3 q4 q5 q6 => by rw [hh x q1 q2 q3 q4 q5 q6, upR_o (by omega)]
theorem BP_of {Y Z : Mem} {f h : Nat → Int32} (hb : BF f h) : BP (upR Y 6 0 0 f) (upR Z 10 0 0 h) := by
  unfold BP
  rw [u6, u10]; exact hb
theorem begin_j {Y Z : Mem} {b : Nat → Nat} {n : Nat} (hT : TT Y Z b n) : ∃ f h k s e, X10_begin Y = some (upR Y 6 0 0 f) ∧ X12_begin Z = some (upR Z 10 0 0 h) ∧ HF Z h ∧ TJ (upR Y 6 0 0 f) (upR Z 10 0 0 h) b n k s e := by
  obtain ⟨h7, hb, h5, h4⟩ := id hT
  have hT' : TT (upR Y 6 0 0 (upd (upd (upd (Y 6 0 0) 4 0) 5 (-1)) 3 0)) (upR Z 10 0 0 (upd (upd (upd (Z 10 0 0) 5 0) 6 (-1)) 14 0)) b n := ⟨h7, fun j hj => by rw [u6o _ _ (by omega), u10o _ _ (by omega)]; exact hb j hj, by rw [u6o _ _ (by omega)]; exact h5, by rw [u10, pk_un (by omega), pk_un (by omega), pk_un (by omega)]; exact h4⟩
  obtain ⟨f, h, k', s', e', a1, a2, a3, a4, a5⟩ := adv_ok (e := 0) hT' (by omega) (by rw [u6, pk_us]; rfl) (by rw [u10, pk_us]; rfl)
  rw [upR_upR] at a1 a3 a5
  rw [upR_upR] at a5
  refine ⟨f, h, k', s', e', ?_, ?_, fun x q1 q2 q3 q4 q5 q6 => ?_, a5, ?_, ?_, ?_, ?_⟩
  · unfold X10_begin
    rw [up_eq, lt_e, up_upR, lt_e, up_upR, lt_e, a1, bd1_e]
  · unfold X12_begin
    rw [up_eq, lt_e, up_upR, lt_e, up_upR, lt_e, a3, bd1_e]
  · rw [a4 x q3 q4 q5 q6, u10, pk_un q3, pk_un q2, pk_un q1]
  · rw [u6, a2 4 (by omega) (by omega) (by omega), u6, pk_un (by omega), pk_un (by omega), pk_us]
  · rw [u6, a2 5 (by omega) (by omega) (by omega), u6, pk_un (by omega), pk_us]
  · rw [u10, a4 5 (by omega) (by omega) (by omega) (by omega), u10, pk_un (by omega), pk_un (by omega), pk_us]
  · rw [u10, a4 6 (by omega) (by omega) (by omega) (by omega), u10, pk_un (by omega), pk_us]
/-! a command's word -/
def cmdI (b : Nat → Nat) (k s e : Nat) : Option Nat := fst1 (fun i => isW b k s e (8 + i)) 8
theorem nameOf_ok (Z : Mem) : ∀ i, i < 8 → X12_nameOf Z (nI i) = some (8 + i) := by
  intro i hi
  unfold X12_nameOf
  rcases (by omega : i = 0 ∨ i = 1 ∨ i = 2 ∨ i = 3 ∨ i = 4 ∨ i = 5 ∨ i = 6 ∨ i = 7) with rfl | rfl | rfl | rfl | rfl | rfl | rfl | rfl <;> rfl
theorem cmdC_b {Y Z : Mem} {b : Nat → Nat} {n k s e : Nat} (h : TK Y Z b n k s e) : ∀ i, i ≤ 8 → ∀ f, 8 - i < f → fst1 (fun i => isW b k s e (8 + i)) i = none → X6_findCommand_b9 Y f (nI i) 8 = some (cmdI b k s e) := by
  refine upl ?_ ?_
  · intro f f_h ha
    obtain ⟨f, rfl⟩ := fuel_s f_h
    unfold X6_findCommand_b9
    rw [if_pos (show (8 : Int32) ≤ nI 8 from by decide)]
    unfold cmdI
    rw [ha]
  · intro i hi ih f f_h ha
    obtain ⟨f, rfl⟩ := fuel_s f_h
    unfold X6_findCommand_b9
    rw [if_neg (show ¬ (8 : Int32) ≤ nI i from by show ¬ nI 8 ≤ nI i; rw [nI_leI (by omega) (by omega)]; omega), gdi hi, ix_n (by omega), lt_e, (word_ok h (by omega) (by omega)).1, bd1_e, bI_ne]
    cases q : isW b k s e (8 + i)
    · rw [if_neg (by decide), nI_1]
      exact ih f (by omega) (by rw [fst1_s, ha]; simp only [q]; rfl)
    · rw [if_pos rfl]
      have : cmdI b k s e = some i := fst1_some.mpr ⟨hi, q, fst1_none.mp ha⟩
      rw [this]
theorem cmdM_b {Y Z : Mem} {b : Nat → Nat} {n k s e : Nat} (h : TK Y Z b n k s e) : ∀ i, i ≤ 8 → ∀ f, 8 - i < f → fst1 (fun i => isW b k s e (8 + i)) i = none → X12_commandHere_b2 Z f (nI i) = some (oI (cmdI b k s e)) := by
  refine upl ?_ ?_
  · intro f f_h ha
    obtain ⟨f, rfl⟩ := fuel_s f_h
    unfold X12_commandHere_b2
    rw [if_pos (show (7 : Int32) < nI 8 from by decide)]
    unfold cmdI
    rw [ha]; rfl
  · intro i hi ih f f_h ha
    obtain ⟨f, rfl⟩ := fuel_s f_h
    unfold X12_commandHere_b2
    rw [if_neg (show ¬ (7 : Int32) < nI i from by show ¬ nI 7 < nI i; rw [nI_ltI (by omega) (by omega)]; omega), nameOf_ok Z i hi, bd1_e, (word_ok h (by omega) (by omega)).2, bd1_e, bI_ne]
    cases q : isW b k s e (8 + i)
    · rw [if_neg (by decide), nI_1]
      exact ih f (by omega) (by rw [fst1_s, ha]; simp only [q]; rfl)
    · rw [if_pos rfl]
      have : cmdI b k s e = some i := fst1_some.mpr ⟨hi, q, fst1_none.mp ha⟩
      rw [this]; rfl
/-! a command's name, number -/
theorem stepN_j {Y Z : Mem} {b : Nat → Nat} {n k s e g c w : Nat} (h : TJ Y Z b n k s e) (hN : NN Y g (Z 10 0 1) 46 24 c) (h13 : Z 10 0 1 13 = nI c) (hc : c ≤ 14) (hw : w < 90) : (∃ i f h k' s' e', i < c ∧ X6_readStepName Y g = some (nI i, upR Y 6 0 0 f) ∧ X12_parseStepName Z (nI w) = some (1, upR (upR Z 10 0 9 (upd (Z 10 0 9) w (nI i))) 10 0 0 h) ∧ HF Z h ∧ TJ (upR Y 6 0 0 f) (upR (upR Z 10 0 9 (upd (Z 10 0 9) w (nI i))) 10 0 0 h) b n k' s' e') ∨ (∃ f Z', X6_readStepName Y g = some (-1, upR Y 6 0 0 f) ∧ X12_parseStepName Z (nI w) = some (0, Z') ∧ FrN Z Z' ∧ BP (upR Y 6 0 0 f) Z') := by
  obtain ⟨-, -, -, -, m2, m3, hse, -, -, -⟩ := TJ_k h
  unfold X6_readStepName X12_parseStepName
  rcases find_j h hN with ⟨i, hi, q, c1, m1⟩ | ⟨f, h', c1, a3, a4, q⟩
  · left
    have hJ : TJ Y (upR Z 10 0 9 (upd (Z 10 0 9) w (nI i))) b n k s e := TJ_fr rfl rfl (upR_o (by omega)) (upR_o (by omega)) h
    obtain ⟨f, h', k', s', e', a1, a2, a3, a4⟩ := adv_j hJ
    refine ⟨i, f, h', k', s', e', hi, ?_, ?_, HF_9 a3, a4⟩
    · rw [c1, bd2_e, if_neg (show ¬ nI i = -1 from oI_some (by omega)), a1, bd1_e]
    · rw [m1, bd2_e, if_neg (by decide), m2, m3, pk_sub hse, stNm_ok h hN h13 hc, bd1_e, q, gdi hw, ix_n (by omega), up_eq, lt_e, upR_at, pk_us, if_neg (oI_some (by omega)), show oI (some i) = nI i from rfl, a2, bd1_e]
  · right
    rcases q with m1 | ⟨m1, q, -⟩
    · refine ⟨f, upR Z 10 0 0 h', ?_, ?_, FrN_0 a3, BP_of a4⟩
      · rw [c1, bd2_e, if_pos rfl]
      · rw [m1, bd2_e, if_pos rfl]
    · have hJ : TJ Y (upR Z 10 0 9 (upd (Z 10 0 9) w (-1))) b n k s e := TJ_fr rfl rfl (upR_o (by omega)) (upR_o (by omega)) h
      obtain ⟨f2, h2, b1, b2, b3, b4⟩ := fail_j hJ (c := 3) (by omega) (by omega)
      have ef : upR Y 6 0 0 f2 = upR Y 6 0 0 f := by
        have c2 := c1
        unfold X10_findName at c2
        obtain ⟨e1, e2, e3, -⟩ := TJ_k h
        rcases short_j h with ⟨k1, _, _⟩ | ⟨_, _, _, _, _, m1', _⟩
        · subst k1
          rw [e1, if_pos (show nI 1 = 1 from rfl), e2, e3, idxC_ok h hN, bd1_e, q, if_pos (show oI none = -1 from rfl), show X10_fail Y 3 = _ from b1, bd1_e] at c2
          exact (Prod.mk.inj (Option.some.inj c2)).2
        · rw [m1] at m1'
          exact absurd (Prod.mk.inj (Option.some.inj m1')).1 (by decide)
      refine ⟨f, upR (upR Z 10 0 9 (upd (Z 10 0 9) w (-1))) 10 0 0 h2, ?_, ?_, FrN_trans (FrN_9 _ _) (FrN_0 b3), by rw [← ef]; exact BP_of b4⟩
      · rw [c1, bd2_e, if_pos rfl]
      · rw [m1, bd2_e, if_neg (by decide), m2, m3, pk_sub hse, stNm_ok h hN h13 hc, bd1_e, q, gdi hw, ix_n (by omega), up_eq, lt_e, upR_at, pk_us, if_pos (show oI none = -1 from rfl), show oI none = -1 from rfl, show X12_wrong (upR Z 10 0 9 (upd (Z 10 0 9) w (-1))) 3 = _ from b2, bd2_e, gd_t (by decide)]
theorem numb_j {Y Z : Mem} {b : Nat → Nat} {n k s e w : Nat} (h : TJ Y Z b n k s e) (hw : w < 90) : (∃ v f h k' s' e', v < 1000 ∧ X10_expectNumber Y 0 999 = some (nI v, upR Y 6 0 0 f) ∧ X12_parseNumber Z (nI w) = some (1, upR (upR Z 10 0 9 (upd (Z 10 0 9) w (nI v))) 10 0 0 h) ∧ HF Z h ∧ TJ (upR Y 6 0 0 f) (upR (upR Z 10 0 9 (upd (Z 10 0 9) w (nI v))) 10 0 0 h) b n k' s' e') ∨ (∃ f h, X10_expectNumber Y 0 999 = some (0, upR Y 6 0 0 f) ∧ X12_parseNumber Z (nI w) = some (0, upR Z 10 0 0 h) ∧ HF Z h ∧ BF f h) := by
  obtain ⟨h1, -, -, m1, -, -, -, -, k4, -⟩ := TJ_k h
  have k3 : nI k = 2 ↔ k = 2 := nI_lit (c := 2) (by omega) (by omega)
  unfold X12_parseNumber
  by_cases e3 : k = 2
  · subst e3
    have hv := numV_999 h
    have hr := rng_dec hv (lo := 0) (hi := 999) (by omega) (by omega)
    rw [decide_eq_true (show 0 ≤ numV b s (e - s) ∧ numV b s (e - s) ≤ 999 by omega)] at hr
    have m17 := h.1.2.2.2.2.2.2 rfl
    rw [numC_ok h]
    generalize numV b s (e - s) = v at *
    left
    have h' : TJ Y (upR Z 10 0 9 (upd (Z 10 0 9) w (nI v))) b n 2 s e := TJ_fr rfl rfl (upR_o (by omega)) (upR_o (by omega)) h
    obtain ⟨f, h'', k', s', e', a1, a2, a3, a4⟩ := adv_j h'
    refine ⟨v, f, h'', k', s', e', hv, ?_, ?_, HF_9 a3, a4⟩
    · rw [within_ok, show decide ((0 : Int32) ≤ nI v ∧ nI v ≤ 999) = true from hr, bd1_e, bI_t, if_neg (by decide), a1, bd1_e]
    · rw [m1, if_pos (show nI 2 = 2 from rfl), m17, gdi hw, ix_n (by omega), up_eq, lt_e, a2, bd1_e]
  · right
    obtain ⟨f, h', a1, a2, a3, a4⟩ := fail_j h (c := 1) (by omega) (by omega)
    refine ⟨f, h', ?_, ?_, a3, a4⟩
    · unfold X10_expectNumber
      rw [h1, if_neg (fun q => e3 (k3.mp q)), show X10_fail Y 1 = _ from a1, bd1_e]
    · rw [m1, if_neg (fun q => e3 (k3.mp q)), show X12_wrong Z 1 = _ from a2, bd2_e, gd_t (by decide)]
/-! the rows of the commands -/
def hasN (c : Nat) : Prop := c = 3 ∨ c = 4 ∨ c = 6
def hasV (c : Nat) : Prop := c = 0 ∨ c = 1 ∨ c = 2 ∨ c = 5 ∨ c = 6
def CRa (n : Nat) (a1 a2 a3 d : Nat → Int32) (j : Nat) : Prop := ∃ c s v, c < 8 ∧ a1 j = nI (c + 1) ∧ d (j * 3) = nI c ∧ (hasN c → s < n ∧ a2 j = nI s ∧ d (j * 3 + 1) = nI s) ∧ (hasV c → v < 1000 ∧ a3 j = nI v ∧ d (if c = 6 then j * 3 + 2 else j * 3 + 1) = nI v)
theorem sCmd_n : ∀ c, c < 8 → ((sCmd c).1 = 0 ∨ (sCmd c).1 = 1) ∧ ((sCmd c).2 = 0 ∨ (sCmd c).2 = 1) ∧ ((sCmd c).1 = 1 ↔ (c = 3 ∨ c = 4 ∨ c = 6)) ∧ ((sCmd c).2 = 1 ↔ (c = 0 ∨ c = 1 ∨ c = 2 ∨ c = 5 ∨ c = 6)) := by decide +kernel
end
