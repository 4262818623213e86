/-! PHASE 3: the two answers that are no whole numbers aren't NaN -/
theorem nn64 {x : UInt64} (h : vf_n64 x) : FP.dcmp x x = some .eq := by
  refine FP.Core.dcmp_refl ?_
  have h1 : (x &&& 0x7fffffffffffffff).toNat ≤ 9218868437227405312 := UInt64.le_iff_toNat_le.mp h
  rw [UInt64.toNat_and] at h1
  have h2 : x.toNat &&& (0x7fffffffffffffff : UInt64).toNat = x.toNat % 2 ^ 63 := Nat.and_two_pow_sub_one_eq_mod x.toNat 63
  rw [h2] at h1
  cases hn : FP.Core.dIsNaN x with
  | false => rfl
  | true =>
    exfalso
    have h3 : FP.Core.decode FP.Core.b64 x.toNat = .nan := of_decide_eq_true hn
    unfold FP.Core.decode at h3
    by_cases hE : FP.Core.fieldE FP.Core.b64 x.toNat = FP.Core.b64.exps - 1
    · rw [if_pos hE] at h3
      by_cases hT : FP.Core.fieldT FP.Core.b64 x.toNat = 0
      · rw [if_pos hT] at h3
        cases h3
      · have e1 : FP.Core.fieldE FP.Core.b64 x.toNat = x.toNat / 4503599627370496 % 2048 := rfl
        have e2 : FP.Core.fieldT FP.Core.b64 x.toNat = x.toNat % 4503599627370496 := rfl
        have e3 : FP.Core.b64.exps - 1 = 2047 := rfl
        rw [e1, e3] at hE
        rw [e2] at hT
        omega
    · rw [if_neg hE] at h3
      split at h3 <;> cases h3
theorem dc_self {x : UInt64} (h : vf_n64 x) (op : CmpOp) : Op.cmpValue (FP.dcmp x x) op = 0 := by
  rw [nn64 h]; rfl
theorem fl2_ok : ∀ a, a < 15 → ∀ b, b < 15 → 0 < b → decide (FP.f2d (FP.fdiv (FP.i2f (nI a)) (FP.i2f (nI b))) &&& 0x7fffffffffffffff ≤ 0x7ff0000000000000) = true := by decide +kernel
theorem nn_doneShare {Y : Mem} (hI : Inv Y) {r : UInt32} (h : X11_doneShare Y = some r) : vf_n64 (FP.f2d r) := by
  have h14 := nS_le hI
  have hR := Inv_R hI
  have hw := wSt_le (Y 10 0 1) 2
  have hb : J6_bitCount_0f7a4 Y (Y 2 0 0 7) = some (nI (wSt (Y 10 0 1) 2)) := setCount_ok Y h14 (fun k hk => (Inv_SB hI k hk).2.1)
  have hg := fl_ok (wSt (Y 10 0 1) 2) (by omega) (nS (Y 10 0 1)) (by omega) hI.2.1
  have h2 : X11_doneShare Y = some (FP.fdiv (FP.i2f (nI (wSt (Y 10 0 1) 2))) (FP.i2f (nI (nS (Y 10 0 1))))) := by
    unfold X11_doneShare
    rw [hb, bd1_e, steps_ok hI, bd1_e, gd_t hg]
  rw [h2] at h
  obtain rfl := Option.some.inj h
  have h9 := of_decide_eq_true (fl2_ok (wSt (Y 10 0 1) 2) (by omega) (nS (Y 10 0 1)) (by omega) hI.2.1)
  exact h9
theorem nn_meanDuration {Y : Mem} (_ : Inv Y) {r : UInt64} (h : X11_meanDuration Y = some r) : vf_n64 r := by
  unfold X11_meanDuration at h
  obtain ⟨-, h⟩ := gd_some h
  obtain ⟨-, h⟩ := gd_some h
  obtain ⟨r3, -, h⟩ := bd1_some h
  obtain ⟨r5, -, h⟩ := bd1_some h
  obtain ⟨hg, h⟩ := gd_some h
  obtain rfl := Option.some.inj h
  have h9 := of_decide_eq_true hg
  exact h9
