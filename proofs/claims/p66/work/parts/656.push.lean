section
/-! CHANGES: what they do to the relation of a state and a block -/
theorem KS_set {σ : Nat → Nat → Int32} {τ : Nat → Nat → Int32} {a b b' : Nat → Int32} (h : KS σ a b) (hre : RecEq b b') (hst : ∀ B, St7 σ b (fun _ => B) → St7 τ b' (fun _ => B)) (h4 : b' 4 = b 4) (h22 : ∀ s, fld b' s 22 = fld b s 22) (h3 : τ 0 3 = σ 0 3) (h10 : b' 10 = b 10) (h6 : b' 6 = b 6 ∨ b' 6 = 1) : KS τ a b' := by
  obtain ⟨h1, ⟨B, b1, b2, b3, b4⟩, k3, k6⟩ := h
  refine ⟨re_trans h1 hre, ⟨B, b1, by rw [h4]; exact b2, hst B b3, fun s hs => by rw [re_nS hre] at hs; rw [h22]; exact b4 s hs⟩, by rw [h3, h10]; exact k3, ?_⟩
  rcases h6 with e | e
  · rw [e]; exact k6
  · exact Or.inr e
theorem KS_salt {σ : Nat → Nat → Int32} {a b : Nat → Int32} (v : Int32) (h : KS σ a b) : KS (uo σ 0 2 v) a (upd b 5 v) :=
  KS_set h (lo3_re b v (by omega)) (fun B q => St_low v (by omega) q) (pk_un (by omega)) (fun s => fld_upd_lo b v (by omega)) (uo_o (by omega)) (pk_un (by omega)) (Or.inl (pk_un (by omega)))
theorem KS_cooks {σ : Nat → Nat → Int32} {a b : Nat → Int32} (v : Int32) (h : KS σ a b) : KS (uo σ 0 0 v) a (upd b 0 v) :=
  KS_set h (lo3_re b v (by omega)) (fun B q => St_low v (by omega) q) (pk_un (by omega)) (fun s => fld_upd_lo b v (by omega)) (uo_o (by omega)) (pk_un (by omega)) (Or.inl (pk_un (by omega)))
theorem KS_serve {σ : Nat → Nat → Int32} {a b : Nat → Int32} (h : KS σ a b) : KS (uo σ 0 5 1) a (upd b 6 1) :=
  KS_set h (lo3_re b 1 (by omega)) (fun B q => St_low 1 (by omega) q) (pk_un (by omega)) (fun s => fld_upd_lo b 1 (by omega)) (uo_o (by omega)) (pk_un (by omega)) (Or.inr pk_us)
theorem KS_dur {σ : Nat → Nat → Int32} {a b : Nat → Int32} {i d : Nat} (hd : 1 ≤ d ∧ d ≤ 60) (h : KS σ a b) : KS (uo σ 1 i (nI d)) a (upd b (46 + i * 24 + 7) (nI d)) :=
  KS_set h (re_up _ (Or.inl rfl)) (fun B q => St_dur hd q) (lo_upd b _ (by omega)) (fun s => fld_upd_o b _ (by omega) (by omega) (by omega)) (uo_o (by omega)) (lo_upd b _ (by omega)) (Or.inl (lo_upd b _ (by omega)))
theorem KS_halt {σ : Nat → Nat → Int32} {a b : Nat → Int32} {i : Nat} (h14 : nS b ≤ 14) (hi : i < nS b) (h17 : fld b i 17 = 1) (h : KS σ a b) : KS (sHalt σ i) a (mHalt b i) :=
  KS_set h (mHalt_re b i) (fun B q => St_halt h14 q hi h17) (by rw [mHalt_lo b (by omega), if_neg (by omega)]) (fun s => by rw [mHalt_fld b (by omega), if_neg (by omega)]) (by unfold sHalt; rw [uo_o (by omega), uo_o (by omega), uo_o (by omega)]) (by rw [mHalt_lo b (by omega), if_neg (by omega)]) (Or.inl (by rw [mHalt_lo b (by omega), if_neg (by omega)]))
theorem KS_disc {σ : Nat → Nat → Int32} {a b : Nat → Int32} {i : Nat} (h14 : nS b ≤ 14) (hi : i < nS b) (h17 : fld b i 17 = 2) (h : KS σ a b) : KS (sDisc σ i) a (mDisc b i) :=
  KS_set h (mDisc_re b i) (fun B q => St_disc h14 q hi h17) (mDisc_lo b (by omega)) (fun s => by rw [mDisc_fld b (by omega), if_neg (by omega)]) (by unfold sDisc; rw [uo_o (by omega), uo_o (by omega)]) (mDisc_lo b (by omega)) (Or.inl (mDisc_lo b (by omega)))
/-- after some minutes -/
theorem KS_mins {Y : Mem} {a b : Nat → Int32} {B t : Nat} (hre : RecEq a b) (h4 : b 4 = nI B) (hBU : BU b B) (hB : B + t ≤ 9999) (k : KR Y 0 (mins b t) (B + t)) : KS (Y 2 0) a (mins b t) :=
  ⟨re_trans hre (mins_re b t), ⟨B + t, hB, mins_4 b h4 t, k.2.2.1, BU_mins hBU t⟩, k.2.2.2.1, k.2.2.2.2⟩
/-! THE STATES KEPT FOR UNDO -/
theorem mem_x {A B : Mem} (h : ∀ k g o, A k g o = B k g o) : A = B := by funext k g o; exact h k g o
def ReF (m M : Nat → Int32) (c : Nat) : Prop := (∀ x, x < 382 → M x = m x) ∧ (∀ x, x < 382 → M (min (c + 1) 6 * 382 + x) = m x) ∧ (c < 6 → ∀ b x, 1 ≤ b → b ≤ c → x < 382 → M (b * 382 + x) = m (b * 382 + x)) ∧ (c = 6 → ∀ b x, 1 ≤ b → b < 6 → x < 382 → M (b * 382 + x) = m ((b + 1) * 382 + x)) ∧ ∀ x, 7 * 382 ≤ x → M x = m x
def shR : Nat → Nat → (Nat → Int32) → (Nat → Int32)
  | 0, _, m => m
  | d + 1, l, m => shR d (l + 1) (cpB m (l + 1) l)
def remA (m : Nat → Int32) (c : Nat) : Nat → Int32 := if c = 6 then cpB (shR 5 1 m) 0 6 else cpB m 0 (c + 1)
theorem rem_b : ∀ d l Z f, l + d = 6 → d < f → 1 ≤ l → ∃ M : Nat → Int32, M = shR d l (Z 10 0 1) ∧ M12_remember_b11 0 f Z (nI l) = M12_remember_b41 0 (up (upR Z 10 0 1 M) 10 0 0 2 (Z 10 0 0 2 - 1)) ∧ (∀ b x, l ≤ b → b < 6 → x < 382 → M (b * 382 + x) = Z 10 0 1 ((b + 1) * 382 + x)) ∧ ∀ x, x < l * 382 ∨ 6 * 382 ≤ x → M x = Z 10 0 1 x := by
  intro d
  induction d with
  | zero =>
    intro l Z f hl f_h _
    obtain ⟨f, rfl⟩ := fuel_s f_h
    have : l = 6 := by omega
    subst this
    refine ⟨Z 10 0 1, rfl, ?_, fun b x h1 h2 => by omega, fun x _ => rfl⟩
    unfold M12_remember_b11
    rw [if_pos (by decide), lt_e, upR_self]
  | succ d ih =>
    intro l Z f hl f_h h1
    obtain ⟨f, rfl⟩ := fuel_s f_h
    unfold M12_remember_b11
    have hc := copy_ok Z (a := l + 1) (b := l) (by omega) (by omega) (by omega)
    rw [if_neg (by show ¬ nI 6 ≤ nI l; rw [nI_leI (by omega) (by omega)]; omega), nI_1, hc, bd1_e]
    obtain ⟨M, q0, q1, q2, q3⟩ := ih (l + 1) (upR Z 10 0 1 (cpB (Z 10 0 1) (l + 1) l)) f (by omega) (by omega) (by omega)
    rw [upR_upR, upR_o (by omega)] at q1
    refine ⟨M, by rw [q0, upR_at]; rfl, q1, fun b x hb1 hb2 hx => ?_, fun x hx => ?_⟩
    · by_cases e : b = l
      · subst e
        rw [q3 _ (by omega), upR_at, cpB_in _ hx]
      · rw [q2 b x (by omega) hb2 hx, upR_at, cpB_out _ (by omega)]
    · have hx2 : x < (l + 1) * 382 ∨ 6 * 382 ≤ x := by
        rcases hx with h | h
        · exact Or.inl (Nat.lt_of_lt_of_le h (Nat.mul_le_mul_right _ (Nat.le_succ l)))
        · exact Or.inr h
      have e := q3 x hx2
      rw [upR_at] at e
      refine e.trans (cpB_out _ ?_)
      rcases hx with h | h
      · exact Or.inl h
      · exact Or.inr (Nat.le_trans (show l * 382 + 382 ≤ 6 * 382 by omega) h)
theorem rem_ok0 (Z : Mem) {c : Nat} (hc : c ≤ 6) (h : Z 10 0 0 2 = nI c) : ∃ M, M = remA (Z 10 0 1) c ∧ M12_remember Z 0 = some (upR (up Z 10 0 0 2 (nI (min (c + 1) 6))) 10 0 1 M) ∧ ReF (Z 10 0 1) M c := by
  unfold M12_remember
  by_cases e : c = 6
  · subst e
    rw [if_pos (by rw [h]; rfl)]
    obtain ⟨M, q0, q1, q2, q3⟩ := rem_b 5 1 Z FU (by omega) (by have := FU_big; omega) (by omega)
    rw [show M12_remember_b11 0 FU Z 1 = _ from q1]
    unfold M12_remember_b41
    have e2 : (up (upR Z 10 0 1 M) 10 0 0 2 (Z 10 0 0 2 - 1)) 10 0 0 2 + 1 = nI 6 := by rw [up_at, pk_us, h]; decide
    rw [e2, lt_e]
    have e3 : (up (up (upR Z 10 0 1 M) 10 0 0 2 (Z 10 0 0 2 - 1)) 10 0 0 2 (nI 6)) 10 0 0 2 = nI 6 := by rw [up_at, pk_us]
    have hcp := copy_ok (up (up (upR Z 10 0 1 M) 10 0 0 2 (Z 10 0 0 2 - 1)) 10 0 0 2 (nI 6)) (a := 0) (b := 6) (by omega) (by omega) (by omega)
    rw [e3, show M12_copyBlock (up (up (upR Z 10 0 1 M) 10 0 0 2 (Z 10 0 0 2 - 1)) 10 0 0 2 (nI 6)) 0 (nI 6) = _ from hcp, bd1_e]
    have em : (up (up (upR Z 10 0 1 M) 10 0 0 2 (Z 10 0 0 2 - 1)) 10 0 0 2 (nI 6)) 10 0 1 = M := by
      rw [up_eq, up_eq, upR_o (by omega), upR_o (by omega), upR_at]
    refine ⟨cpB M 0 6, by unfold remA; rw [if_pos rfl, q0], ?_, fun x hx => ?_, fun x hx => ?_, fun q => by omega, fun _ b x h1 h2 hx => ?_, fun x hx => ?_⟩
    · refine congrArg some ?_
      rw [em]
      apply mem_x
      intro k g o
      by_cases a1 : k = 10 ∧ g = 0 ∧ o = 1
      · obtain ⟨rfl, rfl, rfl⟩ := a1
        rw [upR_at, upR_at]
      · rw [upR_o a1, upR_o a1]
        by_cases a2 : k = 10 ∧ g = 0 ∧ o = 0
        · obtain ⟨rfl, rfl, rfl⟩ := a2
          rw [up_at, up_at, up_at, upR_o (by omega)]
          funext x
          unfold upd
          by_cases a3 : x = 2
          · rw [if_pos a3, if_pos a3]; rfl
          · rw [if_neg a3, if_neg a3, if_neg a3]
        · rw [up_eq, upR_o a2, up_eq, upR_o a2, upR_o a1, up_eq, upR_o a2]
    · rw [cpB_out _ (by omega), q3 x (by omega)]
    · rw [show min (6 + 1) 6 = 6 from rfl, cpB_in _ hx, q3 _ (by omega), Nat.zero_mul, Nat.zero_add]
    · rw [cpB_out _ (by omega)]; exact q2 b x h1 h2 hx
    · rw [cpB_out _ (by omega), q3 x (by omega)]
  · rw [if_neg (by rw [h]; intro q; exact e ((nI_eq (by omega) (by omega)).mp q))]
    unfold M12_remember_b41
    have e6 : min (c + 1) 6 = c + 1 := by omega
    rw [h, nI_1, lt_e, e6]
    have hcp := copy_ok (up Z 10 0 0 2 (nI (c + 1))) (a := 0) (b := c + 1) (by omega) (by omega) (by omega)
    rw [show (up Z 10 0 0 2 (nI (c + 1))) 10 0 0 2 = nI (c + 1) by rw [up_at, pk_us], show M12_copyBlock (up Z 10 0 0 2 (nI (c + 1))) 0 (nI (c + 1)) = _ from hcp, bd1_e]
    have em : (up Z 10 0 0 2 (nI (c + 1))) 10 0 1 = Z 10 0 1 := by rw [up_eq, upR_o (by omega)]
    rw [em]
    refine ⟨cpB (Z 10 0 1) 0 (c + 1), by unfold remA; rw [if_neg e], rfl, fun x hx => ?_, fun x hx => ?_, fun _ b x h1 h2 hx => ?_, fun q => by omega, fun x hx => ?_⟩
    · rw [cpB_out _ (by omega)]
    · rw [e6, cpB_in _ hx, Nat.zero_mul, Nat.zero_add]
    · rw [cpB_out _ (by omega)]
    · rw [cpB_out _ (by omega)]
theorem rem_ok (Z : Mem) {c : Nat} (hc : c ≤ 6) (h : Z 10 0 0 2 = nI c) : M12_remember Z 0 = some (upR (up Z 10 0 0 2 (nI (min (c + 1) 6))) 10 0 1 (remA (Z 10 0 1) c)) ∧ ReF (Z 10 0 1) (remA (Z 10 0 1) c) c := by
  obtain ⟨M, q0, q1, q2⟩ := rem_ok0 Z hc h
  rw [← q0]; exact ⟨q1, q2⟩
def PuF (Y Yp : Mem) (n c : Nat) : Prop := HIn Y n c ∧ (∀ g, g ≠ 2 + n → Yp 2 g = Y 2 g) ∧ Yp 2 (2 + n) = sCopy (Y 2 (2 + n)) (Y 2 0) ∧ Yp 9 0 0 1 = nI ((n + 1) % 6) ∧ Yp 9 0 0 2 = nI (min (c + 1) 6)
theorem push_ok {Y : Mem} {n c : Nat} (hH : HIn Y n c) (h5 : Y 2 0 0 5 = 0 ∨ Y 2 0 0 5 = 1) : ∃ Yp, X2_push Y 0 = some Yp ∧ PuF Y Yp n c ∧ ∀ k, k ≠ 2 → k ≠ 9 → Yp k = Y k := by
  have hcf : X8_copyFrom Y (2 + n) 0 = some (wS Y (2 + n) (sCopy (Y 2 (2 + n)) (Y 2 0))) := by
    have := copyFrom_ok Y (g := 2 + n) (h := 0) (Y 2 (2 + n)) (by omega) h5
    rw [wS_self] at this
    exact this
  obtain ⟨n6, c6, e1, e2, e3, e4⟩ := hH
  generalize hS : sCopy (Y 2 (2 + n)) (Y 2 0) = S at hcf
  have w1 : (wS Y (2 + n) S) 9 0 0 1 = nI n := by rw [wS_k (by omega)]; exact e1
  have w2 : (up (wS Y (2 + n) S) 9 0 0 1 (nI ((n + 1) % 6))) 9 0 0 2 = nI c := by rw [up_at, pk_un (by omega), wS_k (by omega)]; exact e2
  refine ⟨up (up (wS Y (2 + n) S) 9 0 0 1 (nI ((n + 1) % 6))) 9 0 0 2 (nI (min (c + 1) 6)), ?_, ⟨⟨n6, c6, e1, e2, e3, e4⟩, ?_, ?_, ?_, ?_⟩, ?_⟩
  · unfold X2_push
    rw [e1, gdi n6, ix_n (by omega), hcf, bd1_e, w1, nI_1, lt_e]
    have hr : nI (n + 1) - nI (n + 1) / 6 * 6 = nI ((n + 1) % 6) := pk_rem (d := 6) (by omega) (by omega) (by omega)
    rw [hr, w2, nI_1]
    have hm : (if (6 : Int32) < nI (c + 1) then 6 else nI (c + 1)) = nI (min (c + 1) 6) := by
      show (if nI 6 < nI (c + 1) then nI 6 else nI (c + 1)) = _
      by_cases q : 6 < c + 1
      · rw [if_pos ((nI_ltI (a := 6) (by omega) (by omega)).mpr q), show min (c + 1) 6 = 6 by omega]
      · rw [if_neg (fun r => q ((nI_ltI (a := 6) (by omega) (by omega)).mp r)), show min (c + 1) 6 = c + 1 by omega]
    rw [hm, lt_e]
  · intro g hg
    funext o
    rw [up_eq, upR_o (by omega), up_eq, upR_o (by omega), wS_o (by omega)]
  · rw [hS]
    funext o
    rw [up_eq, upR_o (by omega), up_eq, upR_o (by omega), wS_at]
  · rw [up_at, pk_un (by omega), up_at, pk_us]
  · rw [up_at, pk_us]
  · intro k h2 h9
    funext g o
    rw [up_eq, upR_o (by omega), up_eq, upR_o (by omega), wS_k h2]
/-- after a push, a remembering and a change of the present state -/
theorem mut_fin {Y Yp Ym : Mem} {n c : Nat} {M : Nat → Int32} (hI : Inv Y) (hp : PuF Y Yp n c) (hM : ReF (Y 10 0 1) M c) (f1 : Ym 1 0 0 = Y 1 0 0) (f0 : Ym 0 = Y 0) (f9 : Ym 9 = Yp 9) (f3 : Ym 3 = Y 3) (f4 : Ym 4 = Y 4) (f2 : ∀ g, 2 ≤ g → Ym 2 g = Yp 2 g) (fu : Ym 10 0 0 2 = nI (min (c + 1) 6)) (fs : Ym 10 0 2 = Y 10 0 2) (fm : ∀ x, 382 ≤ x → x < 3438 → Ym 10 0 1 x = M x) (hK : KS (Ym 2 0) (Y 10 0 1) (Ym 10 0 1)) (hT : TX Ym) (hE : ER Ym) (hO : OU Ym) : Inv Ym := by
  obtain ⟨W, n1, hR, hK0, ⟨r, r2, r3, r4⟩, hN, -, -, -, -, hS⟩ := hI
  obtain ⟨⟨c1, c2, c3, c4, c5, c6⟩, p2, p3, p4, p5⟩ := hp
  obtain ⟨m1, m2, m3, m4, m5⟩ := hM
  have hre := hK.1
  have er : rg Ym 0 = rg Y 0 := by unfold rg; rw [f1]
  have h14 := W.2.1
  have hks : ∀ {σ : Nat → Nat → Int32} {b b' : Nat → Int32}, KS σ (Y 10 0 1) b → (∀ x, x < 382 → b' x = b x) → KS σ (Ym 10 0 1) b' := by
    intro σ b b' hk hb
    have q := KS_cg hk (KS_nS hk W) (fun x _ => rfl) hb
    exact ⟨re_trans (re_symm hre) q.1, q.2⟩
  refine ⟨re_WF hre W, by rw [re_nS hre]; exact n1, ?_, ⟨re_refl _, hK.2⟩, ⟨r, r2, by rw [f1]; exact r3, by rw [f0]; exact r4⟩, ?_, hT, hE, hO, ⟨(n + 1) % 6, min (c + 1) 6, by omega, by omega, by rw [f9]; exact p4, by rw [f9]; exact p5, fu, ?_⟩, ?_⟩
  · rw [er]; exact RR_re W hre (RR_mem f3 f4 hR)
  · rw [er]; exact NM_cells (by rw [f4]) (by rw [f4]) W hre hN
  · intro i hi
    rw [f2 _ (by omega)]
    by_cases e : i = 0
    · subst e
      have eg : 2 + ((n + 1) % 6 + 6 - (0 + 1)) % 6 = 2 + n := by omega
      rw [eg, p3]
      refine hks (KS_copy h14 hK0) (fun x hx => ?_)
      show Ym 10 0 1 ((min (c + 1) 6 - 0) * 382 + x) = _
      rw [Nat.sub_zero, fm _ (by omega) (by omega)]
      exact m2 x hx
    · have eg : 2 + ((n + 1) % 6 + 6 - (i + 1)) % 6 = 2 + (n + 6 - (i - 1 + 1)) % 6 := by omega
      have en : 2 + (n + 6 - (i - 1 + 1)) % 6 ≠ 2 + n := by omega
      rw [eg, p2 _ en]
      refine hks (c6 (i - 1) (by omega)) (fun x hx => ?_)
      show Ym 10 0 1 ((min (c + 1) 6 - i) * 382 + x) = Y 10 0 1 ((c - (i - 1)) * 382 + x)
      rw [fm _ (by omega) (by omega)]
      by_cases q : c < 6
      · rw [show min (c + 1) 6 - i = c - (i - 1) by omega]
        exact m3 q _ x (by omega) (by omega) hx
      · rw [show min (c + 1) 6 - i = 6 - i by omega, show c - (i - 1) = 6 - i + 1 by omega]
        exact m4 (by omega) _ x (by omega) (by omega) hx
  · intro i hi
    rw [f0, fs, f2 _ (by omega), p2 _ (by omega)]
    rcases hS i hi with q | ⟨q1, q2, q3⟩
    · exact Or.inl q
    · refine Or.inr ⟨q1, q2, hks q3 (fun x hx => ?_)⟩
      show Ym 10 0 1 ((7 + i) * 382 + x) = Y 10 0 1 ((7 + i) * 382 + x)
      rw [fm _ (by omega) (by omega)]
      exact m5 _ (by omega)
end
