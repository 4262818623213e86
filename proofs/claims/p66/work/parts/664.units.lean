section
/-! UNITS of reading: class and model side by side -/
def TJ (Y Z : Mem) (b : Nat → Nat) (n k s e : Nat) : Prop := TK Y Z b n k s e ∧ Y 6 0 0 4 = 0 ∧ Y 6 0 0 5 = -1 ∧ Z 10 0 0 5 = 0 ∧ Z 10 0 0 6 = -1
def HF (Z : Mem) (h : Nat → Int32) : Prop := ∀ x, x ≠ 5 → x ≠ 6 → x ≠ 14 → x ≠ 15 → x ≠ 16 → x ≠ 17 → h x = Z 10 0 0 x
def BF (f h : Nat → Int32) : Prop := f 1 = 5 ∧ f 4 = h 5 ∧ f 5 = h 6 ∧ ∃ c, 1 ≤ c ∧ c ≤ 5 ∧ h 5 = nI c
theorem TJ_fr {Y Z Y' Z' : Mem} {b : Nat → Nat} {n k s e : Nat} (h5 : Y' 5 0 = Y 5 0) (h6 : Y' 6 0 0 = Y 6 0 0) (h3 : Z' 10 0 3 = Z 10 0 3) (h0 : Z' 10 0 0 = Z 10 0 0) (h : TJ Y Z b n k s e) : TJ Y' Z' b n k s e := by
  unfold TJ TK TT at h ⊢
  rw [h5, h6, h3, h0]; exact h
theorem adv_j {Y Z : Mem} {b : Nat → Nat} {n k s e : Nat} (h : TJ Y Z b n k s e) : ∃ f h k' s' e', X10_advance Y = some (upR Y 6 0 0 f) ∧ M12_token Z = some (upR Z 10 0 0 h) ∧ HF Z h ∧ TJ (upR Y 6 0 0 f) (upR Z 10 0 0 h) b n k' s' e' := by
  obtain ⟨hT, x4, x5, z5, z6⟩ := h
  obtain ⟨f, h, k', s', e', a1, a2, a3, a4, a5⟩ := adv_ok hT.1 hT.2.1.2.1 hT.2.2.1.2.2 hT.2.2.2.2.2.1
  refine ⟨f, h, k', s', e', a1, a3, fun x _ _ q3 q4 q5 q6 => a4 x q3 q4 q5 q6, a5, ?_, ?_, ?_, ?_⟩
  · rw [u6, a2 4 (by omega) (by omega) (by omega)]; exact x4
  · rw [u6, a2 5 (by omega) (by omega) (by omega)]; exact x5
  · rw [u10, a4 5 (by omega) (by omega) (by omega) (by omega)]; exact z5
  · rw [u10, a4 6 (by omega) (by omega) (by omega) (by omega)]; exact z6
theorem TJ_k {Y Z : Mem} {b : Nat → Nat} {n k s e : Nat} (h : TJ Y Z b n k s e) : Y 6 0 0 1 = nI k ∧ Y 6 0 0 2 = nI s ∧ Y 6 0 0 3 = nI e ∧ Z 10 0 0 15 = nI k ∧ Z 10 0 0 16 = nI s ∧ Z 10 0 0 14 = nI e ∧ s ≤ e ∧ e ≤ n ∧ k ≤ 4 ∧ n ≤ 700 :=
  ⟨h.1.2.2.1.1, h.1.2.2.1.2.1, h.1.2.2.1.2.2, h.1.2.2.2.1, h.1.2.2.2.2.1, h.1.2.2.2.2.2.1, h.1.2.1.1, h.1.2.1.2.1, h.1.2.1.2.2.1, h.1.1.1⟩
theorem nI_lit {k c : Nat} (hk : k < 100) (hc : c < 100) : nI k = nI c ↔ k = c := nI_eq (by omega) (by omega)
theorem fail_j {Y Z : Mem} {b : Nat → Nat} {n k s e : Nat} (h : TJ Y Z b n k s e) {c : Nat} (c1 : 1 ≤ c) (c5 : c ≤ 5) : ∃ f h, X10_fail Y (nI c) = some (upR Y 6 0 0 f) ∧ M12_wrong Z (nI c) = some (0, upR Z 10 0 0 h) ∧ HF Z h ∧ BF f h := by
  obtain ⟨h1, h2, -, m1, m2, -, -, -, k4, -⟩ := TJ_k h
  refine ⟨upd (upd (upd (Y 6 0 0) 4 (nI c)) 5 (nI s)) 1 5, upd (upd (Z 10 0 0) 5 (nI c)) 6 (nI s), ?_, ?_, fun x q1 q2 _ _ _ _ => by rw [pk_un q2, pk_un q1], pk_us, ?_, ?_, c, c1, c5, ?_⟩
  · unfold X10_fail
    rw [h1, if_neg (show ¬ nI k = 5 from by show ¬ nI k = nI 5; rw [nI_lit (by omega) (by omega)]; omega), up_eq, lt_e, u6, pk_un (by omega), h2, up_upR, lt_e, up_upR, lt_e]
  · unfold M12_wrong
    rw [up_eq, lt_e, u10, pk_un (by omega), m2, up_upR, lt_e]
  · rw [pk_un (by omega), pk_un (by omega), pk_us, pk_un (by omega), pk_us]
  · rw [pk_un (by omega), pk_us, pk_us]
  · rw [pk_un (by omega), pk_us]
/-! after an error -/
theorem e_fail {Y : Mem} (h : Y 6 0 0 1 = 5) (c : Int32) : X10_fail Y c = some Y := by unfold X10_fail; rw [h, if_pos rfl]
theorem e_word {Y : Mem} (h : Y 6 0 0 1 = 5) (w : Nat) : X10_isWord Y w = some 0 := by unfold X10_isWord; rw [h, if_neg (by decide)]
theorem e_acc {Y : Mem} (h : Y 6 0 0 1 = 5) (w : Nat) : X10_accept Y w = some (0, Y) := by unfold X10_accept; rw [e_word h, bd1_e, if_pos rfl, gd_t (by decide)]
theorem e_num {Y : Mem} (h : Y 6 0 0 1 = 5) (lo hi : Int32) : X10_expectNumber Y lo hi = some (lo, Y) := by unfold X10_expectNumber; rw [h, if_neg (by decide), e_fail h, bd1_e]
theorem e_semi {Y : Mem} (h : Y 6 0 0 1 = 5) : X10_expectSemicolon Y = some Y := by unfold X10_expectSemicolon; rw [h, if_neg (by decide), e_fail h, bd1_e]
theorem e_name {Y : Mem} (h : Y 6 0 0 1 = 5) (g : Nat) : X10_expectNewName Y g = some Y := by unfold X10_expectNewName; rw [h, if_neg (by decide), e_fail h, bd1_e]
theorem e_find {Y : Mem} (h : Y 6 0 0 1 = 5) (g : Nat) : X10_findName Y g = some (-1, Y) := by unfold X10_findName; rw [h, if_neg (by decide), e_fail h, bd1_e]
theorem e_any {Y : Mem} (h : Y 6 0 0 1 = 5) : X10_isAnyWord Y = some 0 := by unfold X10_isAnyWord; rw [h, if_neg (by decide)]
theorem e_go {Y : Mem} (h : Y 6 0 0 1 = 5) : X10_mayGoOn Y = some 0 := by unfold X10_mayGoOn; rw [h, if_neg (by decide), if_pos rfl]
/-! semicolon, number, word -/
theorem semi_j {Y Z : Mem} {b : Nat → Nat} {n k s e : Nat} (h : TJ Y Z b n k s e) : (∃ f h k' s' e', X10_expectSemicolon Y = some (upR Y 6 0 0 f) ∧ M12_semicolon Z = some (1, upR Z 10 0 0 h) ∧ HF Z h ∧ TJ (upR Y 6 0 0 f) (upR Z 10 0 0 h) b n k' s' e') ∨ (∃ f h, X10_expectSemicolon Y = some (upR Y 6 0 0 f) ∧ M12_semicolon Z = some (0, upR Z 10 0 0 h) ∧ HF Z h ∧ BF f h) := by
  obtain ⟨h1, -, -, m1, -, -, -, -, k4, -⟩ := TJ_k h
  unfold X10_expectSemicolon M12_semicolon
  have k3 : nI k = 3 ↔ k = 3 := nI_lit (c := 3) (by omega) (by omega)
  rw [h1, m1]
  by_cases e3 : k = 3
  · left
    obtain ⟨f, h', k', s', e', a1, a2, a3, a4⟩ := adv_j h
    refine ⟨f, h', k', s', e', ?_, ?_, a3, a4⟩
    · rw [if_pos (k3.mpr e3), a1, bd1_e]
    · rw [if_pos (k3.mpr e3), a2, bd1_e]
  · right
    obtain ⟨f, h', a1, a2, a3, a4⟩ := fail_j h (c := 1) (by omega) (by omega)
    refine ⟨f, h', ?_, ?_, a3, a4⟩
    · rw [if_neg (fun q => e3 (k3.mp q)), show X10_fail Y 1 = _ from a1, bd1_e]
    · rw [if_neg (fun q => e3 (k3.mp q)), show M12_wrong Z 1 = _ from a2, bd2_e, gd_t (by decide)]
theorem numC_b (Y : Mem) {b : Nat → Nat} {s e : Nat} {a1 a2 : Int32} (he : e ≤ 700) (hs3 : e ≤ s + 3) (h3 : Y 6 0 0 3 = nI e) (hb : ∀ j, s ≤ j → j < e → 48 ≤ b j ∧ b j ≤ 57 ∧ Y 5 0 1 j = byt (b j)) : ∀ d i f, s + i + d = e → d < f → X10_expectNumber_b23 a1 a2 f Y (nI (s + i)) (nI (numV b s i)) = bd1 (X11_isWithin Y (nI (numV b s (e - s))) a1 a2) fun r5 => if r5 = 0 then (bd1 (X10_fail Y 2) fun Y13 => some (a1, Y13)) else (bd1 (X10_advance Y) fun Y10 => some (nI (numV b s (e - s)), Y10)) := by
  intro d
  induction d with
  | zero =>
    intro i f hi f_h
    obtain ⟨f, rfl⟩ := fuel_s f_h
    unfold X10_expectNumber_b23
    rw [h3, if_pos (by rw [nI_leI (by omega) (by omega)]; omega), show e - s = i by omega]
  | succ d ih =>
    intro i f hi f_h
    obtain ⟨f, rfl⟩ := fuel_s f_h
    unfold X10_expectNumber_b23
    obtain ⟨b1, b2, b3⟩ := hb (s + i) (by omega) (by omega)
    have hlt := numV_lt (b := b) (s := s) (e := e) (fun j j1 j2 => ⟨(hb j j1 j2).1, (hb j j1 j2).2.1⟩) i (by omega) (by omega)
    have hp10 : 10 ^ i ≤ 1000 := Nat.le_trans (Nat.pow_le_pow_right (by omega) (show i ≤ 3 by omega)) (by decide)
    have hn := num_step (b := b) (s := s) (i := i) (v := numV b s i) (by omega) ⟨b1, b2⟩ rfl
    rw [h3, if_neg (by rw [nI_leI (by omega) (by omega)]; omega), gd_t (inb_n (n := tcap 0) (show s + i < 700 by omega) (by decide)), ix_n (by omega), b3, byt_nI (by omega), hn, lt_e, nI_1]
    exact ih (i + 1) f (by omega) (by omega)
theorem numC_ok {Y Z : Mem} {b : Nat → Nat} {n s e : Nat} (h : TJ Y Z b n 2 s e) (a1 a2 : Int32) : X10_expectNumber Y a1 a2 = bd1 (X11_isWithin Y (nI (numV b s (e - s))) a1 a2) fun r5 => if r5 = 0 then (bd1 (X10_fail Y 2) fun Y13 => some (a1, Y13)) else (bd1 (X10_advance Y) fun Y10 => some (nI (numV b s (e - s)), Y10)) := by
  obtain ⟨h1, h2, h3, -, -, -, h4, h5, -, h7⟩ := TJ_k h
  obtain ⟨w1, w2, w3⟩ := h.1.2.1.2.2.2.2 rfl
  unfold X10_expectNumber
  rw [h1, if_pos (show nI 2 = 2 from rfl), h2, lt_e]
  exact numC_b Y (by omega) w2 h3 (fun j j1 j2 => ⟨(w3 j j1 j2).1, (w3 j j1 j2).2, (h.1.1.2.1 j (by omega)).2.2⟩) (e - s) 0 FU (by omega) (by have := FU_big; omega)
theorem numV_999 {Y Z : Mem} {b : Nat → Nat} {n s e : Nat} (h : TJ Y Z b n 2 s e) : numV b s (e - s) < 1000 := by
  obtain ⟨w1, w2, w3⟩ := h.1.2.1.2.2.2.2 rfl
  have hlt := numV_lt (b := b) (s := s) (e := e) w3 (e - s) (by omega) (by omega)
  have hp10 : 10 ^ (e - s) ≤ 1000 := Nat.le_trans (Nat.pow_le_pow_right (by omega) (show e - s ≤ 3 by omega)) (by decide)
  omega
theorem rng_dec {v lo hi : Nat} (hv : v < 1000) (hl : lo < 1000) (hh : hi < 1000) : decide (nI lo ≤ nI v ∧ nI v ≤ nI hi) = decide (lo ≤ v ∧ v ≤ hi) := by
  exact decide_eq_decide.mpr (and_congr (nI_leI (by omega) (by omega)) (nI_leI (by omega) (by omega)))
theorem num_j {Y Z : Mem} {b : Nat → Nat} {n k s e : Nat} (h : TJ Y Z b n k s e) {lo hi w : Nat} (hl : lo < 1000) (hh : hi < 1000) (hw : w < 4202) : (∃ v f h k' s' e', lo ≤ v ∧ v ≤ hi ∧ X10_expectNumber Y (nI lo) (nI hi) = some (nI v, upR Y 6 0 0 f) ∧ M12_parseRanged Z (nI w) (nI lo) (nI hi) = some (1, upR (upR Z 10 0 1 (upd (Z 10 0 1) w (nI v))) 10 0 0 h) ∧ HF Z h ∧ TJ (upR Y 6 0 0 f) (upR (upR Z 10 0 1 (upd (Z 10 0 1) w (nI v))) 10 0 0 h) b n k' s' e') ∨ (∃ f h, X10_expectNumber Y (nI lo) (nI hi) = some (nI lo, upR Y 6 0 0 f) ∧ M12_parseRanged Z (nI w) (nI lo) (nI hi) = some (0, upR Z 10 0 0 h) ∧ HF Z h ∧ BF f h) := by
  obtain ⟨h1, -, -, m1, -, -, -, -, k4, -⟩ := TJ_k h
  have k3 : nI k = 2 ↔ k = 2 := nI_lit (c := 2) (by omega) (by omega)
  by_cases e3 : k = 2
  · subst e3
    have hv := numV_999 h
    have hr := rng_dec hv hl hh
    have m17 := h.1.2.2.2.2.2.2 rfl
    rw [numC_ok h]
    unfold M12_parseRanged
    generalize numV b s (e - s) = v at *
    rw [m1, if_pos (show nI 2 = 2 from rfl), m17, in_ok, within_ok, bd1_e, bd1_e, hr]
    by_cases q : lo ≤ v ∧ v ≤ hi
    · left
      rw [decide_eq_true q, bI_t, if_neg (by decide), if_neg (by decide)]
      have h' : TJ Y (upR Z 10 0 1 (upd (Z 10 0 1) w (nI v))) b n 2 s e := TJ_fr rfl rfl (upR_o (by omega)) (upR_o (by omega)) h
      obtain ⟨f, h'', k', s', e', a1, a2, a3, a4⟩ := adv_j h'
      refine ⟨v, f, h'', k', s', e', q.1, q.2, ?_, ?_, ?_, a4⟩
      · rw [a1, bd1_e]
      · rw [gdi hw, ix_n (by omega), up_eq, lt_e, a2, bd1_e]
      · intro x q1 q2 q3 q4 q5 q6
        rw [a3 x q1 q2 q3 q4 q5 q6, upR_o (by omega)]
    · right
      obtain ⟨f, h', a1, a2, a3, a4⟩ := fail_j h (c := 2) (by omega) (by omega)
      rw [decide_eq_false q, bI_f, if_pos rfl, if_pos rfl]
      refine ⟨f, h', ?_, ?_, a3, a4⟩
      · rw [show X10_fail Y 2 = _ from a1, bd1_e]
      · rw [show M12_wrong Z 2 = _ from a2, bd2_e, gd_t (by decide)]
  · right
    obtain ⟨f, h', a1, a2, a3, a4⟩ := fail_j h (c := 1) (by omega) (by omega)
    refine ⟨f, h', ?_, ?_, a3, a4⟩
    · unfold X10_expectNumber
      rw [h1, if_neg (fun q => e3 (k3.mp q)), show X10_fail Y 1 = _ from a1, bd1_e]
    · unfold M12_parseRanged
      rw [m1, if_neg (fun q => e3 (k3.mp q)), show M12_wrong Z 1 = _ from a2, bd2_e, gd_t (by decide)]
theorem acc_j {Y Z : Mem} {b : Nat → Nat} {n k s e w : Nat} (h : TJ Y Z b n k s e) (h1 : 1 ≤ w) (hw : w < 16) : (∃ f h k' s' e', X10_accept Y w = some (1, upR Y 6 0 0 f) ∧ M12_takes Z w = some (1, upR Z 10 0 0 h) ∧ HF Z h ∧ TJ (upR Y 6 0 0 f) (upR Z 10 0 0 h) b n k' s' e') ∨ (X10_accept Y w = some (0, Y) ∧ M12_takes Z w = some (0, Z)) := by
  obtain ⟨w1, w2⟩ := word_ok h.1 h1 hw
  unfold X10_accept M12_takes
  rw [w1, w2, bd1_e, bd1_e]
  cases isW b k s e w
  · right
    rw [bI_f, if_pos rfl, if_pos rfl, gd_t (by decide)]
    exact ⟨rfl, rfl⟩
  · left
    obtain ⟨f, h', k', s', e', a1, a2, a3, a4⟩ := adv_j h
    refine ⟨f, h', k', s', e', ?_, ?_, a3, a4⟩
    · rw [bI_t, if_neg (by decide), a1, bd1_e, gd_t (by decide)]
    · rw [bI_t, if_neg (by decide), a2, bd1_e]
/-! names -/
theorem short_j {Y Z : Mem} {b : Nat → Nat} {n k s e : Nat} (h : TJ Y Z b n k s e) : (k = 1 ∧ e - s ≤ 6 ∧ M12_isShortWord Z = some (1, Z)) ∨ (∃ c f h, (c = 1 ∧ k ≠ 1 ∨ c = 3 ∧ k = 1 ∧ 6 < e - s) ∧ X10_fail Y (nI c) = some (upR Y 6 0 0 f) ∧ M12_isShortWord Z = some (0, upR Z 10 0 0 h) ∧ HF Z h ∧ BF f h) := by
  obtain ⟨h1, -, -, m1, m2, m3, hse, -, k4, -⟩ := TJ_k h
  have k3 : nI k = 1 ↔ k = 1 := nI_lit (c := 1) (by omega) (by omega)
  unfold M12_isShortWord M12_isShortWord_b36
  rw [m1, m2, m3, pk_sub hse]
  by_cases e1 : k = 1
  · subst e1
    have h8 := (h.1.2.1.2.2.2.1 rfl).2.1
    have l6 : nI (e - s) ≤ 6 ↔ e - s ≤ 6 := nI_leI (b := 6) (by omega) (by omega)
    rw [if_pos (show nI 1 = 1 from rfl)]
    by_cases q : e - s ≤ 6
    · left; rw [if_pos (l6.mpr q)]; exact ⟨rfl, q, rfl⟩
    · right
      obtain ⟨f, h', a1, a2, a3, a4⟩ := fail_j h (c := 3) (by omega) (by omega)
      refine ⟨3, f, h', Or.inr ⟨rfl, rfl, by omega⟩, a1, ?_, a3, a4⟩
      rw [if_neg (fun w => q (l6.mp w)), show M12_wrong Z 3 = _ from a2, bd2_e, if_pos rfl]
  · right
    obtain ⟨f, h', a1, a2, a3, a4⟩ := fail_j h (c := 1) (by omega) (by omega)
    refine ⟨1, f, h', Or.inl ⟨rfl, e1⟩, a1, ?_, a3, a4⟩
    rw [if_neg (fun w => e1 (k3.mp w)), show M12_wrong Z 1 = _ from a2, bd2_e, gd_t (by decide)]
/-- the name's place among the names -/
def nmI (m : Nat → Int32) (a0 st c : Nat) (b : Nat → Nat) (s e : Nat) : Option Nat := fst1 (fun q => nmd m (a0 + q * st) b s (e - s)) c
theorem idxC_ok {Y Z : Mem} {m : Nat → Int32} {b : Nat → Nat} {n k s e g a0 st c : Nat} (h : TJ Y Z b n k s e) (hN : NN Y g m a0 st c) : X4_indexOf Y g 0 (nI s) (nI e) = some (oI (nmI m a0 st c b s e)) := by
  obtain ⟨-, -, -, -, -, -, hse, hen, -, h7⟩ := TJ_k h
  have hcap : ncap g ≤ 14 := by unfold ncap; split <;> omega
  unfold X4_indexOf
  exact idxC_b Y hN hse (by omega) (fun j hj => ⟨(h.1.1.2.1 j (by omega)).1, (h.1.1.2.1 j (by omega)).2.2⟩) 0 (by omega) FU (by have := FU_big; have := hN.1; omega) rfl
theorem nmI_lt {m : Nat → Int32} {a0 st c : Nat} {b : Nat → Nat} {s e i : Nat} (h : nmI m a0 st c b s e = some i) : i < c := (fst1_some.mp h).1
theorem nmI_long {Y : Mem} {m : Nat → Int32} {g a0 st c : Nat} {b : Nat → Nat} {s e : Nat} (hN : NN Y g m a0 st c) (h : 6 < e - s) (hb : e - s < 2 ^ 31) : nmI m a0 st c b s e = none := by
  refine fst1_none.mpr (fun q hq => ?_)
  obtain ⟨l, l6, hl⟩ := NN_len hN q hq
  show nmd m (a0 + q * st) b s (e - s) = false
  unfold nmd
  rw [if_neg]
  intro w
  rw [hl, nI_eq (by omega) hb] at w
  omega
theorem oI_some {i : Nat} (h : i < 2 ^ 30) : ¬ oI (some i) = -1 := by
  show ¬ nI i = -1
  intro e
  have h0 : (nI i).toInt = i := nI_toInt (by omega)
  rw [e] at h0
  have : (-1 : Int32).toInt = -1 := rfl
  omega
theorem stNm_ok {Y Z : Mem} {b : Nat → Nat} {n k s e g c : Nat} (h : TJ Y Z b n k s e) (hN : NN Y g (Z 10 0 1) 46 24 c) (h13 : Z 10 0 1 13 = nI c) (hc : c ≤ 14) : M12_stepNamed Z (nI s) (nI (e - s)) = some (oI (nmI (Z 10 0 1) 46 24 c b s e)) := by
  obtain ⟨-, -, -, -, -, -, hse, hen, -, h7⟩ := TJ_k h
  exact stNm_b Z rfl h13 hc (by omega) (NN_len hN) (fun j hj => (h.1.1.2.1 j (by omega)).2.1) 0 (by omega) FU (by have := FU_big; omega) rfl
theorem pnNm_ok {Y Z : Mem} {b : Nat → Nat} {n k s e g c : Nat} (h : TJ Y Z b n k s e) (hN : NN Y g (Z 10 0 1) 14 8 c) (h13 : Z 10 0 1 12 = nI c) (hc : c ≤ 4) : M12_panNamed Z (nI s) (nI (e - s)) = some (oI (nmI (Z 10 0 1) 14 8 c b s e)) := by
  obtain ⟨-, -, -, -, -, -, hse, hen, -, h7⟩ := TJ_k h
  exact pnNm_b Z rfl h13 hc (by omega) (NN_len hN) (fun j hj => (h.1.1.2.1 j (by omega)).2.1) 0 (by omega) FU (by have := FU_big; omega) rfl
/-- a name that must be there: class's answer, model's word test and place -/
theorem find_j {Y Z : Mem} {m : Nat → Int32} {b : Nat → Nat} {n k s e g a0 st c : Nat} (h : TJ Y Z b n k s e) (hN : NN Y g m a0 st c) : (∃ i, i < c ∧ nmI m a0 st c b s e = some i ∧ X10_findName Y g = some (nI i, Y) ∧ M12_isShortWord Z = some (1, Z)) ∨ (∃ f h, X10_findName Y g = some (-1, upR Y 6 0 0 f) ∧ HF Z h ∧ BF f h ∧ (M12_isShortWord Z = some (0, upR Z 10 0 0 h) ∨ (M12_isShortWord Z = some (1, Z) ∧ nmI m a0 st c b s e = none ∧ M12_wrong Z 3 = some (0, upR Z 10 0 0 h)))) := by
  obtain ⟨h1, h2, h3, -, -, -, hse, hen, k4, h7⟩ := TJ_k h
  have hcap : ncap g ≤ 14 := by unfold ncap; split <;> omega
  have k3 : nI k = 1 ↔ k = 1 := nI_lit (c := 1) (by omega) (by omega)
  rcases short_j h with ⟨e1, e2, e3⟩ | ⟨cc, f, h', hc, a1, a2, a3, a4⟩
  · subst e1
    unfold X10_findName
    rw [h1, if_pos (show nI 1 = 1 from rfl), h2, h3, idxC_ok h hN, bd1_e]
    cases q : nmI m a0 st c b s e with
    | some i =>
      have hi := nmI_lt q
      left
      refine ⟨i, hi, rfl, ?_, e3⟩
      rw [if_neg (oI_some (by have := hN.1; omega))]
      rfl
    | none =>
      right
      obtain ⟨f, h', a1, a2, a3, a4⟩ := fail_j h (c := 3) (by omega) (by omega)
      refine ⟨f, h', ?_, a3, a4, Or.inr ⟨e3, rfl, a2⟩⟩
      rw [if_pos (show oI none = -1 from rfl), show X10_fail Y 3 = _ from a1, bd1_e]
      rfl
  · right
    rcases hc with ⟨rfl, e1⟩ | ⟨rfl, rfl, e6⟩
    · refine ⟨f, h', ?_, a3, a4, Or.inl a2⟩
      unfold X10_findName
      rw [h1, if_neg (fun q => e1 (k3.mp q)), show X10_fail Y 1 = _ from a1, bd1_e]
    · refine ⟨f, h', ?_, a3, a4, Or.inl a2⟩
      unfold X10_findName
      rw [h1, if_pos (show nI 1 = 1 from rfl), h2, h3, idxC_ok h hN, bd1_e, nmI_long hN e6 (by omega), if_pos (show oI none = -1 from rfl), show X10_fail Y 3 = _ from a1, bd1_e]
      rfl
/-- a name written into a block -/
def nmW (m : Nat → Int32) (at_ : Nat) (b : Nat → Nat) (s len : Nat) : Nat → Int32 := fun x => if x = at_ then nI len else if at_ < x ∧ x < at_ + 1 + len then nI (b (s + (x - (at_ + 1)))) else m x
theorem prep_b (Y : Mem) {b : Nat → Nat} {g s e c : Nat} (hc : c < ncap g) (hse : s ≤ e) (he : e ≤ 700) (h6 : e - s ≤ 6) (hcnt : Y 4 g 0 2 = nI c) (hb : ∀ j, s ≤ j → j < e → b j < 128 ∧ Y 5 0 1 j = byt (b j)) : ∀ d i f a, i + d = e - s → d < f → (∀ j, j < i → a j = nI (b (s + j))) → ∃ a', X4_prepare_b31 g 0 (nI s) (nI e) f (upR Y 4 g (10 + c) a) (nI i) = some (upR Y 4 g (10 + c) a') ∧ ∀ j, j < e - s → a' j = nI (b (s + j)) := by
  have hcap : ncap g ≤ 14 := by unfold ncap; split <;> omega
  intro d
  induction d with
  | zero =>
    intro i f a hi f_h ha
    obtain ⟨f, rfl⟩ := fuel_s f_h
    refine ⟨a, ?_, fun j hj => ha j (by omega)⟩
    unfold X4_prepare_b31
    rw [pk_sub hse, if_pos (by rw [nI_leI (by omega) (by omega)]; omega)]
  | succ d ih =>
    intro i f a hi f_h ha
    obtain ⟨f, rfl⟩ := fuel_s f_h
    unfold X4_prepare_b31
    obtain ⟨b1, b2⟩ := hb (s + i) (by omega) (by omega)
    have ec : (upR Y 4 g (10 + c) a) 4 g 0 2 = nI c := by rw [upR_o (by omega)]; exact hcnt
    rw [pk_sub hse, if_neg (by rw [nI_leI (by omega) (by omega)]; omega), ec, gd_t (inb_n hc (by omega)), nI_add, gd_t (inb_n (n := tcap 0) (show s + i < 700 by omega) (by decide)), gdi (show i < 6 by omega), ix_n (by omega), ix_n (by omega), ix_n (by omega), upR_o (show ¬ (5 = 4 ∧ 0 = g ∧ 1 = 10 + c) by omega), b2, nar_b (by omega), byt_nI b1, up_upR, lt_e, nI_1]
    exact ih (i + 1) f _ (by omega) (by omega) (fun j hj => by
      by_cases e : j = i
      · subst e; rw [pk_us]
      · rw [pk_un e]; exact ha j (by omega))
theorem putN_b (Z : Mem) {b : Nat → Nat} {at_ s e : Nat} (ha : at_ + 7 ≤ 4202) (hse : s ≤ e) (he : e ≤ 700) (h6 : e - s ≤ 6) (h14 : Z 10 0 0 14 = nI e) (h16 : Z 10 0 0 16 = nI s) (hb : ∀ j, s ≤ j → j < e → Z 10 0 3 j = nI (b j)) : ∀ d i f a, i + d = e - s → d < f → ∃ a', M12_putName_b20 (nI at_) f (upR Z 10 0 1 a) (nI (s + i)) = (bd1 (M12_token (upR Z 10 0 1 a')) fun Y9 => some Y9) ∧ ∀ x, a' x = if at_ + 1 + i ≤ x ∧ x < at_ + 1 + (e - s) then nI (b (s + (x - (at_ + 1)))) else a x := by
  intro d
  induction d with
  | zero =>
    intro i f a hi f_h
    obtain ⟨f, rfl⟩ := fuel_s f_h
    refine ⟨a, ?_, fun x => by rw [if_neg (by omega)]⟩
    unfold M12_putName_b20
    rw [upR_o (by omega), h14, if_pos (by rw [nI_leI (by omega) (by omega)]; omega)]
  | succ d ih =>
    intro i f a hi f_h
    obtain ⟨f, rfl⟩ := fuel_s f_h
    unfold M12_putName_b20
    have ex : nI at_ + 1 + nI (s + i) - nI s = nI (at_ + 1 + i) := by
      rw [nI_1, nI_add, pk_sub (by omega), show at_ + 1 + (s + i) - s = at_ + 1 + i by omega]
    rw [upR_o (show ¬ (10 = 10 ∧ 0 = 0 ∧ 0 = 1) by omega), h14, if_neg (by rw [nI_leI (by omega) (by omega)]; omega), gdi (show s + i < 700 by omega), h16, ex, gdi (show at_ + 1 + i < 4202 by omega), ix_n (by omega), ix_n (by omega), upR_o (show ¬ (10 = 10 ∧ 0 = 0 ∧ 3 = 1) by omega), hb _ (by omega) (by omega), up_upR, lt_e, nI_1, Nat.add_assoc s i 1]
    obtain ⟨a', q1, q2⟩ := ih (i + 1) f (upd a (at_ + 1 + i) (nI (b (s + i)))) (by omega) (by omega)
    refine ⟨a', q1, fun x => ?_⟩
    rw [q2 x]
    by_cases ex : x = at_ + 1 + i
    · subst ex
      rw [if_neg (by omega), if_pos (by omega), pk_us, show s + (at_ + 1 + i - (at_ + 1)) = s + i by omega]
    · rw [pk_un ex]
      by_cases q : at_ + 1 + (i + 1) ≤ x ∧ x < at_ + 1 + (e - s)
      · rw [if_pos q, if_pos (by omega)]
      · rw [if_neg q, if_neg (by omega)]
theorem putN_ok {Y Z : Mem} {b : Nat → Nat} {n k s e at_ : Nat} (h : TJ Y Z b n k s e) (ha : at_ + 7 ≤ 4202) (h6 : e - s ≤ 6) : M12_putName Z (nI at_) = bd1 (M12_token (upR Z 10 0 1 (nmW (Z 10 0 1) at_ b s (e - s)))) fun Y9 => some Y9 := by
  obtain ⟨-, -, -, -, m2, m3, hse, hen, -, h7⟩ := TJ_k h
  unfold M12_putName
  have e16 : (upR Z 10 0 1 (upd (Z 10 0 1) at_ (nI (e - s)))) 10 0 0 16 = nI s := by rw [upR_o (by omega)]; exact m2
  rw [gdi (show at_ < 4202 by omega), ix_n (by omega), m2, m3, pk_sub hse, up_eq, lt_e, e16, lt_e]
  obtain ⟨a', q1, q2⟩ := putN_b Z (b := b) ha hse (by omega) h6 m3 m2 (fun j j1 j2 => (h.1.1.2.1 j (by omega)).2.1) (e - s) 0 FU (upd (Z 10 0 1) at_ (nI (e - s))) (by omega) (by have := FU_big; omega)
  rw [show M12_putName_b20 (nI at_) FU (upR Z 10 0 1 (upd (Z 10 0 1) at_ (nI (e - s)))) (nI s) = _ from q1]
  have : a' = nmW (Z 10 0 1) at_ b s (e - s) := by
    funext x
    rw [q2 x]
    unfold nmW
    by_cases ex : x = at_
    · subst ex; rw [if_neg (by omega), if_pos rfl, pk_us]
    · rw [pk_un ex, if_neg ex]
      by_cases q : at_ + 1 + 0 ≤ x ∧ x < at_ + 1 + (e - s)
      · rw [if_pos q, if_pos (by omega)]
      · rw [if_neg q, if_neg (by omega)]
  rw [this]
/-- a new name: class and model; Z2 is the model's memory when it writes the name -/
theorem new_j {Y Z Z2 : Mem} {m : Nat → Int32} {b : Nat → Nat} {n k s e g a0 st c at_ : Nat} (h : TJ Y Z b n k s e) (hN : NN Y g m a0 st c) (hc : c < ncap g) (ha : at_ + 7 ≤ 4202) (h0 : Z2 10 0 0 = Z 10 0 0) (h3 : Z2 10 0 3 = Z 10 0 3) : (∃ a f h k' s' e', 1 ≤ e - s ∧ e - s ≤ 6 ∧ (∀ j, s ≤ j → j < e → 97 ≤ b j ∧ b j ≤ 122) ∧ M12_isShortWord Z = some (1, Z) ∧ nmI m a0 st c b s e = none ∧ (∀ j, j < e - s → a j = nI (b (s + j))) ∧ X10_expectNewName Y g = some (upR (upR (upR Y 4 g 2 (upd (Y 4 g 2) c (nI (e - s)))) 4 g (10 + c) a) 6 0 0 f) ∧ M12_putName Z2 (nI at_) = some (upR (upR Z2 10 0 1 (nmW (Z2 10 0 1) at_ b s (e - s))) 10 0 0 h) ∧ HF Z h ∧ TJ (upR (upR (upR Y 4 g 2 (upd (Y 4 g 2) c (nI (e - s)))) 4 g (10 + c) a) 6 0 0 f) (upR (upR Z2 10 0 1 (nmW (Z2 10 0 1) at_ b s (e - s))) 10 0 0 h) b n k' s' e') ∨ (∃ f h, X10_expectNewName Y g = some (upR Y 6 0 0 f) ∧ HF Z h ∧ BF f h ∧ (M12_isShortWord Z = some (0, upR Z 10 0 0 h) ∨ (∃ i, i < c ∧ M12_isShortWord Z = some (1, Z) ∧ nmI m a0 st c b s e = some i ∧ M12_wrong Z 3 = some (0, upR Z 10 0 0 h)))) := by
  obtain ⟨h1, h2, h3', -, -, -, hse, hen, k4, h7⟩ := TJ_k h
  have hcap : ncap g ≤ 14 := by unfold ncap; split <;> omega
  have k3 : nI k = 1 ↔ k = 1 := nI_lit (c := 1) (by omega) (by omega)
  rcases short_j h with ⟨e1, e2, e3⟩ | ⟨cc, f, h', hcc, a1, a2, a3, a4⟩
  · subst e1
    obtain ⟨w1, w2, w3⟩ := h.1.2.1.2.2.2.1 rfl
    have l6 : ¬ (6 : Int32) < nI (e - s) := by show ¬ nI 6 < nI (e - s); rw [nI_ltI (by omega) (by omega)]; omega
    have l6' : nI (e - s) ≤ 6 := (nI_leI (b := 6) (by omega) (by omega)).mpr e2
    unfold X10_expectNewName X10_expectNewName_b48
    rw [h1, if_pos (show nI 1 = 1 from rfl), h2, h3', pk_sub hse, if_neg l6, idxC_ok h hN, bd1_e]
    cases q : nmI m a0 st c b s e with
    | some i =>
      have hi := nmI_lt q
      right
      obtain ⟨f, h', a1, a2, a3, a4⟩ := fail_j h (c := 3) (by omega) (by omega)
      refine ⟨f, h', ?_, a3, a4, Or.inr ⟨i, hi, e3, rfl, a2⟩⟩
      rw [if_neg (oI_some (by omega)), show X10_fail Y 3 = _ from a1, bd1_e]
    | none =>
      left
      have hY4 : (upR Y 4 g 2 (upd (Y 4 g 2) c (nI (e - s)))) 4 g 0 2 = nI c := by rw [upR_o (by omega)]; exact hN.2.1
      obtain ⟨a, p1, p2⟩ := prep_b (upR Y 4 g 2 (upd (Y 4 g 2) c (nI (e - s)))) (b := b) (s := s) (e := e) hc hse (by omega) e2 hY4 (fun j j1 j2 => ⟨by have := w3 j j1 j2; omega, by rw [upR_o (by omega)]; exact (h.1.1.2.1 j (by omega)).2.2⟩) (e - s) 0 FU ((upR Y 4 g 2 (upd (Y 4 g 2) c (nI (e - s)))) 4 g (10 + c)) (by omega) (by have := FU_big; omega) (fun j hj => by omega)
      rw [upR_self] at p1
      have hJ : TJ (upR (upR Y 4 g 2 (upd (Y 4 g 2) c (nI (e - s)))) 4 g (10 + c) a) (upR Z2 10 0 1 (nmW (Z2 10 0 1) at_ b s (e - s))) b n 1 s e := by
        refine TJ_fr ?_ ?_ ?_ ?_ h
        · funext o; rw [upR_o (by omega), upR_o (by omega)]
        · rw [upR_o (by omega), upR_o (by omega)]
        · rw [upR_o (by omega)]; exact h3
        · rw [upR_o (by omega)]; exact h0
      have hJ2 : TJ Y Z2 b n 1 s e := TJ_fr rfl rfl h3 h0 h
      obtain ⟨f, h', k', s', e', a1, a2, a3, a4⟩ := adv_j hJ
      refine ⟨a, f, h', k', s', e', by omega, e2, w3, e3, rfl, p2, ?_, ?_, ?_, a4⟩
      · rw [if_pos (show oI none = -1 from rfl)]
        unfold X4_prepare X4_isFull
        rw [hN.2.1, if_pos (show nI c < Int32.ofNat (ncap g) from (nI_ltI (by omega) (by omega)).mpr hc), bd1_e, if_pos rfl, pk_sub hse, if_pos l6', gd_t (inb_n hc (by omega)), ix_n (by omega), up_eq, lt_e, show X4_prepare_b31 g 0 (nI s) (nI e) FU (upR Y 4 g 2 (upd (Y 4 g 2) c (nI (e - s)))) 0 = _ from p1, bd1_e, a1, bd1_e]
      · rw [putN_ok hJ2 ha e2, a2, bd1_e]
      · intro x q1 q2 q3 q4 q5 q6
        rw [a3 x q1 q2 q3 q4 q5 q6, upR_o (by omega), h0]
  · right
    refine ⟨f, h', ?_, a3, a4, Or.inl a2⟩
    unfold X10_expectNewName X10_expectNewName_b48
    rcases hcc with ⟨rfl, e1⟩ | ⟨rfl, rfl, e6⟩
    · rw [h1, if_neg (fun q => e1 (k3.mp q)), show X10_fail Y 1 = _ from a1, bd1_e]
    · rw [h1, if_pos (show nI 1 = 1 from rfl), h2, h3', pk_sub hse, if_pos (show (6 : Int32) < nI (e - s) from (nI_ltI (a := 6) (by omega) (by omega)).mpr e6), show X10_fail Y 3 = _ from a1, bd1_e]
end
