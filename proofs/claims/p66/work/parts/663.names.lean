section
/-! WORDS, NAMES -/
def wl (w : Nat) : Nat := (sByt w).length
def wc (w i : Nat) : Nat := ((sByt w).getD i 0).toNatClampNeg
theorem byt_nI {b : Nat} (h : b < 128) : byt b = nI b := by unfold byt; rw [if_pos h]
theorem wl_8a : ∀ w, w < 16 → 1 ≤ w → (w < 8 → 1 ≤ wl w) ∧ wl w ≤ 8 := by decide +kernel
theorem wl_8 (w : Nat) (h1 : 1 ≤ w) (h2 : w < 16) : (w < 8 → 1 ≤ wl w) ∧ wl w ≤ 8 := wl_8a w h2 h1
theorem wc_128 : ∀ w, w < 16 → 1 ≤ w → ∀ i, i < 8 → i < wl w → wc w i < 128 ∧ i2c_ (((sByt w).getD i 0) &&& 255) = nI (wc w i) ∧ (nI (wc w i)).toUInt32.toUInt16.toUInt32.toInt32 = nI (wc w i) := by decide +kernel
theorem shr0 : ∀ n, n < 16 → nI n >>> ((0 : Int32) &&& 31) = nI n := by decide +kernel
theorem len_ok (Y : Mem) {w : Nat} (h1 : 1 ≤ w) (hw : w < 16) : J0_length_8abf5 Y w = some (nI (wl w)) := by
  have h8 := (wl_8 w h1 hw).2
  unfold J0_length_8abf5 J0_coder_7d493
  rw [gd_t (decide_eq_true hw), gd_t (decide_eq_true hw), bd1_e]
  exact congrArg some (shr0 (wl w) (by omega))
theorem char_ok (Y : Mem) {w i : Nat} (h1 : 1 ≤ w) (hw : w < 16) (hi : i < wl w) : J0_charAt_5068e Y w (nI i) = some (nI (wc w i)) := by
  have h8 := (wl_8 w h1 hw).2
  obtain ⟨c1, c2, c3⟩ := wc_128 w hw h1 i (by omega) hi
  unfold J0_charAt_5068e J0_isLatin1_aae02 J1_charAt_3b067 J0_checkIndex_df160 J3_checkIndex_8e157
  rw [gd_t (decide_eq_true hw), gd_t (decide_eq_true hw), bd1_e, if_neg (by decide), gd_t (decide_eq_true hw)]
  rw [if_neg (show ¬ nI i < 0 from by show ¬ nI i < nI 0; rw [nI_ltI (by omega) (by omega)]; omega), if_pos (show nI i < Int32.ofNat (sByt w).length from (nI_ltI (by omega) (by show wl w < _; omega)).mpr hi), bd1_e, bd1_e]
  rw [gd_t (inb_n (show i < (sByt w).length from hi) (by show wl w ≤ _; omega)), ix_n (by omega), c2, gd_t (decide_eq_true c3), bd1_e, gd_t (decide_eq_true c3)]
def wE (b : Nat → Nat) (s w : Nat) : Nat → Nat → Bool
  | 0, _ => true
  | d + 1, i => if b (s + i) = wc w i then wE b s w d (i + 1) else false
def isW (b : Nat → Nat) (k s e w : Nat) : Bool := if k = 1 ∧ e - s = wl w then wE b s w (wl w) 0 else false
theorem byt_c {v c : Nat} (hv : v < 256) (hc : c < 128) : byt v = nI c ↔ v = c := by
  constructor
  · intro h
    rw [← byt_nI hc] at h
    exact byt_eq v hv c (by omega) h
  · rintro rfl; exact byt_nI hc
theorem wordC_b (Y : Mem) {b : Nat → Nat} {s w : Nat} (h1 : 1 ≤ w) (hw : w < 16) (hs : s + wl w ≤ 700) (hY : Y 6 0 0 2 = nI s) (hb : ∀ i, i < wl w → b (s + i) < 256 ∧ Y 5 0 1 (s + i) = byt (b (s + i))) : ∀ d i f, i + d = wl w → d < f → X10_isWord_b28 Y w f (nI i) = some (bI (wE b s w d i)) := by
  have h8 := (wl_8 w h1 hw).2
  intro d
  induction d with
  | zero =>
    intro i f hi f_h
    obtain ⟨f, rfl⟩ := fuel_s f_h
    unfold X10_isWord_b28
    rw [gd_t (decide_eq_true hw), len_ok Y h1 hw, bd1_e, if_pos (by rw [nI_leI (by omega) (by omega)]; omega)]
    rfl
  | succ d ih =>
    intro i f hi f_h
    obtain ⟨f, rfl⟩ := fuel_s f_h
    unfold X10_isWord_b28
    obtain ⟨b1, b2⟩ := hb i (by omega)
    rw [gd_t (decide_eq_true hw), len_ok Y h1 hw, bd1_e, if_neg (by rw [nI_leI (by omega) (by omega)]; omega), hY, nI_add, gd_t (inb_n (n := tcap 0) (show s + i < 700 by omega) (by decide)), char_ok Y h1 hw (by omega), bd1_e, ix_n (by omega), b2]
    have hc := (wc_128 w hw h1 i (by omega) (by omega)).1
    unfold wE
    by_cases e : b (s + i) = wc w i
    · rw [if_pos ((byt_c b1 hc).mpr e), if_pos e, nI_1]
      exact ih (i + 1) f (by omega) (by omega)
    · rw [if_neg (fun q => e ((byt_c b1 hc).mp q)), if_neg e]; rfl
theorem wordM_b (Z : Mem) {b : Nat → Nat} {s w : Nat} (h1 : 1 ≤ w) (hw : w < 16) (hs : s + wl w ≤ 700) (hY : Z 10 0 0 16 = nI s) (hb : ∀ i, i < wl w → b (s + i) < 256 ∧ Z 10 0 3 (s + i) = nI (b (s + i))) : ∀ d i f, i + d = wl w → d < f → M12_isWord_b28 Z w f (nI i) = some (bI (wE b s w d i)) := by
  have h8 := (wl_8 w h1 hw).2
  intro d
  induction d with
  | zero =>
    intro i f hi f_h
    obtain ⟨f, rfl⟩ := fuel_s f_h
    unfold M12_isWord_b28
    rw [gd_t (decide_eq_true hw), len_ok Z h1 hw, bd1_e, if_pos (by rw [nI_leI (by omega) (by omega)]; omega)]
    rfl
  | succ d ih =>
    intro i f hi f_h
    obtain ⟨f, rfl⟩ := fuel_s f_h
    unfold M12_isWord_b28
    obtain ⟨b1, b2⟩ := hb i (by omega)
    rw [gd_t (decide_eq_true hw), len_ok Z h1 hw, bd1_e, if_neg (by rw [nI_leI (by omega) (by omega)]; omega), hY, nI_add, gdi (show s + i < 700 by omega), char_ok Z h1 hw (by omega), bd1_e, ix_n (by omega), b2]
    have hc := (wc_128 w hw h1 i (by omega) (by omega)).1
    unfold wE
    by_cases e : b (s + i) = wc w i
    · rw [if_pos (by rw [e]), if_pos e, nI_1]
      exact ih (i + 1) f (by omega) (by omega)
    · rw [if_neg (by exact fun q => e ((nI_eq (by omega) (by omega)).mp q)), if_neg e]; rfl
theorem word_ok {Y Z : Mem} {b : Nat → Nat} {n k s e w : Nat} (hT : TK Y Z b n k s e) (h1 : 1 ≤ w) (hw : w < 16) : X10_isWord Y w = some (bI (isW b k s e w)) ∧ M12_isWord Z w = some (bI (isW b k s e w)) := by
  obtain ⟨⟨t1, t2, t3, t4⟩, ⟨w1, w2, w3, w4, -⟩, ⟨c1, c2, c3⟩, m1, m2, m3, -⟩ := hT
  have h8 := (wl_8 w h1 hw).2
  have k1 : nI k = 1 ↔ k = 1 := nI_eq (b := 1) (by omega) (by omega)
  unfold X10_isWord M12_isWord isW
  rw [c1, c2, c3, m1, m2, m3]
  by_cases e1 : k = 1
  · rw [if_pos (k1.mpr e1), if_pos (k1.mpr e1), gd_t (decide_eq_true hw), gd_t (decide_eq_true hw), len_ok Y h1 hw, len_ok Z h1 hw, bd1_e, bd1_e, pk_sub w1]
    have el : nI (e - s) = nI (wl w) ↔ e - s = wl w := nI_eq (by omega) (by omega)
    by_cases e2 : e - s = wl w
    · rw [if_pos (el.mpr e2), if_pos (el.mpr e2), if_pos ⟨e1, e2⟩]
      exact ⟨wordC_b Y h1 hw (by omega) c2 (fun i hi => ⟨(t2 _ (by omega)).1, (t2 _ (by omega)).2.2⟩) (wl w) 0 FU (by omega) (by have := FU_big; omega), wordM_b Z h1 hw (by omega) m2 (fun i hi => ⟨(t2 _ (by omega)).1, (t2 _ (by omega)).2.1⟩) (wl w) 0 FU (by omega) (by have := FU_big; omega)⟩
    · rw [if_neg (fun q => e2 (el.mp q)), if_neg (fun q => e2 (el.mp q)), if_neg (fun q => e2 q.2)]
      exact ⟨rfl, rfl⟩
  · rw [if_neg (fun q => e1 (k1.mp q)), if_neg (fun q => e1 (k1.mp q)), if_neg (fun q => e1 q.1)]
    exact ⟨rfl, rfl⟩
/-! names -/
def nmE (m : Nat → Int32) (at_ : Nat) (b : Nat → Nat) (s : Nat) : Nat → Nat → Bool
  | 0, _ => true
  | d + 1, i => if m (at_ + 1 + i) = nI (b (s + i)) then nmE m at_ b s d (i + 1) else false
def nmd (m : Nat → Int32) (at_ : Nat) (b : Nat → Nat) (s len : Nat) : Bool := if m at_ = nI len then nmE m at_ b s len 0 else false
theorem nmC_b (Y : Mem) {m : Nat → Int32} {b : Nat → Nat} {g at_ q s l : Nat} (hq : q < ncap g) (hl6 : l ≤ 6) (hl : Y 4 g 2 q = nI l) (hn : ∀ k, k < l → Y 4 g (10 + q) k = m (at_ + 1 + k) ∧ ∃ c, 97 ≤ c ∧ c ≤ 122 ∧ m (at_ + 1 + k) = nI c) (hs : s + l ≤ 700) (hb : ∀ i, i < l → b (s + i) < 256 ∧ Y 5 0 1 (s + i) = byt (b (s + i))) : ∀ d i f, i + d = l → d < f → X4_matches_b3 Y g (nI q) 0 (nI s) f (nI i) = some (bI (nmE m at_ b s d i)) := by
  have hcap : ncap g ≤ 14 := by unfold ncap; split <;> omega
  intro d
  induction d with
  | zero =>
    intro i f hi f_h
    obtain ⟨f, rfl⟩ := fuel_s f_h
    unfold X4_matches_b3
    rw [gd_t (inb_n hq (by omega)), ix_n (by omega), hl, if_pos (by rw [nI_leI (by omega) (by omega)]; omega)]
    rfl
  | succ d ih =>
    intro i f hi f_h
    obtain ⟨f, rfl⟩ := fuel_s f_h
    unfold X4_matches_b3
    obtain ⟨b1, b2⟩ := hb i (by omega)
    obtain ⟨n1, c, c1, c2, c3⟩ := hn i (by omega)
    rw [gd_t (inb_n hq (by omega)), ix_n (by omega), hl, if_neg (by rw [nI_leI (by omega) (by omega)]; omega), gdi (show i < 6 by omega), nI_add, gd_t (inb_n (n := tcap 0) (show s + i < 700 by omega) (by decide)), ix_n (by omega), ix_n (by omega), n1, b2]
    unfold nmE
    have e1 : m (at_ + 1 + i) = byt (b (s + i)) ↔ m (at_ + 1 + i) = nI (b (s + i)) := by
      rw [c3]
      constructor
      · intro h; rw [(byt_c b1 (by omega)).mp h.symm]
      · intro h; rw [nI_eq (by omega) (by omega)] at h; exact ((byt_c b1 (by omega)).mpr h.symm).symm
    by_cases e : m (at_ + 1 + i) = nI (b (s + i))
    · rw [if_pos (e1.mpr e), if_pos e, nI_1]
      exact ih (i + 1) f (by omega) (by omega)
    · rw [if_neg (fun q => e (e1.mp q)), if_neg e]; rfl
theorem nmM_b (Z : Mem) {m : Nat → Int32} {b : Nat → Nat} {at_ s l : Nat} (hm : Z 10 0 1 = m) (ha : at_ + 1 + l ≤ 4202) (hs : s + l ≤ 700) (hb : ∀ i, i < l → Z 10 0 3 (s + i) = nI (b (s + i))) : ∀ d i f, i + d = l → d < f → M12_isNamed_b15 Z (nI at_) (nI s) (nI l) f (nI i) = some (bI (nmE m at_ b s d i)) := by
  intro d
  induction d with
  | zero =>
    intro i f hi f_h
    obtain ⟨f, rfl⟩ := fuel_s f_h
    unfold M12_isNamed_b15
    rw [if_pos (by rw [nI_leI (by omega) (by omega)]; omega)]
    rfl
  | succ d ih =>
    intro i f hi f_h
    obtain ⟨f, rfl⟩ := fuel_s f_h
    unfold M12_isNamed_b15
    rw [if_neg (by rw [nI_leI (by omega) (by omega)]; omega), nI_1, nI_add, nI_add, gdi (show at_ + 1 + i < 4202 by omega), gdi (show s + i < 700 by omega), ix_n (by omega), ix_n (by omega), hm, hb i (by omega)]
    unfold nmE
    by_cases e : m (at_ + 1 + i) = nI (b (s + i))
    · rw [if_pos e, if_pos e, nI_1]
      exact ih (i + 1) f (by omega) (by omega)
    · rw [if_neg e, if_neg e]; rfl
/-- the names of a kind as class and block hold them -/
def NN (Y : Mem) (g : Nat) (m : Nat → Int32) (a0 st c : Nat) : Prop := c ≤ ncap g ∧ Y 4 g 0 2 = nI c ∧ ∀ q, q < c → nameP Y g m (a0 + q * st) q
theorem idxC_b (Y : Mem) {m : Nat → Int32} {b : Nat → Nat} {g a0 st c s e : Nat} (hN : NN Y g m a0 st c) (hse : s ≤ e) (he : e ≤ 700) (hb : ∀ j, j < e → b j < 256 ∧ Y 5 0 1 j = byt (b j)) : ∀ i, i ≤ c → ∀ f, c - i < f → fst1 (fun q => nmd m (a0 + q * st) b s (e - s)) i = none → X4_indexOf_b3 Y g 0 (nI s) (nI e) f (nI i) = some (oI (fst1 (fun q => nmd m (a0 + q * st) b s (e - s)) c)) := by
  have hcap : ncap g ≤ 14 := by unfold ncap; split <;> omega
  obtain ⟨n1, n2, n3⟩ := hN
  refine upl ?_ ?_
  · intro f f_h ha
    obtain ⟨f, rfl⟩ := fuel_s f_h
    unfold X4_indexOf_b3
    rw [n2, if_pos (Int32.le_refl _), ha]; rfl
  · intro i hi ih f f_h ha
    obtain ⟨f, rfl⟩ := fuel_s f_h
    unfold X4_indexOf_b3 X4_indexOf_b39
    obtain ⟨l, l1, l6, l2, l3, l4⟩ := n3 i hi
    rw [n2, if_neg (by rw [nI_leI (by omega) (by omega)]; omega), gd_t (inb_n (show i < ncap g by omega) (by omega)), ix_n (by omega), l2, pk_sub hse, nI_1]
    have hnx : nmd m (a0 + i * st) b s (e - s) = false → X4_indexOf_b3 Y g 0 (nI s) (nI e) f (nI (i + 1)) = some (oI (fst1 (fun q => nmd m (a0 + q * st) b s (e - s)) c)) := fun h => ih f (by omega) (by rw [fst1_s, ha]; simp only [h]; rfl)
    by_cases el : l = e - s
    · have hm := nmC_b Y (b := b) (s := s) (show i < ncap g by omega) l6 l2 l4 (by omega) (fun j hj => hb (s + j) (by omega)) l 0 FU (by omega) (by have := FU_big; omega)
      have hd : nmd m (a0 + i * st) b s (e - s) = nmE m (a0 + i * st) b s l 0 := by
        unfold nmd; rw [l3, el, if_pos rfl]
      rw [if_pos (by rw [el])]
      unfold X4_matches
      rw [show X4_matches_b3 Y g (nI i) 0 (nI s) FU 0 = _ from hm, bd1_e, bI_ne, ← hd]
      cases h : nmd m (a0 + i * st) b s (e - s)
      · rw [if_neg (by decide)]; exact hnx h
      · rw [if_pos rfl]
        have : fst1 (fun q => nmd m (a0 + q * st) b s (e - s)) c = some i := fst1_some.mpr ⟨hi, h, fst1_none.mp ha⟩
        rw [this]; rfl
    · rw [if_neg (by exact fun q => el ((nI_eq (by omega) (by omega)).mp q))]
      exact hnx (by unfold nmd; rw [l3, if_neg (by exact fun q => el ((nI_eq (by omega) (by omega)).mp q))])
theorem isNm_ok (Z : Mem) {m : Nat → Int32} {b : Nat → Nat} {at_ s len : Nat} (hm : Z 10 0 1 = m) (ha : at_ + 7 ≤ 4202) (hs : s + len ≤ 700) (hl : ∃ l, l ≤ 6 ∧ m at_ = nI l) (hb : ∀ j, j < s + len → Z 10 0 3 j = nI (b j)) : M12_isNamed Z (nI at_) (nI s) (nI len) = some (bI (nmd m at_ b s len)) := by
  obtain ⟨l, l6, hl⟩ := hl
  unfold M12_isNamed nmd
  rw [gdi (show at_ < 4202 by omega), ix_n (by omega), hm]
  by_cases e : m at_ = nI len
  · have el : len = l := by rw [hl, nI_eq (by omega) (by omega)] at e; exact e.symm
    rw [if_pos e, if_pos e]
    exact nmM_b Z hm (by omega) hs (fun i hi => hb _ (by omega)) len 0 FU (by omega) (by have := FU_big; omega)
  · rw [if_neg e, if_neg e]; rfl
theorem stNm_b (Z : Mem) {m : Nat → Int32} {b : Nat → Nat} {c s len : Nat} (hm : Z 10 0 1 = m) (h13 : m 13 = nI c) (hc : c ≤ 14) (hs : s + len ≤ 700) (hl : ∀ q, q < c → ∃ l, l ≤ 6 ∧ m (46 + q * 24) = nI l) (hb : ∀ j, j < s + len → Z 10 0 3 j = nI (b j)) : ∀ i, i ≤ c → ∀ f, c - i < f → fst1 (fun q => nmd m (46 + q * 24) b s len) i = none → M12_stepNamed_b2 Z (nI s) (nI len) f (nI i) = some (oI (fst1 (fun q => nmd m (46 + q * 24) b s len) c)) := by
  have g13 : inb 13 4202 = true := inb_n (j := 13) (by omega) (by omega)
  have i13 : ix 13 = 13 := ix_n (j := 13) (by omega)
  refine upl ?_ ?_
  · intro f f_h ha
    obtain ⟨f, rfl⟩ := fuel_s f_h
    unfold M12_stepNamed_b2
    rw [gd_t g13, i13, hm, h13, if_pos (Int32.le_refl _), ha]; rfl
  · intro i hi ih f f_h ha
    obtain ⟨f, rfl⟩ := fuel_s f_h
    unfold M12_stepNamed_b2
    rw [gd_t g13, i13, hm, h13, if_neg (by rw [nI_leI (by omega) (by omega)]; omega)]
    rw [show (46 : Int32) + nI i * 24 = nI (46 + i * 24) from by show nI 46 + nI i * nI 24 = _; rw [pk_mul, nI_add], isNm_ok Z hm (by omega) hs (hl i hi) hb, bd1_e, bI_ne]
    cases h : nmd m (46 + i * 24) b s len
    · rw [if_neg (by decide), nI_1]
      exact ih f (by omega) (by rw [fst1_s, ha]; simp only [h]; rfl)
    · rw [if_pos rfl]
      have : fst1 (fun q => nmd m (46 + q * 24) b s len) c = some i := fst1_some.mpr ⟨hi, h, fst1_none.mp ha⟩
      rw [this]; rfl
theorem pnNm_b (Z : Mem) {m : Nat → Int32} {b : Nat → Nat} {c s len : Nat} (hm : Z 10 0 1 = m) (h13 : m 12 = nI c) (hc : c ≤ 4) (hs : s + len ≤ 700) (hl : ∀ q, q < c → ∃ l, l ≤ 6 ∧ m (14 + q * 8) = nI l) (hb : ∀ j, j < s + len → Z 10 0 3 j = nI (b j)) : ∀ i, i ≤ c → ∀ f, c - i < f → fst1 (fun q => nmd m (14 + q * 8) b s len) i = none → M12_panNamed_b2 Z (nI s) (nI len) f (nI i) = some (oI (fst1 (fun q => nmd m (14 + q * 8) b s len) c)) := by
  have g13 : inb 12 4202 = true := inb_n (j := 12) (by omega) (by omega)
  have i13 : ix 12 = 12 := ix_n (j := 12) (by omega)
  refine upl ?_ ?_
  · intro f f_h ha
    obtain ⟨f, rfl⟩ := fuel_s f_h
    unfold M12_panNamed_b2
    rw [gd_t g13, i13, hm, h13, if_pos (Int32.le_refl _), ha]; rfl
  · intro i hi ih f f_h ha
    obtain ⟨f, rfl⟩ := fuel_s f_h
    unfold M12_panNamed_b2
    rw [gd_t g13, i13, hm, h13, if_neg (by rw [nI_leI (by omega) (by omega)]; omega)]
    rw [show (14 : Int32) + nI i * 8 = nI (14 + i * 8) from by show nI 14 + nI i * nI 8 = _; rw [pk_mul, nI_add], isNm_ok Z hm (by omega) hs (hl i hi) hb, bd1_e, bI_ne]
    cases h : nmd m (14 + i * 8) b s len
    · rw [if_neg (by decide), nI_1]
      exact ih f (by omega) (by rw [fst1_s, ha]; simp only [h]; rfl)
    · rw [if_pos rfl]
      have : fst1 (fun q => nmd m (14 + q * 8) b s len) c = some i := fst1_some.mpr ⟨hi, h, fst1_none.mp ha⟩
      rw [this]; rfl
theorem NN_len {Y : Mem} {g a0 st c : Nat} {m : Nat → Int32} (hN : NN Y g m a0 st c) : ∀ q, q < c → ∃ l, l ≤ 6 ∧ m (a0 + q * st) = nI l := fun q hq => by
  obtain ⟨l, -, l6, -, l3, -⟩ := hN.2.2 q hq
  exact ⟨l, l6, l3⟩
theorem NN_st {Y : Mem} (hI : Inv Y) : NN Y (2 * rg Y 0 + 1) (Y 10 0 1) 46 24 (nS (Y 10 0 1)) := ⟨by rw [ncap_s]; exact nS_le hI, (Inv_R hI).1.2.1, (Inv_N hI).2⟩
theorem TT_of {Y : Mem} (h : TX Y) : ∃ b n, TT Y Y b n := by
  obtain ⟨n, n7, h1, h2, h3⟩ := h
  refine ⟨fun j => if hj : j < n then (h3 j hj).choose else 0, n, n7, fun j hj => ?_, h1, h2⟩
  have q := (h3 j hj).choose_spec
  simp only [dif_pos hj]
  exact ⟨q.1, q.2.1, q.2.2⟩
theorem q_findStep {Y : Mem} (hI : Inv Y) : R1 (T11_findStep Y) M12_findStep c4 := by
  have hR := Inv_R hI
  have hn := nS_le hI
  obtain ⟨b, n, n7, hb, h5, h4⟩ := TT_of (Inv_X hI)
  have hN := NN_st hI
  have c := idxC_b Y (b := b) (s := 0) (e := n) hN (by omega) n7 (fun j hj => ⟨(hb j hj).1, (hb j hj).2.2⟩) 0 (by omega) FU (by have := FU_big; omega) rfl
  have mm : ∀ Z : Mem, Z 10 0 1 = Y 10 0 1 → Z 10 0 3 = Y 10 0 3 → M12_stepNamed Z 0 (nI n) = _ := fun Z h1 h3 => stNm_b Z (b := b) (s := 0) (len := n) h1 hI.1.1 hn (by omega) (NN_len hN) (fun j hj => by rw [h3]; exact (hb j (by omega)).2.1) 0 (by omega) FU (by have := FU_big; omega) rfl
  rw [Nat.sub_zero] at c
  generalize fst1 (fun q => nmd (Y 10 0 1) (46 + q * 24) b 0 n) (nS (Y 10 0 1)) = o at c mm
  cases o with
  | none =>
    refine R1l hI 4 1 (by decide) (by decide) ?_ ?_
    · unfold T11_findStep X4_indexOf
      rw [gd2 hR.1.1, gd2 hR.1.1, h5, show X4_indexOf_b3 Y (2 * rg Y 0 + 1) 0 0 (nI n) FU 0 = _ from c, bd1_e]
      exact if_pos rfl
    · unfold M12_findStep M12_findStep_b21
      rw [h4, mm Y rfl rfl, bd1_e, show oI none = -1 from rfl, if_pos rfl, fails_1, bd2_e, if_neg (by decide)]
  | some i =>
    by_cases hi : oI (some i) = -1
    · refine R1l hI 4 1 (by decide) (by decide) ?_ ?_
      · unfold T11_findStep X4_indexOf
        rw [gd2 hR.1.1, gd2 hR.1.1, h5, show X4_indexOf_b3 Y (2 * rg Y 0 + 1) 0 0 (nI n) FU 0 = _ from c, bd1_e]
        exact if_pos hi
      · unfold M12_findStep M12_findStep_b21
        rw [h4, mm Y rfl rfl, bd1_e, if_pos hi, fails_1, bd2_e, if_neg (by decide)]
    · right
      refine ⟨oI (some i), Y, ?_, up Y 10 0 0 9 0, ?_, up9_9 _ _, Inv_QM hI (QM_9 _ _)⟩
      · unfold T11_findStep X4_indexOf
        rw [gd2 hR.1.1, gd2 hR.1.1, h5, show X4_indexOf_b3 Y (2 * rg Y 0 + 1) 0 0 (nI n) FU 0 = _ from c, bd1_e]
        exact if_neg hi
      · unfold M12_findStep M12_findStep_b21
        rw [h4, mm Y rfl rfl, bd1_e, if_neg hi, fails_000, bd2_e, if_pos rfl]
end
