section
/-! THE SUMMARY -/
def ltr (m : Nat → Int32) (s k : Nat) : Nat := (m (46 + s * 24 + 1 + k)).toNatClampNeg
def nln (m : Nat → Int32) (s : Nat) : Nat := (m (46 + s * 24)).toNatClampNeg
def nmL (m : Nat → Int32) (s : Nat) : Nat → List Nat
  | 0 => []
  | i + 1 => nmL m s i ++ [ltr m s i]
def mkL (m : Nat → Int32) (s : Nat) : List Nat :=
  if fld m s 17 = 0 then [46] else if fld m s 17 = 1 then (if (fld m s 18).toNatClampNeg < 10 then [48 + (fld m s 18).toNatClampNeg % 10] else [48 + (fld m s 18).toNatClampNeg / 10, 48 + (fld m s 18).toNatClampNeg % 10]) else if fld m s 17 = 2 then [61] else [42]
def sepL (l : Nat) : List Nat := if l = 0 then [] else [32]
def smL (m : Nat → Int32) : Nat → List Nat
  | 0 => []
  | l + 1 => smL m l ++ (sepL l ++ (nmL m l (nln m l) ++ mkL m l))
theorem nmL_len (m : Nat → Int32) (s : Nat) : ∀ i, (nmL m s i).length = i := by
  intro i
  induction i with
  | zero => rfl
  | succ i ih => unfold nmL; rw [List.length_append, ih]; rfl
theorem mkL_len (m : Nat → Int32) (s : Nat) : (mkL m s).length ≤ 2 := by
  unfold mkL
  repeat' split
  all_goals simp
theorem sepL_len (l : Nat) : (sepL l).length = if l = 0 then 0 else 1 := by unfold sepL; split <;> rfl
/-- a name as a block holds it -/
def NB (m : Nat → Int32) (s : Nat) : Prop := m (46 + s * 24) = nI (nln m s) ∧ nln m s ≤ 6 ∧ ∀ k, k < nln m s → m (46 + s * 24 + 1 + k) = nI (ltr m s k) ∧ ltr m s k < 128
theorem NB_of {Y : Mem} {g : Nat} {m : Nat → Int32} {s : Nat} (h : nameP Y g m (46 + s * 24) s) : NB m s ∧ Y 4 g 2 s = nI (nln m s) ∧ ∀ k, k < nln m s → Y 4 g (10 + s) k = nI (ltr m s k) := by
  obtain ⟨n, n1, n6, e1, e2, e3⟩ := h
  have en : nln m s = n := by unfold nln; rw [e2, nI_clamp (by omega)]
  have el : ∀ k, k < n → m (46 + s * 24 + 1 + k) = nI (ltr m s k) ∧ ltr m s k < 128 := fun k hk => by
    obtain ⟨-, c, c1, c2, c3⟩ := e3 k hk
    unfold ltr
    rw [c3, nI_clamp (by omega)]
    exact ⟨rfl, by omega⟩
  unfold NB
  rw [en]
  exact ⟨⟨e2, n6, el⟩, e1, fun k hk => (e3 k hk).1.trans (el k hk).1⟩
theorem smL_len {m : Nat → Int32} (h : ∀ s, s < nS m → nln m s ≤ 6) : ∀ l, l ≤ nS m → (smL m l).length + (if l = 0 then 0 else 1) ≤ 9 * l := by
  intro l
  induction l with
  | zero => intro _; exact Nat.le_refl _
  | succ l ih =>
    intro hl
    have q := ih (by omega)
    have h6 := h l (by omega)
    have m2 := mkL_len m l
    rw [show smL m (l + 1) = smL m l ++ (sepL l ++ (nmL m l (nln m l) ++ mkL m l)) from rfl, List.length_append, List.length_append, List.length_append, nmL_len, sepL_len, if_neg (show ¬ (l + 1 = 0) by omega)]
    split at q <;> split <;> omega
/-- the bytes are letters and marks -/
theorem sm_128 {m : Nat → Int32} (hb : ∀ s, s < nS m → NB m s) (hM : ∀ s, s < nS m → fld m s 17 = 1 → ∃ r, fld m s 18 = nI r ∧ 1 ≤ r ∧ r ≤ 60) : ∀ l, l ≤ nS m → ∀ b ∈ smL m l, b < 128 := by
  intro l
  induction l with
  | zero => intro _ b hb; cases hb
  | succ l ih =>
    intro hl b hx
    rw [show smL m (l + 1) = smL m l ++ (sepL l ++ (nmL m l (nln m l) ++ mkL m l)) from rfl, List.mem_append, List.mem_append, List.mem_append] at hx
    rcases hx with hx | hx | hx | hx
    · exact ih (by omega) b hx
    · unfold sepL at hx
      split at hx
      · cases hx
      · rw [List.mem_singleton] at hx; omega
    · have : ∀ i, i ≤ nln m l → ∀ b ∈ nmL m l i, b < 128 := by
        intro i
        induction i with
        | zero => intro _ b hb; cases hb
        | succ i ih2 =>
          intro hi b hx
          rw [show nmL m l (i + 1) = nmL m l i ++ [ltr m l i] from rfl, List.mem_append] at hx
          rcases hx with hx | hx
          · exact ih2 (by omega) b hx
          · rw [List.mem_singleton] at hx; subst hx; exact ((hb l (by omega)).2.2 i (by omega)).2
      exact this _ (Nat.le_refl _) b hx
    · unfold mkL at hx
      split at hx
      · rw [List.mem_singleton] at hx; omega
      · split at hx
        · rename_i h1
          obtain ⟨r, r1, r2, r3⟩ := hM l (by omega) h1
          rw [r1, nI_clamp (by omega)] at hx
          split at hx
          · rw [List.mem_singleton] at hx; omega
          · simp only [List.mem_cons, List.not_mem_nil, or_false] at hx; omega
        · split at hx
          · rw [List.mem_singleton] at hx; omega
          · rw [List.mem_singleton] at hx; omega
theorem t8_128 : ∀ b, b < 128 → (nI b).toInt8.toInt32 = byt b := by decide +kernel
theorem byt_nI {b : Nat} (h : b < 128) : byt b = nI b := by unfold byt; rw [if_pos h]
/-- the class's text, the model's -/
abbrev tC (Y : Mem) (l : List Nat) : Mem := wr Y 5 1 1 1 byt 0 l
abbrev tM (Z : Mem) (l : List Nat) : Mem := wr Z 10 0 4 8 nI 0 l
theorem tC_add {Y : Mem} {b : Nat} {l : List Nat} (h0 : Y 5 1 0 1 = 0) (hl : l.length < 125) (hb : b < 128) : X9_addByte (tC Y l) 1 (nI b) = some (tC Y (l ++ [b])) := by
  have e := wr_len (o := 1) (h := byt) l Y 0 h0
  rw [Nat.zero_add] at e
  rw [addB_ok _ e (by show l.length < 125; exact hl) (by omega) (t8_128 b hb)]
  show _ = some (wr Y 5 1 1 1 byt 0 (l ++ [b]))
  rw [wr_app, Nat.zero_add]
theorem tM_add {Z : Mem} {b : Nat} {l : List Nat} (h0 : Z 10 0 0 8 = 0) (hl : l.length < 150) : X12_put (tM Z l) (nI b) = some (tM Z (l ++ [b])) := by
  have e := wr_len (o := 4) (h := nI) l Z 0 h0
  rw [Nat.zero_add] at e
  rw [put_ok _ e hl]
  show _ = some (wr Z 10 0 4 8 nI 0 (l ++ [b]))
  rw [wr_app, Nat.zero_add]
theorem tC_k {Y : Mem} {l : List Nat} {k : Nat} (hk : k ≠ 5) : (tC Y l) k = Y k := by funext g o; exact wr_o (by omega) l Y 0
theorem tM_1 {Z : Mem} {l : List Nat} : (tM Z l) 10 0 1 = Z 10 0 1 := wr_o (by omega) l Z 0
theorem cpyC_b {Y : Mem} {m : Nat → Int32} {r s : Nat} {l : List Nat} (h0 : Y 5 1 0 1 = 0) (hs : s < 14) (hB : NB m s) (h2 : Y 4 (2 * r + 1) 2 s = nI (nln m s)) (h3 : ∀ k, k < nln m s → Y 4 (2 * r + 1) (10 + s) k = nI (ltr m s k)) (hl : l.length + nln m s ≤ 125) : ∀ i, i ≤ nln m s → ∀ f, nln m s - i < f → X4_copyTo_b2 (2 * r + 1) 1 (nI s) f (tC Y (l ++ nmL m s i)) (nI i) = some (tC Y (l ++ nmL m s (nln m s))) := by
  have h6 := hB.2.1
  refine upl ?_ ?_
  · intro f f_h
    obtain ⟨f, rfl⟩ := fuel_s f_h
    unfold X4_copyTo_b2
    rw [gd_t (by rw [ncap_s]; exact inb_n hs (by omega)), ix_n (by omega), tC_k (by omega), h2, if_pos (Int32.le_refl _)]
  · intro i hi ih f f_h
    obtain ⟨f, rfl⟩ := fuel_s f_h
    unfold X4_copyTo_b2
    rw [gd_t (by rw [ncap_s]; exact inb_n hs (by omega)), ix_n (by omega), ix_n (by omega), tC_k (by omega), h2, if_neg (by rw [nI_leI (by omega) (by omega)]; omega), gdi (show i < 6 by omega), h3 i hi, tC_add h0 (by rw [List.length_append, nmL_len]; omega) (hB.2.2 i hi).2, bd1_e, nI_1, List.append_assoc]
    exact ih f (by omega)
theorem mkC_ok {Y : Mem} {m : Nat → Int32} {s : Nat} {l : List Nat} (h0 : Y 5 1 0 1 = 0) (hn : nS m ≤ 14) (hS : SB Y 0 m) (h4 : S4 m) (hs : s < nS m) (h18 : Y 2 0 2 s = fld m s 18) (hM : fld m s 17 = 1 → ∃ r, fld m s 18 = nI r ∧ 1 ≤ r ∧ r ≤ 60) (hl : l.length + 2 ≤ 125) : X11_writeProgress (tC Y l) (nI s) = some (tC Y (l ++ mkL m s)) := by
  have hst := statusOf_ok (tC Y l) (g := 0) hn (show SB (tC Y l) 0 m from by unfold SB; rw [tC_k (by omega)]; exact hS) h4 hs
  unfold X11_writeProgress mkL
  rw [hst, bd1_e]
  rcases h4 s hs with e | e | e | e
  · rw [e, if_pos rfl, if_pos rfl, show (46 : Int32) = nI 46 from rfl, tC_add h0 (by omega) (by omega), bd1_e]
  · obtain ⟨r, r1, r2, r3⟩ := hM e
    rw [e, if_neg (by decide), if_pos rfl, if_neg (by decide), if_pos rfl, gdi (show s < 14 by omega), ix_n (by omega), tC_k (by omega), h18, r1, nI_clamp (by omega)]
    have hd : nI r / 10 = nI (r / 10) := pk_div (d := 10) (by omega) (by omega) (by omega)
    have hr : nI r - nI r / 10 * 10 = nI (r % 10) := pk_rem (d := 10) (by omega) (by omega) (by omega)
    have a1 : (48 : Int32) + nI (r % 10) = nI (48 + r % 10) := nI_add 48 _
    have a2 : (48 : Int32) + nI (r / 10) = nI (48 + r / 10) := nI_add 48 _
    unfold X9_addTwoDigits X9_addTwoDigits_b17
    by_cases q : r < 10
    · rw [if_pos (by exact (nI_ltI (b := 10) (by omega) (by omega)).mpr q), if_pos q, hr, a1, tC_add h0 (by omega) (by omega), bd1_e, bd1_e]
    · rw [if_neg (by exact fun w => q ((nI_ltI (b := 10) (by omega) (by omega)).mp w)), if_neg q, hr, hd, a1, a2, tC_add h0 (by omega) (by omega), bd1_e, tC_add h0 (by rw [List.length_append, List.length_singleton]; omega) (by omega), bd1_e, bd1_e, List.append_assoc]
      rfl
  · rw [e, if_neg (by decide), if_neg (by decide), if_pos rfl, if_neg (by decide), if_neg (by decide), if_pos rfl, show (61 : Int32) = nI 61 from rfl, tC_add h0 (by omega) (by omega), bd1_e]
  · rw [e, if_neg (by decide), if_neg (by decide), if_neg (by decide), if_neg (by decide), if_neg (by decide), if_neg (by decide), show (42 : Int32) = nI 42 from rfl, tC_add h0 (by omega) (by omega), bd1_e]
theorem mkM_ok {Z : Mem} {m : Nat → Int32} {s : Nat} {l : List Nat} (hm : Z 10 0 1 = m) (h0 : Z 10 0 0 8 = 0) (hn : nS m ≤ 14) (h4 : S4 m) (hs : s < nS m) (hM : fld m s 17 = 1 → ∃ r, fld m s 18 = nI r ∧ 1 ≤ r ∧ r ≤ 60) (hl : l.length + 2 ≤ 125) : X12_putMark (tM Z l) (nI s) = some (tM Z (l ++ mkL m s)) := by
  have o17 : ∀ l, X12_of (tM Z l) (nI s) 17 = some (fld m s 17) := fun l => by
    have := of_ok (tM Z l) (s := s) (w := 17) (by omega)
    rw [tM_1, hm] at this
    exact this
  have o18 : ∀ l, X12_of (tM Z l) (nI s) 18 = some (fld m s 18) := fun l => by
    have := of_ok (tM Z l) (s := s) (w := 18) (by omega)
    rw [tM_1, hm] at this
    exact this
  unfold X12_putMark mkL
  rw [o17, bd1_e]
  rcases h4 s hs with e | e | e | e
  · rw [e, if_pos rfl, if_pos rfl, show (46 : Int32) = nI 46 from rfl, tM_add h0 (by omega), bd1_e]
  · obtain ⟨r, r1, r2, r3⟩ := hM e
    rw [e, if_neg (by decide), if_pos rfl, if_neg (by decide), if_pos rfl, o18, bd1_e, r1, nI_clamp (by omega)]
    have hd : nI r / 10 = nI (r / 10) := pk_div (d := 10) (by omega) (by omega) (by omega)
    have hr : nI r - nI r / 10 * 10 = nI (r % 10) := pk_rem (d := 10) (by omega) (by omega) (by omega)
    have a1 : (48 : Int32) + nI (r % 10) = nI (48 + r % 10) := nI_add 48 _
    have a2 : (48 : Int32) + nI (r / 10) = nI (48 + r / 10) := nI_add 48 _
    unfold X12_putMark_b70
    by_cases q : r < 10
    · rw [if_pos (by exact (nI_ltI (b := 10) (by omega) (by omega)).mpr q), if_pos q, o18, bd1_e, r1, hr, a1, tM_add h0 (by omega), bd1_e]
    · rw [if_neg (by exact fun w => q ((nI_ltI (b := 10) (by omega) (by omega)).mp w)), if_neg q, bd1_e, hd, a2, tM_add h0 (by omega), bd1_e, o18, bd1_e, r1, hr, a1, tM_add h0 (by rw [List.length_append, List.length_singleton]; omega), bd1_e, List.append_assoc]
      rfl
  · rw [e, if_neg (by decide), if_neg (by decide), if_pos rfl, if_neg (by decide), if_neg (by decide), if_pos rfl, show (61 : Int32) = nI 61 from rfl, tM_add h0 (by omega), bd1_e]
  · rw [e, if_neg (by decide), if_neg (by decide), if_neg (by decide), if_neg (by decide), if_neg (by decide), if_neg (by decide), show (42 : Int32) = nI 42 from rfl, tM_add h0 (by omega), bd1_e]
theorem sumC_b {Y : Mem} {m : Nat → Int32} (h0 : Y 5 1 0 1 = 0) (hn : nS m ≤ 14) (hS : SB Y 0 m) (h4 : S4 m) (h18 : ∀ s, s < nS m → Y 2 0 2 s = fld m s 18) (hM : ∀ s, s < nS m → fld m s 17 = 1 → ∃ r, fld m s 18 = nI r ∧ 1 ≤ r ∧ r ≤ 60) (hr : rg Y 0 < 2) (hc : Y 4 (2 * rg Y 0 + 1) 0 2 = nI (nS m)) (hN : ∀ s, s < nS m → nameP Y (2 * rg Y 0 + 1) m (46 + s * 24) s) : ∀ l, l ≤ nS m → ∀ f, nS m - l < f → X11_writeSummary_b10 f (tC Y (smL m l)) (nI l) = some (nI (smL m (nS m)).length, tC Y (smL m (nS m))) := by
  have h6 : ∀ s, s < nS m → nln m s ≤ 6 := fun s hs => (NB_of (hN s hs)).1.2.1
  have er : ∀ l, ((tC Y l) 1 0 0 0).toNatClampNeg = rg Y 0 := fun l => by rw [tC_k (by omega)]
  refine upl ?_ ?_
  · intro f f_h
    obtain ⟨f, rfl⟩ := fuel_s f_h
    unfold X11_writeSummary_b10
    have e : (tC Y (smL m (nS m))) 5 1 0 1 = nI (0 + (smL m (nS m)).length) := wr_len (o := 1) (h := byt) (smL m (nS m)) Y 0 h0
    rw [Nat.zero_add] at e
    rw [er, gd2 hr, gd2 hr, tC_k (k := 4) (by omega), hc, if_pos (Int32.le_refl _), e]
  · intro i hi ih f f_h
    obtain ⟨f, rfl⟩ := fuel_s f_h
    have hlen := smL_len h6 i (by omega)
    have hm2 := mkL_len m i
    have hi6 := h6 i hi
    obtain ⟨hB, n1, n2⟩ := NB_of (hN i hi)
    have hb40 : ∀ l, l.length + 8 ≤ 125 → X11_writeSummary_b40 (X11_writeSummary_b10 f) (tC Y l) (nI i) = X11_writeSummary_b10 f (tC Y (l ++ (nmL m i (nln m i) ++ mkL m i))) (nI (i + 1)) := by
      intro l hl
      unfold X11_writeSummary_b40 X4_copyTo
      have c1 := cpyC_b (l := l) h0 (show i < 14 by omega) hB n1 n2 (by omega) 0 (by omega) FU (by have := FU_big; omega)
      rw [show l ++ nmL m i 0 = l from List.append_nil l] at c1
      rw [er, gd2 hr, gd2 hr, show X4_copyTo_b2 (2 * rg Y 0 + 1) 1 (nI i) FU (tC Y l) 0 = _ from c1, bd1_e, mkC_ok h0 hn hS h4 hi (h18 i hi) (hM i hi) (by rw [List.length_append, nmL_len]; omega), bd1_e, nI_1, List.append_assoc]
    unfold X11_writeSummary_b10
    rw [er, gd2 hr, gd2 hr, tC_k (k := 4) (by omega), hc, if_neg (by rw [nI_leI (by omega) (by omega)]; omega)]
    by_cases q : i = 0
    · subst q
      rw [if_pos (show nI 0 ≤ 0 from by decide), hb40 _ (by show 0 + 8 ≤ 125; omega)]
      exact ih f (by omega)
    · rw [if_neg q] at hlen
      rw [if_neg (by show ¬ nI i ≤ nI 0; rw [nI_leI (by omega) (by omega)]; omega), show (32 : Int32) = nI 32 from rfl, tC_add h0 (by omega) (by omega), bd1_e, hb40 _ (by rw [List.length_append, List.length_singleton]; omega), List.append_assoc]
      have hs : smL m i ++ ([32] ++ (nmL m i (nln m i) ++ mkL m i)) = smL m (i + 1) := by
        show _ = smL m i ++ (sepL i ++ _)
        unfold sepL
        rw [if_neg q]
      rw [hs]
      exact ih f (by omega)
theorem cpyM_b {Z : Mem} {m : Nat → Int32} {s : Nat} {l : List Nat} {k12 : Mem → Int32 → Option (Int32 × Mem)} (hm : Z 10 0 1 = m) (h0 : Z 10 0 0 8 = 0) (hn : nS m ≤ 14) (h4 : S4 m) (hs : s < nS m) (hB : NB m s) (hM : fld m s 17 = 1 → ∃ r, fld m s 18 = nI r ∧ 1 ≤ r ∧ r ≤ 60) (hl : l.length + nln m s + 2 ≤ 125) : ∀ i, i ≤ nln m s → ∀ f, nln m s - i < f → X12_writeSummary_b35 k12 f (tM Z (l ++ nmL m s i)) (nI i) (nI s) = k12 (tM Z (l ++ (nmL m s (nln m s) ++ mkL m s))) (nI (s + 1)) := by
  have h6 := hB.2.1
  have o0 : ∀ l, X12_of (tM Z l) (nI s) 0 = some (nI (nln m s)) := fun l => by
    have := of_ok (tM Z l) (s := s) (w := 0) (by omega)
    rw [tM_1, hm, show fld m s 0 = nI (nln m s) from hB.1] at this
    exact this
  refine upl ?_ ?_
  · intro f f_h
    obtain ⟨f, rfl⟩ := fuel_s f_h
    unfold X12_writeSummary_b35
    rw [o0, bd1_e, if_pos (Int32.le_refl _), mkM_ok hm h0 hn h4 hs hM (by rw [List.length_append, nmL_len]; omega), bd1_e, nI_1, List.append_assoc]
  · intro i hi ih f f_h
    obtain ⟨f, rfl⟩ := fuel_s f_h
    unfold X12_writeSummary_b35
    have o1 : X12_of (tM Z (l ++ nmL m s i)) (nI s) (1 + nI i) = some (nI (ltr m s i)) := by
      have := of_ok (tM Z (l ++ nmL m s i)) (s := s) (w := 1 + i) (by omega)
      rw [tM_1, hm] at this
      rw [show (1 : Int32) + nI i = nI (1 + i) from nI_add 1 i, this]
      unfold fld
      rw [← Nat.add_assoc, (hB.2.2 i hi).1]
    rw [o0, bd1_e, if_neg (by rw [nI_leI (by omega) (by omega)]; omega), o1, bd1_e, tM_add h0 (by rw [List.length_append, nmL_len]; omega), bd1_e, nI_1, List.append_assoc]
    exact ih f (by omega)
theorem sumM_b {Z : Mem} {m : Nat → Int32} (W : WF m) (hm : Z 10 0 1 = m) (h0 : Z 10 0 0 8 = 0) (h4 : S4 m) (hB : ∀ s, s < nS m → NB m s) (hM : ∀ s, s < nS m → fld m s 17 = 1 → ∃ r, fld m s 18 = nI r ∧ 1 ≤ r ∧ r ≤ 60) : ∀ l, l ≤ nS m → ∀ f, nS m - l < f → X12_writeSummary_b12 f (tM Z (smL m l)) (nI l) = some (nI (smL m (nS m)).length, tM Z (smL m (nS m))) := by
  have hn := W.2.1
  have h6 : ∀ s, s < nS m → nln m s ≤ 6 := fun s hs => (hB s hs).2.1
  have g13 : inb 13 4202 = true := inb_n (j := 13) (by omega) (by omega)
  have i13 : ix 13 = 13 := ix_n (j := 13) (by omega)
  refine upl ?_ ?_
  · intro f f_h
    obtain ⟨f, rfl⟩ := fuel_s f_h
    unfold X12_writeSummary_b12
    have e : (tM Z (smL m (nS m))) 10 0 0 8 = nI (0 + (smL m (nS m)).length) := wr_len (o := 4) (h := nI) (smL m (nS m)) Z 0 h0
    rw [Nat.zero_add] at e
    rw [gd_t g13, i13, tM_1, hm, W.1, if_pos (Int32.le_refl _), e]
  · intro i hi ih f f_h
    obtain ⟨f, rfl⟩ := fuel_s f_h
    have hlen := smL_len h6 i (by omega)
    have hi6 := h6 i hi
    have hb33 : ∀ l, l.length + 8 ≤ 125 → X12_writeSummary_b33 (X12_writeSummary_b12 f) (tM Z l) (nI i) = X12_writeSummary_b12 f (tM Z (l ++ (nmL m i (nln m i) ++ mkL m i))) (nI (i + 1)) := by
      intro l hl
      unfold X12_writeSummary_b33
      have c1 := cpyM_b (l := l) (k12 := X12_writeSummary_b12 f) hm h0 hn h4 hi (hB i hi) (hM i hi) (by omega) 0 (by omega) FU (by have := FU_big; omega)
      rw [show l ++ nmL m i 0 = l from List.append_nil l] at c1
      exact c1
    unfold X12_writeSummary_b12
    rw [gd_t g13, i13, tM_1, hm, W.1, if_neg (by rw [nI_leI (by omega) (by omega)]; omega)]
    by_cases q : i = 0
    · subst q
      rw [if_pos (show nI 0 ≤ 0 from by decide), hb33 _ (by show 0 + 8 ≤ 125; omega)]
      exact ih f (by omega)
    · rw [if_neg q] at hlen
      rw [if_neg (by show ¬ nI i ≤ nI 0; rw [nI_leI (by omega) (by omega)]; omega), show (32 : Int32) = nI 32 from rfl, tM_add h0 (by omega), bd1_e, hb33 _ (by rw [List.length_append, List.length_singleton]; omega), List.append_assoc]
      have hs : smL m i ++ ([32] ++ (nmL m i (nln m i) ++ mkL m i)) = smL m (i + 1) := by
        show _ = smL m i ++ (sepL i ++ _)
        unfold sepL
        rw [if_neg q]
      rw [hs]
      exact ih f (by omega)
theorem q_writeSummary {Y : Mem} (hI : Inv Y) : R0m (X11_writeSummary Y) X12_writeSummary := by
  have hn := nS_le hI
  have hR := Inv_R hI
  have hA := Inv_A hI
  have hMI := Inv_MI hI
  have hB : ∀ s, s < nS (Y 10 0 1) → NB (Y 10 0 1) s := fun s hs => (NB_of ((Inv_N hI).2 s hs)).1
  have hM : ∀ s, s < nS (Y 10 0 1) → fld (Y 10 0 1) s 17 = 1 → ∃ r, fld (Y 10 0 1) s 18 = nI r ∧ 1 ≤ r ∧ r ≤ 60 := fun s hs => (hMI s hs).1
  have h6 : ∀ s, s < nS (Y 10 0 1) → nln (Y 10 0 1) s ≤ 6 := fun s hs => (hB s hs).2.1
  have hlen := smL_len h6 _ (Nat.le_refl _)
  have h128 := sm_128 hB hM _ (Nat.le_refl _)
  rw [if_neg (by have := hI.2.1; omega)] at hlen
  have uk : ∀ k, k ≠ 5 → (up Y 5 1 0 1 0) k = Y k := fun k hk => by funext g o; rw [up_eq, upR_o (by omega)]
  have er : rg (up Y 5 1 0 1 0) 0 = rg Y 0 := by unfold rg; rw [uk 1 (by omega)]
  have c := sumC_b (Y := up Y 5 1 0 1 0) (m := Y 10 0 1) (by rw [up_at, pk_us]) hn (by unfold SB; rw [uk 2 (by omega)]; exact Inv_SB hI) (Inv_S4 hI) (fun s hs => by rw [uk 2 (by omega)]; exact (hA s hs).2.1) hM (by rw [er]; exact hR.1.1) (by rw [er, uk 4 (by omega)]; exact hR.1.2.1) (fun s hs => by rw [er]; unfold nameP; rw [uk 4 (by omega)]; exact (Inv_N hI).2 s hs) 0 (by omega) FU (by have := FU_big; omega)
  have e10 : (tC (up Y 5 1 0 1 0) (smL (Y 10 0 1) (nS (Y 10 0 1)))) 10 = Y 10 := by rw [tC_k (by omega), uk 10 (by omega)]
  have ek : ∀ k, k ≠ 5 → (tC (up Y 5 1 0 1 0) (smL (Y 10 0 1) (nS (Y 10 0 1)))) k = Y k := fun k hk => by rw [tC_k hk, uk k hk]
  have e5 : ∀ o, (tC (up Y 5 1 0 1 0) (smL (Y 10 0 1) (nS (Y 10 0 1)))) 5 0 o = Y 5 0 o := fun o => by unfold tC; rw [wr_o (by omega), up_eq, upR_o (by omega)]
  have el : (tC (up Y 5 1 0 1 0) (smL (Y 10 0 1) (nS (Y 10 0 1)))) 5 1 0 1 = nI (0 + (smL (Y 10 0 1) (nS (Y 10 0 1))).length) := wr_len _ _ 0 (by rw [up_at, pk_us]; rfl)
  have ea : ∀ i b, (smL (Y 10 0 1) (nS (Y 10 0 1)))[i]? = some b → (tC (up Y 5 1 0 1 0) (smL (Y 10 0 1) (nS (Y 10 0 1)))) 5 1 1 i = byt b := fun i b hb => by
    have := wr_in (k := 5) (g := 1) (o := 1) (j := 1) (h := byt) (by omega) _ (up Y 5 1 0 1 0) 0 i b hb
    rw [Nat.zero_add] at this
    exact this
  generalize tC (up Y 5 1 0 1 0) (smL (Y 10 0 1) (nS (Y 10 0 1))) = Yc at c e10 ek e5 el ea
  have mm : (up (up Yc 10 0 0 9 0) 10 0 0 8 0) 10 0 1 = Y 10 0 1 := by rw [up_eq, upR_o (by omega), up9_m, e10]
  have q := sumM_b (Z := up (up Yc 10 0 0 9 0) 10 0 0 8 0) hI.1 mm (by rw [up_at, pk_us]) (Inv_S4 hI) hB hM 0 (by omega) FU (by have := FU_big; omega)
  refine ⟨nI (smL (Y 10 0 1) (nS (Y 10 0 1))).length, Yc, tM (up (up Yc 10 0 0 9 0) 10 0 0 8 0) (smL (Y 10 0 1) (nS (Y 10 0 1))), ?_, ?_, ?_⟩
  · unfold X11_writeSummary
    rw [lt_e]
    exact c
  · unfold X12_writeSummary
    rw [lt_e, lt_e]
    exact q
  · have mk : ∀ k, k ≠ 10 → (tM (up (up Yc 10 0 0 9 0) 10 0 0 8 0) (smL (Y 10 0 1) (nS (Y 10 0 1)))) k = Yc k := fun k hk => by
      funext g o; unfold tM; rw [wr_o (by omega), up_eq, upR_o (by omega), up_eq, upR_o (by omega)]
    have mo : ∀ o, o ≠ 0 → o ≠ 4 → (tM (up (up Yc 10 0 0 9 0) 10 0 0 8 0) (smL (Y 10 0 1) (nS (Y 10 0 1)))) 10 0 o = Y 10 0 o := fun o h0 h4 => by
      unfold tM; rw [wr_o (by omega), up_eq, upR_o (by omega), up_eq, upR_o (by omega), e10]
    have m0 : ∀ x, x ≠ 8 → x ≠ 9 → (tM (up (up Yc 10 0 0 9 0) 10 0 0 8 0) (smL (Y 10 0 1) (nS (Y 10 0 1)))) 10 0 0 x = Y 10 0 0 x := fun x h8 h9 => by
      unfold tM; rw [wr_0 (by omega) h8, up_at, pk_un h8, up9_x _ _ h9, e10]
    have kk : ∀ k, k ≠ 10 → k ≠ 5 → (tM (up (up Yc 10 0 0 9 0) 10 0 0 8 0) (smL (Y 10 0 1) (nS (Y 10 0 1)))) k = Y k := fun k h1 h2 => (mk k h1).trans (ek k h2)
    refine Inv_gen hI ⟨by rw [kk 1 (by omega) (by omega)], kk 0 (by omega) (by omega), kk 9 (by omega) (by omega), by rw [kk 3 (by omega) (by omega)], by rw [kk 4 (by omega) (by omega)], by rw [kk 4 (by omega) (by omega)], fun g _ => by rw [kk 2 (by omega) (by omega)], m0 2 (by omega) (by omega), mo 2 (by omega) (by omega), fun x _ _ => by rw [mo 1 (by omega) (by omega)]⟩ ?_ ?_ ?_ ?_
    · rw [kk 2 (by omega) (by omega), mo 1 (by omega) (by omega)]; exact Inv_KS hI
    · exact TX_cells (by funext o; rw [mk 5 (by omega)]; exact e5 o) (m0 4 (by omega) (by omega)) (mo 3 (by omega) (by omega)) (Inv_X hI)
    · exact ER_cells (kk 6 (by omega) (by omega)) (m0 5 (by omega) (by omega)) (m0 6 (by omega) (by omega)) (Inv_E hI)
    · refine ⟨(smL (Y 10 0 1) (nS (Y 10 0 1))).length, by omega, ?_, ?_, fun j hj => ?_⟩
      · rw [mk 5 (by omega), el, Nat.zero_add]
      · have := wr_len (o := 4) (h := nI) (smL (Y 10 0 1) (nS (Y 10 0 1))) (up (up Yc 10 0 0 9 0) 10 0 0 8 0) 0 (by rw [up_at, pk_us]; rfl)
        rw [Nat.zero_add] at this
        exact this
      · have hg := List.getElem?_eq_getElem hj
        rw [mk 5 (by omega), ea j _ hg, byt_nI (h128 _ (List.getElem_mem hj))]
        have := wr_in (k := 10) (g := 0) (o := 4) (j := 8) (h := nI) (by omega) _ (up (up Yc 10 0 0 9 0) 10 0 0 8 0) 0 j _ hg
        rw [Nat.zero_add] at this
        exact this.symm
end
