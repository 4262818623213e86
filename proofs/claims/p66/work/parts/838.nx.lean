section
/-! THE MADE TEXT, READ BY THE MODEL: what stands behind a token -/
/-- where the reading stands: r is still to be read -/
def PT (L r : List Nat) (Z : Mem) : Prop := TM (bL L) L.length Z ∧ ∃ e, Z 10 0 0 14 = nI e ∧ L.drop e = r ∧ e ≤ L.length
def AL (L r : List Nat) (k s e v : Nat) (Z : Mem) : Prop := AT (bL L) L.length k s e v Z ∧ L.drop e = r ∧ s ≤ e ∧ e ≤ L.length
def WT (L w r : List Nat) (Z : Mem) : Prop := ∃ s, AL L r 1 s (s + w.length) 0 Z ∧ 1 ≤ w.length ∧ w.length ≤ 8 ∧ ∀ i, i < w.length → bL L (s + i) = w.getD i 0
def NT (L : List Nat) (v : Nat) (r : List Nat) (Z : Mem) : Prop := ∃ s e, AL L r 2 s e v Z
def CT (L r : List Nat) (Z : Mem) : Prop := ∃ s e, AL L r 3 s e 0 Z
def ET (L : List Nat) (Z : Mem) : Prop := ∃ s e, AL L [] 0 s e 0 Z
theorem AL_P {L r : List Nat} {k s e v : Nat} {Z : Mem} (h : AL L r k s e v Z) : PT L r Z := ⟨h.1.1, e, h.1.2.2.2.1, h.2.1, h.2.2.2⟩
theorem WT_P {L w r : List Nat} {Z : Mem} (h : WT L w r Z) : PT L r Z := by obtain ⟨s, h, -⟩ := h; exact AL_P h
theorem NT_P {L r : List Nat} {v : Nat} {Z : Mem} (h : NT L v r Z) : PT L r Z := by obtain ⟨s, e, h⟩ := h; exact AL_P h
theorem CT_P {L r : List Nat} {Z : Mem} (h : CT L r Z) : PT L r Z := by obtain ⟨s, e, h⟩ := h; exact AL_P h
theorem TM_m {b : Nat → Nat} {n : Nat} {Z : Mem} (m : Nat → Int32) (h : TM b n Z) : TM b n (upR Z 10 0 1 m) := by
  unfold TM at h ⊢
  rw [upR_o (by omega), upR_o (by omega)]; exact h
theorem AT_m {b : Nat → Nat} {n k s e v : Nat} {Z : Mem} (m : Nat → Int32) (h : AT b n k s e v Z) : AT b n k s e v (upR Z 10 0 1 m) := by
  obtain ⟨h1, h2⟩ := h
  refine ⟨TM_m m h1, ?_⟩
  rw [upR_o (by omega)]; exact h2
theorem AL_m {L r : List Nat} {k s e v : Nat} {Z : Mem} (m : Nat → Int32) (h : AL L r k s e v Z) : AL L r k s e v (upR Z 10 0 1 m) := ⟨AT_m m h.1, h.2⟩
theorem PT_m {L r : List Nat} {Z : Mem} (m : Nat → Int32) (h : PT L r Z) : PT L r (upR Z 10 0 1 m) := by
  obtain ⟨h1, e, h2, h3⟩ := h
  exact ⟨TM_m m h1, e, by rw [upR_o (by omega)]; exact h2, h3⟩
theorem WT_m {L w r : List Nat} {Z : Mem} (m : Nat → Int32) (h : WT L w r Z) : WT L w r (upR Z 10 0 1 m) := by
  obtain ⟨s, h, h2⟩ := h; exact ⟨s, AL_m m h, h2⟩
theorem NT_m {L r : List Nat} {v : Nat} {Z : Mem} (m : Nat → Int32) (h : NT L v r Z) : NT L v r (upR Z 10 0 1 m) := by
  obtain ⟨s, e, h⟩ := h; exact ⟨s, e, AL_m m h⟩
theorem CT_m {L r : List Nat} {Z : Mem} (m : Nat → Int32) (h : CT L r Z) : CT L r (upR Z 10 0 1 m) := by
  obtain ⟨s, e, h⟩ := h; exact ⟨s, e, AL_m m h⟩
theorem ET_m {L : List Nat} {Z : Mem} (m : Nat → Int32) (h : ET L Z) : ET L (upR Z 10 0 1 m) := by
  obtain ⟨s, e, h⟩ := h; exact ⟨s, e, AL_m m h⟩
theorem TkF_m {Z Z' : Mem} (h : TkF Z Z') : Z' 10 0 1 = Z 10 0 1 := by
  obtain ⟨h', rfl, -⟩ := h; exact upR_o (by omega)
/-! the next token -/
theorem nx_w {Z : Mem} {L g w r : List Nat} (h : PT L (g ++ (w ++ r)) Z) (hg : ∀ x ∈ g, x = 32) (hw : w ≠ []) (h8 : w.length ≤ 8) (ha : ∀ x ∈ w, 97 ≤ x ∧ x ≤ 122) (hr : ∀ x ∈ r.head?, ¬ (97 ≤ x ∧ x ≤ 122)) : ∃ Z', M12_token Z = some Z' ∧ TkF Z Z' ∧ WT L w r Z' := by
  obtain ⟨hT, e, h14, hd, hel⟩ := h
  obtain ⟨a1, a2, a3, a4, a5, a6⟩ := tokL hd hw hg
  obtain ⟨Z', b1, b2, b3⟩ := tok_w hT h14 (Nat.le_add_right _ _) a1 a2 (by omega) a3 (fun j j1 j2 => ha _ (a4 j j1 j2)) (fun q => hr _ (a6 q))
  refine ⟨Z', b1, b2, e + g.length, ⟨b3, a5, by omega, a2⟩, List.length_pos_iff.mpr hw, h8, fun i hi => ?_⟩
  rw [bL_d (drop_d hd) i, List.getD_eq_getElem?_getD, List.getElem?_append_left hi, ← List.getD_eq_getElem?_getD]
theorem nx_s {Z : Mem} {L g r : List Nat} (h : PT L (g ++ (59 :: r)) Z) (hg : ∀ x ∈ g, x = 32) : ∃ Z', M12_token Z = some Z' ∧ TkF Z Z' ∧ CT L r Z' := by
  obtain ⟨hT, e, h14, hd, hel⟩ := h
  obtain ⟨a1, a2, a3, a4, a5, a6⟩ := tokL (w := [59]) hd (by decide) hg
  have h1 : ([59] : List Nat).length = 1 := rfl
  rw [h1] at a1 a2 a4 a5 a6
  obtain ⟨Z', b1, b2, b3⟩ := tok_s hT h14 (Nat.le_add_right _ _) (show e + g.length < L.length by omega) a3 (List.mem_singleton.mp (a4 _ (Nat.le_refl _) (by omega)))
  exact ⟨Z', b1, b2, _, _, b3, a5, by omega, a2⟩
theorem nx_e {Z : Mem} {L : List Nat} (h : PT L [] Z) : ∃ Z', M12_token Z = some Z' ∧ TkF Z Z' ∧ ET L Z' := by
  obtain ⟨hT, e, h14, hd, hel⟩ := h
  have h1 := List.drop_eq_nil_iff.mp hd
  have e1 : e = L.length := by omega
  subst e1
  obtain ⟨Z', b1, b2, b3⟩ := tok_e hT h14
  exact ⟨Z', b1, b2, _, _, b3, hd, Nat.le_refl _, Nat.le_refl _⟩
def dg (v : Nat) : List Nat := if v < 10 then [48 + v] else [48 + v / 10, 48 + v % 10]
theorem nx_n {Z : Mem} {L g r : List Nat} {v : Nat} (hv : v < 100) (h : PT L (g ++ (dg v ++ r)) Z) (hg : ∀ x ∈ g, x = 32) (hr : ∀ x ∈ r.head?, ¬ (48 ≤ x ∧ x ≤ 57)) : ∃ Z', M12_token Z = some Z' ∧ TkF Z Z' ∧ NT L v r Z' := by
  obtain ⟨hT, e, h14, hd, hel⟩ := h
  have hw : dg v ≠ [] := by unfold dg; split <;> exact List.cons_ne_nil _ _
  have ha : ∀ x ∈ dg v, 48 ≤ x ∧ x ≤ 57 := by
    unfold dg
    split
    · intro x hx; rw [List.mem_singleton.mp hx]; omega
    · intro x hx
      rcases List.mem_cons.mp hx with rfl | hx
      · omega
      · rw [List.mem_singleton.mp hx]; omega
  have hl : (dg v).length ≤ 2 := by unfold dg; split <;> exact Nat.le_of_ble_eq_true rfl
  obtain ⟨a1, a2, a3, a4, a5, a6⟩ := tokL hd hw hg
  obtain ⟨Z', b1, b2, b3⟩ := tok_n hT h14 (Nat.le_add_right _ _) a1 a2 (by omega) a3 (fun j j1 j2 => ha _ (a4 j j1 j2)) (fun q => hr _ (a6 q))
  have hc : ∀ i, i < (dg v).length → bL L (e + g.length + i) = (dg v).getD i 0 := fun i hi => by
    rw [bL_d (drop_d hd) i, List.getD_eq_getElem?_getD, List.getElem?_append_left hi, ← List.getD_eq_getElem?_getD]
  have hn : numV (bL L) (e + g.length) (e + g.length + (dg v).length - (e + g.length)) = v := by
    rw [show e + g.length + (dg v).length - (e + g.length) = (dg v).length by omega]
    by_cases q : v < 10
    · have ed : dg v = [48 + v] := if_pos q
      rw [ed] at hc ⊢
      have c0 := hc 0 (Nat.le_of_ble_eq_true rfl)
      have d0 : ([48 + v] : List Nat).getD 0 0 = 48 + v := rfl
      rw [d0] at c0
      show numV (bL L) (e + g.length) 0 * 10 + bL L (e + g.length + 0) - 48 = v
      rw [c0]
      show 0 * 10 + (48 + v) - 48 = v
      omega
    · have ed : dg v = [48 + v / 10, 48 + v % 10] := if_neg q
      rw [ed] at hc ⊢
      have c0 := hc 0 (Nat.le_of_ble_eq_true rfl)
      have c1 := hc 1 (Nat.le_of_ble_eq_true rfl)
      have d0 : ([48 + v / 10, 48 + v % 10] : List Nat).getD 0 0 = 48 + v / 10 := rfl
      have d1 : ([48 + v / 10, 48 + v % 10] : List Nat).getD 1 0 = 48 + v % 10 := rfl
      rw [d0] at c0
      rw [d1] at c1
      show (numV (bL L) (e + g.length) 0 * 10 + bL L (e + g.length + 0) - 48) * 10 + bL L (e + g.length + 1) - 48 = v
      rw [c0, c1]
      show (0 * 10 + (48 + v / 10) - 48) * 10 + (48 + v % 10) - 48 = v
      omega
  rw [hn] at b3
  exact ⟨Z', b1, b2, _, _, b3, a5, by omega, a2⟩
/-! words -/
theorem wE_cg {b b' : Nat → Nat} {s s' w : Nat} : ∀ d i, (∀ j, i ≤ j → j < i + d → b (s + j) = b' (s' + j)) → wE b s w d i = wE b' s' w d i := by
  intro d
  induction d with
  | zero => intro i _; rfl
  | succ d ih =>
    intro i h
    unfold wE
    rw [h i (Nat.le_refl _) (by omega), ih (i + 1) (fun j j1 j2 => h j (by omega) (by omega))]
def isWl (w : List Nat) (q : Nat) : Bool := if w.length = wl q then wE (fun j => w.getD j 0) 0 q (wl q) 0 else false
theorem wd {Z : Mem} {L w r : List Nat} {q : Nat} (h : WT L w r Z) (h1 : 1 ≤ q) (hq : q < 16) : M12_isWord Z q = some (bI (isWl w q)) := by
  obtain ⟨s, ⟨⟨⟨t1, t2, t3⟩, m1, m2, m3, -⟩, -, -, hn⟩, w1, w8, hc⟩ := h
  have h8 := (wl_8 q h1 hq).2
  unfold M12_isWord isWl
  rw [m1, m2, m3, if_pos (show nI 1 = 1 from rfl), gd_t (decide_eq_true hq), len_ok Z h1 hq, bd1_e, pk_sub (by omega), show s + w.length - s = w.length by omega]
  have el : nI w.length = nI (wl q) ↔ w.length = wl q := nI_eq (by omega) (by omega)
  by_cases e2 : w.length = wl q
  · rw [if_pos (el.mpr e2), if_pos e2]
    refine (wordM_b Z h1 hq (b := bL L) (by omega) m2 (fun i hi => t2 _ (by omega)) (wl q) 0 FU (by omega) (by have := FU_big; omega)).trans ?_
    rw [wE_cg (s' := 0) (b' := fun j => w.getD j 0) (wl q) 0 (fun j _ j2 => by rw [hc j (by omega)]; show _ = w.getD (0 + j) 0; rw [Nat.zero_add])]
  · rw [if_neg (fun x => e2 (el.mp x)), if_neg e2]; rfl
theorem wd_k {Z : Mem} {L r : List Nat} {k s e v q : Nat} (h : AL L r k s e v Z) (hk : k < 2 ^ 30) (h1 : ¬ k = 1) : M12_isWord Z q = some 0 := by
  unfold M12_isWord
  rw [h.1.2.1, if_neg (show ¬ nI k = 1 from fun x => h1 ((nI_eq (b := 1) (by omega) (by omega)).mp x))]
theorem short {Z : Mem} {L w r : List Nat} (h : WT L w r Z) (h6 : w.length ≤ 6) : M12_isShortWord Z = some (1, Z) := by
  obtain ⟨s, ⟨⟨-, m1, m2, m3, -⟩, -, -, -⟩, -, -, -⟩ := h
  unfold M12_isShortWord M12_isShortWord_b36
  rw [m1, if_pos (show nI 1 = 1 from rfl), m2, m3, pk_sub (by omega), show s + w.length - s = w.length by omega, if_pos (show nI w.length ≤ 6 from (nI_leI (b := 6) (by omega) (by omega)).mpr h6)]
theorem rng {Z : Mem} {L r : List Nat} {v a lo hi : Nat} (h : NT L v r Z) (ha : a < 4202) (hl : lo ≤ v) (hh : v ≤ hi) (h30 : hi < 2 ^ 30) : M12_parseRanged Z (nI a) (nI lo) (nI hi) = bd1 (M12_token (upR Z 10 0 1 (upd (Z 10 0 1) a (nI v)))) fun Y10 => some (1, Y10) := by
  obtain ⟨s, e, ⟨-, m1, -, -, m4⟩, -, -, -⟩ := h
  unfold M12_parseRanged
  rw [m1, m4 rfl, if_pos (show nI 2 = 2 from rfl), in_ok, decide_eq_true ⟨(nI_leI (by omega) (by omega)).mpr hl, (nI_leI (by omega) (by omega)).mpr hh⟩, bd1_e, if_neg (by decide), gdi ha, ix_n (by omega), up_eq, lt_e]
theorem semi {Z : Mem} {L r : List Nat} (h : CT L r Z) : M12_semicolon Z = bd1 (M12_token Z) fun Y4 => some (1, Y4) := by
  obtain ⟨s, e, ⟨-, m1, -⟩, -⟩ := h
  unfold M12_semicolon
  rw [m1, if_pos (show nI 3 = 3 from rfl)]
end
