section
/-! THE MADE TEXT, READ BY THE MODEL: its tokens -/
theorem gapE_to {b : Nat → Nat} {n s : Nat} (hs : s < n → b s ≠ 32 ∧ b s ≠ 10) : ∀ d e, e + d = n → e ≤ s → s ≤ n → (∀ j, e ≤ j → j < s → b j = 32) → gapE b d e = s := by
  intro d
  induction d with
  | zero => intro e h1 h2 h3 h4; show e = s; omega
  | succ d ih =>
    intro e h1 h2 h3 h4
    unfold gapE
    by_cases q : e = s
    · subst q
      have h := hs (by omega)
      rw [if_neg (fun w => w.elim h.1 h.2)]
    · rw [if_pos (Or.inl (h4 e (Nat.le_refl _) (by omega)))]
      exact ih (e + 1) (by omega) (by omega) h3 (fun j j1 j2 => h4 j (by omega) j2)
theorem runE_to {b : Nat → Nat} {lo hi n t : Nat} (ht : t < n → ¬ (lo ≤ b t ∧ b t ≤ hi)) : ∀ d e, e + d = n → e ≤ t → t ≤ n → (∀ j, e ≤ j → j < t → lo ≤ b j ∧ b j ≤ hi) → runE b lo hi d e = t := by
  intro d
  induction d with
  | zero => intro e h1 h2 h3 h4; show e = t; omega
  | succ d ih =>
    intro e h1 h2 h3 h4
    unfold runE
    by_cases q : e = t
    · subst q
      rw [if_neg (ht (by omega))]
    · rw [if_pos (h4 e (Nat.le_refl _) (by omega))]
      exact ih (e + 1) (by omega) (by omega) h3 (fun j j1 j2 => h4 j (by omega) j2)
def TM (b : Nat → Nat) (n : Nat) (Z : Mem) : Prop := n ≤ 700 ∧ (∀ j, j < n → b j < 256 ∧ Z 10 0 3 j = nI (b j)) ∧ Z 10 0 0 4 = nI n
/-- the token of kind k lies from s to e, its value is v -/
def AT (b : Nat → Nat) (n k s e v : Nat) (Z : Mem) : Prop := TM b n Z ∧ Z 10 0 0 15 = nI k ∧ Z 10 0 0 16 = nI s ∧ Z 10 0 0 14 = nI e ∧ (k = 2 → Z 10 0 0 17 = nI v)
def TkF (Z Z' : Mem) : Prop := ∃ h' : Nat → Int32, Z' = upR Z 10 0 0 h' ∧ ∀ x, x ≠ 14 → x ≠ 15 → x ≠ 16 → x ≠ 17 → h' x = Z 10 0 0 x
theorem tok_gap {Z : Mem} {b : Nat → Nat} {n e s : Nat} (hT : TM b n Z) (h14 : Z 10 0 0 14 = nI e) (he : e ≤ s) (hsn : s ≤ n) (hg : ∀ j, e ≤ j → j < s → b j = 32) (hs : s < n → b s ≠ 32 ∧ b s ≠ 10) : ∃ m1 : Nat → Int32, M12_token Z = M12_token_b52 (upR Z 10 0 0 m1) ∧ m1 14 = nI s ∧ ∀ x, x ≠ 14 → m1 x = Z 10 0 0 x := by
  obtain ⟨h7, hb, h4⟩ := hT
  obtain ⟨d, hd⟩ : ∃ d, e + d = n := ⟨n - e, by omega⟩
  obtain ⟨m1, c1, c2, c3⟩ := gapM Z h7 hb d e (Z 10 0 0) FU hd (by have := FU_big; omega) h14 h4
  rw [upR_self] at c1
  exact ⟨m1, c1, by rw [c2, gapE_to hs d e hd he hsn hg], c3⟩
theorem tok_w {Z : Mem} {b : Nat → Nat} {n e s t : Nat} (hT : TM b n Z) (h14 : Z 10 0 0 14 = nI e) (he : e ≤ s) (hst : s < t) (htn : t ≤ n) (h8 : t ≤ s + 8) (hg : ∀ j, e ≤ j → j < s → b j = 32) (hw : ∀ j, s ≤ j → j < t → 97 ≤ b j ∧ b j ≤ 122) (hend : t < n → ¬ (97 ≤ b t ∧ b t ≤ 122)) : ∃ Z', M12_token Z = some Z' ∧ TkF Z Z' ∧ AT b n 1 s t 0 Z' := by
  have hs := hw s (Nat.le_refl _) hst
  obtain ⟨m1, hM, c2, c3⟩ := tok_gap hT h14 he (by omega) hg (fun _ => ⟨by omega, by omega⟩)
  obtain ⟨h7, hb, h4⟩ := id hT
  have m14 : m1 4 = nI n := by rw [c3 4 (by omega)]; exact h4
  obtain ⟨v1, v2⟩ := hb s (by omega)
  unfold M12_token_b52 at hM
  rw [u10, c2, up_upR, lt_e, u10, pk_un (show (14 : Nat) ≠ 16 by omega), pk_un (show (4 : Nat) ≠ 16 by omega), c2, m14, if_neg (show ¬ nI s = nI n by rw [nI_eq (by omega) (by omega)]; omega), gdi (show s < 700 by omega), ix_n (by omega), u10o _ _ (show (3 : Nat) ≠ 0 by omega), v2, small_ok _ v1, bd1_e, bI_ne, decide_eq_true hs, if_pos rfl] at hM
  obtain ⟨d', hd'⟩ : ∃ d', s + (d' + 1) = n := ⟨n - s - 1, by omega⟩
  obtain ⟨h2, q1, q2, q3⟩ := letM Z h7 hb (d' + 1) s (upd m1 16 (nI s)) FU hd' (by have := FU_big; omega) (by rw [pk_un (by omega)]; exact c2) (by rw [pk_un (by omega)]; exact m14)
  rw [runE_to hend (d' + 1) s hd' (by omega) htn hw] at q2
  have h216 : h2 16 = nI s := by rw [q3 16 (by omega), pk_us]
  rw [q1] at hM
  unfold M12_token_b131 at hM
  rw [u10, q2, h216, pk_sub (by omega)] at hM
  unfold M12_token_b151 at hM
  have l8' : nI (t - s) ≤ 8 ↔ t - s ≤ 8 := nI_leI (b := 8) (by omega) (by omega)
  rw [if_pos (l8'.mpr (by omega)), up_upR, lt_e] at hM
  refine ⟨_, hM, ⟨_, rfl, fun x x1 x2 x3 x4 => by rw [pk_un x2, q3 x x1, pk_un x3, c3 x x1]⟩, ⟨h7, fun j hj => by rw [u10o _ _ (by omega)]; exact hb j hj, by rw [u10, pk_un (by omega), q3 4 (by omega), pk_un (by omega)]; exact m14⟩, ?_⟩
  rw [u10]
  exact ⟨pk_us, by rw [pk_un (by omega)]; exact h216, by rw [pk_un (by omega)]; exact q2, fun e2 => absurd e2 (by omega)⟩
theorem tok_n {Z : Mem} {b : Nat → Nat} {n e s t : Nat} (hT : TM b n Z) (h14 : Z 10 0 0 14 = nI e) (he : e ≤ s) (hst : s < t) (htn : t ≤ n) (h3 : t ≤ s + 3) (hg : ∀ j, e ≤ j → j < s → b j = 32) (hw : ∀ j, s ≤ j → j < t → 48 ≤ b j ∧ b j ≤ 57) (hend : t < n → ¬ (48 ≤ b t ∧ b t ≤ 57)) : ∃ Z', M12_token Z = some Z' ∧ TkF Z Z' ∧ AT b n 2 s t (numV b s (t - s)) Z' := by
  have hs := hw s (Nat.le_refl _) hst
  obtain ⟨m1, hM, c2, c3⟩ := tok_gap hT h14 he (by omega) hg (fun _ => ⟨by omega, by omega⟩)
  obtain ⟨h7, hb, h4⟩ := id hT
  have m14 : m1 4 = nI n := by rw [c3 4 (by omega)]; exact h4
  obtain ⟨v1, v2⟩ := hb s (by omega)
  unfold M12_token_b52 at hM
  rw [u10, c2, up_upR, lt_e, u10, pk_un (show (14 : Nat) ≠ 16 by omega), pk_un (show (4 : Nat) ≠ 16 by omega), c2, m14, if_neg (show ¬ nI s = nI n by rw [nI_eq (by omega) (by omega)]; omega), gdi (show s < 700 by omega), ix_n (by omega), u10o _ _ (show (3 : Nat) ≠ 0 by omega), v2, small_ok _ v1, bd1_e, bI_ne, decide_eq_false (show ¬ (97 ≤ b s ∧ b s ≤ 122) by omega), if_neg (by decide), digit_ok _ v1, bd1_e, bI_ne, decide_eq_true hs, if_pos rfl, up_upR, lt_e] at hM
  obtain ⟨d', hd'⟩ : ∃ d', s + (d' + 1) = n := ⟨n - s - 1, by omega⟩
  obtain ⟨h2, q1, q2, q2', q3⟩ := digM Z (s := s) h7 hb (d' + 1) s (upd (upd m1 16 (nI s)) 17 0) FU hd' (by have := FU_big; omega) (Nat.le_refl _) (fun j j1 j2 => by omega) (by rw [pk_un (by omega), pk_un (by omega)]; exact c2) (by rw [pk_un (by omega), pk_un (by omega)]; exact m14) (by rw [pk_un (by omega), pk_us]) (by rw [pk_us, show min (s - s) 3 = 0 by omega]; rfl)
  rw [runE_to hend (d' + 1) s hd' (by omega) htn hw] at q2 q2'
  have h216 : h2 16 = nI s := by rw [q3 16 (by omega) (by omega), pk_un (by omega), pk_us]
  rw [q1] at hM
  unfold M12_token_b251 at hM
  rw [u10, q2, h216, pk_sub (by omega)] at hM
  unfold M12_token_b270 at hM
  have l8' : nI (t - s) ≤ 3 ↔ t - s ≤ 3 := nI_leI (b := 3) (by omega) (by omega)
  rw [if_pos (l8'.mpr (by omega)), up_upR, lt_e] at hM
  refine ⟨_, hM, ⟨_, rfl, fun x x1 x2 x3 x4 => by rw [pk_un x2, q3 x x1 x4, pk_un x4, pk_un x3, c3 x x1]⟩, ⟨h7, fun j hj => by rw [u10o _ _ (by omega)]; exact hb j hj, by rw [u10, pk_un (by omega), q3 4 (by omega) (by omega), pk_un (by omega), pk_un (by omega)]; exact m14⟩, ?_⟩
  rw [u10]
  exact ⟨pk_us, by rw [pk_un (by omega)]; exact h216, by rw [pk_un (by omega)]; exact q2, fun _ => by rw [pk_un (by omega), q2', show min (t - s) 3 = t - s by omega]⟩
theorem tok_s {Z : Mem} {b : Nat → Nat} {n e s : Nat} (hT : TM b n Z) (h14 : Z 10 0 0 14 = nI e) (he : e ≤ s) (hsn : s < n) (hg : ∀ j, e ≤ j → j < s → b j = 32) (hw : b s = 59) : ∃ Z', M12_token Z = some Z' ∧ TkF Z Z' ∧ AT b n 3 s (s + 1) 0 Z' := by
  obtain ⟨m1, hM, c2, c3⟩ := tok_gap hT h14 he (by omega) hg (fun _ => ⟨by omega, by omega⟩)
  obtain ⟨h7, hb, h4⟩ := id hT
  have m14 : m1 4 = nI n := by rw [c3 4 (by omega)]; exact h4
  obtain ⟨v1, v2⟩ := hb s (by omega)
  unfold M12_token_b52 at hM
  rw [u10, c2, up_upR, lt_e, u10, pk_un (show (14 : Nat) ≠ 16 by omega), pk_un (show (4 : Nat) ≠ 16 by omega), c2, m14, if_neg (show ¬ nI s = nI n by rw [nI_eq (by omega) (by omega)]; omega), gdi (show s < 700 by omega), ix_n (by omega), u10o _ _ (show (3 : Nat) ≠ 0 by omega), v2, small_ok _ v1, bd1_e, bI_ne, decide_eq_false (show ¬ (97 ≤ b s ∧ b s ≤ 122) by omega), if_neg (by decide), digit_ok _ v1, bd1_e, bI_ne, decide_eq_false (show ¬ (48 ≤ b s ∧ b s ≤ 57) by omega), if_neg (by decide), if_pos (show nI (b s) = 59 by rw [hw]; rfl)] at hM
  unfold M12_token_b294 at hM
  rw [up_upR, lt_e, u10, pk_un (show (14 : Nat) ≠ 15 by omega), pk_un (show (14 : Nat) ≠ 16 by omega), c2, nI_1, up_upR, lt_e] at hM
  refine ⟨_, hM, ⟨_, rfl, fun x x1 x2 x3 x4 => by rw [pk_un x1, pk_un x2, pk_un x3, c3 x x1]⟩, ⟨h7, fun j hj => by rw [u10o _ _ (by omega)]; exact hb j hj, by rw [u10, pk_un (by omega), pk_un (by omega), pk_un (by omega)]; exact m14⟩, ?_⟩
  rw [u10]
  exact ⟨by rw [pk_un (by omega)]; exact pk_us, by rw [pk_un (by omega), pk_un (by omega), pk_us], pk_us, fun e2 => absurd e2 (by omega)⟩
theorem tok_e {Z : Mem} {b : Nat → Nat} {n : Nat} (hT : TM b n Z) (h14 : Z 10 0 0 14 = nI n) : ∃ Z', M12_token Z = some Z' ∧ TkF Z Z' ∧ AT b n 0 n n 0 Z' := by
  obtain ⟨m1, hM, c2, c3⟩ := tok_gap (s := n) hT h14 (Nat.le_refl _) (Nat.le_refl _) (fun j j1 j2 => by omega) (fun q => by omega)
  obtain ⟨h7, hb, h4⟩ := id hT
  have m14 : m1 4 = nI n := by rw [c3 4 (by omega)]; exact h4
  unfold M12_token_b52 at hM
  rw [u10, c2, up_upR, lt_e, u10, pk_un (show (14 : Nat) ≠ 16 by omega), pk_un (show (4 : Nat) ≠ 16 by omega), c2, m14, if_pos rfl, up_upR, lt_e] at hM
  refine ⟨_, hM, ⟨_, rfl, fun x x1 x2 x3 x4 => by rw [pk_un x2, pk_un x3, c3 x x1]⟩, ⟨h7, fun j hj => by rw [u10o _ _ (by omega)]; exact hb j hj, by rw [u10, pk_un (by omega), pk_un (by omega)]; exact m14⟩, ?_⟩
  rw [u10]
  exact ⟨pk_us, by rw [pk_un (by omega), pk_us], by rw [pk_un (by omega), pk_un (by omega)]; exact c2, fun e2 => absurd e2 (by omega)⟩
/-! over lists -/
def bL (L : List Nat) (j : Nat) : Nat := L.getD j 0
theorem bL_d {L r : List Nat} {e : Nat} (h : L.drop e = r) (i : Nat) : bL L (e + i) = r.getD i 0 := by
  unfold bL
  rw [← h, List.getD_eq_getElem?_getD, List.getD_eq_getElem?_getD, List.getElem?_drop]
theorem len_d {L r : List Nat} {e : Nat} (h : L.drop e = r) (hr : r ≠ []) : L.length = e + r.length := by
  have h1 := congrArg List.length h
  rw [List.length_drop] at h1
  have h2 : 0 < r.length := List.length_pos_iff.mpr hr
  omega
theorem drop_d {L g r : List Nat} {e : Nat} (h : L.drop e = g ++ r) : L.drop (e + g.length) = r := by
  rw [← List.drop_drop, h, List.drop_left]
theorem getD_l {g r : List Nat} {i : Nat} (h : i < g.length) : (g ++ r).getD i 0 ∈ g := by
  rw [List.getD_eq_getElem?_getD, List.getElem?_append_left h, List.getElem?_eq_getElem h]
  exact List.getElem_mem h
theorem tokL {L g w r : List Nat} {e : Nat} (h : L.drop e = g ++ (w ++ r)) (hw : w ≠ []) (hg : ∀ x ∈ g, x = 32) : e + g.length < e + g.length + w.length ∧ e + g.length + w.length ≤ L.length ∧ (∀ j, e ≤ j → j < e + g.length → bL L j = 32) ∧ (∀ j, e + g.length ≤ j → j < e + g.length + w.length → bL L j ∈ w) ∧ L.drop (e + g.length + w.length) = r ∧ (e + g.length + w.length < L.length → bL L (e + g.length + w.length) ∈ r.head?) := by
  have hn := len_d h (by intro q; exact hw (List.append_eq_nil_iff.mp (List.append_eq_nil_iff.mp q).2).1)
  have h1 := drop_d h
  have h2 := drop_d h1
  have hw2 : 0 < w.length := List.length_pos_iff.mpr hw
  rw [List.length_append, List.length_append] at hn
  refine ⟨by omega, by omega, fun j j1 j2 => ?_, fun j j1 j2 => ?_, h2, fun q => ?_⟩
  · obtain ⟨i, rfl⟩ : ∃ i, j = e + i := ⟨j - e, by omega⟩
    rw [bL_d h]
    exact hg _ (getD_l (by omega))
  · obtain ⟨i, rfl⟩ : ∃ i, j = e + g.length + i := ⟨j - (e + g.length), by omega⟩
    rw [bL_d h1]
    exact getD_l (by omega)
  · have := bL_d h2 0
    rw [Nat.add_zero] at this
    rw [this]
    cases r with
    | nil => exfalso; rw [List.length_nil] at hn; omega
    | cons x r => rfl
end
