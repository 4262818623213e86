section
/-! SLACK -/
theorem mxs_ge {f : Nat → Bool} {p : Nat → Nat} : ∀ {n k : Nat}, k < n → f k = true → p k ≤ mxs f p n := by
  intro n
  induction n with
  | zero => intro k h; omega
  | succ n ih =>
    intro k hk hf
    rw [mxs_s]
    by_cases e : k = n
    · subst e
      split
      · exact Nat.le_refl _
      · rename_i q
        have : ¬ mxs f p k < p k := fun h => q ⟨hf, h⟩
        omega
    · have := ih (k := k) (by omega) hf
      split
      · rename_i q; have := q.2; omega
      · exact this
theorem mxs_lub {f : Nat → Bool} {p : Nat → Nat} {c : Nat} : ∀ {n : Nat}, (∀ k, k < n → f k = true → p k ≤ c) → mxs f p n ≤ c := by
  intro n
  induction n with
  | zero => intro _; exact Nat.zero_le c
  | succ n ih =>
    intro h
    rw [mxs_s]
    split
    · rename_i q; exact h n (by omega) q.1
    · exact ih (fun k hk hf => h k (by omega) hf)
def hds (m : Nat → Int32) : Nat → Nat → Nat
  | 0 => fun _ => 0
  | d + 1 => fun k => if k = d then mxs (fun e => isPred m e d) (fun e => hds m d e + dur m e) d else hds m d k
theorem hds_s (m : Nat → Int32) (d k : Nat) : hds m (d + 1) k = if k = d then mxs (fun e => isPred m e d) (fun e => hds m d e + dur m e) d else hds m d k := rfl
def hd (m : Nat → Int32) (s : Nat) : Nat := hds m (s + 1) s
theorem hds_st (m : Nat → Int32) : ∀ d e, e < d → hds m d e = hd m e := by
  intro d
  induction d with
  | zero => intro e h; omega
  | succ d ih =>
    intro e h
    by_cases c : e = d
    · subst c; rfl
    · rw [hds_s, if_neg c]; exact ih e (by omega)
def hg (m : Nat → Int32) (e : Nat) : Nat := hd m e + dur m e
theorem hd_e (m : Nat → Int32) (s : Nat) : hd m s = mxs (fun e => isPred m e s) (hg m) s := by
  unfold hd
  rw [hds_s, if_pos rfl]
  exact mxs_congr (fun _ _ => rfl) (fun k hk => by rw [hds_st m s k hk]; rfl)
theorem hd_le {m : Nat → Int32} (hM : MI m) : ∀ n s, s < n → s < nS m → hd m s ≤ 60 * s := by
  intro n
  induction n with
  | zero => intro s h; omega
  | succ n ih =>
    intro s h hs
    rw [hd_e]
    refine mxs_le (fun k hk => ?_)
    have h1 := ih k (by omega) (by omega)
    have h2 := (dur_ok hM (s := k) (by omega)).2.2
    unfold hg
    omega
theorem hg_lt {m : Nat → Int32} (hM : MI m) (h14 : nS m ≤ 14) {s : Nat} (hs : s < nS m) : hd m s < 1000 ∧ hg m s < 1000 := by
  have h1 := hd_le hM (s + 1) s (by omega) hs
  have h2 := (dur_ok hM hs).2.2
  unfold hg
  omega
theorem mx_lt {f : Nat → Bool} {m : Nat → Int32} (hM : MI m) (h14 : nS m ≤ 14) {n : Nat} (hn : n ≤ nS m) : mxs f (hg m) n < 1001 := by
  have := mxs_le (f := f) (p := hg m) (c := 1000) (n := n) (fun k hk => by have := (hg_lt hM h14 (s := k) (by omega)).2; omega)
  omega
theorem headC_in {Y0 : Mem} (hI : Inv Y0) {l : Nat} (hl : l < nS (Y0 10 0 1)) {k6 : Mem → Int32 → Option (Int32 × Mem)} (a : Int32) : ∀ e, e ≤ l → ∀ fu h, l - e < fu → (∀ k, k < l → h k = nI (hd (Y0 10 0 1) k)) → h l = nI (mxs (fun e => isPred (Y0 10 0 1) e l) (hg (Y0 10 0 1)) e) → ∃ h', X3_spareMinutes_b20 0 a k6 fu (upR Y0 1 0 3 h) (nI e) (nI l) = k6 (upR Y0 1 0 3 h') (nI (l + 1)) ∧ ∀ k, k < l + 1 → h' k = nI (hd (Y0 10 0 1) k) := by
  have h14 := nS_le hI
  have hR := Inv_R hI
  have hM := Inv_MI hI
  refine upl ?_ ?_
  · intro fu h fu_h h1 h2
    obtain ⟨fu, rfl⟩ := fuel_s fu_h
    unfold X3_spareMinutes_b20
    rw [if_pos (Int32.le_refl _), nI_1]
    refine ⟨h, rfl, fun k hk => ?_⟩
    by_cases c : k = l
    · subst c; rw [h2, ← hd_e]
    · exact h1 k (by omega)
  · intro e he ih fu h fu_h h1 h2
    obtain ⟨fu, rfl⟩ := fuel_s fu_h
    unfold X3_spareMinutes_b20 X3_spareMinutes_b76
    have e0 : (upR Y0 1 0 3 h) 1 0 0 = Y0 1 0 0 := upR_o (by omega)
    have e3 : ∀ r, (upR Y0 1 0 3 h) 3 r 8 = Y0 3 r 8 := fun r => upR_o (by omega)
    have e2 : (upR Y0 1 0 3 h) 2 0 1 = Y0 2 0 1 := upR_o (by omega)
    have b1 := (hg_lt hM h14 (s := e) (by omega)).2
    have b2 := mx_lt (f := fun e => isPred (Y0 10 0 1) e l) hM h14 (n := e) (by omega)
    rw [if_neg (by rw [nI_leI (by omega) (by omega)]; omega), e0, gd2 hR.1.1, gdi (show l < 14 by omega), ix_n (by omega), e3, contains_ok _ _ (by omega), bd1_e, bI_ne, (hR.2.2.2.2.1 l hl e (by omega)).1, nI_1]
    cases c : isPred (Y0 10 0 1) e l
    · rw [if_neg (by decide)]
      exact ih fu h (by omega) h1 (by rw [h2, mxs_s, if_neg (fun q => by rw [c] at q; cases q.1)])
    · rw [if_pos rfl, gdi (show e < 14 by omega), ix_n (by omega), upR_at, e2, h1 e (by omega), (Inv_A hI e (by omega)).1, (dur_ok hM (s := e) (by omega)).1, nI_add, lt_e, lt_e, up_upR, h2]
      refine ih fu _ (by omega) (fun k hk => by rw [pk_un (by omega)]; exact h1 k hk) ?_
      rw [pk_us, mxs_s]
      have eg : hd (Y0 10 0 1) e + dur (Y0 10 0 1) e = hg (Y0 10 0 1) e := rfl
      rw [eg]
      by_cases q : mxs (fun e => isPred (Y0 10 0 1) e l) (hg (Y0 10 0 1)) e < hg (Y0 10 0 1) e
      · rw [if_pos ((nI_ltI (by omega) (by omega)).mpr q), if_pos ⟨c, q⟩]
      · rw [if_neg (fun r => q ((nI_ltI (by omega) (by omega)).mp r)), if_neg (fun r => q r.2)]
theorem headC_out {Y0 : Mem} (hI : Inv Y0) {t o : Nat} (ht : t < nS (Y0 10 0 1)) (hp : ∀ i, i < nS (Y0 10 0 1) → Y0 1 0 1 i = nI (pth (Y0 10 0 1) i)) (ho : Y0 1 0 2 0 = nI o) (ho2 : o < nS (Y0 10 0 1)) : ∀ d l fu h, l + d = t + 1 → d < fu → (∀ k, k < l → h k = nI (hd (Y0 10 0 1) k)) → ∃ h', X3_spareMinutes_b6 0 (nI t) fu (upR Y0 1 0 3 h) (nI l) = some (nI (pth (Y0 10 0 1) o) - nI (pth (Y0 10 0 1) t) - nI (hd (Y0 10 0 1) t), upR Y0 1 0 3 h') := by
  have h14 := nS_le hI
  intro d
  induction d with
  | zero =>
    intro l fu h hl fu_h h1
    obtain ⟨fu, rfl⟩ := fuel_s fu_h
    unfold X3_spareMinutes_b6
    have e2 : (upR Y0 1 0 3 h) 1 0 2 = Y0 1 0 2 := upR_o (by omega)
    have e1 : (upR Y0 1 0 3 h) 1 0 1 = Y0 1 0 1 := upR_o (by omega)
    have e0 : ix 0 = 0 := ix_n (j := 0) (by omega)
    have g0 : inb 0 14 = true := inb_n (j := 0) (by omega) (by omega)
    rw [if_pos ((nI_ltI (by omega) (by omega)).mpr (by omega)), gd_t g0, e0, e2, e1, upR_at, ho, gdi (show o < 14 by omega), gdi (show t < 14 by omega), ix_n (show o < 2 ^ 31 by omega), ix_n (show t < 2 ^ 31 by omega), hp o ho2, hp t ht, h1 t (by omega)]
    exact ⟨h, rfl⟩
  | succ d ih =>
    intro l fu h hl fu_h h1
    obtain ⟨fu, rfl⟩ := fuel_s fu_h
    unfold X3_spareMinutes_b6
    rw [if_neg (fun q => by have := (nI_ltI (by omega) (by omega)).mp q; omega), gdi (show l < 14 by omega), ix_n (by omega), lt_e, up_upR]
    obtain ⟨h', q1, q2⟩ := headC_in hI (l := l) (by omega) (k6 := X3_spareMinutes_b6 0 (nI t) fu) (nI t) 0 (Nat.zero_le _) FU (upd h l 0) (by have := FU_big; omega) (fun k hk => by rw [pk_un (by omega)]; exact h1 k hk) (by rw [pk_us]; rfl)
    rw [show X3_spareMinutes_b20 0 (nI t) (X3_spareMinutes_b6 0 (nI t) fu) FU (upR Y0 1 0 3 (upd h l 0)) 0 (nI l) = _ from q1]
    exact ih (l + 1) fu h' (by omega) (by omega) q2
def lmx (m : Nat → Int32) (s : Nat) : Nat → Nat
  | 0 => 0
  | k + 1 => if lmx m s k < hg m (pr m s k) then hg m (pr m s k) else lmx m s k
theorem lmx_s (m : Nat → Int32) (s k : Nat) : lmx m s (k + 1) = if lmx m s k < hg m (pr m s k) then hg m (pr m s k) else lmx m s k := rfl
theorem lmx_ge (m : Nat → Int32) (s : Nat) : ∀ n k, k < n → hg m (pr m s k) ≤ lmx m s n := by
  intro n
  induction n with
  | zero => intro k h; omega
  | succ n ih =>
    intro k hk
    rw [lmx_s]
    by_cases e : k = n
    · subst e; split <;> omega
    · have := ih k (by omega); split <;> omega
theorem lmx_lub (m : Nat → Int32) (s c : Nat) : ∀ n, (∀ k, k < n → hg m (pr m s k) ≤ c) → lmx m s n ≤ c := by
  intro n
  induction n with
  | zero => intro _; exact Nat.zero_le _
  | succ n ih =>
    intro h
    rw [lmx_s]
    split
    · exact h n (by omega)
    · exact ih (fun k hk => h k (by omega))
theorem lmx_hd {m : Nat → Int32} (W : WF m) {s : Nat} (hs : s < nS m) : lmx m s (np m s) = hd m s := by
  rw [hd_e]
  refine Nat.le_antisymm (lmx_lub m s _ _ fun k hk => ?_) (mxs_lub fun e he hf => ?_)
  · have hpr := (W.2.2.2.2.2.1 s hs k hk).2
    exact mxs_ge (f := fun e => isPred m e s) hpr (anyB_iff.mpr ⟨k, hk, beq_self_eq_true _⟩)
  · obtain ⟨k, hk, q⟩ := anyB_iff.mp hf
    have := lmx_ge m s (np m s) k hk
    rw [beq_iff_eq.mp q] at this
    exact this
theorem headM_in {Z0 : Mem} (W : WF (Z0 10 0 1)) (hM : MI (Z0 10 0 1)) {s : Nat} (hs : s < nS (Z0 10 0 1)) {k2 : Mem → Int32 → Option Mem} : ∀ k, k ≤ np (Z0 10 0 1) s → ∀ fu h, np (Z0 10 0 1) s - k < fu → (∀ i, i < s → h i = nI (hd (Z0 10 0 1) i)) → h s = nI (lmx (Z0 10 0 1) s k) → ∃ h', M12_computeHeads_b22 k2 fu (upR Z0 10 0 6 h) (nI k) (nI s) = k2 (upR Z0 10 0 6 h') (nI (s + 1)) ∧ ∀ i, i < s + 1 → h' i = nI (hd (Z0 10 0 1) i) := by
  have h14 := W.2.1
  have hnp := W.2.2.2.2.1 s hs
  have em : ∀ h, (upR Z0 10 0 6 h) 10 0 1 = Z0 10 0 1 := fun h => upR_o (by omega)
  have o12 : ∀ h, M12_of (upR Z0 10 0 6 h) (nI s) 12 = some (nI (np (Z0 10 0 1) s)) := fun h => by
    have := of_ok (upR Z0 10 0 6 h) (s := s) (w := 12) (by omega)
    rw [em, hnp.1] at this; exact this
  refine upl ?_ ?_
  · intro fu h fu_h h1 h2
    obtain ⟨fu, rfl⟩ := fuel_s fu_h
    unfold M12_computeHeads_b22
    rw [o12, bd1_e, if_pos (Int32.le_refl _), nI_1]
    refine ⟨h, rfl, fun i hi => ?_⟩
    by_cases c : i = s
    · subst c; rw [h2, lmx_hd W hs]
    · exact h1 i (by omega)
  · intro k hk ih fu h fu_h h1 h2
    obtain ⟨fu, rfl⟩ := fuel_s fu_h
    unfold M12_computeHeads_b22 M12_computeHeads_b86
    obtain ⟨p1, p2⟩ := W.2.2.2.2.2.1 s hs k hk
    have o13 : M12_of (upR Z0 10 0 6 h) (nI s) (13 + nI k) = some (nI (pr (Z0 10 0 1) s k)) := by
      have := of_ok (upR Z0 10 0 6 h) (s := s) (w := 13 + k) (by omega)
      rw [em, p1] at this
      rw [show (13 : Int32) + nI k = nI (13 + k) from nI_add 13 k]; exact this
    have o7 : M12_of (upR Z0 10 0 6 h) (nI (pr (Z0 10 0 1) s k)) 7 = some (nI (dur (Z0 10 0 1) (pr (Z0 10 0 1) s k))) := by
      have := of_ok (upR Z0 10 0 6 h) (s := pr (Z0 10 0 1) s k) (w := 7) (by omega)
      rw [em, (dur_ok hM (s := pr (Z0 10 0 1) s k) (by omega)).1] at this
      exact this
    have b1 := (hg_lt hM h14 (s := pr (Z0 10 0 1) s k) (by omega)).2
    have b2 : lmx (Z0 10 0 1) s k ≤ 1000 := lmx_lub _ _ _ _ (fun i hi => by
      have q := (W.2.2.2.2.2.1 s hs i (by omega)).2
      have := (hg_lt hM h14 (s := pr (Z0 10 0 1) s i) (by omega)).2
      omega)
    have eg : nI (hd (Z0 10 0 1) (pr (Z0 10 0 1) s k)) + nI (dur (Z0 10 0 1) (pr (Z0 10 0 1) s k)) = nI (hg (Z0 10 0 1) (pr (Z0 10 0 1) s k)) := nI_add _ _
    rw [o12, bd1_e, if_neg (by rw [nI_leI (by omega) (by omega)]; omega), o13, bd1_e, gdi (show pr (Z0 10 0 1) s k < 14 by omega), o7, bd1_e, gdi (show s < 14 by omega), ix_n (by omega), ix_n (by omega), upR_at, h1 _ p2, h2, eg, nI_1, bd1_e, lt_e, eg, up_upR]
    by_cases q : lmx (Z0 10 0 1) s k < hg (Z0 10 0 1) (pr (Z0 10 0 1) s k)
    · rw [if_neg (by rw [nI_leI (by omega) (by omega)]; omega)]
      exact ih fu _ (by omega) (fun i hi => by rw [pk_un (by omega)]; exact h1 i hi) (by rw [pk_us, lmx_s, if_pos q])
    · rw [if_pos (by rw [nI_leI (by omega) (by omega)]; omega)]
      exact ih fu h (by omega) h1 (by rw [h2, lmx_s, if_neg q])
theorem headM_out {Z0 : Mem} (W : WF (Z0 10 0 1)) (hM : MI (Z0 10 0 1)) : ∀ d s fu h, s + d = nS (Z0 10 0 1) → d < fu → (∀ i, i < s → h i = nI (hd (Z0 10 0 1) i)) → ∃ h', M12_computeHeads_b2 fu (upR Z0 10 0 6 h) (nI s) = some (upR Z0 10 0 6 h') ∧ ∀ i, i < nS (Z0 10 0 1) → h' i = nI (hd (Z0 10 0 1) i) := by
  have h14 := W.2.1
  have em : ∀ h, (upR Z0 10 0 6 h) 10 0 1 = Z0 10 0 1 := fun h => upR_o (by omega)
  have e : (13 : Int32) = nI 13 := rfl
  intro d
  induction d with
  | zero =>
    intro s fu h hs fu_h h1
    obtain ⟨fu, rfl⟩ := fuel_s fu_h
    unfold M12_computeHeads_b2
    rw [e, gdi (show 13 < 4202 by omega), ix_n (by omega), em, W.1, if_pos (by rw [nI_leI (by omega) (by omega)]; omega)]
    exact ⟨h, rfl, fun i hi => h1 i (by omega)⟩
  | succ d ih =>
    intro s fu h hs fu_h h1
    obtain ⟨fu, rfl⟩ := fuel_s fu_h
    unfold M12_computeHeads_b2
    rw [e, gdi (show 13 < 4202 by omega), ix_n (show 13 < 2 ^ 31 by omega), em, W.1, if_neg (by rw [nI_leI (by omega) (by omega)]; omega), gdi (show s < 14 by omega), ix_n (by omega), lt_e, up_upR]
    obtain ⟨h', q1, q2⟩ := headM_in W hM (s := s) (by omega) (k2 := M12_computeHeads_b2 fu) 0 (Nat.zero_le _) FU (upd h s 0) (by have := FU_big; have := (W.2.2.2.2.1 s (by omega)).2; omega) (fun k hk => by rw [pk_un (by omega)]; exact h1 k hk) (by rw [pk_us]; rfl)
    rw [show M12_computeHeads_b22 (M12_computeHeads_b2 fu) FU (upR Z0 10 0 6 (upd h s 0)) 0 (nI s) = _ from q1]
    exact ih (s + 1) fu h' (by omega) (by omega) q2
theorem longM_b (Z : Mem) (W : WF (Z 10 0 1)) {p : Nat → Nat} (hp : ∀ i, i < nS (Z 10 0 1) → Z 10 0 5 i = nI (p i)) (hlt : ∀ i, p i < 2 ^ 30) : ∀ i, i ≤ nS (Z 10 0 1) → ∀ fu, nS (Z 10 0 1) - i < fu → M12_longestPath_b4 Z fu (nI i) (nI (mxs (fun _ => true) p i)) = some (nI (mxs (fun _ => true) p (nS (Z 10 0 1)))) := by
  have h14 := W.2.1
  have e : (13 : Int32) = nI 13 := rfl
  refine upl ?_ ?_
  · intro fu fu_h
    obtain ⟨fu, rfl⟩ := fuel_s fu_h
    unfold M12_longestPath_b4
    rw [e, gdi (show 13 < 4202 by omega), ix_n (by omega), W.1, if_pos (Int32.le_refl _)]
  · intro i hi ih fu fu_h
    obtain ⟨fu, rfl⟩ := fuel_s fu_h
    unfold M12_longestPath_b4 M12_longestPath_b35
    have b1 := hlt i
    have b2 : mxs (fun _ => true) p i ≤ 2 ^ 30 := mxs_le (fun k _ => Nat.le_of_lt (hlt k))
    rw [e, gdi (show 13 < 4202 by omega), ix_n (show 13 < 2 ^ 31 by omega), W.1, if_neg (by rw [nI_leI (by omega) (by omega)]; omega), gdi (show i < 14 by omega), ix_n (by omega), hp i hi, nI_1]
    have ih2 := ih fu (by omega)
    rw [mxs_s] at ih2
    by_cases q : mxs (fun _ => true) p i < p i
    · rw [if_neg (by rw [nI_leI (by omega) (by omega)]; omega)]
      rw [if_pos ⟨rfl, q⟩] at ih2
      exact ih2
    · rw [if_pos (by rw [nI_leI (by omega) (by omega)]; omega)]
      rw [if_neg (fun r => q r.2)] at ih2
      exact ih2
theorem srt_last {p : Nat → Nat} : ∀ {l : List Nat}, Srt p l → ∀ {x y : Nat}, l.reverse[0]? = some x → y ∈ l → p y ≤ p x := by
  intro l
  induction l with
  | nil => intro _ x y _ h; cases h
  | cons z zs ih =>
    intro h x y hx hy
    rw [List.reverse_cons] at hx
    cases zs with
    | nil =>
      have : z = x := Option.some.inj hx
      rw [List.mem_singleton] at hy
      rw [hy, this]; exact Nat.le_refl _
    | cons w ws =>
      have hl : 0 < (w :: ws).reverse.length := by rw [List.length_reverse, List.length_cons]; omega
      rw [List.getElem?_append_left hl] at hx
      rcases List.mem_cons.mp hy with e | e
      · subst e
        have h1 := h.1 w List.mem_cons_self
        have h2 := ih h.2 hx (y := w) List.mem_cons_self
        omega
      · exact ih h.2 hx e
theorem q_slack {Y : Mem} (hI : Inv Y) (a : Int32) : R1 (T11_slack Y a) (fun Y => M12_slack Y a) c3 := by
  have h14 := nS_le hI
  have hpl : ∀ k, pth (Y 10 0 1) k < 2 ^ 30 := fun k => by have := pa_lt (Inv_MI hI) h14 (Nat.le_refl _) k; unfold pth; omega
  refine q3 hI a (fun t ht e => ?_) (fun h => ?_)
  · subst e
    obtain ⟨B, -, -, k, -⟩ := KR_of hI
    obtain ⟨p, q, r1, r2, r3, r4⟩ := KR_rank k
    have hQ : QC Y (upR (upR Y 1 0 1 p) 1 0 2 q) := QC_trans (QC_upR1 Y 0 (by omega) p) (QC_upR1 _ 0 (by omega) q)
    have ep : ∀ i, i < nS (Y 10 0 1) → (upR (upR Y 1 0 1 p) 1 0 2 q) 1 0 1 i = nI (pth (Y 10 0 1) i) := fun i hi => by rw [upR_o (by omega), upR_at]; exact r4 i hi
    generalize upR (upR Y 1 0 1 p) 1 0 2 q = Yr at r1 r2 r3 hQ ep
    have hIr := Inv_QC hI hQ
    have e10 := QC_lo hQ
    obtain ⟨o, ho⟩ : ∃ o, ((ordR (pth (Y 10 0 1)) (nS (Y 10 0 1))).reverse)[0]? = some o := ⟨_, List.getElem?_eq_getElem (by rw [List.length_reverse, ordR_len]; exact hI.2.1)⟩
    have ho2 : o < nS (Y 10 0 1) := ordR_mem.mp (List.mem_reverse.mp (List.mem_of_getElem? ho))
    have ho3 : Yr 1 0 2 0 = nI o := Rep_get r3 ho
    have hmx : pth (Y 10 0 1) o = mxs (fun _ => true) (pth (Y 10 0 1)) (nS (Y 10 0 1)) := by
      refine Nat.le_antisymm (mxs_ge (f := fun _ => true) ho2 rfl) (mxs_lub fun y hy _ => ?_)
      exact srt_last (ordR_srt _ _) ho (ordR_mem.mpr hy)
    obtain ⟨h', c1⟩ := headC_out hIr (t := t) (o := o) (by rw [e10]; exact ht) (by rw [e10]; exact ep) ho3 (by rw [e10]; exact ho2) (t + 1) 0 FU (Yr 1 0 3) (by omega) (by have := FU_big; omega) (fun k hk => by omega)
    rw [upR_self, e10] at c1
    have hQ2 : QC Y (upR Yr 1 0 3 h') := QC_trans hQ (QC_upR1 Yr 0 (by omega) h')
    generalize upR Yr 1 0 3 h' = Yc at c1 hQ2
    have hIc := Inv_QC hI hQ2
    have f10 := QC_lo hQ2
    obtain ⟨p2, m1, m2⟩ := paths_ok (up Yc 10 0 0 9 0) (by rw [up9_m]; exact hIc.1) (by rw [up9_m]; exact Inv_MI hIc)
    rw [up9_m, f10] at m2
    have em : (upR (up Yc 10 0 0 9 0) 10 0 5 p2) 10 0 1 = Y 10 0 1 := by rw [upR_o (by omega), up9_m, f10]
    obtain ⟨h2, n1, n2⟩ := headM_out (Z0 := upR (up Yc 10 0 0 9 0) 10 0 5 p2) (by rw [em]; exact hI.1) (by rw [em]; exact Inv_MI hI) (nS (Y 10 0 1)) 0 FU ((upR (up Yc 10 0 0 9 0) 10 0 5 p2) 10 0 6) (by rw [em]; omega) (by have := FU_big; omega) (fun k hk => by omega)
    rw [upR_self] at n1
    rw [em] at n2
    have em2 : (upR (upR (up Yc 10 0 0 9 0) 10 0 5 p2) 10 0 6 h2) 10 0 1 = Y 10 0 1 := by rw [upR_o (by omega), em]
    have e5 : (upR (upR (up Yc 10 0 0 9 0) 10 0 5 p2) 10 0 6 h2) 10 0 5 = p2 := by rw [upR_o (by omega), upR_at]
    have l1 := longM_b (upR (upR (up Yc 10 0 0 9 0) 10 0 5 p2) 10 0 6 h2) (p := pth (Y 10 0 1)) (by rw [em2]; exact hI.1) (by rw [em2, e5]; exact m2) hpl 0 (Nat.zero_le _) FU (by rw [em2]; have := FU_big; omega)
    rw [em2] at l1
    have hQM : QM (up Yc 10 0 0 9 0) (upR (upR (up Yc 10 0 0 9 0) 10 0 5 p2) 10 0 6 h2) := ⟨fun k hk => by funext g o; rw [upR_o (by omega), upR_o (by omega)], by rw [upR_o (by omega), upR_o (by omega)], by rw [upR_o (by omega), upR_o (by omega)], by rw [upR_o (by omega), upR_o (by omega)], fun x _ => by rw [upR_o (by omega), upR_o (by omega)], fun x _ => by rw [upR_o (by omega), upR_o (by omega)]⟩
    have h9 : (upR (upR (up Yc 10 0 0 9 0) 10 0 5 p2) 10 0 6 h2) 10 0 0 9 = 0 := by rw [upR_o (by omega), upR_o (by omega), up9_9]
    refine ⟨nI (pth (Y 10 0 1) o) - nI (pth (Y 10 0 1) t) - nI (hd (Y 10 0 1) t), Yc, _, ?_, ?_, h9, Inv_QM hIc (QM_trans (QM_9 _ _) hQM)⟩
    · unfold T11_slack X3_spareMinutes
      rw [rS_in hI ht, bdxv_r, r1, bd1_e]
      rw [show X3_spareMinutes_b6 0 (nI t) FU Yr 0 = _ from c1, bd2_e]
    · show M12_slack Yc (nI t) = _
      unfold M12_slack M12_slack_b14 M12_computeHeads M12_longestPath
      rw [sS_in hIc (by rw [f10]; exact ht), bd1_e, if_neg (by decide), fails_000, bd2_e, if_pos rfl, m1, bd1_e]
      rw [show M12_computeHeads_b2 FU (upR (up Yc 10 0 0 9 0) 10 0 5 p2) 0 = _ from n1, bd1_e]
      rw [show M12_longestPath_b4 _ FU 0 0 = _ from l1, bd1_e, gdi (show t < 14 by omega), ix_n (by omega), e5, upR_at, m2 t ht, n2 t ht, ← hmx]
  · refine ⟨?_, 0, ?_⟩
    · unfold T11_slack; rw [rS_out hI h, bdxv_l]
    · show M12_slack Y a = _
      unfold M12_slack M12_slack_b14
      rw [sS_out hI h, bd1_e, if_pos rfl, fails_1, bd2_e, if_neg (by decide)]
end
