section
/-! THE MADE TEXT, READ BY THE MODEL: a step -/
def txt : List (List Nat) → List Nat → List Nat
  | [], r => 59 :: r
  | w :: us, r => 32 :: (w ++ txt us r)
def US (L : List Nat) : List (List Nat) → List Nat → Mem → Prop
  | [], r, Z => CT L r Z
  | w :: us, r, Z => WT L w (txt us r) Z
def GW1 (w : List Nat) : Prop := w ≠ [] ∧ w.length ≤ 8 ∧ ∀ x ∈ w, 97 ≤ x ∧ x ≤ 122
theorem txt_hd (us : List (List Nat)) (r : List Nat) : ∀ x ∈ (txt us r).head?, x = 59 ∨ x = 32 := by
  cases us with
  | nil => exact hd_c (Or.inl rfl)
  | cons w us => exact hd_c (Or.inr rfl)
theorem US_P {L : List Nat} {us : List (List Nat)} {r : List Nat} {Z : Mem} (h : US L us r Z) : PT L (match us with | [] => r | _ :: us => txt us r) Z := by
  cases us with
  | nil => exact CT_P h
  | cons w us => exact WT_P h
theorem US_m {L : List Nat} {us : List (List Nat)} {r : List Nat} {Z : Mem} (m : Nat → Int32) (h : US L us r Z) : US L us r (upR Z 10 0 1 m) := by
  cases us with
  | nil => exact CT_m m h
  | cons w us => exact WT_m m h
theorem nxu {Z : Mem} {L r : List Nat} {us : List (List Nat)} (h : PT L (txt us r) Z) (hu : ∀ w ∈ us, GW1 w) : ∃ Z', M12_token Z = some Z' ∧ TkF Z Z' ∧ US L us r Z' := by
  cases us with
  | nil => exact nx_s (g := []) h g0l
  | cons w us =>
    obtain ⟨h1, h2, h3⟩ := hu w List.mem_cons_self
    exact nx_w (g := [32]) (w := w) (r := txt us r) h g32 h1 h2 h3 (fun x hx => by have := txt_hd us r x hx; omega)
theorem takes_y {Z : Mem} {L w r : List Nat} {us : List (List Nat)} {q : Nat} (h : US L (w :: us) r Z) (hu : ∀ w ∈ us, GW1 w) (h1 : 1 ≤ q) (hq : q < 16) (hw : isWl w q = true) : ∃ Z', M12_takes Z q = some (1, Z') ∧ TkF Z Z' ∧ US L us r Z' := by
  obtain ⟨Z', a1, a2, a3⟩ := nxu (WT_P (w := w) h) hu
  refine ⟨Z', ?_, a2, a3⟩
  unfold M12_takes
  rw [wd (w := w) h h1 hq, hw, bd1_e, bI_t, if_neg (by decide), a1, bd1_e]
theorem takes_n {Z : Mem} {L r : List Nat} {us : List (List Nat)} {q : Nat} (h : US L us r Z) (h1 : 1 ≤ q) (hq : q < 16) (hw : ∀ w ∈ us.head?, isWl w q = false) : M12_takes Z q = some (0, Z) := by
  unfold M12_takes
  cases us with
  | nil =>
    obtain ⟨s, e, h⟩ := h
    rw [wd_k h (by omega) (by omega), bd1_e, if_pos rfl]
  | cons w us =>
    rw [wd (w := w) h h1 hq, hw w rfl, bd1_e, bI_f, if_pos rfl]
/-! the end of a step -/
def SO (L r : List Nat) (S : Nat) (m : Nat → Int32) (p : Option (Int32 × Mem)) : Prop := ∃ Z', p = some (1, Z') ∧ TS L r Z' ∧ Z' 10 0 1 13 = nI (S + 1) ∧ ∀ x, x < 46 + S * 24 + 3 → x ≠ 13 → Z' 10 0 1 x = m x
theorem SO_s {L r : List Nat} {S : Nat} {m m' : Nat → Int32} {p : Option (Int32 × Mem)} (h : SO L r S m p) (hm : ∀ x, x < 46 + S * 24 + 3 → m x = m' x) : SO L r S m' p := by
  obtain ⟨Z', h1, h2, h3, h4⟩ := h
  exact ⟨Z', h1, h2, h3, fun x hx h => (h4 x hx h).trans (hm x hx)⟩
theorem st_end {Z : Mem} {L r : List Nat} {S : Nat} (h : US L [] r Z) (hr : RH r) (h13 : Z 10 0 1 13 = nI S) : SO L r S (Z 10 0 1) (M12_parseStep_b221 Z) := by
  have g13 : inb 13 4202 = true := inb_n (j := 13) (by omega) (by omega)
  have i13 : ix 13 = 13 := ix_n (j := 13) (by omega)
  obtain ⟨Z', a1, a2, a3⟩ := nxt (CT_P h) hr
  have m1 := TkF_m a2
  refine ⟨upR Z' 10 0 1 (upd (Z' 10 0 1) 13 (nI (S + 1))), ?_, TS_m _ a3, by rw [upR_at, pk_us], fun x hx h => by rw [upR_at, pk_un h, m1]⟩
  unfold M12_parseStep_b221
  rw [semi (show CT L r Z from h), a1, bd1_e, bd2_e, if_neg (by decide), gd_t g13, i13, up_eq, m1, h13, nI_1, lt_e]
/-! predecessors -/
theorem nI_m1 {x : Nat} (h : x < 14) : ¬ nI x = -1 := (by decide +kernel : ∀ x, x < 14 → ¬ nI x = -1) x h
def nm (x : Nat) : List Nat := [115, 97 + x]
theorem nm_G {x : Nat} (h : x < 26) : GW1 (nm x) := ⟨List.cons_ne_nil _ _, Nat.le_of_ble_eq_true rfl, nm_az (by omega) h⟩
def PQ (m : Nat → Int32) (S : Nat) (ps : List Nat) : Prop := fld m S 12 = nI ps.length ∧ ∀ i, i < ps.length → fld m S (13 + i) = nI (ps.getD i 0) ∧ ps.getD i 0 < S
theorem st_pred {Z : Mem} {L r : List Nat} {us : List (List Nat)} {S x : Nat} {ps : List Nat} (h : US L (nm x :: us) r Z) (hu : ∀ w ∈ us, GW1 w) (hS : S < 14) (hx : x < S) (hp : PQ (Z 10 0 1) S ps) (h3 : ps.length < 4) (hn : x ∉ ps) (hN : NmT (Z 10 0 1) 46 24 115 S) (h13 : Z 10 0 1 13 = nI S) : ∃ Z', M12_parsePredecessor Z (nI (46 + S * 24)) = some (1, Z') ∧ US L us r Z' ∧ PQ (Z' 10 0 1) S (ps ++ [x]) ∧ ∀ y, y < 46 + S * 24 + 12 → Z' 10 0 1 y = Z 10 0 1 y := by
  obtain ⟨p1, p2⟩ := hp
  have hpr : ∀ i, i < ps.length → pr (Z 10 0 1) S i = ps.getD i 0 := fun i hi => by
    unfold pr; rw [(p2 i hi).1, nI_clamp (by have := (p2 i hi).2; omega)]
  have hb := predM_b (p := x) (m := Z 10 0 1) (Z := Z) rfl hS p1 (by omega) (fun i hi => by rw [hpr i hi]; exact p2 i hi) (by omega) 0 (Nat.zero_le _) FU (by have := FU_big; omega) rfl
  have hany : anyB (fun i => pr (Z 10 0 1) S i == x) ps.length = false := anyB_f.mpr (fun i hi => by
    rw [hpr i hi]
    refine beq_false_of_ne (fun e => hn ?_)
    rw [← e, List.getD_eq_getElem?_getD, List.getElem?_eq_getElem hi]
    exact List.getElem_mem hi)
  rw [if_neg (by rw [hany]; decide), if_neg (by omega)] at hb
  obtain ⟨Z', a1, a2, a3⟩ := nxu (PT_m (upd (upd (Z 10 0 1) (46 + S * 24 + (13 + ps.length)) (nI x)) (46 + S * 24 + 12) (nI (ps.length + 1))) (WT_P (w := nm x) h)) hu
  have m1 : Z' 10 0 1 = upd (upd (Z 10 0 1) (46 + S * 24 + (13 + ps.length)) (nI x)) (46 + S * 24 + 12) (nI (ps.length + 1)) := by rw [TkF_m a2, upR_at]
  refine ⟨Z', ?_, a3, ?_, fun y hy => by rw [m1, pk_un (by omega), pk_un (by omega)]⟩
  · unfold M12_parsePredecessor
    rw [short (w := nm x) h (Nat.le_of_ble_eq_true rfl), bd2_e, if_neg (by decide), stn h hN h13 (by omega) (by omega), if_pos hx, bd1_e, if_neg (nI_m1 (by omega)), show M12_parsePredecessor_b40 (nI (46 + S * 24)) FU Z 0 (nI x) = _ from hb, a1, bd1_e]
  · rw [m1]
    unfold PQ fld
    rw [List.length_append, List.length_singleton]
    refine ⟨pk_us, fun i hi => ?_⟩
    rw [pk_un (by omega)]
    by_cases e : i = ps.length
    · subst e
      have eg : (ps ++ [x]).getD ps.length 0 = x := by
        rw [List.getD_eq_getElem?_getD, List.getElem?_append_right (Nat.le_refl _), Nat.sub_self]; rfl
      rw [eg]
      exact ⟨pk_us, hx⟩
    · have hi2 : i < ps.length := by omega
      have eg : (ps ++ [x]).getD i 0 = ps.getD i 0 := by
        rw [List.getD_eq_getElem?_getD, List.getElem?_append_left hi2, ← List.getD_eq_getElem?_getD]
      rw [eg, pk_un (by omega)]
      exact p2 i hi2
theorem NmT_cg {m m' : Nat → Int32} {S : Nat} (h : NmT m 46 24 115 S) (hm : ∀ y, y < 46 + S * 24 → m' y = m y) : NmT m' 46 24 115 S := fun q hq => by
  obtain ⟨h0, h1, h2⟩ := h q hq
  exact ⟨by rw [hm _ (by omega)]; exact h0, by rw [hm _ (by omega)]; exact h1, by rw [hm _ (by omega)]; exact h2⟩
theorem st_preds {L r : List Nat} {S : Nat} (hS : S < 14) (hr : RH r) : ∀ xs ps f Z, xs.length < f → US L (xs.map nm) r Z → (ps ++ xs).Nodup → (∀ x ∈ xs, x < S) → ps.length + xs.length ≤ 4 → PQ (Z 10 0 1) S ps → NmT (Z 10 0 1) 46 24 115 S → Z 10 0 1 13 = nI S → SO L r S (Z 10 0 1) (M12_parseStep_b203 f Z (nI (46 + S * 24))) := by
  intro xs
  induction xs with
  | nil =>
    intro ps f Z hf h _ _ _ _ _ h13
    obtain ⟨f, rfl⟩ := fuel_s (n := 0) (f := f) (by simp only [List.length_nil] at hf; omega)
    obtain ⟨s, e, hh⟩ := (show CT L r Z from h)
    rw [M12_parseStep_b203.eq_2, hh.1.2.1, if_neg (by decide)]
    exact st_end h hr h13
  | cons x xs ih =>
    intro ps f Z hf h hnd hlt hle hp hN h13
    rw [List.length_cons] at hf hle
    obtain ⟨f, rfl⟩ := fuel_s (n := 0) (f := f) (by omega)
    have hx := hlt x List.mem_cons_self
    have hnd2 : (ps ++ [x] ++ xs).Nodup := by rw [List.append_assoc]; exact hnd
    have hxp : x ∉ ps := fun q => (List.nodup_append.mp hnd).2.2 x q x List.mem_cons_self rfl
    obtain ⟨Z', a1, a2, a3, a4⟩ := st_pred (us := xs.map nm) h (fun w hw => by
      obtain ⟨y, hy, rfl⟩ := List.mem_map.mp hw
      have := hlt y (List.mem_cons_of_mem _ hy)
      exact nm_G (by omega)) hS hx hp (by omega) hxp hN h13
    obtain ⟨s, hh, -⟩ := (show WT L (nm x) (txt (xs.map nm) r) Z from h)
    rw [M12_parseStep_b203.eq_2, hh.1.2.1, if_pos (show nI 1 = 1 from rfl), a1, bd2_e, if_neg (by decide)]
    refine SO_s (ih (ps ++ [x]) f Z' (by omega) a2 hnd2 (fun y hy => hlt y (List.mem_cons_of_mem _ hy)) (by rw [List.length_append, List.length_singleton]; omega) a3 (NmT_cg hN (fun y hy => a4 y (by omega))) (by rw [a4 13 (by omega)]; exact h13)) (fun y hy => a4 y (by omega))
end
