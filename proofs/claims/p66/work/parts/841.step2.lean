section
/-! THE MADE TEXT, READ BY THE MODEL: a step, from its end to its begin -/
def wIn : List Nat := [105, 110]
def wHot : List Nat := [104, 111, 116]
def wAlone : List Nat := [97, 108, 111, 110, 101]
def wAfter : List Nat := [97, 102, 116, 101, 114]
def prU (xs : List Nat) : List (List Nat) := if xs = [] then [] else wAfter :: xs.map nm
def alU (al : Bool) : List (List Nat) := if al then [wAlone] else []
def hoU (ho : Bool) : List (List Nat) := if ho then [wHot] else []
def inU : Option Nat → List (List Nat)
  | none => []
  | some p => [wIn, [112, 97 + p]]
theorem w4_G : GW1 wIn ∧ GW1 wHot ∧ GW1 wAlone ∧ GW1 wAfter := by unfold GW1; decide
theorem w_tab : isWl wIn 4 = true ∧ isWl wHot 5 = true ∧ isWl wAlone 6 = true ∧ isWl wAfter 7 = true ∧ isWl wHot 4 = false ∧ isWl wAlone 4 = false ∧ isWl wAfter 4 = false ∧ isWl wAlone 5 = false ∧ isWl wAfter 5 = false ∧ isWl wAfter 6 = false := by decide +kernel
theorem prU_G {xs : List Nat} (h : ∀ x ∈ xs, x < 26) : ∀ w ∈ prU xs, GW1 w := fun w hw => by
  unfold prU at hw
  split at hw
  · exact absurd hw List.not_mem_nil
  · rcases List.mem_cons.mp hw with rfl | hw
    · exact w4_G.2.2.2
    · obtain ⟨y, hy, rfl⟩ := List.mem_map.mp hw
      exact nm_G (h y hy)
theorem prU_hd {xs : List Nat} : ∀ w ∈ (prU xs).head?, w = wAfter := fun w hw => by
  unfold prU at hw
  split at hw
  · exact absurd hw (by intro q; cases q)
  · exact (Option.some.inj hw).symm
theorem alU_G {al : Bool} {us : List (List Nat)} (h : ∀ w ∈ us, GW1 w) : ∀ w ∈ alU al ++ us, GW1 w := fun w hw => by
  rcases List.mem_append.mp hw with hw | hw
  · cases al
    · exact absurd hw List.not_mem_nil
    · rw [List.mem_singleton.mp hw]; exact w4_G.2.2.1
  · exact h w hw
theorem hoU_G {ho : Bool} {us : List (List Nat)} (h : ∀ w ∈ us, GW1 w) : ∀ w ∈ hoU ho ++ us, GW1 w := fun w hw => by
  rcases List.mem_append.mp hw with hw | hw
  · cases ho
    · exact absurd hw List.not_mem_nil
    · rw [List.mem_singleton.mp hw]; exact w4_G.2.1
  · exact h w hw
theorem inU_G {o : Option Nat} {us : List (List Nat)} (ho : ∀ p, o = some p → p < 26) (h : ∀ w ∈ us, GW1 w) : ∀ w ∈ inU o ++ us, GW1 w := fun w hw => by
  rcases List.mem_append.mp hw with hw | hw
  · cases o with
    | none => exact absurd hw List.not_mem_nil
    | some p =>
      rcases List.mem_cons.mp hw with rfl | hw
      · exact w4_G.1
      · rw [List.mem_singleton.mp hw]
        exact ⟨List.cons_ne_nil _ _, Nat.le_of_ble_eq_true rfl, nm_az (by omega) (ho p rfl)⟩
  · exact h w hw
theorem alU_hd {al : Bool} {xs : List Nat} : ∀ w ∈ (alU al ++ prU xs).head?, w = wAlone ∨ w = wAfter := fun w hw => by
  cases al
  · exact Or.inr (prU_hd w hw)
  · exact Or.inl (Option.some.inj hw).symm
theorem hoU_hd {ho al : Bool} {xs : List Nat} : ∀ w ∈ (hoU ho ++ (alU al ++ prU xs)).head?, w = wHot ∨ w = wAlone ∨ w = wAfter := fun w hw => by
  cases ho
  · exact Or.inr (alU_hd w hw)
  · exact Or.inl (Option.some.inj hw).symm
theorem PQ_cg {m m' : Nat → Int32} {S : Nat} {ps : List Nat} (h : PQ m S ps) (hm : ∀ y, 46 + S * 24 + 12 ≤ y → m' y = m y) : PQ m' S ps := by
  obtain ⟨h1, h2⟩ := h
  unfold PQ fld at *
  exact ⟨by rw [hm _ (by omega)]; exact h1, fun i hi => by rw [hm _ (by omega)]; exact h2 i hi⟩
theorem st_183 {Z : Mem} {L r : List Nat} {S : Nat} {xs : List Nat} (v : Int32) (h : US L (prU xs) r Z) (hr : RH r) (hS : S < 14) (hnd : xs.Nodup) (hlt : ∀ x ∈ xs, x < S) (hle : xs.length ≤ 4) (hp : PQ (Z 10 0 1) S []) (hN : NmT (Z 10 0 1) 46 24 115 S) (h13 : Z 10 0 1 13 = nI S) : SO L r S (Z 10 0 1) (M12_parseStep_b183 Z (nI (46 + S * 24)) v (nI (46 + S * 24) + 11)) := by
  unfold M12_parseStep_b183
  rw [show nI (46 + S * 24) + 11 = nI (46 + S * 24 + 11) from nI_add _ 11, gdi (show 46 + S * 24 + 11 < 4202 by omega), ix_n (by omega), up_eq, lt_e]
  have hm : ∀ y, y ≠ 46 + S * 24 + 11 → (upR Z 10 0 1 (upd (Z 10 0 1) (46 + S * 24 + 11) v)) 10 0 1 y = Z 10 0 1 y := fun y hy => by rw [upR_at, pk_un hy]
  have h1 := US_m (upd (Z 10 0 1) (46 + S * 24 + 11) v) h
  generalize upR Z 10 0 1 (upd (Z 10 0 1) (46 + S * 24 + 11) v) = Z1 at hm h1 ⊢
  have p1 := PQ_cg hp (m' := Z1 10 0 1) (fun y hy => hm y (by omega))
  have n1 := NmT_cg hN (m' := Z1 10 0 1) (fun y hy => hm y (by omega))
  have k1 : Z1 10 0 1 13 = nI S := by rw [hm 13 (by omega)]; exact h13
  refine SO_s (m := Z1 10 0 1) ?_ (fun y hy => hm y (by omega))
  cases xs with
  | nil =>
    rw [takes_n (us := prU []) h1 (by omega) (by omega) (fun w hw => absurd hw (by intro q; cases q)), bd2_e, if_pos rfl]
    exact st_end h1 hr k1
  | cons x xs =>
    have e1 : prU (x :: xs) = wAfter :: nm x :: xs.map nm := if_neg (List.cons_ne_nil _ _)
    rw [e1] at h1
    have hG : ∀ w ∈ nm x :: xs.map nm, GW1 w := fun w hw => prU_G (xs := x :: xs) (fun y hy => by have := hlt y hy; omega) w (by rw [e1]; exact List.mem_cons_of_mem _ hw)
    obtain ⟨Z2, a1, a2, a3⟩ := takes_y h1 hG (q := 7) (by omega) (by omega) w_tab.2.2.2.1
    have m2 := TkF_m a2
    rw [a1, bd2_e, if_neg (by decide)]
    have hx := hlt x List.mem_cons_self
    obtain ⟨Z3, b1, b2, b3, b4⟩ := st_pred (us := xs.map nm) a3 (fun w hw => hG w (List.mem_cons_of_mem _ hw)) hS hx (ps := []) (by rw [m2]; exact p1) (by decide) List.not_mem_nil (by rw [m2]; exact n1) (by rw [m2]; exact k1)
    rw [b1, bd2_e, if_neg (by decide)]
    rw [List.length_cons] at hle
    refine SO_s (m := Z3 10 0 1) (st_preds hS hr xs [x] FU Z3 (by have := FU_big; omega) b2 hnd (fun y hy => hlt y (List.mem_cons_of_mem _ hy)) (by rw [List.length_singleton]; omega) b3 (NmT_cg n1 (fun y hy => by rw [b4 y (by omega), m2])) (by rw [b4 13 (by omega), m2]; exact k1)) (fun y hy => by rw [b4 y (by omega), m2])
theorem st_160 {Z : Mem} {L r : List Nat} {S : Nat} {xs : List Nat} {al : Bool} (v : Int32) (h : US L (alU al ++ prU xs) r Z) (hr : RH r) (hS : S < 14) (hnd : xs.Nodup) (hlt : ∀ x ∈ xs, x < S) (hle : xs.length ≤ 4) (hp : PQ (Z 10 0 1) S []) (hN : NmT (Z 10 0 1) 46 24 115 S) (h13 : Z 10 0 1 13 = nI S) : SO L r S (Z 10 0 1) (M12_parseStep_b160 Z (nI (46 + S * 24)) v (nI (46 + S * 24) + 10)) := by
  unfold M12_parseStep_b160
  rw [show nI (46 + S * 24) + 10 = nI (46 + S * 24 + 10) from nI_add _ 10, gdi (show 46 + S * 24 + 10 < 4202 by omega), ix_n (by omega), up_eq, lt_e]
  have hm : ∀ y, y ≠ 46 + S * 24 + 10 → (upR Z 10 0 1 (upd (Z 10 0 1) (46 + S * 24 + 10) v)) 10 0 1 y = Z 10 0 1 y := fun y hy => by rw [upR_at, pk_un hy]
  have h1 := US_m (upd (Z 10 0 1) (46 + S * 24 + 10) v) h
  generalize upR Z 10 0 1 (upd (Z 10 0 1) (46 + S * 24 + 10) v) = Z1 at hm h1 ⊢
  have p1 := PQ_cg hp (m' := Z1 10 0 1) (fun y hy => hm y (by omega))
  have n1 := NmT_cg hN (m' := Z1 10 0 1) (fun y hy => hm y (by omega))
  have k1 : Z1 10 0 1 13 = nI S := by rw [hm 13 (by omega)]; exact h13
  refine SO_s (m := Z1 10 0 1) ?_ (fun y hy => hm y (by omega))
  cases al
  · rw [takes_n (us := prU xs) h1 (by omega) (by omega) (fun w hw => by rw [prU_hd w hw]; exact w_tab.2.2.2.2.2.2.2.2.2), bd2_e, if_pos rfl]
    exact st_183 0 h1 hr hS hnd hlt hle p1 n1 k1
  · obtain ⟨Z2, a1, a2, a3⟩ := takes_y (w := wAlone) (us := prU xs) h1 (prU_G (fun y hy => by have := hlt y hy; omega)) (q := 6) (by omega) (by omega) w_tab.2.2.1
    have m2 := TkF_m a2
    rw [a1, bd2_e, if_neg (by decide), ← m2]
    exact st_183 1 a3 hr hS hnd hlt hle (by rw [m2]; exact p1) (by rw [m2]; exact n1) (by rw [m2]; exact k1)
theorem st_4 {Z : Mem} {L r : List Nat} {S : Nat} {xs : List Nat} {ho al : Bool} (h : US L (hoU ho ++ (alU al ++ prU xs)) r Z) (hr : RH r) (hS : S < 14) (hnd : xs.Nodup) (hlt : ∀ x ∈ xs, x < S) (hle : xs.length ≤ 4) (hp : PQ (Z 10 0 1) S []) (hN : NmT (Z 10 0 1) 46 24 115 S) (h13 : Z 10 0 1 13 = nI S) : SO L r S (Z 10 0 1) (sm4 (nI (46 + S * 24)) Z) := by
  unfold sm4
  cases ho
  · rw [takes_n (us := alU al ++ prU xs) h (by omega) (by omega) (fun w hw => by
      rcases alU_hd w hw with rfl | rfl
      · exact w_tab.2.2.2.2.2.2.2.1
      · exact w_tab.2.2.2.2.2.2.2.2.1), bd2_e, if_pos rfl]
    exact st_160 0 h hr hS hnd hlt hle hp hN h13
  · obtain ⟨Z2, a1, a2, a3⟩ := takes_y (w := wHot) (us := alU al ++ prU xs) h (alU_G (prU_G (fun y hy => by have := hlt y hy; omega))) (q := 5) (by omega) (by omega) w_tab.2.1
    have m2 := TkF_m a2
    rw [a1, bd2_e, if_neg (by decide), ← m2]
    exact st_160 1 a3 hr hS hnd hlt hle (by rw [m2]; exact hp) (by rw [m2]; exact hN) (by rw [m2]; exact h13)
theorem st_3 {Z : Mem} {L r : List Nat} {S K : Nat} {xs : List Nat} {ho al : Bool} {o : Option Nat} (h : US L (inU o ++ (hoU ho ++ (alU al ++ prU xs))) r Z) (hr : RH r) (hS : S < 14) (hK : K ≤ 4) (hoK : ∀ p, o = some p → p < K) (hnd : xs.Nodup) (hlt : ∀ x ∈ xs, x < S) (hle : xs.length ≤ 4) (hp : PQ (Z 10 0 1) S []) (hN : NmT (Z 10 0 1) 46 24 115 S) (hPN : NmT (Z 10 0 1) 14 8 112 K) (h12 : Z 10 0 1 12 = nI K) (h13 : Z 10 0 1 13 = nI S) : SO L r S (Z 10 0 1) (sm3 (nI (46 + S * 24)) Z) := by
  unfold sm3 M12_parsePanType
  rw [show nI (46 + S * 24) + 9 = nI (46 + S * 24 + 9) from nI_add _ 9, gdi (show 46 + S * 24 + 9 < 4202 by omega), ix_n (by omega), up_eq, lt_e]
  have hm : ∀ y, y ≠ 46 + S * 24 + 9 → (upR Z 10 0 1 (upd (Z 10 0 1) (46 + S * 24 + 9) (-1))) 10 0 1 y = Z 10 0 1 y := fun y hy => by rw [upR_at, pk_un hy]
  have h1 := US_m (upd (Z 10 0 1) (46 + S * 24 + 9) (-1)) h
  generalize upR Z 10 0 1 (upd (Z 10 0 1) (46 + S * 24 + 9) (-1)) = Z1 at hm h1 ⊢
  have p1 := PQ_cg hp (m' := Z1 10 0 1) (fun y hy => hm y (by omega))
  have n1 := NmT_cg hN (m' := Z1 10 0 1) (fun y hy => hm y (by omega))
  have k1 : Z1 10 0 1 13 = nI S := by rw [hm 13 (by omega)]; exact h13
  refine SO_s (m := Z1 10 0 1) ?_ (fun y hy => hm y (by omega))
  cases o with
  | none =>
    rw [takes_n (us := hoU ho ++ (alU al ++ prU xs)) h1 (by omega) (by omega) (fun w hw => by
      rcases hoU_hd w hw with rfl | rfl | rfl
      · exact w_tab.2.2.2.2.1
      · exact w_tab.2.2.2.2.2.1
      · exact w_tab.2.2.2.2.2.2.1), bd2_e, if_pos rfl, bd2_e, if_neg (by decide)]
    exact st_4 h1 hr hS hnd hlt hle p1 n1 k1
  | some p =>
    have hpK := hoK p rfl
    have hG : ∀ w ∈ hoU ho ++ (alU al ++ prU xs), GW1 w := hoU_G (alU_G (prU_G (fun y hy => by have := hlt y hy; omega)))
    obtain ⟨Z2, a1, a2, a3⟩ := takes_y (w := wIn) (us := [112, 97 + p] :: (hoU ho ++ (alU al ++ prU xs))) h1 (fun w hw => by
      rcases List.mem_cons.mp hw with rfl | hw
      · exact ⟨List.cons_ne_nil _ _, Nat.le_of_ble_eq_true rfl, nm_az (by omega) (by omega)⟩
      · exact hG w hw) (q := 4) (by omega) (by omega) w_tab.1
    have m2 := TkF_m a2
    have e12 : Z2 10 0 1 12 = nI K := by rw [m2, hm 12 (by omega)]; exact h12
    have eN : NmT (Z2 10 0 1) 14 8 112 K := by
      rw [m2]
      intro q hq
      obtain ⟨x0, x1, x2⟩ := hPN q hq
      exact ⟨by rw [hm _ (by omega)]; exact x0, by rw [hm _ (by omega)]; exact x1, by rw [hm _ (by omega)]; exact x2⟩
    rw [a1, bd2_e, if_neg (by decide), short (w := [112, 97 + p]) a3 (Nat.le_of_ble_eq_true rfl), bd2_e, if_neg (by decide), pnn a3 eN e12 hK (by omega), if_pos hpK, bd1_e, up_eq, lt_e, upR_at, pk_us, if_neg (nI_m1 (by omega))]
    obtain ⟨Z3, b1, b2, b3⟩ := nxu (PT_m (upd (Z2 10 0 1) (46 + S * 24 + 9) (nI p)) (WT_P (w := [112, 97 + p]) a3)) hG
    have m3 : ∀ y, y ≠ 46 + S * 24 + 9 → Z3 10 0 1 y = Z1 10 0 1 y := fun y hy => by rw [TkF_m b2, upR_at, pk_un hy, m2]
    rw [b1, bd1_e, bd2_e, if_neg (by decide)]
    refine SO_s (m := Z3 10 0 1) ?_ (fun y hy => m3 y (by omega))
    exact st_4 b3 hr hS hnd hlt hle (PQ_cg p1 (fun y hy => m3 y (by omega))) (NmT_cg n1 (fun y hy => m3 y (by omega))) (by rw [m3 13 (by omega)]; exact k1)
end
