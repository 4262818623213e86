section
/-! THE MADE TEXT, READ BY THE MODEL: names, a pan -/
def NmT (m : Nat → Int32) (a0 st c0 c : Nat) : Prop := ∀ q, q < c → m (a0 + q * st) = nI 2 ∧ m (a0 + q * st + 1) = nI c0 ∧ m (a0 + q * st + 2) = nI (97 + q)
theorem nmd_T {m : Nat → Int32} {a0 st c0 c q s x : Nat} {b : Nat → Nat} (h : NmT m a0 st c0 c) (hq : q < c) (hc : c ≤ 26) (hx : x < 26) (b0 : b s = c0) (b1 : b (s + 1) = 97 + x) : nmd m (a0 + q * st) b s 2 = decide (q = x) := by
  obtain ⟨h0, h1, h2⟩ := h q hq
  unfold nmd
  rw [h0, if_pos rfl, show nmE m (a0 + q * st) b s 2 0 = (if m (a0 + q * st + 1) = nI (b s) then (if m (a0 + q * st + 2) = nI (b (s + 1)) then true else false) else false) from rfl, h1, h2, b0, b1, if_pos rfl]
  by_cases e : q = x
  · subst e; rw [if_pos rfl, decide_eq_true rfl]
  · rw [if_neg (by rw [nI_eq (by omega) (by omega)]; omega), decide_eq_false e]
theorem stn {Z : Mem} {L r : List Nat} {c x : Nat} (h : WT L [115, 97 + x] r Z) (hN : NmT (Z 10 0 1) 46 24 115 c) (h13 : Z 10 0 1 13 = nI c) (hc : c ≤ 14) (hx : x < 26) : M12_stepNamed Z (Z 10 0 0 16) (Z 10 0 0 14 - Z 10 0 0 16) = some (if x < c then nI x else -1) := by
  obtain ⟨s, ⟨⟨⟨t1, t2, t3⟩, m1, m2, m3, -⟩, -, -, hn⟩, -, -, hcn⟩ := h
  have b0 : bL L s = 115 := hcn 0 (Nat.le_of_ble_eq_true rfl)
  have b1 : bL L (s + 1) = 97 + x := hcn 1 (Nat.le_of_ble_eq_true rfl)
  have hl : ([115, 97 + x] : List Nat).length = 2 := rfl
  rw [hl] at m3 hn
  rw [m2, m3, pk_sub (by omega), show s + 2 - s = 2 by omega]
  unfold M12_stepNamed
  refine (stNm_b Z (b := bL L) (s := s) (len := 2) rfl h13 hc (by omega) (fun q hq => ⟨2, by omega, (hN q hq).1⟩) (fun j hj => (t2 j (by omega)).2) 0 (Nat.zero_le _) FU (by have := FU_big; omega) rfl).trans ?_
  rw [show fst1 (fun q => nmd (Z 10 0 1) (46 + q * 24) (bL L) s 2) c = fst1 (fun q => decide (q = x)) c from fst1_congr (fun i hi => nmd_T hN hi (by omega) hx b0 b1)]
  by_cases hxc : x < c
  · rw [show fst1 (fun q => decide (q = x)) c = some x from fst1_some.mpr ⟨hxc, decide_eq_true rfl, fun i hi => decide_eq_false (by omega)⟩, if_pos hxc]; rfl
  · rw [show fst1 (fun q => decide (q = x)) c = none from fst1_none.mpr (fun i hi => decide_eq_false (by omega)), if_neg hxc]; rfl
theorem pnn {Z : Mem} {L r : List Nat} {c x : Nat} (h : WT L [112, 97 + x] r Z) (hN : NmT (Z 10 0 1) 14 8 112 c) (h12 : Z 10 0 1 12 = nI c) (hc : c ≤ 4) (hx : x < 26) : M12_panNamed Z (Z 10 0 0 16) (Z 10 0 0 14 - Z 10 0 0 16) = some (if x < c then nI x else -1) := by
  obtain ⟨s, ⟨⟨⟨t1, t2, t3⟩, m1, m2, m3, -⟩, -, -, hn⟩, -, -, hcn⟩ := h
  have b0 : bL L s = 112 := hcn 0 (Nat.le_of_ble_eq_true rfl)
  have b1 : bL L (s + 1) = 97 + x := hcn 1 (Nat.le_of_ble_eq_true rfl)
  have hl : ([112, 97 + x] : List Nat).length = 2 := rfl
  rw [hl] at m3 hn
  rw [m2, m3, pk_sub (by omega), show s + 2 - s = 2 by omega]
  unfold M12_panNamed
  refine (pnNm_b Z (b := bL L) (s := s) (len := 2) rfl h12 hc (by omega) (fun q hq => ⟨2, by omega, (hN q hq).1⟩) (fun j hj => (t2 j (by omega)).2) 0 (Nat.zero_le _) FU (by have := FU_big; omega) rfl).trans ?_
  rw [show fst1 (fun q => nmd (Z 10 0 1) (14 + q * 8) (bL L) s 2) c = fst1 (fun q => decide (q = x)) c from fst1_congr (fun i hi => nmd_T hN hi (by omega) hx b0 b1)]
  by_cases hxc : x < c
  · rw [show fst1 (fun q => decide (q = x)) c = some x from fst1_some.mpr ⟨hxc, decide_eq_true rfl, fun i hi => decide_eq_false (by omega)⟩, if_pos hxc]; rfl
  · rw [show fst1 (fun q => decide (q = x)) c = none from fst1_none.mpr (fun i hi => decide_eq_false (by omega)), if_neg hxc]; rfl
theorem ptn {Z : Mem} {L r : List Nat} {at_ c0 c1 : Nat} (h : WT L [c0, c1] r Z) (ha : at_ + 7 ≤ 4202) : ∃ a', M12_putName Z (nI at_) = (bd1 (M12_token (upR Z 10 0 1 a')) fun Y9 => some Y9) ∧ a' at_ = nI 2 ∧ a' (at_ + 1) = nI c0 ∧ a' (at_ + 2) = nI c1 ∧ ∀ x, x ≠ at_ → x ≠ at_ + 1 → x ≠ at_ + 2 → a' x = Z 10 0 1 x := by
  obtain ⟨s, ⟨⟨⟨t1, t2, t3⟩, m1, m2, m3, -⟩, -, -, hn⟩, -, -, hcn⟩ := h
  have b0 : bL L s = c0 := hcn 0 (Nat.le_of_ble_eq_true rfl)
  have b1 : bL L (s + 1) = c1 := hcn 1 (Nat.le_of_ble_eq_true rfl)
  have hl : ([c0, c1] : List Nat).length = 2 := rfl
  rw [hl] at m3 hn
  unfold M12_putName
  have e16 : (upR Z 10 0 1 (upd (Z 10 0 1) at_ (nI (s + 2 - s)))) 10 0 0 16 = nI s := by rw [upR_o (by omega)]; exact m2
  rw [gdi (show at_ < 4202 by omega), ix_n (by omega), m2, m3, pk_sub (by omega), up_eq, lt_e, e16, lt_e]
  obtain ⟨a', q1, q2⟩ := putN_b Z (b := bL L) (e := s + 2) ha (by omega) (by omega) (by omega) m3 m2 (fun j j1 j2 => (t2 j (by omega)).2) (s + 2 - s) 0 FU (upd (Z 10 0 1) at_ (nI (s + 2 - s))) (by omega) (by have := FU_big; omega)
  refine ⟨a', q1, ?_, ?_, ?_, fun x x0 x1 x2 => ?_⟩
  · rw [q2, if_neg (by omega), pk_us, show s + 2 - s = 2 by omega]
  · rw [q2, if_pos (by omega), show s + (at_ + 1 - (at_ + 1)) = s by omega, b0]
  · rw [q2, if_pos (by omega), show s + (at_ + 2 - (at_ + 1)) = s + 1 by omega, b1]
  · rw [q2, if_neg (by omega), pk_un x0]
def wPan : List Nat := [112, 97, 110]
def wStep : List Nat := [115, 116, 101, 112]
def RH (r : List Nat) : Prop := r = [] ∨ ∃ w r2, r = w ++ 32 :: r2 ∧ (w = wPan ∨ w = wStep)
def TS (L r : List Nat) (Z : Mem) : Prop := (r = [] ∧ ET L Z) ∨ ∃ w r2, r = w ++ 32 :: r2 ∧ (w = wPan ∨ w = wStep) ∧ WT L w (32 :: r2) Z
theorem TS_m {L r : List Nat} {Z : Mem} (m : Nat → Int32) (h : TS L r Z) : TS L r (upR Z 10 0 1 m) := by
  rcases h with ⟨h1, h2⟩ | ⟨w, r2, h1, h2, h3⟩
  · exact Or.inl ⟨h1, ET_m m h2⟩
  · exact Or.inr ⟨w, r2, h1, h2, WT_m m h3⟩
theorem nxt {Z : Mem} {L r : List Nat} (h : PT L r Z) (hr : RH r) : ∃ Z', M12_token Z = some Z' ∧ TkF Z Z' ∧ TS L r Z' := by
  rcases hr with rfl | ⟨w, r2, rfl, hw⟩
  · obtain ⟨Z', a1, a2, a3⟩ := nx_e h
    exact ⟨Z', a1, a2, Or.inl ⟨rfl, a3⟩⟩
  · have h32 : ∀ x ∈ (32 :: r2).head?, ¬ (97 ≤ x ∧ x ≤ 122) := fun x hx => by
      have : (32 : Nat) = x := Option.some.inj hx
      omega
    rcases hw with rfl | rfl
    · obtain ⟨Z', a1, a2, a3⟩ := nx_w (g := []) (w := wPan) (r := 32 :: r2) h (fun x hx => absurd hx List.not_mem_nil) (by decide) (by decide) (by decide) h32
      exact ⟨Z', a1, a2, Or.inr ⟨_, _, rfl, Or.inl rfl, a3⟩⟩
    · obtain ⟨Z', a1, a2, a3⟩ := nx_w (g := []) (w := wStep) (r := 32 :: r2) h (fun x hx => absurd hx List.not_mem_nil) (by decide) (by decide) (by decide) h32
      exact ⟨Z', a1, a2, Or.inr ⟨_, _, rfl, Or.inr rfl, a3⟩⟩
theorem g32 : ∀ x ∈ ([32] : List Nat), x = 32 := by decide
theorem g0l : ∀ x ∈ ([] : List Nat), x = 32 := by decide
theorem hd_c {c : Nat} {r : List Nat} {P : Nat → Prop} (h : P c) : ∀ x ∈ (c :: r).head?, P x := fun x hx => by
  have : c = x := Option.some.inj hx
  subst this; exact h
theorem nm_az {c0 x : Nat} (h0 : 97 ≤ c0 ∧ c0 ≤ 122) (hx : x < 26) : ∀ y ∈ ([c0, 97 + x] : List Nat), 97 ≤ y ∧ y ≤ 122 := fun y hy => by
  rcases List.mem_cons.mp hy with rfl | hy
  · exact h0
  · rw [List.mem_singleton.mp hy]; omega
theorem pan_t {Z : Mem} {L r : List Nat} {K v : Nat} (h : WT L wPan (32 :: 112 :: (97 + K) :: 32 :: (dg v ++ 59 :: r)) Z) (hr : RH r) (hK : K < 4) (h12 : Z 10 0 1 12 = nI K) (hN : NmT (Z 10 0 1) 14 8 112 K) (v1 : 1 ≤ v) (v5 : v ≤ 5) : ∃ Z', M12_parsePan Z = some (1, Z') ∧ TS L r Z' ∧ Z' 10 0 1 12 = nI (K + 1) ∧ NmT (Z' 10 0 1) 14 8 112 (K + 1) ∧ (∀ x, x < 12 ∨ x = 13 → Z' 10 0 1 x = Z 10 0 1 x) := by
  have g12 : inb 12 4202 = true := inb_n (j := 12) (by omega) (by omega)
  have i12 : ix 12 = 12 := ix_n (j := 12) (by omega)
  obtain ⟨Z1, a1, a2, a3⟩ := nx_w (g := [32]) (w := [112, 97 + K]) (r := 32 :: (dg v ++ 59 :: r)) (WT_P h) g32 (List.cons_ne_nil _ _) (Nat.le_of_ble_eq_true rfl) (nm_az (by omega) (by omega)) (hd_c (by omega))
  have m1 := TkF_m a2
  have e12 : Z1 10 0 1 12 = nI K := by rw [m1]; exact h12
  obtain ⟨a', b1, b2, b3, b4, b5⟩ := ptn (at_ := 14 + K * 8) a3 (by omega)
  obtain ⟨Z2, c1, c2, c3⟩ := nx_n (g := [32]) (v := v) (r := 59 :: r) (by omega) (PT_m a' (WT_P a3)) g32 (hd_c (by omega))
  have m2 : Z2 10 0 1 = a' := by rw [TkF_m c2, upR_at]
  obtain ⟨Z3, d1, d2, d3⟩ := nx_s (g := []) (r := r) (PT_m (upd (Z2 10 0 1) (14 + K * 8 + 7) (nI v)) (NT_P c3)) g0l
  have m3 : Z3 10 0 1 = upd a' (14 + K * 8 + 7) (nI v) := by rw [TkF_m d2, upR_at, m2]
  obtain ⟨Z4, e1, e2, e3⟩ := nxt (CT_P d3) hr
  have m4 : Z4 10 0 1 = upd a' (14 + K * 8 + 7) (nI v) := by rw [TkF_m e2, m3]
  have w12 : upd a' (14 + K * 8 + 7) (nI v) 12 = nI K := by rw [pk_un (by omega), b5 12 (by omega) (by omega) (by omega)]; exact e12
  refine ⟨upR Z4 10 0 1 (upd (Z4 10 0 1) 12 (nI (K + 1))), ?_, TS_m _ e3, ?_, ?_, fun x hx => ?_⟩
  · unfold M12_parsePan
    rw [gd_t g12, i12, h12, if_neg (show ¬ nI K = 4 from by show ¬ nI K = nI 4; rw [nI_eq (by omega) (by omega)]; omega), a1, bd1_e, short a3 (Nat.le_of_ble_eq_true rfl), bd2_e, if_neg (by decide), pnn a3 (by rw [m1]; exact hN) e12 (by omega) (by omega), bd1_e, if_neg (Nat.lt_irrefl _), if_pos rfl, e12, show (14 : Int32) + nI K * 8 = nI (14 + K * 8) from by rw [show nI K * 8 = nI (K * 8) from pk_mul K 8]; exact nI_add 14 _, lt_e, b1, c1, bd1_e, bd1_e, show nI (14 + K * 8) + 7 = nI (14 + K * 8 + 7) from nI_add _ 7, show M12_parseRanged Z2 (nI (14 + K * 8 + 7)) 1 5 = _ from rng (lo := 1) (hi := 5) c3 (by omega) v1 v5 (by omega), d1, bd1_e, bd2_e, if_neg (by decide), semi d3, e1, bd1_e, bd2_e, if_neg (by decide), up_eq, m4, w12, nI_1, lt_e]
  · rw [upR_at, pk_us]
  · rw [upR_at, m4]
    intro q hq
    by_cases e : q = K
    · subst e
      refine ⟨?_, ?_, ?_⟩
      · rw [pk_un (by omega), pk_un (by omega)]; exact b2
      · rw [pk_un (by omega), pk_un (by omega)]; exact b3
      · rw [pk_un (by omega), pk_un (by omega)]; exact b4
    · obtain ⟨n0, n1, n2⟩ := hN q (by omega)
      rw [← m1] at n0 n1 n2
      refine ⟨?_, ?_, ?_⟩
      · rw [pk_un (by omega), pk_un (by omega), b5 _ (by omega) (by omega) (by omega)]; exact n0
      · rw [pk_un (by omega), pk_un (by omega), b5 _ (by omega) (by omega) (by omega)]; exact n1
      · rw [pk_un (by omega), pk_un (by omega), b5 _ (by omega) (by omega) (by omega)]; exact n2
  · rw [upR_at, m4, pk_un (by omega), pk_un (by omega), b5 _ (by omega) (by omega) (by omega), m1]
end
