section
/-! the made text is of letters, digits, blanks and semicolons; what is said is what is read -/
def P7 (r : List Nat) : Prop := ∀ x ∈ r, x < 128
theorem P7_app {a b : List Nat} (ha : P7 a) (hb : P7 b) : P7 (a ++ b) := fun x hx => (List.mem_append.mp hx).elim (ha x) (hb x)
theorem P7_c {c : Nat} {r : List Nat} (hc : c < 128) (hr : P7 r) : P7 (c :: r) := fun x hx => (List.mem_cons.mp hx).elim (fun e => e ▸ hc) (hr x)
theorem dg_7 : ∀ v, v < 100 → ∀ x ∈ dg v, x < 128 := by decide +kernel
theorem GW_7 {w : List Nat} (h : GW1 w) : P7 w := fun x hx => by have := h.2.2 x hx; omega
theorem txt_7 {us : List (List Nat)} {r : List Nat} (hu : ∀ w ∈ us, GW1 w) (hr : P7 r) : P7 (txt us r) := by
  induction us with
  | nil => exact P7_c (by omega) hr
  | cons w us ih => exact P7_c (by omega) (P7_app (GW_7 (hu w List.mem_cons_self)) (ih (fun v hv => hu v (List.mem_cons_of_mem _ hv))))
theorem w_7 : P7 wRec ∧ P7 wPan ∧ P7 wStep := by unfold P7; decide
section
variable (sf : Nat → Int32) (sl : Nat)
theorem mX_lt (k : Nat) : ∀ x ∈ mX sf sl k, x < 26 := fun x hx => by
  unfold mX at hx
  split at hx
  · rename_i q
    have := ((prX_ok (z := mZ sf sl k) q.1 q.2 3 0 0 (by omega)).2.1 x hx).1
    omega
  · exact absurd hx List.not_mem_nil
theorem mO_lt (k p : Nat) (h : mO sf sl k = some p) : p < 26 := by
  have h5 : mK sf sl < 4 := pick_lt (sf := sf) (sl := sl) (k := 1) (n := 4) (by decide)
  unfold mO at h
  split at h
  · rename_i q
    have := Nat.mod_lt (mZ sf sl k / 128) q.1
    rw [← Option.some.inj h]; omega
  · cases h
theorem mU_G (k : Nat) : ∀ w ∈ mU sf sl k, GW1 w := inU_G (mO_lt sf sl k) (hoU_G (alU_G (prU_G (mX_lt sf sl k))))
theorem st_7 : ∀ n k, k + n ≤ 26 → P7 (stpsT (mD sf sl) (mT sf sl) (mU sf sl) n k)
  | 0, k, _ => fun x hx => absurd hx List.not_mem_nil
  | n + 1, k, h => by
    rw [stpsT]
    unfold stT
    exact P7_app w_7.2.2 (P7_c (by omega) (P7_app (GW_7 (nm_G (by omega))) (P7_c (by omega) (P7_app (dg_7 _ (by unfold mD; omega)) (P7_c (by omega) (P7_app (dg_7 _ (by unfold mT; omega)) (txt_7 (mU_G sf sl k) (st_7 n (k + 1) (by omega)))))))))
theorem pn_7 {r : List Nat} (hr : P7 r) : ∀ n k, k + n ≤ 26 → P7 (pansT (mV sf sl) r n k)
  | 0, k, _ => hr
  | n + 1, k, h => by
    have hv := pick_lt (sf := sf) (sl := sl) (k := 6 + k) (n := 3) (by decide)
    rw [pansT]
    exact P7_app w_7.2.1 (P7_c (by omega) (P7_c (by omega) (P7_c (by omega) (P7_c (by omega) (P7_app (dg_7 _ (by unfold mV; omega)) (P7_c (by omega) (pn_7 hr n (k + 1) (by omega))))))))
theorem mL_7 {n : Nat} (h : n ≤ 9) : P7 (mL sf sl n) := by
  have p1 := pick_lt (sf := sf) (sl := sl) (k := 3) (n := 3) (by decide)
  have p2 := pick_lt (sf := sf) (sl := sl) (k := 4) (n := 6) (by decide)
  have p3 := pick_lt (sf := sf) (sl := sl) (k := 2) (n := 12) (by decide)
  have p4 := pick_lt (sf := sf) (sl := sl) (k := 5) (n := 20) (by decide)
  have p5 : mK sf sl < 4 := pick_lt (sf := sf) (sl := sl) (k := 1) (n := 4) (by decide)
  unfold mL headN
  exact P7_app w_7.1 (P7_c (by omega) (P7_app (dg_7 _ (by omega)) (P7_c (by omega) (P7_app (dg_7 _ (by omega)) (P7_c (by omega) (P7_app (dg_7 _ (by omega)) (P7_c (by omega) (P7_app (dg_7 _ (by omega)) (P7_c (by omega) (pn_7 sf sl (st_7 sf sl n 0 (by omega)) _ _ (by omega)))))))))))
theorem TT_made {Y : Mem} {n : Nat} {c : Nat → Nat} (hI : Inv Y) (h9 : n ≤ 9) (h7 : (setT sf sl n).length ≤ 700) (hn : Y 5 0 0 1 = nI (setT sf sl n).length) (hc : ∀ i, c i < 128) (hs : ∀ j, j < (setT sf sl n).length → nI (c j) = (setT sf sl n).getD j 0) (hb : ∀ j, j < (setT sf sl n).length → Y 5 0 1 j = byt (c j)) : TT Y Y (bL (mL sf sl n)) (mL sf sl n).length := by
  have hm := set_m sf sl h9
  have hl : (setT sf sl n).length = (mL sf sl n).length := by rw [← hm, List.length_map]
  rw [hl] at h7 hn hs hb
  obtain ⟨b, n', t1, t2, t3, t4⟩ := TT_of (Inv_X hI)
  have en : n' = (mL sf sl n).length := (nI_eq (by omega) (by omega)).mp (t3.symm.trans hn)
  subst en
  refine ⟨t1, fun j hj => ?_, t3, t4⟩
  have hx : bL (mL sf sl n) j < 128 := by
    unfold bL
    rw [List.getD_eq_getElem?_getD, List.getElem?_eq_getElem hj]
    exact mL_7 sf sl h9 _ (List.getElem_mem hj)
  have e1 : nI (c j) = nI (bL (mL sf sl n) j) := by
    rw [hs j hj, ← hm]
    unfold bL
    rw [List.getD_eq_getElem?_getD, List.getD_eq_getElem?_getD, List.getElem?_map, List.getElem?_eq_getElem hj]
    rfl
  have e2 : c j = bL (mL sf sl n) j := (nI_eq (by have := hc j; omega) (by omega)).mp e1
  obtain ⟨u1, u2, u3⟩ := t2 j hj
  have e3 : b j = bL (mL sf sl n) j := byt_eq _ u1 _ (by omega) (by rw [← u3, hb j hj, e2])
  rw [e3] at u1 u2 u3
  exact ⟨u1, u2, u3⟩
end
end
