section
/-! THE MADE TEXT is such a text -/
def fl (us : List (List Nat)) : List Nat := us.flatMap (fun w => 32 :: w)
theorem txt_fl (us : List (List Nat)) (r : List Nat) : txt us r = fl us ++ 59 :: r := by
  induction us with
  | nil => rfl
  | cons w us ih => show 32 :: (w ++ txt us r) = _; rw [ih]; simp [fl]
theorem fl_app (a b : List (List Nat)) : fl (a ++ b) = fl a ++ fl b := by simp [fl]
theorem dg_dig : ∀ v, v < 100 → (dg v).map nI = dig v := by decide +kernel
theorem sB_tab : sByt 8 = (wRec ++ [32]).map nI ∧ sByt 9 = (wPan ++ [32, 112]).map nI ∧ sByt 10 = (wStep ++ [32, 115]).map nI ∧ sByt 11 = (32 :: wIn ++ [32, 112]).map nI ∧ sByt 12 = (32 :: wHot).map nI ∧ sByt 13 = [] ∧ sByt 14 = (32 :: wAlone).map nI ∧ sByt 15 = (32 :: wAfter ++ [32, 115]).map nI ∧ sByt 16 = ([32, 115] : List Nat).map nI := by decide +kernel
def prX (z k : Nat) : Nat → Nat → Nat → List Nat
  | 0, _, _ => []
  | m + 1, i, S => if z / 2 ^ (25 + i) % 2 = 1 ∨ S / 2 ^ prB z i k % 2 = 1 then prX z k m (i + 1) S else prB z i k :: prX z k m (i + 1) (S + 2 ^ prB z i k)
theorem prT_S (z k : Nat) : ∀ m i S, 0 < S → prT z k m i S = (fl ((prX z k m i S).map nm)).map nI
  | 0, i, S, _ => rfl
  | m + 1, i, S, h => by
    rw [prT, prX]
    split
    · exact prT_S z k m (i + 1) S h
    · rw [prT_S z k m (i + 1) _ (Nat.lt_of_lt_of_le h (Nat.le_add_right _ _)), if_neg (by omega), sB_tab.2.2.2.2.2.2.2.2]
      simp [fl, nm]
theorem prT_0 (z k : Nat) : ∀ m i, prT z k m i 0 = (fl (prU (prX z k m i 0))).map nI
  | 0, i => rfl
  | m + 1, i => by
    rw [prT, prX]
    split
    · exact prT_0 z k m (i + 1)
    · rw [prT_S z k m (i + 1) _ (by have := Nat.two_pow_pos (prB z i k); omega), if_pos rfl, sB_tab.2.2.2.2.2.2.2.1]
      simp [fl, nm, prU]
theorem bit_1 : ∀ q, q < 9 → ∀ S, S < 512 → S / 2 ^ q % 2 = 0 → S + 2 ^ q < 512 ∧ (S + 2 ^ q) / 2 ^ q % 2 = 1 := by decide +kernel
theorem bit_2 : ∀ q, q < 9 → ∀ y, y < 9 → ∀ S, S < 512 → S / 2 ^ q % 2 = 0 → S / 2 ^ y % 2 = 1 → (S + 2 ^ q) / 2 ^ y % 2 = 1 := by decide +kernel
theorem bit_a (q : Nat) (hq : q < 9) (S : Nat) (hS : S < 512) (h0 : S / 2 ^ q % 2 = 0) : S + 2 ^ q < 512 ∧ (S + 2 ^ q) / 2 ^ q % 2 = 1 ∧ ∀ y, y < 9 → S / 2 ^ y % 2 = 1 → (S + 2 ^ q) / 2 ^ y % 2 = 1 := ⟨(bit_1 q hq S hS h0).1, (bit_1 q hq S hS h0).2, fun y hy h => bit_2 q hq y hy S hS h0 h⟩
theorem prX_ok {z k : Nat} (k0 : 0 < k) (k9 : k < 9) : ∀ m i S, S < 512 → (prX z k m i S).Nodup ∧ (∀ x ∈ prX z k m i S, x < k ∧ S / 2 ^ x % 2 = 0) ∧ (prX z k m i S).length ≤ m
  | 0, i, S, _ => ⟨List.nodup_nil, fun x hx => absurd hx List.not_mem_nil, Nat.le_refl _⟩
  | m + 1, i, S, h => by
    rw [prX]
    split
    · obtain ⟨a, b, c⟩ := prX_ok k0 k9 m (i + 1) S h
      exact ⟨a, b, by omega⟩
    · rename_i hb
      have hk : prB z i k < k := Nat.mod_lt _ k0
      have h0 : S / 2 ^ prB z i k % 2 = 0 := by omega
      obtain ⟨t1, t2, t3⟩ := bit_a (prB z i k) (by omega) S h h0
      obtain ⟨a, b, c⟩ := prX_ok k0 k9 m (i + 1) _ t1
      refine ⟨List.nodup_cons.mpr ⟨fun q => by have := (b _ q).2; omega, a⟩, fun x hx => ?_, by rw [List.length_cons]; omega⟩
      rcases List.mem_cons.mp hx with rfl | hx
      · exact ⟨hk, h0⟩
      · obtain ⟨b1, b2⟩ := b x hx
        refine ⟨b1, ?_⟩
        have := t3 x (by omega)
        omega
section
variable (sf : Nat → Int32) (sl : Nat)
def mZ (k : Nat) : Nat := pick sf sl (9 + k) 268435456
def mD (k : Nat) : Nat := 1 + mZ sf sl k % 7
def mT (k : Nat) : Nat := mZ sf sl k / 8 % 6
def mV (k : Nat) : Nat := 1 + pick sf sl (6 + k) 3
def mK : Nat := pick sf sl 1 4
def mO (k : Nat) : Option Nat := if 0 < mK sf sl ∧ mZ sf sl k / 64 % 2 = 0 then some (mZ sf sl k / 128 % mK sf sl) else none
def mH (k : Nat) : Bool := decide (mZ sf sl k / 512 % 3 = 0)
def mA (k : Nat) : Bool := decide (mZ sf sl k / 2048 % 3 = 0)
def mX (k : Nat) : List Nat := if 0 < k ∧ k < 9 then prX (mZ sf sl k) k 3 0 0 else []
def mU (k : Nat) : List (List Nat) := UU (mO sf sl) (mH sf sl) (mA sf sl) (mX sf sl) k
theorem m_in (k : Nat) : (fl (inU (mO sf sl k))).map nI = inT (mZ sf sl k) (mK sf sl) := by
  unfold mO inT
  split
  · rw [sB_tab.2.2.2.1]; simp [fl, inU]
  · rfl
theorem m_ho (k : Nat) : (fl (hoU (mH sf sl k))).map nI = sByt (if mZ sf sl k / 512 % 3 = 0 then 12 else 13) := by
  unfold mH
  by_cases h : mZ sf sl k / 512 % 3 = 0
  · rw [if_pos h, decide_eq_true h, sB_tab.2.2.2.2.1]; simp [fl, hoU]
  · rw [if_neg h, decide_eq_false h, sB_tab.2.2.2.2.2.1]; rfl
theorem m_al (k : Nat) : (fl (alU (mA sf sl k))).map nI = sByt (if mZ sf sl k / 2048 % 3 = 0 then 14 else 13) := by
  unfold mA
  by_cases h : mZ sf sl k / 2048 % 3 = 0
  · rw [if_pos h, decide_eq_true h, sB_tab.2.2.2.2.2.2.1]; simp [fl, alU]
  · rw [if_neg h, decide_eq_false h, sB_tab.2.2.2.2.2.1]; rfl
theorem m_pr {k : Nat} (h : k < 9) : (fl (prU (mX sf sl k))).map nI = rowP (mZ sf sl k) k := by
  unfold mX rowP
  by_cases k0 : 0 < k
  · rw [if_pos ⟨k0, h⟩, if_pos k0, prT_0]
  · rw [if_neg (fun q => k0 q.1), if_neg k0]; rfl
theorem row_m {k : Nat} (h : k < 9) (r : List Nat) : (wStep ++ stT k (mD sf sl k) (mT sf sl k) (mU sf sl k) r).map nI = rowT sf sl (mK sf sl) k ++ r.map nI := by
  have hd := dg_dig (mD sf sl k) (by unfold mD; omega)
  have ht := dg_dig (mT sf sl k) (by unfold mT; omega)
  unfold rowT
  rw [show pick sf sl (9 + k) 268435456 = mZ sf sl k from rfl, ← m_in, ← m_ho, ← m_al, ← m_pr sf sl h, show 1 + mZ sf sl k % 7 = mD sf sl k from rfl, show mZ sf sl k / 8 % 6 = mT sf sl k from rfl, ← hd, ← ht, sB_tab.2.2.1]
  unfold stT
  rw [txt_fl]
  unfold mU UU
  rw [fl_app, fl_app, fl_app]
  simp [nm]
theorem rows_m : ∀ n k, k + n ≤ 9 → (stpsT (mD sf sl) (mT sf sl) (mU sf sl) n k).map nI = rowsF sf sl (mK sf sl) n k
  | 0, k, _ => rfl
  | n + 1, k, h => by
    rw [stpsT, row_m sf sl (by omega), rows_m n (k + 1) (by omega)]
    rfl
theorem pans_m (r : List Nat) : ∀ n k, (pansT (mV sf sl) r n k).map nI = pansF sf sl n k ++ r.map nI
  | 0, k => rfl
  | n + 1, k => by
    have hd := dg_dig (mV sf sl k) (by unfold mV; have := pick_lt (sf := sf) (sl := sl) (k := 6 + k) (n := 3) (by decide); omega)
    rw [pansT, pansF, panT, show 1 + pick sf sl (6 + k) 3 = mV sf sl k from rfl, ← hd, sB_tab.2.1, List.append_assoc, ← pans_m r n (k + 1)]
    simp
def mL (n : Nat) : List Nat := headN (1 + pick sf sl 3 3) (pick sf sl 4 6) (pick sf sl 2 12) (pick sf sl 2 12 + pick sf sl 5 20) (pansT (mV sf sl) (stpsT (mD sf sl) (mT sf sl) (mU sf sl) n 0) (mK sf sl) 0)
theorem set_m {n : Nat} (h : n ≤ 9) : (mL sf sl n).map nI = setT sf sl n := by
  have p1 := pick_lt (sf := sf) (sl := sl) (k := 3) (n := 3) (by decide)
  have p2 := pick_lt (sf := sf) (sl := sl) (k := 4) (n := 6) (by decide)
  have p3 := pick_lt (sf := sf) (sl := sl) (k := 2) (n := 12) (by decide)
  have p4 := pick_lt (sf := sf) (sl := sl) (k := 5) (n := 20) (by decide)
  have d1 := dg_dig (1 + pick sf sl 3 3) (by omega)
  have d2 := dg_dig (pick sf sl 4 6) (by omega)
  have d3 := dg_dig (pick sf sl 2 12) (by omega)
  have d4 := dg_dig (pick sf sl 2 12 + pick sf sl 5 20) (by omega)
  unfold setT headT mL headN
  rw [show pick sf sl 1 4 = mK sf sl from rfl, ← rows_m sf sl n 0 (by omega), ← d1, ← d2, ← d3, ← d4, sB_tab.1, List.append_assoc, ← pans_m]
  simp
end
end
