section
theorem st_2 {Z : Mem} {L r : List Nat} {S K t : Nat} {xs : List Nat} {ho al : Bool} {o : Option Nat} (h : NT L t (txt (inU o ++ (hoU ho ++ (alU al ++ prU xs))) r) Z) (ht : t ≤ 9) (hr : RH r) (hS : S < 14) (hK : K ≤ 4) (hoK : ∀ p, o = some p → p < K) (hnd : xs.Nodup) (hlt : ∀ x ∈ xs, x < S) (hle : xs.length ≤ 4) (hp : PQ (Z 10 0 1) S []) (hN : NmT (Z 10 0 1) 46 24 115 S) (hPN : NmT (Z 10 0 1) 14 8 112 K) (h12 : Z 10 0 1 12 = nI K) (h13 : Z 10 0 1 13 = nI S) : SO L r S (Z 10 0 1) (sm2 (nI (46 + S * 24)) Z) := by
  have hG : ∀ w ∈ inU o ++ (hoU ho ++ (alU al ++ prU xs)), GW1 w := inU_G (fun p hp => by have := hoK p hp; omega) (hoU_G (alU_G (prU_G (fun y hy => by have := hlt y hy; omega))))
  obtain ⟨Z2, b1, b2, b3⟩ := nxu (PT_m (upd (Z 10 0 1) (46 + S * 24 + 8) (nI t)) (NT_P h)) hG
  have m2 : ∀ y, y ≠ 46 + S * 24 + 8 → Z2 10 0 1 y = Z 10 0 1 y := fun y hy => by rw [TkF_m b2, upR_at, pk_un hy]
  unfold sm2
  rw [show nI (46 + S * 24) + 8 = nI (46 + S * 24 + 8) from nI_add _ 8, show M12_parseRanged Z (nI (46 + S * 24 + 8)) 0 9 = _ from rng (lo := 0) (hi := 9) h (by omega) (Nat.zero_le _) ht (by omega), b1, bd1_e, bd2_e, if_neg (by decide)]
  refine SO_s (m := Z2 10 0 1) ?_ (fun y hy => m2 y (by omega))
  refine st_3 b3 hr hS hK hoK hnd hlt hle (PQ_cg hp (fun y hy => m2 y (by omega))) (NmT_cg hN (fun y hy => m2 y (by omega))) (fun q hq => ?_) (by rw [m2 12 (by omega)]; exact h12) (by rw [m2 13 (by omega)]; exact h13)
  obtain ⟨x0, x1, x2⟩ := hPN q hq
  exact ⟨by rw [m2 _ (by omega)]; exact x0, by rw [m2 _ (by omega)]; exact x1, by rw [m2 _ (by omega)]; exact x2⟩
theorem st_1 {Z : Mem} {L r : List Nat} {S K d t : Nat} {xs : List Nat} {ho al : Bool} {o : Option Nat} (h : NT L d (32 :: (dg t ++ txt (inU o ++ (hoU ho ++ (alU al ++ prU xs))) r)) Z) (d1 : 1 ≤ d) (d60 : d ≤ 60) (ht : t ≤ 9) (hr : RH r) (hS : S < 14) (hK : K ≤ 4) (hoK : ∀ p, o = some p → p < K) (hnd : xs.Nodup) (hlt : ∀ x ∈ xs, x < S) (hle : xs.length ≤ 4) (hp : PQ (Z 10 0 1) S []) (hN : NmT (Z 10 0 1) 46 24 115 S) (hPN : NmT (Z 10 0 1) 14 8 112 K) (h12 : Z 10 0 1 12 = nI K) (h13 : Z 10 0 1 13 = nI S) : SO L r S (Z 10 0 1) (sm1 (nI (46 + S * 24)) Z) := by
  obtain ⟨Z2, b1, b2, b3⟩ := nx_n (g := [32]) (v := t) (r := txt (inU o ++ (hoU ho ++ (alU al ++ prU xs))) r) (by omega) (PT_m (upd (Z 10 0 1) (46 + S * 24 + 7) (nI d)) (NT_P h)) g32 (fun x hx => by have := txt_hd _ r x hx; omega)
  have m2 : ∀ y, y ≠ 46 + S * 24 + 7 → Z2 10 0 1 y = Z 10 0 1 y := fun y hy => by rw [TkF_m b2, upR_at, pk_un hy]
  unfold sm1
  rw [show nI (46 + S * 24) + 7 = nI (46 + S * 24 + 7) from nI_add _ 7, show M12_parseRanged Z (nI (46 + S * 24 + 7)) 1 60 = _ from rng (lo := 1) (hi := 60) h (by omega) d1 d60 (by omega), b1, bd1_e, bd2_e, if_neg (by decide)]
  refine SO_s (m := Z2 10 0 1) ?_ (fun y hy => m2 y (by omega))
  refine st_2 b3 ht hr hS hK hoK hnd hlt hle (PQ_cg hp (fun y hy => m2 y (by omega))) (NmT_cg hN (fun y hy => m2 y (by omega))) (fun q hq => ?_) (by rw [m2 12 (by omega)]; exact h12) (by rw [m2 13 (by omega)]; exact h13)
  obtain ⟨x0, x1, x2⟩ := hPN q hq
  exact ⟨by rw [m2 _ (by omega)]; exact x0, by rw [m2 _ (by omega)]; exact x1, by rw [m2 _ (by omega)]; exact x2⟩
/-- the text of a step, behind its first word -/
def stT (S d t : Nat) (us : List (List Nat)) (r : List Nat) : List Nat := 32 :: (nm S ++ 32 :: (dg d ++ 32 :: (dg t ++ txt us r)))
theorem step_t {Z : Mem} {L r : List Nat} {S K d t : Nat} {xs : List Nat} {ho al : Bool} {o : Option Nat} (h : WT L wStep (stT S d t (inU o ++ (hoU ho ++ (alU al ++ prU xs))) r) Z) (d1 : 1 ≤ d) (d60 : d ≤ 60) (ht : t ≤ 9) (hr : RH r) (hS : S < 14) (hK : K ≤ 4) (hoK : ∀ p, o = some p → p < K) (hnd : xs.Nodup) (hlt : ∀ x ∈ xs, x < S) (hle : xs.length ≤ 4) (hN : NmT (Z 10 0 1) 46 24 115 S) (hPN : NmT (Z 10 0 1) 14 8 112 K) (h12 : Z 10 0 1 12 = nI K) (h13 : Z 10 0 1 13 = nI S) : ∃ Z', M12_parseStep Z = some (1, Z') ∧ TS L r Z' ∧ Z' 10 0 1 13 = nI (S + 1) ∧ NmT (Z' 10 0 1) 46 24 115 (S + 1) ∧ ∀ x, x < 46 → x ≠ 13 → Z' 10 0 1 x = Z 10 0 1 x := by
  have g13 : inb 13 4202 = true := inb_n (j := 13) (by omega) (by omega)
  have i13 : ix 13 = 13 := ix_n (j := 13) (by omega)
  obtain ⟨Z1, a1, a2, a3⟩ := nx_w (g := [32]) (w := nm S) (r := 32 :: (dg d ++ 32 :: (dg t ++ txt (inU o ++ (hoU ho ++ (alU al ++ prU xs))) r))) (WT_P h) g32 (List.cons_ne_nil _ _) (Nat.le_of_ble_eq_true rfl) (nm_az (by omega) (by omega)) (hd_c (by omega))
  have m1 := TkF_m a2
  have e13 : Z1 10 0 1 13 = nI S := by rw [m1]; exact h13
  obtain ⟨az, q1, q2⟩ := stz_b hS 24 0 FU Z1 (Z1 10 0 1) rfl (by have := FU_big; omega)
  rw [upR_self] at q1
  obtain ⟨a', b1, b2, b3, b4, b5⟩ := ptn (at_ := 46 + S * 24) (WT_m az a3) (by omega)
  obtain ⟨Z2, c1, c2, c3⟩ := nx_n (g := [32]) (v := d) (r := 32 :: (dg t ++ txt (inU o ++ (hoU ho ++ (alU al ++ prU xs))) r)) (by omega) (PT_m a' (PT_m az (WT_P a3))) g32 (hd_c (by omega))
  have m2 : Z2 10 0 1 = a' := by rw [TkF_m c2, upR_at]
  have lo : ∀ y, y < 46 + S * 24 → Z2 10 0 1 y = Z 10 0 1 y := fun y hy => by
    rw [m2, b5 y (by omega) (by omega) (by omega), upR_at, q2, if_neg (by omega), m1]
  have hM : M12_parseStep Z = sm1 (nI (46 + S * 24)) Z2 := by
    unfold M12_parseStep
    rw [gd_t g13, i13, h13, if_neg (show ¬ nI S = 14 from by show ¬ nI S = nI 14; rw [nI_eq (by omega) (by omega)]; omega), a1, bd1_e, short a3 (Nat.le_of_ble_eq_true rfl), bd2_e, if_neg (by decide), stn a3 (by rw [m1]; exact hN) e13 (by omega) (by omega), bd1_e, if_neg (Nat.lt_irrefl _), if_pos rfl, e13, show (46 : Int32) + nI S * 24 = nI (46 + S * 24) from by rw [show nI S * 24 = nI (S * 24) from pk_mul S 24]; exact nI_add 46 _, lt_e, show M12_parseStep_b74 FU Z1 0 (nI (46 + S * 24)) = _ from q1, b1, c1, bd1_e, bd1_e]
  have p2 : PQ (Z2 10 0 1) S [] := by
    refine ⟨?_, fun i hi => absurd hi (Nat.not_lt_zero _)⟩
    unfold fld
    rw [m2, b5 _ (by omega) (by omega) (by omega), upR_at, q2, if_pos (by omega)]
    rfl
  rw [hM]
  obtain ⟨Z', z1, z2, z3, z4⟩ := st_1 c3 d1 d60 ht hr hS hK hoK hnd hlt hle p2 (NmT_cg hN lo) (fun q hq => by
    obtain ⟨x0, x1, x2⟩ := hPN q hq
    exact ⟨by rw [lo _ (by omega)]; exact x0, by rw [lo _ (by omega)]; exact x1, by rw [lo _ (by omega)]; exact x2⟩) (by rw [lo 12 (by omega)]; exact h12) (by rw [lo 13 (by omega)]; exact h13)
  refine ⟨Z', z1, z2, z3, fun q hq => ?_, fun x hx h => by rw [z4 x (by omega) h, lo x (by omega)]⟩
  by_cases e : q = S
  · subst e
    rw [z4 _ (by omega) (by omega), z4 _ (by omega) (by omega), z4 _ (by omega) (by omega), m2]
    exact ⟨b2, b3, b4⟩
  · obtain ⟨x0, x1, x2⟩ := hN q (by omega)
    rw [z4 _ (by omega) (by omega), z4 _ (by omega) (by omega), z4 _ (by omega) (by omega), lo _ (by omega), lo _ (by omega), lo _ (by omega)]
    exact ⟨x0, x1, x2⟩
end
