/-! WHAT append AND truncate DO, letters below 128 -/
theorem or256 {v c : Nat} (hv : v < 2 ^ 24) (hc : c < 256) : nI (v * 256) ||| nI c = nI (v * 256 + c) := by
  apply Int32.toBitVec_inj.mp
  apply BitVec.eq_of_toNat_eq
  show (BitVec.ofNat 32 (v * 256) ||| BitVec.ofNat 32 c).toNat = (BitVec.ofNat 32 (v * 256 + c)).toNat
  rw [BitVec.toNat_or, BitVec.toNat_ofNat, BitVec.toNat_ofNat, BitVec.toNat_ofNat, Nat.mod_eq_of_lt (by omega), Nat.mod_eq_of_lt (by omega), Nat.mod_eq_of_lt (by omega)]
  have h := Nat.shiftLeft_add_eq_or_of_lt (b := c) (i := 8) hc v
  rw [Nat.shiftLeft_eq] at h
  exact h.symm
theorem wstep {v c : Nat} (hv : v < 2 ^ 24) (hc : c < 256) : nI v <<< ((8 : Int32) &&& 31) ||| nI c = nI (v * 256 + c) := by
  rw [pk_shlN (n := v) ((8 : Int32) &&& 31) 8 (by decide) (by omega)]
  exact or256 hv hc
/-- four letters as a word -/
def W4 (c : Nat → Nat) (a : Nat) : Nat := ((c a * 256 + c (a + 1)) * 256 + c (a + 2)) * 256 + c (a + 3)
theorem W4_lt {c : Nat → Nat} (hc : ∀ i, c i < 128) (a : Nat) : W4 c a < 2 ^ 31 := by
  have h0 := hc a
  have h1 := hc (a + 1)
  have h2 := hc (a + 2)
  have h3 := hc (a + 3)
  unfold W4
  omega
theorem wd_W4 {c : Nat → Nat} {g : Nat → Int32} (hc : ∀ i, c i < 128) (hg : ∀ i, g i = nI (c i)) (a : Nat) : wdF g 4 a 0 = nI (W4 c a) := by
  have h0 := hc a
  have h1 := hc (a + 1)
  have h2 := hc (a + 2)
  have h3 := hc (a + 3)
  unfold wdF wdF wdF wdF wdF
  have e2 : g (a + 1 + 1) = nI (c (a + 2)) := hg (a + 2)
  have e3 : g (a + 1 + 1 + 1) = nI (c (a + 3)) := hg (a + 3)
  rw [hg a, hg (a + 1), e2, e3, show (0 : Int32) = nI 0 from rfl, wstep (v := 0) (by omega) (by omega), Nat.zero_mul, Nat.zero_add, wstep (by omega) (by omega), wstep (by omega) (by omega), wstep (by omega) (by omega)]
  rfl
theorem four_ok {c : Nat → Nat} (hc : ∀ i, c i < 128) (a : Nat) (Y : Mem) {n : Nat} (hn : Y 5 0 0 1 = nI n) (h7 : n + 4 ≤ 700) : X9_addFourBytes Y 0 (nI (W4 c a)) = some (wr Y 5 0 1 1 byt n [c a, c (a + 1), c (a + 2), c (a + 3)]) := by
  have hW := W4_lt hc a
  have k0 := hc a
  have k1 := hc (a + 1)
  have k2 := hc (a + 2)
  have k3 := hc (a + 3)
  obtain ⟨b0, q0, r0, s0⟩ := byte_sh (nI (W4 c a)) (k := 24) (by omega)
  obtain ⟨b1, q1, r1, s1⟩ := byte_sh (nI (W4 c a)) (k := 16) (by omega)
  obtain ⟨b2, q2, r2, s2⟩ := byte_sh (nI (W4 c a)) (k := 8) (by omega)
  obtain ⟨b3, q3, r3, s3⟩ := byte_of (nI (W4 c a))
  have hsh : ∀ k : Nat, k ≤ 24 → ((nI k &&& 31).toBitVec.smod 32).toNat = k := by decide +kernel
  rw [pk_shrN hW _ 24 (hsh 24 (by omega)), pk_andN (by omega) 8 (by decide)] at r0
  rw [pk_shrN hW _ 16 (hsh 16 (by omega)), pk_andN (by omega) 8 (by decide)] at r1
  rw [pk_shrN hW _ 8 (hsh 8 (by omega)), pk_andN (by omega) 8 (by decide)] at r2
  rw [pk_andN (by omega) 8 (by decide)] at r3
  have e0 : b0 = c a := by
    have h := (nI_eq (by omega) (by omega)).mp r0
    unfold W4 at h
    omega
  have e1 : b1 = c (a + 1) := by
    have h := (nI_eq (by omega) (by omega)).mp r1
    unfold W4 at h
    omega
  have e2 : b2 = c (a + 2) := by
    have h := (nI_eq (by omega) (by omega)).mp r2
    unfold W4 at h
    omega
  have e3 : b3 = c (a + 3) := by
    have h := (nI_eq (by omega) (by omega)).mp r3
    unfold W4 at h
    omega
  rw [← e0, ← e1, ← e2, ← e3]
  generalize nI (W4 c a) = x at s0 s1 s2 s3
  have t7 : tcap 0 = 700 := rfl
  unfold X9_addFourBytes
  have l1 := wr_len (o := 1) (h := byt) [b0] Y n hn
  have l2 := wr_len (o := 1) (h := byt) [b1] _ _ l1
  have l3 := wr_len (o := 1) (h := byt) [b2] _ _ l2
  have s0' : (us x 24).toInt8.toInt32 = byt b0 := s0
  have s1' : (us x 16).toInt8.toInt32 = byt b1 := s1
  have s2' : (us x 8).toInt8.toInt32 = byt b2 := s2
  rw [addB_ok Y hn (by omega) q0 s0', bd1_e, addB_ok _ l1 (by rw [t7, List.length_singleton]; omega) q1 s1', bd1_e, addB_ok _ l2 (by rw [t7, List.length_singleton, List.length_singleton]; omega) q2 s2', bd1_e, addB_ok _ l3 (by rw [t7, List.length_singleton, List.length_singleton, List.length_singleton]; omega) q3 s3, bd1_e]
  simp only [wr_c, wr_n, List.length_singleton]
/-- append: twenty letters more -/
theorem a_append {Y : Mem} (hI : Inv Y) {n : Nat} (h1 : Y 5 0 0 1 = nI n) (h : n ≤ 680) {c : Nat → Nat} (hc : ∀ i, c i < 128) (a : Nat) : ∃ Yc Ym, X11_append Y (nI (W4 c a)) (nI (W4 c (a + 4))) (nI (W4 c (a + 8))) (nI (W4 c (a + 12))) (nI (W4 c (a + 16))) = some (nI (n + 20), Yc) ∧ (∀ k, k ≠ 10 → Ym k = Yc k) ∧ Inv Ym ∧ Yc 5 0 0 1 = nI (n + 20) ∧ (∀ j, j < n → Yc 5 0 1 j = Y 5 0 1 j) ∧ (∀ i, i < 20 → Yc 5 0 1 (n + i) = byt (c (a + i))) ∧ (∀ k g o, ¬ (k = 5 ∧ g = 0) → Yc k g o = Y k g o) ∧ Ym 10 0 1 = Y 10 0 1 := by
  obtain ⟨n', n7, h1', h2, h3⟩ := Inv_X hI
  obtain rfl : n' = n := (nI_eq (by omega) (by omega)).mp (h1'.symm.trans h1)
  have hf : ∀ q : Nat, ∀ (Y : Mem) {m : Nat}, Y 5 0 0 1 = nI m → m + 4 ≤ 700 → X9_addFourBytes Y 0 (nI (W4 c q)) = some (wr Y 5 0 1 1 byt m [c q, c (q + 1), c (q + 2), c (q + 3)]) := fun q Y m h h7 => four_ok hc q Y h h7
  obtain ⟨l, hl⟩ : ∃ l, l = [c a, c (a + 1), c (a + 2), c (a + 3)] ++ [c (a + 4), c (a + 4 + 1), c (a + 4 + 2), c (a + 4 + 3)] ++ [c (a + 8), c (a + 8 + 1), c (a + 8 + 2), c (a + 8 + 3)] ++ [c (a + 12), c (a + 12 + 1), c (a + 12 + 2), c (a + 12 + 3)] ++ [c (a + 16), c (a + 16 + 1), c (a + 16 + 2), c (a + 16 + 3)] := ⟨_, rfl⟩
  have ks : l.length = 20 := by rw [hl]; rfl
  have li : ∀ i, i < 20 → l[i]? = some (c (a + i)) := by
    intro i hi
    rw [hl]
    rcases i with _|_|_|_|_|_|_|_|_|_|_|_|_|_|_|_|_|_|_|_|i <;> first | rfl | omega
  have bs : ∀ x ∈ l, x < 256 := by
    intro x hx
    obtain ⟨i, hi⟩ := List.getElem?_of_mem hx
    have hlt : i < 20 := by have := (List.getElem?_eq_some_iff.mp hi).1; omega
    rw [li i hlt] at hi
    have := hc (a + i)
    have := Option.some.inj hi
    omega
  have hcl : X11_append Y (nI (W4 c a)) (nI (W4 c (a + 4))) (nI (W4 c (a + 8))) (nI (W4 c (a + 12))) (nI (W4 c (a + 16))) = some (nI (n' + 20), wr Y 5 0 1 1 byt n' l) := by
    have l1 := wr_len (o := 1) (h := byt) [c a, c (a + 1), c (a + 2), c (a + 3)] Y n' h1
    have l2 := wr_len (o := 1) (h := byt) [c (a + 4), c (a + 4 + 1), c (a + 4 + 2), c (a + 4 + 3)] _ _ l1
    have l3 := wr_len (o := 1) (h := byt) [c (a + 8), c (a + 8 + 1), c (a + 8 + 2), c (a + 8 + 3)] _ _ l2
    have l4 := wr_len (o := 1) (h := byt) [c (a + 12), c (a + 12 + 1), c (a + 12 + 2), c (a + 12 + 3)] _ _ l3
    have l5 := wr_len (o := 1) (h := byt) [c (a + 16), c (a + 16 + 1), c (a + 16 + 2), c (a + 16 + 3)] _ _ l4
    have z : ∀ q, [c q, c (q + 1), c (q + 2), c (q + 3)].length = 4 := fun _ => rfl
    rw [z] at l1
    rw [z, z] at l2
    rw [z, z, z] at l3
    rw [z, z, z, z] at l4
    rw [z, z, z, z, z] at l5
    unfold X11_append
    rw [h1, if_pos (by exact (nI_leI (b := 680) (by omega) (by omega)).mpr h), hf a _ h1 (by omega), bd1_e, hf (a + 4) _ l1 (by omega), bd1_e, hf (a + 8) _ l2 (by omega), bd1_e, hf (a + 12) _ l3 (by omega), bd1_e, hf (a + 16) _ l4 (by omega), bd1_e, l5, hl, wr_app, wr_app, wr_app, wr_app]
    simp only [List.length_append, z, Nat.add_assoc]
  have z4 : (wr Y 5 0 1 1 byt n' l) 10 0 0 4 = nI n' := by rw [wr_o (by omega)]; exact h2
  refine ⟨_, wr (up (wr Y 5 0 1 1 byt n' l) 10 0 0 9 0) 10 0 3 4 nI n' l, hcl, fun k hk => ?_, ?_, ?_, fun j hj => ?_, fun i hi => ?_, fun k g o hk => ?_, ?_⟩
  · funext g o
    rw [wr_o (by omega), up_eq, upR_o (by omega)]
  · refine Inv_txt hI (fun k g o h1 h2 => ?_) (fun x h4 h9 => ?_) ⟨n' + 20, by omega, ?_, ?_, fun j hj => ?_⟩
    · rw [wr_o (by omega), up_eq, upR_o (by omega), wr_o (by omega)]
    · rw [wr_0 (by omega) h4, up9_x _ _ h9, wr_o (by omega)]
    · rw [wr_o (by omega), up_eq, upR_o (by omega), wr_len _ _ _ h1, ks]
    · rw [wr_len _ _ n' (by rw [up9_x _ _ (by omega)]; exact z4), ks]
    · by_cases hjn : j < n'
      · obtain ⟨x, x1, x2, x3⟩ := h3 j hjn
        refine ⟨x, x1, ?_, ?_⟩
        · rw [wr_lt (by omega) _ _ _ hjn, up_eq, upR_o (by omega), wr_o (by omega)]; exact x2
        · rw [wr_o (by omega), up_eq, upR_o (by omega), wr_lt (by omega) _ _ _ hjn]; exact x3
      · obtain ⟨i, rfl⟩ : ∃ i, j = n' + i := ⟨j - n', by omega⟩
        have hi : i < l.length := by omega
        have hg := List.getElem?_eq_getElem hi
        refine ⟨l[i], bs _ (List.getElem_mem hi), ?_, ?_⟩
        · exact wr_in (by omega) _ _ _ _ _ hg
        · rw [wr_o (by omega), up_eq, upR_o (by omega)]
          exact wr_in (by omega) _ _ _ _ _ hg
  · rw [wr_len _ _ _ h1, ks]
  · exact wr_lt (by omega) _ _ _ hj
  · exact wr_in (by omega) _ _ _ _ _ (li i hi)
  · by_cases h5 : k = 5 ∧ g = 0
    · exact absurd h5 hk
    · exact wr_o (by omega) _ _ _
  · rw [wr_o (by omega), up_eq, upR_o (by omega), wr_o (by omega)]
/-- truncate -/
theorem a_truncate {Y : Mem} (hI : Inv Y) {n t : Nat} (h1 : Y 5 0 0 1 = nI n) (ht : t ≤ n) (h7 : n ≤ 700) : ∃ Ym, X11_truncate Y (nI t) = some (nI t, up Y 5 0 0 1 (nI t)) ∧ (∀ k, k ≠ 10 → Ym k = (up Y 5 0 0 1 (nI t)) k) ∧ Inv Ym ∧ Ym 10 0 1 = Y 10 0 1 := by
  obtain ⟨n', n7, h1', h2, h3⟩ := Inv_X hI
  obtain rfl : n' = n := (nI_eq (by omega) (by omega)).mp (h1'.symm.trans h1)
  have h : decide ((0 : Int32) ≤ nI t ∧ nI t ≤ nI n') = true := decide_eq_true ⟨nI_pos' (by omega), (nI_leI (by omega) (by omega)).mpr ht⟩
  refine ⟨up (up (up Y 5 0 0 1 (nI t)) 10 0 0 9 0) 10 0 0 4 (nI t), ?_, fun k hk => ?_, ?_, ?_⟩
  · unfold X11_truncate
    rw [h1, within_ok, bd1_e, h, bI_t, if_neg (by decide), lt_e]
  · funext g o
    rw [up_eq, upR_o (by omega), up_eq, upR_o (by omega)]
  · refine Inv_txt hI (fun k g o q1 q2 => ?_) (fun x h4 h9 => ?_) ⟨t, by omega, ?_, ?_, fun j hj => ?_⟩
    · rw [up_eq, upR_o (by omega), up_eq, upR_o (by omega), up_eq, upR_o (by omega)]
    · rw [up_at, pk_un h4, up9_x _ _ h9, up_eq, upR_o (by omega)]
    · rw [up_eq, upR_o (by omega), up_eq, upR_o (by omega), up_at, pk_us]
    · rw [up_at, pk_us]
    · obtain ⟨x, x1, x2, x3⟩ := h3 j (by omega)
      refine ⟨x, x1, ?_, ?_⟩
      · rw [up_eq, upR_o (by omega), up_eq, upR_o (by omega), up_eq, upR_o (by omega)]; exact x2
      · rw [up_eq, upR_o (by omega), up_eq, upR_o (by omega), up_eq, upR_o (by omega)]; exact x3
  · rw [up_eq, upR_o (by omega), up_eq, upR_o (by omega), up_eq, upR_o (by omega)]
