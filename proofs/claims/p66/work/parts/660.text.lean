section
/-! BYTES, TEXTS that are written -/
theorem b_255 : ∀ i, i < 32 → bt 255 i = decide (i < 8) := by decide +kernel
theorem u_l : ∀ n, n < 32 → ((((nI n).toUInt32 &&& Int32.toUInt32 31)).toBitVec % 32).toNat = n := by decide +kernel
theorem b_us (n : Nat) (hn : n < 32) (x : Int32) (i : Nat) : bt (us x (nI n)) i = bt x (n + i) := by
  unfold bt us
  show (x.toUInt32 >>> ((nI n).toUInt32 &&& Int32.toUInt32 31)).toBitVec.getLsbD i = _
  rw [UInt32.toBitVec_shiftRight]
  show (x.toBitVec >>> ((((nI n).toUInt32 &&& Int32.toUInt32 31)).toBitVec % 32).toNat).getLsbD i = _
  rw [u_l n hn, BitVec.getLsbD_ushiftRight]
theorem byt_8 : ∀ b, b < 256 → (nI b).toInt8.toInt32 = byt b := by decide +kernel
theorem byte_of (x : Int32) : ∃ b, b < 256 ∧ x &&& 255 = nI b ∧ x.toInt8.toInt32 = byt b := by
  have hlt : (x &&& 255).toBitVec.toNat < 256 := by
    rw [Int32.toBitVec_and]
    show x.toBitVec.toNat &&& 255 < 256
    exact Nat.lt_of_le_of_lt Nat.and_le_right (by decide)
  have e : x &&& 255 = nI (x &&& 255).toBitVec.toNat := by
    apply Int32.toBitVec_inj.mp
    apply BitVec.eq_of_toNat_eq
    show _ = (BitVec.ofNat 32 _).toNat
    rw [BitVec.toNat_ofNat]
    exact (Nat.mod_eq_of_lt (BitVec.isLt _)).symm
  refine ⟨_, hlt, e, ?_⟩
  rw [← byt_8 _ hlt, ← e]
  congr 1
  apply Int8.toBitVec_inj.mp
  apply BitVec.eq_of_getLsbD_eq
  intro i hi
  show (x.toBitVec.signExtend 8).getLsbD i = ((x &&& 255).toBitVec.signExtend 8).getLsbD i
  rw [BitVec.getLsbD_signExtend, BitVec.getLsbD_signExtend]
  have h := b_and x 255 i
  unfold bt at h
  have h2 := b_255 i (by omega)
  unfold bt at h2
  rw [if_pos (show i < 32 by omega), if_pos (show i < 32 by omega), h, h2, decide_eq_true hi, Bool.and_true]
theorem byte_sh (x : Int32) {k : Nat} (hk : k ≤ 24) : ∃ b, b < 256 ∧ (x >>> (nI k &&& 31)) &&& 255 = nI b ∧ (us x (nI k)).toInt8.toInt32 = byt b := by
  obtain ⟨b, h1, h2, h3⟩ := byte_of (us x (nI k))
  refine ⟨b, h1, ?_, h3⟩
  rw [← h2]
  apply Int32.toBitVec_inj.mp
  apply BitVec.eq_of_getLsbD_eq
  intro i hi
  have e1 := b_and (x >>> (nI k &&& 31)) 255 i
  have e2 := b_and (us x (nI k)) 255 i
  unfold bt at e1 e2
  rw [e1, e2]
  have h4 := b_255 i hi
  unfold bt at h4
  rw [h4]
  by_cases h8 : i < 8
  · have f1 := b_sshr k (by omega) x hi
    have f2 := b_us k (by omega) x i
    unfold bt at f1 f2
    rw [f1, f2, if_pos (by omega)]
  · rw [decide_eq_false h8, Bool.and_false, Bool.and_false]
theorem byt_id : ∀ b, b < 256 → (byt b).toInt8.toInt32 = byt b := by decide +kernel
theorem nar_b {b : Nat} (hb : b < 256) : vp_nar .byte (byt b) = byt b := by rw [vp_nar_byte, byt_id b hb]
/-- bytes written one after another: row (k, g, o), number of bytes in slot j of (k, g, 0) -/
def wr (Y : Mem) (k g o j : Nat) (h : Nat → Int32) : Nat → List Nat → Mem
  | _, [] => Y
  | n, b :: bs => wr (up (up Y k g o n (h b)) k g 0 j (nI (n + 1))) k g o j h (n + 1) bs
theorem wr_n (Y : Mem) (k g o j : Nat) (h : Nat → Int32) (n : Nat) : wr Y k g o j h n [] = Y := by unfold wr; rfl
theorem wr_c (Y : Mem) (k g o j : Nat) (h : Nat → Int32) (n b : Nat) (bs : List Nat) : wr Y k g o j h n (b :: bs) = wr (up (up Y k g o n (h b)) k g 0 j (nI (n + 1))) k g o j h (n + 1) bs := by rw [wr.eq_2]
theorem wr_app {k g o j : Nat} {h : Nat → Int32} : ∀ (l r : List Nat) (Y : Mem) (n : Nat), wr Y k g o j h n (l ++ r) = wr (wr Y k g o j h n l) k g o j h (n + l.length) r := by
  intro l
  induction l with
  | nil => intro r Y n; rw [wr_n]; rfl
  | cons b l ih =>
    intro r Y n
    rw [List.cons_append, wr_c, wr_c, ih, List.length_cons, show n + (l.length + 1) = n + 1 + l.length by omega]
theorem wr_o {k g o j : Nat} {h : Nat → Int32} {k' g' o' : Nat} (hk : ¬ (k' = k ∧ g' = g ∧ (o' = o ∨ o' = 0))) : ∀ (l : List Nat) (Y : Mem) (n : Nat), wr Y k g o j h n l k' g' o' = Y k' g' o' := by
  intro l
  induction l with
  | nil => intro Y n; rw [wr_n]
  | cons b l ih => intro Y n; rw [wr_c, ih, up_eq, upR_o (by omega), up_eq, upR_o (by omega)]
theorem wr_0 {k g o j x : Nat} {h : Nat → Int32} (ho : o ≠ 0) (hx : x ≠ j) : ∀ (l : List Nat) (Y : Mem) (n : Nat), wr Y k g o j h n l k g 0 x = Y k g 0 x := by
  intro l
  induction l with
  | nil => intro Y n; rw [wr_n]
  | cons b l ih => intro Y n; rw [wr_c, ih, up_at, pk_un hx, up_eq, upR_o (by omega)]
theorem wr_len {k g o j : Nat} {h : Nat → Int32} : ∀ (l : List Nat) (Y : Mem) (n : Nat), Y k g 0 j = nI n → wr Y k g o j h n l k g 0 j = nI (n + l.length) := by
  intro l
  induction l with
  | nil => intro Y n hn; rw [wr_n]; exact hn
  | cons b l ih => intro Y n hn; rw [wr_c, ih _ _ (by rw [up_at, pk_us]), List.length_cons, show n + 1 + l.length = n + (l.length + 1) by omega]
theorem wr_lt {k g o j i : Nat} {h : Nat → Int32} (ho : o ≠ 0) : ∀ (l : List Nat) (Y : Mem) (n : Nat), i < n → wr Y k g o j h n l k g o i = Y k g o i := by
  intro l
  induction l with
  | nil => intro Y n hn; rw [wr_n]
  | cons b l ih => intro Y n hn; rw [wr_c, ih _ _ (by omega), up_eq, upR_o (by omega), up_at, pk_un (by omega)]
theorem wr_in {k g o j : Nat} {h : Nat → Int32} (ho : o ≠ 0) : ∀ (l : List Nat) (Y : Mem) (n i b : Nat), l[i]? = some b → wr Y k g o j h n l k g o (n + i) = h b := by
  intro l
  induction l with
  | nil => intro Y n i b hb; simp at hb
  | cons c l ih =>
    intro Y n i b hb
    rw [wr_c]
    cases i with
    | zero =>
      rw [List.getElem?_cons_zero, Option.some.injEq] at hb
      subst hb
      rw [wr_lt ho _ _ _ (by omega), up_eq, upR_o (by omega), up_at, Nat.add_zero, pk_us]
    | succ i =>
      rw [List.getElem?_cons_succ] at hb
      rw [show n + (i + 1) = n + 1 + i by omega]
      exact ih _ _ _ _ hb
theorem addB_ok (Y : Mem) {g n b : Nat} {v : Int32} (hn : Y 5 g 0 1 = nI n) (hlt : n < tcap g) (hb : b < 256) (hv : v.toInt8.toInt32 = byt b) : X9_addByte Y g v = some (wr Y 5 g 1 1 byt n [b]) := by
  have ht : tcap g ≤ 700 := by unfold tcap; split <;> omega
  unfold X9_addByte
  rw [hn, show Int32.ofNat (tcap g) = nI (tcap g) from rfl, if_neg (by rw [nI_leI (by omega) (by omega)]; omega), gd_t (inb_n hlt (by omega)), ix_n (by omega), hv, nar_b hb, lt_e, up_eq _ 5 g 1, upR_o (by omega), hn, nI_1, lt_e, wr_c, wr_n, up_eq _ 5 g 1]
theorem put_ok (Z : Mem) {n b : Nat} (hn : Z 10 0 0 8 = nI n) (hlt : n < 150) : M12_put Z (nI b) = some (wr Z 10 0 4 8 nI n [b]) := by
  unfold M12_put
  rw [hn, gd_t (inb_n hlt (by omega)), ix_n (by omega), lt_e, up_eq _ 10 0 4, upR_o (by omega), hn, nI_1, lt_e, wr_c, wr_n, up_eq _ 10 0 4]
/-! append -/
theorem apB_s (a : Int32) {Z : Mem} {n b k : Nat} (f : Nat) (hk : k < 2 ^ 30) (hn : Z 10 0 0 4 = nI n) (hlt : n < 700) (hb : (a >>> (nI k &&& 31)) &&& 255 = nI b) : M12_appendWord_b3 a (f + 1) Z (nI k) = M12_appendWord_b3 a f (wr Z 10 0 3 4 nI n [b]) (nI k + (-8)) := by
  rw [M12_appendWord_b3.eq_2, if_neg (by show ¬ nI k < nI 0; rw [nI_ltI (by omega) (by omega)]; omega), hn, gd_t (inb_n hlt (by omega)), ix_n (by omega), hb, lt_e, up_eq _ 10 0 3, upR_o (by omega), hn, nI_1, lt_e, wr_c, wr_n, up_eq _ 10 0 3]
theorem apW_ok (a : Int32) : ∃ bs : List Nat, bs.length = 4 ∧ (∀ b ∈ bs, b < 256) ∧ (∀ Y n, Y 5 0 0 1 = nI n → n + 4 ≤ 700 → X9_addFourBytes Y 0 a = some (wr Y 5 0 1 1 byt n bs)) ∧ ∀ Z n, Z 10 0 0 4 = nI n → n + 4 ≤ 700 → M12_appendWord Z a = some (wr Z 10 0 3 4 nI n bs) := by
  obtain ⟨b0, q0, r0, s0⟩ := byte_sh a (k := 24) (by omega)
  obtain ⟨b1, q1, r1, s1⟩ := byte_sh a (k := 16) (by omega)
  obtain ⟨b2, q2, r2, s2⟩ := byte_sh a (k := 8) (by omega)
  obtain ⟨b3, q3, r3, -⟩ := byte_sh a (k := 0) (by omega)
  obtain ⟨b3', q3', r3', s3'⟩ := byte_of a
  have eb : b3 = b3' := by
    have e : (a >>> (nI 0 &&& 31)) &&& 255 = a &&& 255 := by
      apply b_ext
      intro i hi
      rw [b_and, b_and, b_sshr 0 (by omega) a hi, if_pos (by omega), Nat.zero_add]
    rw [e, r3'] at r3
    exact ((nI_eq (by omega) (by omega)).mp r3).symm
  subst eb
  have t7 : tcap 0 = 700 := rfl
  refine ⟨[b0, b1, b2, b3], rfl, ?_, fun Y n hn h7 => ?_, fun Z n hn h7 => ?_⟩
  · intro b hb
    simp only [List.mem_cons, List.not_mem_nil, or_false] at hb
    omega
  · unfold X9_addFourBytes
    have l1 := wr_len (o := 1) (h := byt) [b0] Y n hn
    have l2 := wr_len (o := 1) (h := byt) [b1] _ _ l1
    have l3 := wr_len (o := 1) (h := byt) [b2] _ _ l2
    have s0' : (us a 24).toInt8.toInt32 = byt b0 := s0
    have s1' : (us a 16).toInt8.toInt32 = byt b1 := s1
    have s2' : (us a 8).toInt8.toInt32 = byt b2 := s2
    rw [addB_ok Y hn (by omega) q0 s0', bd1_e, addB_ok _ l1 (by rw [t7, List.length_singleton]; omega) q1 s1', bd1_e, addB_ok _ l2 (by rw [t7, List.length_singleton, List.length_singleton]; omega) q2 s2', bd1_e, addB_ok _ l3 (by rw [t7, List.length_singleton, List.length_singleton, List.length_singleton]; omega) q3' s3', bd1_e]
    simp only [wr_c, wr_n, List.length_singleton]
  · unfold M12_appendWord
    obtain ⟨f, hf⟩ : ∃ f, FU = f + 5 := ⟨FU - 5, by have := FU_big; omega⟩
    have l1 := wr_len (o := 3) (h := nI) [b0] Z n hn
    have l2 := wr_len (o := 3) (h := nI) [b1] _ _ l1
    have l3 := wr_len (o := 3) (h := nI) [b2] _ _ l2
    rw [hf, show M12_appendWord_b3 a (f + 5) Z 24 = _ from apB_s a (k := 24) (f + 4) (by omega) hn (by omega) r0]
    rw [show M12_appendWord_b3 a (f + 4) (wr Z 10 0 3 4 nI n [b0]) (nI 24 + (-8)) = _ from apB_s a (k := 16) (f + 3) (by omega) l1 (by rw [List.length_singleton]; omega) r1]
    rw [show M12_appendWord_b3 a (f + 3) _ (nI 16 + (-8)) = _ from apB_s a (k := 8) (f + 2) (by omega) l2 (by rw [List.length_singleton, List.length_singleton]; omega) r2]
    rw [show M12_appendWord_b3 a (f + 2) _ (nI 8 + (-8)) = _ from apB_s a (k := 0) (f + 1) (by omega) l3 (by rw [List.length_singleton, List.length_singleton, List.length_singleton]; omega) r3]
    rw [M12_appendWord_b3.eq_2, if_pos (by decide)]
    simp only [wr_c, wr_n, List.length_singleton]
theorem QM_txt {Y Z : Mem} (hk : ∀ k g o, ¬ (k = 10 ∧ g = 0 ∧ (o = 0 ∨ o = 3)) → Z k g o = Y k g o) (h0 : ∀ x, x ≠ 4 → x ≠ 9 → Z 10 0 0 x = Y 10 0 0 x) : (∀ k, k ≠ 10 → Z k = Y k) ∧ Z 10 0 1 = Y 10 0 1 ∧ Z 10 0 2 = Y 10 0 2 ∧ Z 10 0 4 = Y 10 0 4 ∧ ∀ x, x ≠ 4 → x ≠ 9 → Z 10 0 0 x = Y 10 0 0 x :=
  ⟨fun k h => by funext g o; exact hk k g o (by omega), hk 10 0 1 (by omega), hk 10 0 2 (by omega), hk 10 0 4 (by omega), h0⟩
/-- a change of nothing but the text -/
theorem Inv_txt {Y Y' : Mem} (hI : Inv Y) (hk : ∀ k g o, ¬ (k = 10 ∧ g = 0 ∧ (o = 0 ∨ o = 3)) → ¬ (k = 5 ∧ g = 0) → Y' k g o = Y k g o) (h0 : ∀ x, x ≠ 4 → x ≠ 9 → Y' 10 0 0 x = Y 10 0 0 x) (hT : TX Y') : Inv Y' := by
  have ek : ∀ k, k ≠ 10 → k ≠ 5 → Y' k = Y k := fun k h1 h2 => by funext g o; exact hk k g o (by omega) (by omega)
  refine Inv_gen hI ⟨by rw [ek 1 (by omega) (by omega)], ek 0 (by omega) (by omega), ek 9 (by omega) (by omega), by rw [ek 3 (by omega) (by omega)], by rw [ek 4 (by omega) (by omega)], by rw [ek 4 (by omega) (by omega)], fun g _ => by rw [ek 2 (by omega) (by omega)], h0 2 (by omega) (by omega), hk 10 0 2 (by omega) (by omega), fun x _ _ => by rw [hk 10 0 1 (by omega) (by omega)]⟩ ?_ hT ?_ ?_
  · rw [ek 2 (by omega) (by omega), hk 10 0 1 (by omega) (by omega)]; exact Inv_KS hI
  · exact ER_cells (ek 6 (by omega) (by omega)) (h0 5 (by omega) (by omega)) (h0 6 (by omega) (by omega)) (Inv_E hI)
  · exact OU_cells (by funext o; exact hk 5 1 o (by omega) (by omega)) (h0 8 (by omega) (by omega)) (hk 10 0 4 (by omega) (by omega)) (Inv_O hI)
theorem q_append {Y : Mem} (hI : Inv Y) (a b c d e : Int32) : R1 (T11_append Y a b c d e) (fun Y => M12_append Y a b c d e) c1_ := by
  obtain ⟨n, n7, h1, h2, h3⟩ := Inv_X hI
  by_cases h : n ≤ 680
  · obtain ⟨la, ka, ba, ca, ma⟩ := apW_ok a
    obtain ⟨lb, kb, bb, cb, mb⟩ := apW_ok b
    obtain ⟨lc, kc, bc, cc, mc⟩ := apW_ok c
    obtain ⟨ld, kd, bd, cd, md⟩ := apW_ok d
    obtain ⟨le, ke, be, ce, me⟩ := apW_ok e
    right
    have ks : (la ++ lb ++ lc ++ ld ++ le).length = 20 := by simp only [List.length_append]; omega
    have bs : ∀ x ∈ (la ++ lb ++ lc ++ ld ++ le), x < 256 := by
      intro x hx
      simp only [List.mem_append] at hx
      rcases hx with (((hx | hx) | hx) | hx) | hx
      · exact ba x hx
      · exact bb x hx
      · exact bc x hx
      · exact bd x hx
      · exact be x hx
    have hc : T11_append Y a b c d e = some (.inr (nI (n + 20), wr Y 5 0 1 1 byt n (la ++ lb ++ lc ++ ld ++ le))) := by
      have l1 := wr_len (o := 1) (h := byt) la Y n h1
      have l2 := wr_len (o := 1) (h := byt) lb _ _ l1
      have l3 := wr_len (o := 1) (h := byt) lc _ _ l2
      have l4 := wr_len (o := 1) (h := byt) ld _ _ l3
      have l5 := wr_len (o := 1) (h := byt) le _ _ l4
      unfold T11_append
      rw [h1, if_pos (by exact (nI_leI (b := 680) (by omega) (by omega)).mpr h), ca _ _ h1 (by omega), bd1_e, cb _ _ l1 (by omega), bd1_e, cc _ _ l2 (by omega), bd1_e, cd _ _ l3 (by omega), bd1_e, ce _ _ l4 (by omega), bd1_e, l5]
      rw [wr_app, wr_app, wr_app, wr_app]
      simp only [List.length_append]
      rw [show n + la.length + lb.length + lc.length + ld.length + le.length = n + 20 by omega]
      simp only [Nat.add_assoc]
    have hm : ∀ Z, Z 10 0 0 4 = nI n → M12_append Z a b c d e = some (nI (n + 20), wr (up Z 10 0 0 9 0) 10 0 3 4 nI n (la ++ lb ++ lc ++ ld ++ le)) := by
      intro Z hz
      have l0 : (up Z 10 0 0 9 0) 10 0 0 4 = nI n := by rw [up9_x _ _ (by omega)]; exact hz
      have l1 := wr_len (o := 3) (h := nI) la _ n l0
      have l2 := wr_len (o := 3) (h := nI) lb _ _ l1
      have l3 := wr_len (o := 3) (h := nI) lc _ _ l2
      have l4 := wr_len (o := 3) (h := nI) ld _ _ l3
      have l5 := wr_len (o := 3) (h := nI) le _ _ l4
      have h20 : nI n + 20 = nI (n + 20) := nI_add n 20
      unfold M12_append M12_append_b19
      rw [hz, h20, if_pos (by exact (nI_leI (b := 700) (by omega) (by omega)).mpr (by omega)), fails_000, bd2_e, if_pos rfl, ma _ _ l0 (by omega), bd1_e, mb _ _ l1 (by omega), bd1_e, mc _ _ l2 (by omega), bd1_e, md _ _ l3 (by omega), bd1_e, me _ _ l4 (by omega), bd1_e, l5]
      rw [wr_app, wr_app, wr_app, wr_app]
      simp only [List.length_append]
      rw [show n + la.length + lb.length + lc.length + ld.length + le.length = n + 20 by omega]
      simp only [Nat.add_assoc]
    generalize la ++ lb ++ lc ++ ld ++ le = l at ks bs hc hm
    have z4 : (wr Y 5 0 1 1 byt n l) 10 0 0 4 = nI n := by rw [wr_o (by omega)]; exact h2
    refine ⟨nI (n + 20), _, hc, _, hm _ z4, ?_, ?_⟩
    · rw [wr_0 (by omega) (by omega), up9_9]
    · refine Inv_txt hI (fun k g o h1 h2 => ?_) (fun x h4 h9 => ?_) ⟨n + 20, by omega, ?_, ?_, fun j hj => ?_⟩
      · rw [wr_o (by omega), up_eq, upR_o (by omega), wr_o (by omega)]
      · rw [wr_0 (by omega) h4, up9_x _ _ h9, wr_o (by omega)]
      · rw [wr_o (by omega), up_eq, upR_o (by omega), wr_len _ _ _ h1, ks]
      · rw [wr_len _ _ n (by rw [up9_x _ _ (by omega)]; exact z4), ks]
      · by_cases hjn : j < n
        · obtain ⟨x, x1, x2, x3⟩ := h3 j hjn
          refine ⟨x, x1, ?_, ?_⟩
          · rw [wr_lt (by omega) _ _ _ hjn, up_eq, upR_o (by omega), wr_o (by omega)]; exact x2
          · rw [wr_o (by omega), up_eq, upR_o (by omega), wr_lt (by omega) _ _ _ hjn]; exact x3
        · obtain ⟨i, rfl⟩ : ∃ i, j = n + i := ⟨j - n, by omega⟩
          have hi : i < l.length := by omega
          have hg := List.getElem?_eq_getElem hi
          refine ⟨l[i], bs _ (List.getElem_mem hi), ?_, ?_⟩
          · exact wr_in (by omega) _ _ _ _ _ hg
          · rw [wr_o (by omega), up_eq, upR_o (by omega)]
            exact wr_in (by omega) _ _ _ _ _ hg
  · have h20 : nI n + 20 = nI (n + 20) := nI_add n 20
    refine R1l hI 1 1 (by decide) (by decide) ?_ ?_
    · unfold T11_append
      rw [h1, if_neg (by exact fun q => h ((nI_leI (b := 680) (by omega) (by omega)).mp q))]
    · show M12_append Y a b c d e = _
      unfold M12_append M12_append_b19
      rw [h2, h20, if_neg (by exact fun q => h (by have := (nI_leI (a := n + 20) (b := 700) (by omega) (by omega)).mp q; omega)), fails_1, bd2_e, if_neg (by decide)]
theorem q_truncate {Y : Mem} (hI : Inv Y) (a : Int32) : R1 (T11_truncate Y a) (fun Y => M12_truncate Y a) c2_ := by
  obtain ⟨n, n7, h1, h2, h3⟩ := Inv_X hI
  by_cases h : decide ((0 : Int32) ≤ a ∧ a ≤ nI n) = true
  · obtain ⟨t, t1, t2, rfl⟩ := rng_n (a := a) (lo := 0) (hi := n) (by omega) (of_decide_eq_true h) (by omega)
    right
    refine ⟨nI t, up Y 5 0 0 1 (nI t), ?_, up (up (up Y 5 0 0 1 (nI t)) 10 0 0 9 0) 10 0 0 4 (nI t), ?_, ?_, ?_⟩
    · unfold T11_truncate
      rw [h1, within_ok, bd1_e, h, bI_t, if_neg (by decide), lt_e]
    · show M12_truncate (up Y 5 0 0 1 (nI t)) (nI t) = _
      unfold M12_truncate M12_truncate_b18
      rw [up_eq, upR_o (by omega), h2, in_ok, bd1_e, h, bI_t, if_neg (by decide), fails_000, bd2_e, if_pos rfl, lt_e]
    · rw [up_at, pk_un (by omega), up9_9]
    · refine Inv_txt hI (fun k g o q1 q2 => ?_) (fun x h4 h9 => ?_) ⟨t, by omega, ?_, ?_, fun j hj => ?_⟩
      · rw [up_eq, upR_o (by omega), up_eq, upR_o (by omega), up_eq, upR_o (by omega)]
      · rw [up_at, pk_un h4, up9_x _ _ h9, up_eq, upR_o (by omega)]
      · rw [up_eq, upR_o (by omega), up_eq, upR_o (by omega), up_at, pk_us]
      · rw [up_at, pk_us]
      · obtain ⟨x, x1, x2, x3⟩ := h3 j (by omega)
        refine ⟨x, x1, ?_, ?_⟩
        · rw [up_eq, upR_o (by omega), up_eq, upR_o (by omega), up_eq, upR_o (by omega)]; exact x2
        · rw [up_eq, upR_o (by omega), up_eq, upR_o (by omega), up_eq, upR_o (by omega)]; exact x3
  · rw [Bool.not_eq_true] at h
    refine R1l hI 2 1 (by decide) (by decide) ?_ ?_
    · unfold T11_truncate
      rw [h1, within_ok, bd1_e, h, bI_f, if_pos rfl]
    · show M12_truncate Y a = _
      unfold M12_truncate M12_truncate_b18
      rw [h2, in_ok, bd1_e, h, bI_f, if_pos rfl, fails_1, bd2_e, if_neg (by decide)]
theorem q_outputByte {Y : Mem} (hI : Inv Y) (a : Int32) : R1 (T11_outputByte Y a) (fun Y => M12_outputByte Y a) c3 := by
  obtain ⟨n, n7, h1, h2, h3⟩ := Inv_O hI
  have hin : decide ((0 : Int32) ≤ a ∧ a ≤ nI n - 1) = inb a n := in_inb a (by omega)
  cases h : inb a n
  · refine R1l hI 3 1 (by decide) (by decide) ?_ ?_
    · unfold T11_outputByte
      rw [h1, within_ok, bd1_e, hin, h, bI_f, if_pos rfl]
    · show M12_outputByte Y a = _
      unfold M12_outputByte M12_outputByte_b20
      rw [h2, in_ok, bd1_e, hin, h, bI_f, if_pos rfl, fails_1, bd2_e, if_neg (by decide)]
  · obtain ⟨t, t1, rfl⟩ := inb_dec a h
    right
    refine ⟨Y 5 1 1 t, Y, ?_, up Y 10 0 0 9 0, ?_, up9_9 _ _, Inv_QM hI (QM_9 _ _)⟩
    · unfold T11_outputByte
      rw [h1, within_ok, bd1_e, hin, h, bI_t, if_neg (by decide), gd_t (inb_n (n := tcap 1) (by show t < 125; omega) (by decide)), ix_n (by omega)]
    · show M12_outputByte Y (nI t) = _
      unfold M12_outputByte M12_outputByte_b20
      rw [h2, in_ok, bd1_e, hin, h, bI_t, if_neg (by decide), fails_000, bd2_e, if_pos rfl, gdi (show t < 150 by omega), ix_n (by omega), h3 t t1, up_eq, upR_o (by omega)]
theorem ncap_s (r : Nat) : ncap (2 * r + 1) = 14 := by unfold ncap; rw [if_neg (by omega)]
theorem ncap_p (r : Nat) : ncap (2 * r) = 4 := by unfold ncap; rw [if_pos (by omega)]
theorem Inv_N {Y : Mem} (hI : Inv Y) : NM Y (rg Y 0) (Y 10 0 1) := hI.2.2.2.2.2.1
theorem q_nameLetter {Y : Mem} (hI : Inv Y) (a b : Int32) : R1 (T11_nameLetter Y a b) (fun Y => M12_nameLetter Y a b) c3 := by
  have h14 := nS_le hI
  have hR := Inv_R hI
  cases h : inb a (nS (Y 10 0 1))
  · refine R1l hI 3 1 (by decide) (by decide) ?_ ?_
    · unfold T11_nameLetter; rw [rS_out hI h, bdxv_l]
    · show M12_nameLetter Y a b = _
      unfold M12_nameLetter M12_nameLetter_b37 M12_nameLetter_b42
      rw [sS_out hI h, bd1_e, if_pos rfl, fails_1, bd2_e, if_neg (by decide)]
  · obtain ⟨s, hs, rfl⟩ := inb_dec a h
    obtain ⟨n, n1, n6, e1, e2, e3⟩ := (Inv_N hI).2 s hs
    have hin : decide ((0 : Int32) ≤ b ∧ b ≤ nI n - 1) = inb b n := in_inb b (by omega)
    have ho : M12_of Y (nI s) 0 = some (nI n) := by
      have := of_ok Y (s := s) (w := 0) (by omega)
      rw [show fld (Y 10 0 1) s 0 = nI n from e2] at this
      exact this
    cases hb : inb b n
    · refine R1l hI 3 1 (by decide) (by decide) ?_ ?_
      · unfold T11_nameLetter
        rw [rS_in hI hs, bdxv_r, gd2 hR.1.1, gd2 hR.1.1, gd_t (by rw [ncap_s]; exact inb_n (by omega) (by omega)), ix_n (by omega), e1, within_ok, bd1_e, hin, hb, bI_f, if_pos rfl]
      · show M12_nameLetter Y (nI s) b = _
        unfold M12_nameLetter M12_nameLetter_b25 M12_nameLetter_b37 M12_nameLetter_b42
        rw [sS_in hI hs, bd1_e, if_neg (by decide), bd1_e, if_neg (by decide), ho, bd1_e, in_ok, bd1_e, hin, hb, bI_f, if_pos rfl, fails_1, bd2_e, if_neg (by decide)]
    · obtain ⟨k, hk, rfl⟩ := inb_dec b hb
      right
      refine ⟨Y 10 0 1 (46 + s * 24 + 1 + k), Y, ?_, up Y 10 0 0 9 0, ?_, up9_9 _ _, Inv_QM hI (QM_9 _ _)⟩
      · unfold T11_nameLetter
        rw [rS_in hI hs, bdxv_r, gd2 hR.1.1, gd2 hR.1.1, gd_t (by rw [ncap_s]; exact inb_n (by omega) (by omega)), ix_n (by omega), e1, within_ok, bd1_e, hin, hb, bI_t, if_neg (by decide), gdi (show k < 6 by omega), ix_n (by omega), (e3 k hk).1]
      · show M12_nameLetter Y (nI s) (nI k) = _
        unfold M12_nameLetter M12_nameLetter_b25 M12_nameLetter_b42
        have ho2 := of_ok (up Y 10 0 0 9 0) (s := s) (w := 1 + k) (by omega)
        rw [up9_m] at ho2
        rw [sS_in hI hs, bd1_e, if_neg (by decide), bd1_e, if_neg (by decide), ho, bd1_e, in_ok, bd1_e, hin, hb, bI_t, if_neg (by decide), fails_000, bd2_e, if_pos rfl, show (1 : Int32) + nI k = nI (1 + k) from nI_add 1 k, ho2, bd1_e]
        unfold fld
        rw [Nat.add_assoc (46 + s * 24) 1 k]
end
