/-! BITS (bt, b_ext .. b_sshr: the kit's text for pasting, laws/BITS) -/
def bt (x : Int32) (i : Nat) : Bool := x.toBitVec.getLsbD i
theorem b_ext {x y : Int32} (h : ∀ i, i < 32 → bt x i = bt y i) : x = y := Int32.toBitVec_inj.mp (BitVec.eq_of_getLsbD_eq (fun i hi => h i hi))
theorem b_or (x y : Int32) (i : Nat) : bt (x ||| y) i = (bt x i || bt y i) := by unfold bt; rw [Int32.toBitVec_or, BitVec.getLsbD_or]
theorem b_and (x y : Int32) (i : Nat) : bt (x &&& y) i = (bt x i && bt y i) := by unfold bt; rw [Int32.toBitVec_and, BitVec.getLsbD_and]
theorem b_xor (x y : Int32) (i : Nat) : bt (x ^^^ y) i = (bt x i ^^ bt y i) := by unfold bt; rw [Int32.toBitVec_xor, BitVec.getLsbD_xor]
theorem b_big {x : Int32} {i : Nat} (h : 32 ≤ i) : bt x i = false := BitVec.getLsbD_of_ge _ _ h
theorem b_m1 : ∀ i, i < 32 → bt (-1) i = true := by decide +kernel
theorem b_0 (i : Nat) : bt 0 i = false := BitVec.getLsbD_zero
theorem s_l : ∀ n, n < 32 → ((nI n &&& 31).toBitVec.smod 32).toNat = n := by decide +kernel
theorem b_shl (n : Nat) (hn : n < 32) (x : Int32) {i : Nat} (hi : i < 32) : bt (x <<< (nI n &&& 31)) i = (decide (n ≤ i) && bt x (i - n)) := by
  unfold bt
  rw [Int32.toBitVec_shiftLeft]
  show (x.toBitVec <<< ((nI n &&& 31).toBitVec.smod 32).toNat).getLsbD i = _
  rw [s_l n hn, BitVec.getLsbD_shiftLeft]
  rcases Nat.lt_or_ge i n with h | h
  · simp [h, Nat.not_le.mpr h]
  · simp [hi, h, Nat.not_lt.mpr h]
theorem b_sshr (n : Nat) (hn : n < 32) (x : Int32) {i : Nat} (hi : i < 32) : bt (x >>> (nI n &&& 31)) i = if n + i < 32 then bt x (n + i) else bt x 31 := by
  unfold bt
  rw [Int32.toBitVec_shiftRight]
  show (x.toBitVec.sshiftRight ((nI n &&& 31).toBitVec.smod 32).toNat).getLsbD i = _
  rw [s_l n hn, BitVec.getLsbD_sshiftRight, BitVec.msb_eq_getLsbD_last]
  simp [hi]
theorem b_1 : ∀ i, i < 32 → bt 1 i = decide (i = 0) := by decide +kernel
theorem b_not (x : Int32) {i : Nat} (hi : i < 32) : bt (x ^^^ (-1)) i = !bt x i := by rw [b_xor, b_m1 i hi]; cases bt x i <;> rfl
theorem b_one (k : Nat) (hk : k < 32) {i : Nat} (hi : i < 32) : bt (1 <<< (nI k &&& 31)) i = decide (i = k) := by
  rw [b_shl k hk 1 hi, b_1 (i - k) (by omega)]
  by_cases h : i = k
  · subst h; simp
  · by_cases h2 : k ≤ i
    · have : ¬ (i - k = 0) := by omega
      simp [h, this]
    · simp [h, h2]
theorem b_z {x : Int32} : x = 0 ↔ ∀ i, i < 32 → bt x i = false := by
  constructor
  · rintro rfl i _; exact b_0 i
  · intro h; exact b_ext fun i hi => by rw [h i hi, b_0]
theorem b_lo {x : Int32} : x &&& 1 = 0 ↔ bt x 0 = false := by
  rw [b_z]
  constructor
  · intro h
    have := h 0 (by omega)
    rw [b_and, b_1 0 (by omega)] at this
    simpa using this
  · intro h i hi
    rw [b_and, b_1 i hi]
    by_cases e : i = 0
    · subst e; rw [h]; rfl
    · simp [e]
theorem contains_ok (Y : Mem) (x : Int32) {k : Nat} (hk : k < 32) : X11_contains Y x (nI k) = some (bI (bt x k)) := by
  unfold X11_contains
  have e : (x >>> (nI k &&& 31)) &&& 1 = 0 ↔ bt x k = false := by
    rw [b_lo, b_sshr k hk x (by omega), if_pos (by omega)]; rfl
  cases h : bt x k
  · rw [if_pos (e.mpr h)]; rfl
  · rw [if_neg (fun q => by rw [e.mp q] at h; cases h)]; rfl
theorem b_all : ∀ n, n < 15 → ∀ i, i < 32 → bt ((1 <<< (nI n &&& 31)) - 1) i = decide (i < n) := by decide +kernel
def bcf (a0 : Int32) : Int32 :=
  let v1 := a0 - ((us a0 1) &&& 1431655765)
  let v3 := (v1 &&& 858993459) + ((us v1 2) &&& 858993459)
  let v5 := (v3 + (us v3 4)) &&& 252645135
  let v7 := v5 + (us v5 8)
  let v9 := v7 + (us v7 16)
  v9 &&& 63
theorem nx_and (a b : Nat) : nI a &&& nI b = nI (a &&& b) := by
  apply Int32.toBitVec_inj.1
  show BitVec.ofNat 32 a &&& BitVec.ofNat 32 b = BitVec.ofNat 32 (a &&& b)
  apply BitVec.eq_of_getLsbD_eq
  intro i hi
  simp [hi]
theorem us_n {a : Nat} (h : a < 2 ^ 32) : us (nI a) (nI 1) = nI (a / 2) ∧ us (nI a) (nI 2) = nI (a / 4) ∧ us (nI a) (nI 4) = nI (a / 16) ∧ us (nI a) (nI 8) = nI (a / 256) ∧ us (nI a) (nI 16) = nI (a / 65536) :=
  ⟨pk_ushrN h _ 1 (by decide), pk_ushrN h _ 2 (by decide), pk_ushrN h _ 4 (by decide), pk_ushrN h _ 8 (by decide), pk_ushrN h _ 16 (by decide)⟩
def bcN (v : Nat) : Nat :=
  let v1 := v - ((v / 2) &&& 1431655765)
  let v3 := (v1 &&& 858993459) + ((v1 / 4) &&& 858993459)
  let v5 := (v3 + v3 / 16) &&& 252645135
  let v7 := v5 + v5 / 256
  let v9 := v7 + v7 / 65536
  v9 &&& 63
theorem bcf_n {v : Nat} (h : v < 16384) : bcf (nI v) = nI (bcN v) := by
  unfold bcf bcN
  simp only [litI]
  have h0 : (v / 2) &&& 1431655765 ≤ v := Nat.le_trans Nat.and_le_left (by omega)
  rw [(us_n (a := v) (by omega)).1, nx_and, pk_sub h0]
  generalize h1 : v - ((v / 2) &&& 1431655765) = v1
  have q1 : v1 < 16384 := by omega
  rw [(us_n (a := v1) (by omega)).2.1, nx_and, nx_and, nI_add]
  generalize h3 : (v1 &&& 858993459) + ((v1 / 4) &&& 858993459) = v3
  have a1 : v1 &&& 858993459 ≤ v1 := Nat.and_le_left
  have a2 : (v1 / 4) &&& 858993459 ≤ v1 / 4 := Nat.and_le_left
  have q3 : v3 < 32768 := by omega
  rw [(us_n (a := v3) (by omega)).2.2.1, nI_add, nx_and]
  generalize h5 : (v3 + v3 / 16) &&& 252645135 = v5
  have a3 : (v3 + v3 / 16) &&& 252645135 ≤ v3 + v3 / 16 := Nat.and_le_left
  have q5 : v5 < 65536 := by omega
  rw [(us_n (a := v5) (by omega)).2.2.2.1, nI_add]
  generalize h7 : v5 + v5 / 256 = v7
  have q7 : v7 < 131072 := by omega
  rw [(us_n (a := v7) (by omega)).2.2.2.2, nI_add, nx_and]
theorem bt_n {v i : Nat} (hi : i < 32) : bt (nI v) i = v.testBit i := by
  show (BitVec.ofNat 32 v).getLsbD i = _
  rw [BitVec.getLsbD_ofNat]
  simp [hi]
theorem bcN_all : ∀ a, a < 128 → ∀ b, b < 128 → bcN (128 * a + b) = cnt (fun i => (128 * a + b).testBit i) 14 := by decide +kernel
theorem b_num {x : Int32} (h : ∀ i, 14 ≤ i → i < 32 → bt x i = false) : ∃ v, v < 16384 ∧ x = nI v := by
  refine ⟨x.toBitVec.toNat, ?_, ?_⟩
  · have : x.toBitVec.toNat < 2 ^ 14 := by
      apply Nat.lt_pow_two_of_testBit
      intro i hi
      by_cases h2 : i < 32
      · exact h i hi h2
      · have := b_big (x := x) (i := i) (by omega)
        exact this
    exact this
  · apply Int32.toBitVec_inj.mp
    show _ = BitVec.ofNat 32 _
    rw [BitVec.ofNat_toNat]
    simp
theorem bitCount_ok (Y : Mem) {x : Int32} (h : ∀ i, 14 ≤ i → i < 32 → bt x i = false) : J6_bitCount_0f7a4 Y x = some (nI (cnt (bt x) 14)) := by
  obtain ⟨v, hv, rfl⟩ := b_num h
  have e := bcN_all (v / 128) (by omega) (v % 128) (by omega)
  have e2 : 128 * (v / 128) + v % 128 = v := by omega
  rw [e2] at e
  have e3 : cnt (bt (nI v)) 14 = cnt (fun i => v.testBit i) 14 := cnt_congr fun i hi => bt_n (by omega)
  rw [e3, ← e, ← bcf_n hv]
  rfl
theorem allSteps_ok (Y : Mem) (g : Nat) {n : Nat} (h : Y 4 (2 * g + 1) 0 2 = nI n) : X5_allSteps Y g = some ((1 <<< (nI n &&& 31)) - 1) := by
  unfold X5_allSteps
  rw [h]
theorem within_ok (Y : Mem) (a lo hi : Int32) : X11_isWithin Y a lo hi = some (bI (decide (lo ≤ a ∧ a ≤ hi))) := in_ok Y a lo hi
