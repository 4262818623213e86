/-! PHASE 3: THE LAW: its loop -/
theorem sub6 {L : Nat} (h : 6 ≤ L) : nI L - 6 = nI (L - 6) := by
  have h1 : nI (L - 6) + nI 6 = nI L := by rw [nI_add, Nat.sub_add_cancel h]
  rw [← h1]
  exact Int32.add_sub_cancel _ _
theorem len6 {L n : Nat} (hL : L ≤ 3072) (h : 6 * n + 6 ≤ L) : ¬ (nI L - 6 < nI (6 * n)) := by
  rw [sub6 (by omega)]
  exact nI_nlt (by omega) (by omega)
theorem len7 {L n : Nat} (hL : L ≤ 3072) (h : L < 6 * n + 6) (hn : 6 * n ≤ L) : nI L - 6 < nI (6 * n) := by
  by_cases h6 : 6 ≤ L
  · rw [sub6 h6]
    exact nI_lt (by omega) (by omega)
  · obtain rfl : n = 0 := by omega
    rcases (by omega : L = 0 ∨ L = 1 ∨ L = 2 ∨ L = 3 ∨ L = 4 ∨ L = 5) with rfl | rfl | rfl | rfl | rfl | rfl <;> decide
theorem and63 (x : Int32) : ∃ q, q < 64 ∧ x &&& 63 = nI q := by
  have hq : x.toBitVec.toNat &&& 63 ≤ 63 := Nat.and_le_right
  refine ⟨x.toBitVec.toNat &&& 63, by omega, ?_⟩
  apply Int32.toBitVec_inj.mp
  apply BitVec.eq_of_toNat_eq
  rw [Int32.toBitVec_and, BitVec.toNat_and]
  show x.toBitVec.toNat &&& 63 = (BitVec.ofNat 32 (x.toBitVec.toNat &&& 63)).toNat
  rw [BitVec.toNat_ofNat, Nat.mod_eq_of_lt (by omega)]
theorem vin {a j L : Nat} (h : a + j < L) (hL : L ≤ 3072) : vp_in (nI a + nI j) L := by
  rw [nI_add]
  exact nI_in h (by omega)
section
variable {p : Program} {l : Launch} {e : Env} {s : State} {m : MethodId} {args : Array Value} {below : List Frame} {meth : Method} {c : Code} {N0 : Nat} {T : Nat → ClassId} {D : va_G} {ad : Nat → Nat → Nat → Nat} {cells slots : Nat} {Q : State → Prop} {Y : Mem} {b Ln : Nat} {xs : Nat → Int32} {i : Int32}
theorem law_sw (X : LX p s m args meth c N0 T D ad l b Ln xs i cells slots) (hI : Inv Y) (k : ∀ Y' : Mem, Inv Y' → LO p l e s m args below meth c N0 T D ad b i (cells + 2) (slots + 12) Q Y' 3079) {q : Nat} (hq : q < 64) : FW p l e room_1 s m args below meth c 9 N0 T D lawG ad cells slots Q Y 40 [(0, .ref b), (1, .ref (ad 0 0 0)), (2, .ref (ad 10 0 0)), (3, .ref (ad 11 0 0)), (4, .int i)] [.int (nI q)] := by
  match q, hq with
  | 0, _ => exact fw_tabIn X.1 dL_law_40 (by decide) (by decide) (off := 268) (by decide) (tgt := 308) rfl (law_0 X hI k)
  | 1, _ => exact fw_tabIn X.1 dL_law_40 (by decide) (by decide) (off := 372) (by decide) (tgt := 412) rfl (law_1 X hI k)
  | 2, _ => exact fw_tabIn X.1 dL_law_40 (by decide) (by decide) (off := 428) (by decide) (tgt := 468) rfl (law_2 X hI k)
  | 3, _ => exact fw_tabIn X.1 dL_law_40 (by decide) (by decide) (off := 472) (by decide) (tgt := 512) rfl (law_3 X hI k)
  | 4, _ => exact fw_tabIn X.1 dL_law_40 (by decide) (by decide) (off := 485) (by decide) (tgt := 525) rfl (law_4 X hI k)
  | 5, _ => exact fw_tabIn X.1 dL_law_40 (by decide) (by decide) (off := 498) (by decide) (tgt := 538) rfl (law_5 X hI k)
  | 6, _ => exact fw_tabIn X.1 dL_law_40 (by decide) (by decide) (off := 511) (by decide) (tgt := 551) rfl (law_6 X hI k)
  | 7, _ => exact fw_tabIn X.1 dL_law_40 (by decide) (by decide) (off := 524) (by decide) (tgt := 564) rfl (law_7 X hI k)
  | 8, _ => exact fw_tabIn X.1 dL_law_40 (by decide) (by decide) (off := 537) (by decide) (tgt := 577) rfl (law_8 X hI k)
  | 9, _ => exact fw_tabIn X.1 dL_law_40 (by decide) (by decide) (off := 550) (by decide) (tgt := 590) rfl (law_9 X hI k)
  | 10, _ => exact fw_tabIn X.1 dL_law_40 (by decide) (by decide) (off := 563) (by decide) (tgt := 603) rfl (law_10 X hI k)
  | 11, _ => exact fw_tabIn X.1 dL_law_40 (by decide) (by decide) (off := 619) (by decide) (tgt := 659) rfl (law_11 X hI k)
  | 12, _ => exact fw_tabIn X.1 dL_law_40 (by decide) (by decide) (off := 632) (by decide) (tgt := 672) rfl (law_12 X hI k)
  | 13, _ => exact fw_tabIn X.1 dL_law_40 (by decide) (by decide) (off := 645) (by decide) (tgt := 685) rfl (law_13 X hI k)
  | 14, _ => exact fw_tabIn X.1 dL_law_40 (by decide) (by decide) (off := 658) (by decide) (tgt := 698) rfl (law_14 X hI k)
  | 15, _ => exact fw_tabIn X.1 dL_law_40 (by decide) (by decide) (off := 671) (by decide) (tgt := 711) rfl (law_15 X hI k)
  | 16, _ => exact fw_tabIn X.1 dL_law_40 (by decide) (by decide) (off := 727) (by decide) (tgt := 767) rfl (law_16 X hI k)
  | 17, _ => exact fw_tabIn X.1 dL_law_40 (by decide) (by decide) (off := 783) (by decide) (tgt := 823) rfl (law_17 X hI k)
  | 18, _ => exact fw_tabIn X.1 dL_law_40 (by decide) (by decide) (off := 839) (by decide) (tgt := 879) rfl (law_18 X hI k)
  | 19, _ => exact fw_tabIn X.1 dL_law_40 (by decide) (by decide) (off := 895) (by decide) (tgt := 935) rfl (law_19 X hI k)
  | 20, _ => exact fw_tabIn X.1 dL_law_40 (by decide) (by decide) (off := 951) (by decide) (tgt := 991) rfl (law_20 X hI k)
  | 21, _ => exact fw_tabIn X.1 dL_law_40 (by decide) (by decide) (off := 1014) (by decide) (tgt := 1054) rfl (law_21 X hI k)
  | 22, _ => exact fw_tabIn X.1 dL_law_40 (by decide) (by decide) (off := 1077) (by decide) (tgt := 1117) rfl (law_22 X hI k)
  | 23, _ => exact fw_tabIn X.1 dL_law_40 (by decide) (by decide) (off := 1145) (by decide) (tgt := 1185) rfl (law_23 X hI k)
  | 24, _ => exact fw_tabIn X.1 dL_law_40 (by decide) (by decide) (off := 1201) (by decide) (tgt := 1241) rfl (law_24 X hI k)
  | 25, _ => exact fw_tabIn X.1 dL_law_40 (by decide) (by decide) (off := 1276) (by decide) (tgt := 1316) rfl (law_25 X hI k)
  | 26, _ => exact fw_tabIn X.1 dL_law_40 (by decide) (by decide) (off := 1332) (by decide) (tgt := 1372) rfl (law_26 X hI k)
  | 27, _ => exact fw_tabIn X.1 dL_law_40 (by decide) (by decide) (off := 1400) (by decide) (tgt := 1440) rfl (law_27 X hI k)
  | 28, _ => exact fw_tabIn X.1 dL_law_40 (by decide) (by decide) (off := 1444) (by decide) (tgt := 1484) rfl (law_28 X hI k)
  | 29, _ => exact fw_tabIn X.1 dL_law_40 (by decide) (by decide) (off := 1500) (by decide) (tgt := 1540) rfl (law_29 X hI k)
  | 30, _ => exact fw_tabIn X.1 dL_law_40 (by decide) (by decide) (off := 1556) (by decide) (tgt := 1596) rfl (law_30 X hI k)
  | 31, _ => exact fw_tabIn X.1 dL_law_40 (by decide) (by decide) (off := 1612) (by decide) (tgt := 1652) rfl (law_31 X hI k)
  | 32, _ => exact fw_tabIn X.1 dL_law_40 (by decide) (by decide) (off := 1668) (by decide) (tgt := 1708) rfl (law_32 X hI k)
  | 33, _ => exact fw_tabIn X.1 dL_law_40 (by decide) (by decide) (off := 1731) (by decide) (tgt := 1771) rfl (law_33 X hI k)
  | 34, _ => exact fw_tabIn X.1 dL_law_40 (by decide) (by decide) (off := 1756) (by decide) (tgt := 1796) rfl (law_34 X hI k)
  | 35, _ => exact fw_tabIn X.1 dL_law_40 (by decide) (by decide) (off := 1812) (by decide) (tgt := 1852) rfl (law_35 X hI k)
  | 36, _ => exact fw_tabIn X.1 dL_law_40 (by decide) (by decide) (off := 1868) (by decide) (tgt := 1908) rfl (law_36 X hI k)
  | 37, _ => exact fw_tabIn X.1 dL_law_40 (by decide) (by decide) (off := 1924) (by decide) (tgt := 1964) rfl (law_37 X hI k)
  | 38, _ => exact fw_tabIn X.1 dL_law_40 (by decide) (by decide) (off := 1937) (by decide) (tgt := 1977) rfl (law_38 X hI k)
  | 39, _ => exact fw_tabIn X.1 dL_law_40 (by decide) (by decide) (off := 1962) (by decide) (tgt := 2002) rfl (law_39 X hI k)
  | 40, _ => exact fw_tabIn X.1 dL_law_40 (by decide) (by decide) (off := 2018) (by decide) (tgt := 2058) rfl (law_40 X hI k)
  | 41, _ => exact fw_tabIn X.1 dL_law_40 (by decide) (by decide) (off := 2031) (by decide) (tgt := 2071) rfl (law_41 X hI k)
  | 42, _ => exact fw_tabIn X.1 dL_law_40 (by decide) (by decide) (off := 2099) (by decide) (tgt := 2139) rfl (law_42 X hI k)
  | 43, _ => exact fw_tabIn X.1 dL_law_40 (by decide) (by decide) (off := 2155) (by decide) (tgt := 2195) rfl (law_43 X hI k)
  | 44, _ => exact fw_tabIn X.1 dL_law_40 (by decide) (by decide) (off := 2211) (by decide) (tgt := 2251) rfl (law_44 X hI k)
  | 45, _ => exact fw_tabIn X.1 dL_law_40 (by decide) (by decide) (off := 2224) (by decide) (tgt := 2264) rfl (law_45 X hI k)
  | 46, _ => exact fw_tabIn X.1 dL_law_40 (by decide) (by decide) (off := 2268) (by decide) (tgt := 2308) rfl (law_46 X hI k)
  | 47, _ => exact fw_tabIn X.1 dL_law_40 (by decide) (by decide) (off := 2281) (by decide) (tgt := 2321) rfl (law_47 X hI k)
  | 48, _ => exact fw_tabIn X.1 dL_law_40 (by decide) (by decide) (off := 2324) (by decide) (tgt := 2364) rfl (law_48 X hI k)
  | 49, _ => exact fw_tabIn X.1 dL_law_40 (by decide) (by decide) (off := 2365) (by decide) (tgt := 2405) rfl (law_49 X hI k)
  | 50, _ => exact fw_tabIn X.1 dL_law_40 (by decide) (by decide) (off := 2378) (by decide) (tgt := 2418) rfl (law_50 X hI k)
  | 51, _ => exact fw_tabIn X.1 dL_law_40 (by decide) (by decide) (off := 2434) (by decide) (tgt := 2474) rfl (law_51 X hI k)
  | 52, _ => exact fw_tabIn X.1 dL_law_40 (by decide) (by decide) (off := 2490) (by decide) (tgt := 2530) rfl (law_52 X hI k)
  | 53, _ => exact fw_tabIn X.1 dL_law_40 (by decide) (by decide) (off := 2546) (by decide) (tgt := 2586) rfl (law_53 X hI k)
  | 54, _ => exact fw_tabIn X.1 dL_law_40 (by decide) (by decide) (off := 2602) (by decide) (tgt := 2642) rfl (law_54 X hI k)
  | 55, _ => exact fw_tabIn X.1 dL_law_40 (by decide) (by decide) (off := 2658) (by decide) (tgt := 2698) rfl (law_55 X hI k)
  | 56, _ => exact fw_tabIn X.1 dL_law_40 (by decide) (by decide) (off := 2726) (by decide) (tgt := 2766) rfl (law_56 X hI k)
  | 57, _ => exact fw_tabIn X.1 dL_law_40 (by decide) (by decide) (off := 2770) (by decide) (tgt := 2810) rfl (law_57 X hI k)
  | 58, _ => exact fw_tabIn X.1 dL_law_40 (by decide) (by decide) (off := 2814) (by decide) (tgt := 2854) rfl (law_58 X hI k)
  | 59, _ => exact fw_tabIn X.1 dL_law_40 (by decide) (by decide) (off := 2858) (by decide) (tgt := 2898) rfl (law_59 X hI k)
  | 60, _ => exact fw_tabIn X.1 dL_law_40 (by decide) (by decide) (off := 2914) (by decide) (tgt := 2954) rfl (law_60 X hI k)
  | 61, _ => exact fw_tabIn X.1 dL_law_40 (by decide) (by decide) (off := 2970) (by decide) (tgt := 3010) rfl (law_61 X hI k)
  | 62, _ => exact fw_tabIn X.1 dL_law_40 (by decide) (by decide) (off := 2983) (by decide) (tgt := 3023) rfl (law_62 X hI k)
  | 63, _ => exact fw_tabOut X.1 dL_law_40 (Or.inr (by decide)) (tgt := 3079) rfl (fw_widen (Nat.le_add_right _ _) (Nat.le_add_right _ _) (k _ hI))
  | q + 64, h => exact absurd h (by omega)
theorem law_end (C : Cx p s m #[.ref b] meth c code 9 wsN_law RL s.heap.size T D lawG ad) (hr : meth.sig.returnType = ret) (hc : cells ≤ 601024) (hs : slots ≤ 7293034) : LO p l e s m #[.ref b] below meth c s.heap.size T D ad b i cells slots (lw_Z below #[.ref b] s) Y 3085 := by
  refine fw_iconst C dL_law_3085 (v := 1) rfl ?_
  intro H locs ls hP hS hl1
  refine W.widen hc hs ?_
  refine va_forget (fun q hq => hS.2.2 q hq) ?_
  refine W.base ?_
  exact lw_ret (Drawn.sameBut.refl s.drawn lw_cs) C.1 C.2.1 hr C.2.2.2.2.2.2.2.2.1 dL_law_3086
set_option maxHeartbeats 4000000 in
theorem law_loop (C : Cx p s m #[.ref b] meth c code 9 wsN_law RL s.heap.size T D lawG ad) (hE : Exw s) (hl : l.stackTraces = false) (hS : LSx s s.heap.size b Ln xs) (hL : Ln ≤ 3072) (hr : meth.sig.returnType = ret) : ∀ (d n : Nat) (Y : Mem) (cells slots : Nat), n + d = Ln / 6 → Inv Y → cells ≤ 1000 + 2 * n → slots ≤ 100000 + 12 * n → LO p l e s m #[.ref b] below meth c s.heap.size T D ad b (nI (6 * n)) cells slots (lw_Z below #[.ref b] s) Y 23 := by
  intro d
  induction d with
  | zero =>
    intro n Y cells slots hn hI hc hs
    have h6 : 6 * n ≤ Ln ∧ Ln < 6 * n + 6 := by omega
    refine fw_iload C dL_law_23 4 rfl ?_
    refine fw_aload_n C dL_law_25 rfl 0 rfl ?_
    refine fw_slen C hS dL_law_26 ?_
    refine fw_bipush C dL_law_27 (v := 6) (by decide) ?_
    refine fw_isub C dL_law_29 ?_
    refine fw_icmp_gt C dL_law_30 (tgt := 3085) rfl (fun _ => ?_) (fun c1 => absurd (len7 hL h6.2 h6.1) c1)
    exact law_end C hr (by omega) (by omega)
  | succ d ih =>
    intro n Y cells slots hn hI hc hs
    have h6 : 6 * n + 6 ≤ Ln := by omega
    refine fw_iload C dL_law_23 4 rfl ?_
    refine fw_aload_n C dL_law_25 rfl 0 rfl ?_
    refine fw_slen C hS dL_law_26 ?_
    refine fw_bipush C dL_law_27 (v := 6) (by decide) ?_
    refine fw_isub C dL_law_29 ?_
    refine fw_icmp_gt C dL_law_30 (tgt := 3085) rfl (fun c1 => absurd c1 (len6 hL h6)) (fun _ => ?_)
    refine fw_aload_n C dL_law_33 rfl 0 rfl ?_
    refine fw_iload C dL_law_34 4 rfl ?_
    refine fw_sld C hS (nI_in (by omega) (by omega)) dL_law_36 ?_
    refine fw_bipush C dL_law_37 (v := 63) (by decide) ?_
    refine fw_iand C dL_law_39 ?_
    have hX : LX p s m #[.ref b] meth c s.heap.size T D ad l b Ln xs (nI (6 * n)) cells slots := ⟨C, hE, hl, hS, ⟨vin (j := 1) (by omega) hL, vin (j := 2) (by omega) hL, vin (j := 3) (by omega) hL, vin (j := 4) (by omega) hL, vin (j := 5) (by omega) hL⟩, by omega, by omega⟩
    obtain ⟨q, hq, he⟩ := and63 (xs (nI (6 * n)).toNatClampNeg)
    refine fw_topi he ?_
    refine law_sw hX hI (fun Y' hI' => ?_) hq
    refine fw_iinc C dL_law_3079 (kk := 4) (v := nI (6 * (n + 1))) rfl (by rw [show Int32.ofInt 6 = nI 6 by decide, nI_add]; congr 1) (by decide) (L' := [(4, .int (nI (6 * (n + 1)))), (0, .ref b), (1, .ref (ad 0 0 0)), (2, .ref (ad 10 0 0)), (3, .ref (ad 11 0 0))]) rfl ?_
    refine fw_goto C dL_law_3082 (tgt := 23) rfl ?_
    exact fw_sub [1, 2, 3, 4, 0] rfl (ih (n + 1) Y' _ _ (by omega) hI' (by omega) (by omega))
end
