/-! THE LAW's SETUP: the text of a recipe, made out of the script -/
/-- a StringBuilder at b that holds the text t -/
def SBw (T : Nat → ClassId) (b : Nat) (t : List Int32) (w : va_W) : Prop := ∃ v cap f, w = sbW T b v cap t.length f ∧ t.length ≤ cap ∧ cap ≤ 2000 ∧ (∀ j, j < t.length → f j = t.getD j 0) ∧ sb_Fit f
theorem sbq {T : Nat → ClassId} {b : Nat} {t x : List Int32} {f0 : Nat → Int32} {r : Option Nat} {w1 : va_W} (h : r = some b ∧ ∃ v1 cap1 f1, w1 = sbW T b v1 cap1 (t.length + x.length) f1 ∧ t.length + x.length ≤ cap1 ∧ cap1 ≤ 2000 ∧ (∀ j, j < t.length → f1 j = f0 j) ∧ (∀ j, j < x.length → f1 (t.length + j) = x.getD j 0) ∧ sb_Fit f1) (hq : ∀ j, j < t.length → f0 j = t.getD j 0) : r = some b ∧ SBw T b (t ++ x) w1 := by
  obtain ⟨h1, v1, cap1, f1, rfl, h2, h3, h4, h5, h6⟩ := h
  refine ⟨h1, v1, cap1, f1, by rw [List.length_append], by rw [List.length_append]; exact h2, h3, fun j hj => ?_, h6⟩
  rw [List.length_append] at hj
  by_cases e : j < t.length
  · rw [h4 j e, hq j e, List.getD_eq_getElem?_getD, List.getD_eq_getElem?_getD, List.getElem?_append_left e]
  · obtain ⟨q, rfl⟩ : ∃ q, j = t.length + q := ⟨j - t.length, by omega⟩
    rw [h5 q (by omega), List.getD_eq_getElem?_getD, List.getD_eq_getElem?_getD, List.getElem?_append_right (Nat.le_add_right _ _), Nat.add_sub_cancel_left]
theorem sL8 : (sByt 8).length = 7 := by decide +kernel
theorem sL9 : (sByt 9).length = 5 := by decide +kernel
theorem sL10 : (sByt 10).length = 6 := by decide +kernel
theorem sL11 : (sByt 11).length = 5 := by decide +kernel
theorem sL12 : (sByt 12).length = 4 := by decide +kernel
theorem sL13 : (sByt 13).length = 0 := by decide +kernel
theorem sL14 : (sByt 14).length = 6 := by decide +kernel
theorem sL15 : (sByt 15).length = 8 := by decide +kernel
theorem sL16 : (sByt 16).length = 2 := by decide +kernel
theorem dig_le (u : Nat) : (dig u).length ≤ 2 := by
  by_cases h : u < 10
  · rw [dig_lo h]; decide
  · rw [dig_hi h]; decide
theorem i2c_nI {x : Nat} (h : x < 128) : i2c_ (nI x) = nI x := (by decide +kernel : ∀ x, x < 128 → i2c_ (nI x) = nI x) x h
/-- the row of a pan -/
def panT (sf : Nat → Int32) (sl k : Nat) : List Int32 := sByt 9 ++ [nI (97 + k)] ++ [nI 32] ++ dig (1 + pick sf sl (6 + k) 3) ++ [nI 59]
/-- the predecessor that the script names at its i-th place -/
def prB (z i k : Nat) : Nat := z / 2 ^ (13 + 4 * i) % k
def prT (z k : Nat) : Nat → Nat → Nat → List Int32
  | 0, _, _ => []
  | m + 1, i, S => if z / 2 ^ (25 + i) % 2 = 1 ∨ S / 2 ^ prB z i k % 2 = 1 then prT z k m (i + 1) S else (sByt (if S = 0 then 15 else 16) ++ [nI (97 + prB z i k)]) ++ prT z k m (i + 1) (S + 2 ^ prB z i k)
theorem n4i {i : Nat} (h : i < 3) : nI 4 * nI i = nI (4 * i) := (by decide +kernel : ∀ i, i < 3 → nI 4 * nI i = nI (4 * i)) i h
theorem shz13 {z i : Nat} (hi : i < 3) (hz : z < 2 ^ 28) : nI z >>> (nI (13 + 4 * i) &&& 31) = nI (z / 2 ^ (13 + 4 * i)) := pk_shrN (by omega) _ _ ((by decide +kernel : ∀ i, i < 3 → ((nI (13 + 4 * i) &&& 31).toBitVec.smod 32).toNat = 13 + 4 * i) i hi)
theorem shz25 {z i : Nat} (hi : i < 3) (hz : z < 2 ^ 28) : nI z >>> (nI (25 + i) &&& 31) = nI (z / 2 ^ (25 + i)) := pk_shrN (by omega) _ _ ((by decide +kernel : ∀ i, i < 3 → ((nI (25 + i) &&& 31).toBitVec.smod 32).toNat = 25 + i) i hi)
theorem sbit {S q : Nat} (hq : q < 9) (h : S < 512) : (nI S >>> (nI q &&& 31)) &&& nI 1 = nI (S / 2 ^ q % 2) := (by decide +kernel : ∀ q, q < 9 → ∀ S, S < 512 → (nI S >>> (nI q &&& 31)) &&& nI 1 = nI (S / 2 ^ q % 2)) q hq S h
theorem sset {S q : Nat} (hq : q < 9) (h : S < 512) (h2 : S / 2 ^ q % 2 = 0) : nI S ||| (nI 1 <<< (nI q &&& 31)) = nI (S + 2 ^ q) := (by decide +kernel : ∀ q, q < 9 → ∀ S, S < 512 → S / 2 ^ q % 2 = 0 → nI S ||| (nI 1 <<< (nI q &&& 31)) = nI (S + 2 ^ q)) q hq S h h2
theorem sset_lt {S q : Nat} (hq : q < 9) (h : S < 512) (h2 : S / 2 ^ q % 2 = 0) : S + 2 ^ q < 512 := (by decide +kernel : ∀ q, q < 9 → ∀ S, S < 512 → S / 2 ^ q % 2 = 0 → S + 2 ^ q < 512) q hq S h h2
theorem sL_af (S : Nat) : (sByt (if S = 0 then 15 else 16)).length ≤ 8 := by
  by_cases h : S = 0
  · rw [if_pos h, sL15]; exact Nat.le_refl 8
  · rw [if_neg h, sL16]; decide
theorem jc_set56 : (.constant RL 56 268435456 : Cond) ∈ wsL_setup := by decide +kernel
def inT (z pans : Nat) : List Int32 := if 0 < pans ∧ z / 64 % 2 = 0 then sByt 11 ++ [nI (97 + z / 128 % pans)] else []
theorem sL_hot (z : Nat) : (sByt (if z / 512 % 3 = 0 then 12 else 13)).length ≤ 4 := by
  by_cases h : z / 512 % 3 = 0
  · rw [if_pos h, sL12]; exact Nat.le_refl 4
  · rw [if_neg h, sL13]; decide
theorem sL_alone (z : Nat) : (sByt (if z / 2048 % 3 = 0 then 14 else 13)).length ≤ 6 := by
  by_cases h : z / 2048 % 3 = 0
  · rw [if_pos h, sL14]; exact Nat.le_refl 6
  · rw [if_neg h, sL13]; decide
theorem inT_len (z pans : Nat) : (inT z pans).length ≤ 6 := by
  unfold inT
  split
  · rw [List.length_append, sL11]; exact Nat.le_refl 6
  · decide
def rowP (z k : Nat) : List Int32 := if 0 < k then prT z k 3 0 0 else []
theorem prT_len (z k : Nat) : ∀ m i S, (prT z k m i S).length ≤ 9 * m
  | 0, i, S => by rw [prT]; decide
  | m + 1, i, S => by
    rw [prT]
    split
    · have := prT_len z k m (i + 1) S; omega
    · have h1 := prT_len z k m (i + 1) (S + 2 ^ prB z i k)
      have h2 := sL_af S
      simp only [List.length_append, List.length_cons, List.length_nil]
      omega
theorem rowP_len (z k : Nat) : (rowP z k).length ≤ 27 := by
  unfold rowP
  split
  · exact prT_len z k 3 0 0
  · decide
/-- the row of a step -/
def rowT (sf : Nat → Int32) (sl pans k : Nat) : List Int32 := (sByt 10 ++ [nI (97 + k)] ++ [nI 32] ++ dig (1 + pick sf sl (9 + k) 268435456 % 7) ++ [nI 32] ++ dig (pick sf sl (9 + k) 268435456 / 8 % 6)) ++ inT (pick sf sl (9 + k) 268435456) pans ++ (sByt (if pick sf sl (9 + k) 268435456 / 512 % 3 = 0 then 12 else 13) ++ sByt (if pick sf sl (9 + k) 268435456 / 2048 % 3 = 0 then 14 else 13)) ++ rowP (pick sf sl (9 + k) 268435456) k ++ [nI 59]
theorem rowT_len (sf : Nat → Int32) (sl pans k : Nat) : (rowT sf sl pans k).length ≤ 60 := by
  have d1 := dig_le (1 + pick sf sl (9 + k) 268435456 % 7)
  have d2 := dig_le (pick sf sl (9 + k) 268435456 / 8 % 6)
  have d3 := inT_len (pick sf sl (9 + k) 268435456) pans
  have d4 := sL_hot (pick sf sl (9 + k) 268435456)
  have d5 := sL_alone (pick sf sl (9 + k) 268435456)
  have d6 := rowP_len (pick sf sl (9 + k) 268435456) k
  unfold rowT
  simp only [List.length_append, List.length_cons, List.length_nil, sL10]
  omega
theorem panT_len (sf : Nat → Int32) (sl k : Nat) : (panT sf sl k).length ≤ 10 := by
  have d1 := dig_le (1 + pick sf sl (6 + k) 3)
  unfold panT
  simp only [List.length_append, List.length_cons, List.length_nil, sL9]
  omega
def pansF (sf : Nat → Int32) (sl : Nat) : Nat → Nat → List Int32
  | 0, _ => []
  | d + 1, k => panT sf sl k ++ pansF sf sl d (k + 1)
def rowsF (sf : Nat → Int32) (sl pans : Nat) : Nat → Nat → List Int32
  | 0, _ => []
  | d + 1, k => rowT sf sl pans k ++ rowsF sf sl pans d (k + 1)
def headT (sf : Nat → Int32) (sl : Nat) : List Int32 := sByt 8 ++ dig (1 + pick sf sl 3 3) ++ [nI 32] ++ dig (pick sf sl 4 6) ++ [nI 32] ++ dig (pick sf sl 2 12) ++ [nI 32] ++ dig (pick sf sl 2 12 + pick sf sl 5 20) ++ [nI 59]
theorem headT_len (sf : Nat → Int32) (sl : Nat) : (headT sf sl).length ≤ 20 := by
  have d1 := dig_le (1 + pick sf sl 3 3)
  have d2 := dig_le (pick sf sl 4 6)
  have d3 := dig_le (pick sf sl 2 12)
  have d4 := dig_le (pick sf sl 2 12 + pick sf sl 5 20)
  unfold headT
  simp only [List.length_append, List.length_cons, List.length_nil, sL8]
  omega
/-- the whole text -/
def setT (sf : Nat → Int32) (sl steps : Nat) : List Int32 := headT sf sl ++ pansF sf sl (pick sf sl 1 4) 0 ++ rowsF sf sl (pick sf sl 1 4) steps 0
theorem sb_D3 {N0 : Nat} {x y : Nat × va_E} {rest : va_W} (h : va_D (fun q => N0 ≤ q) (x :: y :: rest)) : va_D (fun q => N0 ≤ q) [y, x] := by
  have h1 := DM.of h
  have h2 := List.pairwise_cons.mp h1.1
  exact DM.to ⟨List.pairwise_cons.mpr ⟨fun z hz => by rw [List.mem_singleton.mp hz]; exact (h2.1 _ List.mem_cons_self).symm, List.pairwise_singleton _ _⟩, fun z hz => by
    rcases List.mem_cons.mp hz with rfl | hz
    · exact h1.2 _ (List.mem_cons_of_mem _ List.mem_cons_self)
    · rw [List.mem_singleton.mp hz]; exact h1.2 _ List.mem_cons_self⟩
theorem jl_L_setup_1 : ∀ w ∈ u_ws RJ4 TJ4 4, w ∈ wsL_setup := by decide +kernel
theorem jw_L_setup_c38 : (.classLink RL 38 RJ4 : Cond) ∈ wsL_setup := by decide +kernel
theorem jw_L_setup_in : (.instantiable RJ4 4 : Cond) ∈ wsL_setup := by decide +kernel
theorem jw_L_setup_ini : (.initialized RJ4 : Cond) ∈ wsL_setup := by decide +kernel
theorem jw_L_setup_k42 : (.methodLink RL 42 yJ4_init_a7421 : Cond) ∈ wsL_setup := by decide +kernel
theorem jw_L_setup_mJ4 : (.instanceMethod yJ4_init_a7421 : Cond) ∈ wsL_setup := by decide +kernel
section
variable {p : Program} {l : Launch} {e : Env} {s : State} {m : MethodId} {below : List Frame} {meth : Method} {c : Code} {N0 : Nat} {T : Nat → ClassId} {D : va_G} {ad : Nat → Nat → Nat → Nat} {Q : State → Prop} {cells slots steps pans lo sa sl b k z : Nat} {sf : Nat → Int32} {t : List Int32} {w : va_W}
set_option maxRecDepth 20000 in
theorem su_pan (C : Chw p s m [.ref sa, .int (nI steps)].toArray meth c cL_setup 10 wsL_setup RL N0 T D ad) (hX : HwX N0 sa sl sf s) (hS : SBw T b t w) (hk : k < 3) (hl : t.length + 20 ≤ 1000) (hc : cells + 5 ≤ 200) (hs : slots + 10000 ≤ 400000) (K : ∀ w1, SBw T b (t ++ panT sf sl k) w1 → HW p l e (Rhw 10 200 400000) s m [.ref sa, .int (nI steps)].toArray below meth c 10 N0 D (cells + 5) (slots + 10000) Q w1 86 [(0, .ref sa), (1, .int (nI steps)), (2, .int (nI pans)), (3, .int (nI lo)), (4, .ref b), (5, .int (nI (k + 1)))] []) : HW p l e (Rhw 10 200 400000) s m [.ref sa, .int (nI steps)].toArray below meth c 10 N0 D cells slots Q w 92 [(0, .ref sa), (1, .int (nI steps)), (2, .int (nI pans)), (3, .int (nI lo)), (4, .ref b), (5, .int (nI k))] [] := by
  refine hw_aload C dL_setup_92 4 rfl ?_
  refine hw_ldcS C (sr_16 (hx_st C)) dL_setup_94 ?_
  obtain ⟨v0, c0, f0, rfl, q1, q2, q3, q4⟩ := hS
  refine hw_callWq C 0 (ci := 1) (Cn := RJ4) (Tc := TJ4) (N := 4) (As := [.ref (ad 21 9 0)]) (h_aps4 (by decide) q1 q2 (by (try simp only [List.length_append, List.length_cons, List.length_nil, sL8, sL9, sL10, sL11, sL12, sL13, sL14, sL15, sL16]); (try simp only [List.length_append, List.length_cons, List.length_nil, sL8, sL9, sL10, sL11, sL12, sL13, sL14, sL15, sL16] at hl); omega) q4) (cwV 1 (hx_ts C) gL_setup_J4_append_15ec4 rfl rfl rfl (by decide +kernel) ⟨Nat.le_of_ble_eq_true rfl, Nat.le_of_ble_eq_true rfl⟩) rfl rfl rfl (st := []) rfl (Nat.le_of_ble_eq_true rfl) ⟨by show cells + 1 ≤ 200; omega, by show slots + 2000 ≤ 400000; omega⟩ dL_setup_96 (fun r w1 hpost => ?_)
  obtain ⟨rfl, hS⟩ := sbq hpost q3
  refine hw_bipush C dL_setup_99 (v := nI 97) (by decide) ?_
  refine hw_iload C dL_setup_101 5 rfl ?_
  refine hw_iadd C dL_setup_103 ?_
  refine hw_topi (v' := nI (97 + k)) (nI_add _ _) ?_
  refine hw_i2c C dL_setup_104 ?_
  refine hw_topi (v' := nI (97 + k)) (i2c_nI (by omega)) ?_
  obtain ⟨v0, c0, f0, rfl, q1, q2, q3, q4⟩ := hS
  refine hw_callWq C 0 (ci := 1) (Cn := RJ4) (Tc := TJ4) (N := 4) (As := [.int (nI (97 + k))]) (h_apc4 (by omega) q1 q2 (by (try simp only [List.length_append, List.length_cons, List.length_nil, sL8, sL9, sL10, sL11, sL12, sL13, sL14, sL15, sL16]); (try simp only [List.length_append, List.length_cons, List.length_nil, sL8, sL9, sL10, sL11, sL12, sL13, sL14, sL15, sL16] at hl); omega) q4) (cwV 1 (hx_ts C) gL_setup_J4_append_cf468 rfl rfl rfl (by decide +kernel) ⟨Nat.le_of_ble_eq_true rfl, Nat.le_of_ble_eq_true rfl⟩) rfl rfl rfl (st := []) rfl (Nat.le_of_ble_eq_true rfl) ⟨by show cells + 1 + 1 ≤ 200; omega, by show slots + 2000 + 2000 ≤ 400000; omega⟩ dL_setup_105 (fun r w1 hpost => ?_)
  obtain ⟨rfl, hS⟩ := sbq hpost q3
  refine hw_bipush C dL_setup_108 (v := nI 32) (by decide) ?_
  obtain ⟨v0, c0, f0, rfl, q1, q2, q3, q4⟩ := hS
  refine hw_callWq C 0 (ci := 1) (Cn := RJ4) (Tc := TJ4) (N := 4) (As := [.int (nI 32)]) (h_apc4 (by omega) q1 q2 (by (try simp only [List.length_append, List.length_cons, List.length_nil, sL8, sL9, sL10, sL11, sL12, sL13, sL14, sL15, sL16]); (try simp only [List.length_append, List.length_cons, List.length_nil, sL8, sL9, sL10, sL11, sL12, sL13, sL14, sL15, sL16] at hl); omega) q4) (cwV 1 (hx_ts C) gL_setup_J4_append_cf468 rfl rfl rfl (by decide +kernel) ⟨Nat.le_of_ble_eq_true rfl, Nat.le_of_ble_eq_true rfl⟩) rfl rfl rfl (st := []) rfl (Nat.le_of_ble_eq_true rfl) ⟨by show cells + 1 + 1 + 1 ≤ 200; omega, by show slots + 2000 + 2000 + 2000 ≤ 400000; omega⟩ dL_setup_110 (fun r w1 hpost => ?_)
  obtain ⟨rfl, hS⟩ := sbq hpost q3
  refine hw_iconst C dL_setup_113 (v := nI 1) rfl ?_
  refine hw_aload_n C dL_setup_114 rfl 0 rfl ?_
  refine hw_bipush C dL_setup_115 (v := nI 6) (by decide) ?_
  refine hw_iload C dL_setup_117 5 rfl ?_
  refine hw_iadd C dL_setup_119 ?_
  refine hw_topi (v' := nI (6 + k)) (nI_add _ _) ?_
  refine hw_iconst C dL_setup_120 (v := nI 3) rfl ?_
  refine hw_callSx C hX (As := [.ref sa, .int (nI (6 + k)), .int (nI 3)]) (h_pick (kk := 6 + k) (n := 3) (by omega) (by decide) (by decide)) (va_cwS 3 (hx_ts C) gL_setup_L_pick rfl rfl rfl (by decide +kernel) ⟨Nat.le_of_ble_eq_true rfl, Nat.le_of_ble_eq_true rfl⟩) rfl (st := [.int (nI 1), .ref b]) rfl (Nat.le_of_ble_eq_true rfl) ⟨by show cells + 1 + 1 + 1 + 0 ≤ 200; omega, by show slots + 2000 + 2000 + 2000 + 0 ≤ 400000; omega⟩ dL_setup_121 (fun r w1 hpost => ?_)
  obtain ⟨rfl, rfl⟩ := hpost
  refine hw_iadd C dL_setup_124 ?_
  refine hw_topi (v' := nI (1 + pick sf sl (6 + k) 3)) (nI_add _ _) ?_
  obtain ⟨v0, c0, f0, rfl, q1, q2, q3, q4⟩ := hS
  refine hw_callWq C 0 (ci := 1) (Cn := RJ4) (Tc := TJ4) (N := 4) (As := [.int (nI (1 + pick sf sl (6 + k) 3))]) (h_api4 (by have := pick_lt (sf := sf) (sl := sl) (k := 6 + k) (n := 3) (by decide); omega) q1 q2 (by (try simp only [List.length_append, List.length_cons, List.length_nil, sL8, sL9, sL10, sL11, sL12, sL13, sL14, sL15, sL16]); have d0 := dig_le (1 + pick sf sl (6 + k) 3); (try simp only [List.length_append, List.length_cons, List.length_nil, sL8, sL9, sL10, sL11, sL12, sL13, sL14, sL15, sL16] at hl); omega) q4) (cwV 1 (hx_ts C) gL_setup_J4_append_bf812 rfl rfl rfl (by decide +kernel) ⟨Nat.le_of_ble_eq_true rfl, Nat.le_of_ble_eq_true rfl⟩) rfl rfl rfl (st := []) rfl (Nat.le_of_ble_eq_true rfl) ⟨by show cells + 1 + 1 + 1 + 1 ≤ 200; omega, by show slots + 2000 + 2000 + 2000 + 2000 ≤ 400000; omega⟩ dL_setup_125 (fun r w1 hpost => ?_)
  obtain ⟨rfl, hS⟩ := sbq hpost q3
  refine hw_bipush C dL_setup_128 (v := nI 59) (by decide) ?_
  obtain ⟨v0, c0, f0, rfl, q1, q2, q3, q4⟩ := hS
  refine hw_callWq C 0 (ci := 1) (Cn := RJ4) (Tc := TJ4) (N := 4) (As := [.int (nI 59)]) (h_apc4 (by omega) q1 q2 (by (try simp only [List.length_append, List.length_cons, List.length_nil, sL8, sL9, sL10, sL11, sL12, sL13, sL14, sL15, sL16]); have d0 := dig_le (1 + pick sf sl (6 + k) 3); (try simp only [List.length_append, List.length_cons, List.length_nil, sL8, sL9, sL10, sL11, sL12, sL13, sL14, sL15, sL16] at hl); omega) q4) (cwV 1 (hx_ts C) gL_setup_J4_append_cf468 rfl rfl rfl (by decide +kernel) ⟨Nat.le_of_ble_eq_true rfl, Nat.le_of_ble_eq_true rfl⟩) rfl rfl rfl (st := []) rfl (Nat.le_of_ble_eq_true rfl) ⟨by show cells + 1 + 1 + 1 + 1 + 1 ≤ 200; omega, by show slots + 2000 + 2000 + 2000 + 2000 + 2000 ≤ 400000; omega⟩ dL_setup_130 (fun r w1 hpost => ?_)
  obtain ⟨rfl, hS⟩ := sbq hpost q3
  refine hw_pop C dL_setup_133 rfl ?_
  refine hw_iinc C dL_setup_134 (kk := 5) rfl (v := nI (k + 1)) (nI_1 k) (by decide) rfl ?_
  refine hw_goto C dL_setup_137 (tgt := 86) rfl ?_
  refine hw_sub [1, 2, 3, 4, 5, 0] rfl ?_
  refine hw_more (cells' := cells + 5) (slots' := slots + 10000) (by omega) (by omega) ?_
  refine K _ ?_
  show SBw T b (t ++ panT sf sl k) _
  unfold panT; simpa only [List.append_assoc] using hS
set_option maxRecDepth 20000 in
theorem su_pr1 (C : Chw p s m [.ref sa, .int (nI steps)].toArray meth c cL_setup 10 wsL_setup RL N0 T D ad) (hX : HwX N0 sa sl sf s) {i S : Nat} (hS : SBw T b t w) (hi : i < 3) (hk0 : 0 < k) (hk : k ≤ 9) (hz : z < 2 ^ 28) (hS9 : S < 512) (hl : t.length + 9 ≤ 1000) (hc : cells + 2 ≤ 200) (hs : slots + 4000 ≤ 400000) (K0 : (z / 2 ^ (25 + i) % 2 = 1 ∨ S / 2 ^ prB z i k % 2 = 1) → HW p l e (Rhw 10 200 400000) s m [.ref sa, .int (nI steps)].toArray below meth c 10 N0 D cells slots Q w 298 [(8, .int (nI (i + 1))), (7, .int (nI S)), (0, .ref sa), (1, .int (nI steps)), (2, .int (nI pans)), (3, .int (nI lo)), (4, .ref b), (5, .int (nI k)), (6, .int (nI z))] []) (K1 : ¬ z / 2 ^ (25 + i) % 2 = 1 → ¬ S / 2 ^ prB z i k % 2 = 1 → ∀ w1, SBw T b (t ++ (sByt (if S = 0 then 15 else 16) ++ [nI (97 + prB z i k)])) w1 → HW p l e (Rhw 10 200 400000) s m [.ref sa, .int (nI steps)].toArray below meth c 10 N0 D (cells + 1 + 1) (slots + 2000 + 2000) Q w1 298 [(8, .int (nI (i + 1))), (7, .int (nI (S + 2 ^ prB z i k))), (0, .ref sa), (1, .int (nI steps)), (2, .int (nI pans)), (3, .int (nI lo)), (4, .ref b), (5, .int (nI k)), (6, .int (nI z))] []) : HW p l e (Rhw 10 200 400000) s m [.ref sa, .int (nI steps)].toArray below meth c 10 N0 D cells slots Q w 298 [(8, .int (nI i)), (7, .int (nI S)), (0, .ref sa), (1, .int (nI steps)), (2, .int (nI pans)), (3, .int (nI lo)), (4, .ref b), (5, .int (nI k)), (6, .int (nI z))] [] := by
  refine hw_iload C dL_setup_298 0 rfl ?_
  refine hw_iconst C dL_setup_300 (v := nI 3) rfl ?_
  refine hw_icmp_ge C dL_setup_301 (tgt := 394) rfl (fun h9 => absurd h9 ((nI_ge (by omega) (by decide)))) (fun _ => ?_)
  refine hw_iload C dL_setup_304 7 rfl ?_
  refine hw_if_le C dL_setup_306 (tgt := 394) rfl (fun h9 => absurd h9 (nI_nle hk0 (by omega))) (fun _ => ?_)
  refine hw_iload C dL_setup_309 8 rfl ?_
  refine hw_bipush C dL_setup_311 (v := nI 13) (by decide) ?_
  refine hw_iconst C dL_setup_313 (v := nI 4) rfl ?_
  refine hw_iload C dL_setup_314 0 rfl ?_
  refine hw_imul C dL_setup_316 ?_
  refine hw_topi (v' := nI (4 * i)) (n4i hi) ?_
  refine hw_iadd C dL_setup_317 ?_
  refine hw_topi (v' := nI (13 + 4 * i)) (nI_add _ _) ?_
  refine hw_ishr C dL_setup_318 ?_
  refine hw_topi (v' := nI (z / 2 ^ (13 + 4 * i))) (shz13 hi hz) ?_
  refine hw_iload C dL_setup_319 7 rfl ?_
  refine hw_irem C dL_setup_321 (nI_ne0 hk0 (by omega)) ?_
  refine hw_topi (v' := nI (prB z i k)) (pk_rem (Nat.lt_of_le_of_lt (Nat.div_le_self _ _) (by omega)) hk0 (by omega)) ?_
  refine hw_istore C dL_setup_322 (by decide) rfl ?_
  refine hw_iload C dL_setup_324 9 rfl ?_
  refine hw_bipush C dL_setup_326 (v := nI 25) (by decide) ?_
  refine hw_iload C dL_setup_328 1 rfl ?_
  refine hw_iadd C dL_setup_330 ?_
  refine hw_topi (v' := nI (25 + i)) (nI_add _ _) ?_
  refine hw_ishr C dL_setup_331 ?_
  refine hw_topi (v' := nI (z / 2 ^ (25 + i))) (shz25 hi hz) ?_
  refine hw_iconst C dL_setup_332 (v := nI 2) rfl ?_
  refine hw_irem C dL_setup_333 (by decide) ?_
  refine hw_topi (v' := nI (z / 2 ^ (25 + i) % 2)) (pk_rem (Nat.lt_of_le_of_lt (Nat.div_le_self _ _) (by omega)) (by decide) (by decide)) ?_
  refine hw_iconst C dL_setup_334 (v := nI 1) rfl ?_
  have hb : prB z i k < k := Nat.mod_lt _ hk0
  by_cases h1 : z / 2 ^ (25 + i) % 2 = 1
  · refine hw_icmp_eq C dL_setup_335 (tgt := 388) rfl (fun _ => ?_) (fun h9 => absurd (by rw [h1]) h9)
    refine hw_iinc C dL_setup_388 (kk := 1) rfl (v := nI (i + 1)) (nI_1 i) (by decide) rfl ?_
    refine hw_goto C dL_setup_391 (tgt := 298) rfl ?_
    refine hw_sub [0, 2, 3, 4, 5, 6, 7, 8, 9] rfl ?_
    exact K0 (Or.inl h1)
  · refine hw_icmp_eq C dL_setup_335 (tgt := 388) rfl (fun h9 => absurd ((nI_eq (by omega) (by decide)).mp h9) h1) (fun _ => ?_)
    refine hw_iload C dL_setup_338 2 rfl ?_
    refine hw_iload C dL_setup_340 0 rfl ?_
    refine hw_ishr C dL_setup_342 ?_
    refine hw_topi (v' := nI S >>> (nI (prB z i k) &&& 31)) rfl ?_
    refine hw_iconst C dL_setup_343 (v := nI 1) rfl ?_
    refine hw_iand C dL_setup_344 ?_
    refine hw_topi (v' := nI (S / 2 ^ prB z i k % 2)) (sbit (by omega) hS9) ?_
    refine hw_iconst C dL_setup_345 (v := nI 1) rfl ?_
    by_cases h2 : S / 2 ^ prB z i k % 2 = 1
    · refine hw_icmp_ne C dL_setup_346 (tgt := 352) rfl (fun h9 => absurd (by rw [h2]) h9) (fun _ => ?_)
      refine hw_goto C dL_setup_349 (tgt := 388) rfl ?_
      refine hw_iinc C dL_setup_388 (kk := 1) rfl (v := nI (i + 1)) (nI_1 i) (by decide) rfl ?_
      refine hw_goto C dL_setup_391 (tgt := 298) rfl ?_
      refine hw_sub [0, 2, 3, 4, 5, 6, 7, 8, 9] rfl ?_
      exact K0 (Or.inr h2)
    · refine hw_icmp_ne C dL_setup_346 (tgt := 352) rfl (fun _ => ?_) (fun h9 => absurd ((nI_eq (by omega) (by decide)).mp h9) h2)
      refine hw_aload C dL_setup_352 7 rfl ?_
      refine hw_iload C dL_setup_354 2 rfl ?_
      have key : HW p l e (Rhw 10 200 400000) s m [.ref sa, .int (nI steps)].toArray below meth c 10 N0 D cells slots Q w 366 [(9, .int (nI (prB z i k))), (8, .int (nI i)), (7, .int (nI S)), (0, .ref sa), (1, .int (nI steps)), (2, .int (nI pans)), (3, .int (nI lo)), (4, .ref b), (5, .int (nI k)), (6, .int (nI z))] [.ref (ad 21 (if S = 0 then 15 else 16) 0), .ref b] := by
        obtain ⟨v0, c0, f0, rfl, q1, q2, q3, q4⟩ := hS
        refine hw_callWq C 0 (ci := 1) (Cn := RJ4) (Tc := TJ4) (N := 4) (As := [.ref (ad 21 (if S = 0 then 15 else 16) 0)]) (h_aps4 (by split <;> decide) q1 q2 (by (try simp only [List.length_append, List.length_cons, List.length_nil, sL8, sL9, sL10, sL11, sL12, sL13, sL14, sL15, sL16]); have d0 := sL_af S; (try simp only [List.length_append, List.length_cons, List.length_nil, sL8, sL9, sL10, sL11, sL12, sL13, sL14, sL15, sL16] at hl); omega) q4) (cwV 1 (hx_ts C) gL_setup_J4_append_15ec4 rfl rfl rfl (by decide +kernel) ⟨Nat.le_of_ble_eq_true rfl, Nat.le_of_ble_eq_true rfl⟩) rfl rfl rfl (st := []) rfl (Nat.le_of_ble_eq_true rfl) ⟨by show cells + 1 ≤ 200; omega, by show slots + 2000 ≤ 400000; omega⟩ dL_setup_366 (fun r w1 hpost => ?_)
        obtain ⟨rfl, hS⟩ := sbq hpost q3
        refine hw_bipush C dL_setup_369 (v := nI 97) (by decide) ?_
        refine hw_iload C dL_setup_371 0 rfl ?_
        refine hw_iadd C dL_setup_373 ?_
        refine hw_topi (v' := nI (97 + prB z i k)) (nI_add _ _) ?_
        refine hw_i2c C dL_setup_374 ?_
        refine hw_topi (v' := nI (97 + prB z i k)) (i2c_nI (by omega)) ?_
        obtain ⟨v0, c0, f0, rfl, q1, q2, q3, q4⟩ := hS
        refine hw_callWq C 0 (ci := 1) (Cn := RJ4) (Tc := TJ4) (N := 4) (As := [.int (nI (97 + prB z i k))]) (h_apc4 (by omega) q1 q2 (by (try simp only [List.length_append, List.length_cons, List.length_nil, sL8, sL9, sL10, sL11, sL12, sL13, sL14, sL15, sL16]); have d0 := sL_af S; (try simp only [List.length_append, List.length_cons, List.length_nil, sL8, sL9, sL10, sL11, sL12, sL13, sL14, sL15, sL16] at hl); omega) q4) (cwV 1 (hx_ts C) gL_setup_J4_append_cf468 rfl rfl rfl (by decide +kernel) ⟨Nat.le_of_ble_eq_true rfl, Nat.le_of_ble_eq_true rfl⟩) rfl rfl rfl (st := []) rfl (Nat.le_of_ble_eq_true rfl) ⟨by show cells + 1 + 1 ≤ 200; omega, by show slots + 2000 + 2000 ≤ 400000; omega⟩ dL_setup_375 (fun r w1 hpost => ?_)
        obtain ⟨rfl, hS⟩ := sbq hpost q3
        refine hw_pop C dL_setup_378 rfl ?_
        refine hw_iload C dL_setup_379 2 rfl ?_
        refine hw_iconst C dL_setup_381 (v := nI 1) rfl ?_
        refine hw_iload C dL_setup_382 0 rfl ?_
        refine hw_ishl C dL_setup_384 ?_
        refine hw_topi (v' := nI 1 <<< (nI (prB z i k) &&& 31)) rfl ?_
        refine hw_ior C dL_setup_385 ?_
        refine hw_topi (v' := nI (S + 2 ^ prB z i k)) (sset (by omega) hS9 (by omega)) ?_
        refine hw_istore C dL_setup_386 (by decide) rfl ?_
        refine hw_iinc C dL_setup_388 (kk := 2) rfl (v := nI (i + 1)) (nI_1 i) (by decide) rfl ?_
        refine hw_goto C dL_setup_391 (tgt := 298) rfl ?_
        refine hw_sub [0, 1, 3, 4, 5, 6, 7, 8, 9] rfl ?_
        refine K1 h1 h2 _ ?_
        simpa only [List.append_assoc] using hS
      by_cases h3 : S = 0
      · rw [if_pos h3] at key
        refine hw_if_ne C dL_setup_356 (tgt := 364) rfl (fun h9 => absurd (by rw [h3]; rfl) h9) (fun _ => ?_)
        refine hw_ldcS C (sr_22 (hx_st C)) dL_setup_359 ?_
        exact hw_goto C dL_setup_361 (tgt := 366) rfl key
      · rw [if_neg h3] at key
        refine hw_if_ne C dL_setup_356 (tgt := 364) rfl (fun _ => ?_) (fun h9 => absurd h9 (nI_ne0 (by omega) (by omega)))
        exact hw_ldcS C (sr_23 (hx_st C)) dL_setup_364 key
set_option maxRecDepth 10000 in
theorem su_pr (C : Chw p s m [.ref sa, .int (nI steps)].toArray meth c cL_setup 10 wsL_setup RL N0 T D ad) (hX : HwX N0 sa sl sf s) (hk0 : 0 < k) (hk : k ≤ 9) (hz : z < 2 ^ 28) (K : ∀ (cells1 slots1 : Nat) (w1 : va_W) (t1 : List Int32), SBw T b t1 w1 → t1 = t ++ prT z k 3 0 0 → cells1 ≤ cells + 6 → slots1 ≤ slots + 12000 → HW p l e (Rhw 10 200 400000) s m [.ref sa, .int (nI steps)].toArray below meth c 10 N0 D cells1 slots1 Q w1 394 [(0, .ref sa), (1, .int (nI steps)), (2, .int (nI pans)), (3, .int (nI lo)), (4, .ref b), (5, .int (nI k)), (6, .int (nI z))] []) : ∀ (m0 i S cells1 slots1 : Nat) (w1 : va_W) (t1 : List Int32), m0 + i = 3 → S < 512 → SBw T b t1 w1 → t1 ++ prT z k m0 i S = t ++ prT z k 3 0 0 → t1.length + 9 * m0 ≤ 1000 → cells1 + 2 * m0 ≤ cells + 6 → slots1 + 4000 * m0 ≤ slots + 12000 → cells + 6 ≤ 200 → slots + 12000 ≤ 400000 → HW p l e (Rhw 10 200 400000) s m [.ref sa, .int (nI steps)].toArray below meth c 10 N0 D cells1 slots1 Q w1 298 [(8, .int (nI i)), (7, .int (nI S)), (0, .ref sa), (1, .int (nI steps)), (2, .int (nI pans)), (3, .int (nI lo)), (4, .ref b), (5, .int (nI k)), (6, .int (nI z))] [] := by
  intro m0
  induction m0 with
  | zero =>
    intro i S cells1 slots1 w1 t1 e1 hS9 hS e2 hl hc hs h7 h8
    obtain rfl : i = 3 := by omega
    refine hw_iload C dL_setup_298 0 rfl ?_
    refine hw_iconst C dL_setup_300 (v := nI 3) (by decide) ?_
    refine hw_icmp_ge C dL_setup_301 (tgt := 394) rfl (fun _ => ?_) (fun h9 => absurd (Int32.le_refl _) h9)
    refine hw_sub [2, 3, 4, 5, 6, 7, 8] rfl ?_
    exact K _ _ _ _ hS (by rw [← e2, prT, List.append_nil]) (by omega) (by omega)
  | succ m0 ih =>
    intro i S cells1 slots1 w1 t1 e1 hS9 hS e2 hl hc hs h7 h8
    refine su_pr1 C hX hS (by omega) hk0 hk hz hS9 (by omega) (by omega) (by omega) (fun h => ?_) (fun h1 h2 w2 hS2 => ?_)
    · refine ih (i + 1) S cells1 slots1 w1 t1 (by omega) hS9 hS ?_ (by omega) (by omega) (by omega) h7 h8
      rw [prT, if_pos h] at e2
      exact e2
    · refine ih (i + 1) (S + 2 ^ prB z i k) _ _ w2 _ (by omega) (sset_lt (Nat.lt_of_lt_of_le (Nat.mod_lt _ hk0) hk) hS9 (by omega)) hS2 ?_ ?_ (by omega) (by omega) h7 h8
      · rw [prT, if_neg (fun h => h.elim h1 h2)] at e2
        rw [← e2, List.append_assoc]
      · have := sL_af S
        simp only [List.length_append, List.length_cons, List.length_nil]
        omega
set_option maxRecDepth 20000 in
theorem su_st0 (C : Chw p s m [.ref sa, .int (nI steps)].toArray meth c cL_setup 10 wsL_setup RL N0 T D ad) (hX : HwX N0 sa sl sf s) (hk : k < 9) (hc : cells + 6 ≤ 200) (hs : slots + 12000 ≤ 400000) (K : ∀ z : Nat, z = pick sf sl (9 + k) 268435456 → z < 268435456 → HW p l e (Rhw 10 200 400000) s m [.ref sa, .int (nI steps)].toArray below meth c 10 N0 D cells slots Q w 160 [(0, .ref sa), (1, .int (nI steps)), (2, .int (nI pans)), (3, .int (nI lo)), (4, .ref b), (5, .int (nI k))] [.int (nI z)]) : HW p l e (Rhw 10 200 400000) s m [.ref sa, .int (nI steps)].toArray below meth c 10 N0 D cells slots Q w 149 [(0, .ref sa), (1, .int (nI steps)), (2, .int (nI pans)), (3, .int (nI lo)), (4, .ref b), (5, .int (nI k))] [] := by
  refine hw_aload_n C dL_setup_149 rfl 0 rfl ?_
  refine hw_bipush C dL_setup_150 (v := nI 9) (by decide) ?_
  refine hw_iload C dL_setup_152 5 rfl ?_
  refine hw_iadd C dL_setup_154 ?_
  refine hw_topi (v' := nI (9 + k)) (nI_add _ _) ?_
  refine hw_ldc C (v := 268435456) (hx_ts C _ jc_set56) dL_setup_155 ?_
  refine hw_topi (v' := nI 268435456) (by decide +kernel) ?_
  refine hw_callSx C hX (As := [.ref sa, .int (nI (9 + k)), .int (nI 268435456)]) (h_pick (kk := 9 + k) (n := 268435456) (by omega) (by decide) (by decide)) (va_cwS 3 (hx_ts C) gL_setup_L_pick rfl rfl rfl (by decide +kernel) ⟨Nat.le_of_ble_eq_true rfl, Nat.le_of_ble_eq_true rfl⟩) rfl (st := []) rfl (Nat.le_of_ble_eq_true rfl) ⟨by show cells + 0 ≤ 200; omega, by show slots + 0 ≤ 400000; omega⟩ dL_setup_157 (fun r w1 hpost => ?_)
  obtain ⟨rfl, rfl⟩ := hpost
  exact K _ rfl (pick_lt (by decide))
set_option maxRecDepth 20000 in
theorem su_st1 (C : Chw p s m [.ref sa, .int (nI steps)].toArray meth c cL_setup 10 wsL_setup RL N0 T D ad) (hX : HwX N0 sa sl sf s) (hS : SBw T b t w) (hk : k < 9) (hl : t.length + 20 ≤ 1000) (hc : cells + 6 ≤ 200) (hs : slots + 12000 ≤ 400000) (K : ∀ (cells1 slots1 : Nat) (w1 : va_W) (z : Nat), z = pick sf sl (9 + k) 268435456 → z < 2 ^ 28 → ∀ t1, SBw T b t1 w1 → t1 = t ++ (sByt 10 ++ [nI (97 + k)] ++ [nI 32] ++ dig (1 + z % 7) ++ [nI 32] ++ dig (z / 8 % 6)) → cells1 = cells + 6 → slots1 = slots + 12000 → HW p l e (Rhw 10 200 400000) s m [.ref sa, .int (nI steps)].toArray below meth c 10 N0 D cells1 slots1 Q w1 210 [(0, .ref sa), (1, .int (nI steps)), (2, .int (nI pans)), (3, .int (nI lo)), (4, .ref b), (5, .int (nI k)), (6, .int (nI z))] []) : HW p l e (Rhw 10 200 400000) s m [.ref sa, .int (nI steps)].toArray below meth c 10 N0 D cells slots Q w 149 [(0, .ref sa), (1, .int (nI steps)), (2, .int (nI pans)), (3, .int (nI lo)), (4, .ref b), (5, .int (nI k))] [] := by
  refine su_st0 C hX hk hc hs (fun z hz0 hz1 => ?_)
  have hz : z < 2 ^ 28 := by omega
  refine hw_istore C dL_setup_160 (by decide) rfl ?_
  refine hw_aload C dL_setup_162 5 rfl ?_
  refine hw_ldcS C (sr_17 (hx_st C)) dL_setup_164 ?_
  obtain ⟨v0, c0, f0, rfl, q1, q2, q3, q4⟩ := hS
  refine hw_callWq C 0 (ci := 1) (Cn := RJ4) (Tc := TJ4) (N := 4) (As := [.ref (ad 21 10 0)]) (h_aps4 (by decide) q1 q2 (by (try simp only [List.length_append, List.length_cons, List.length_nil, sL8, sL9, sL10, sL11, sL12, sL13, sL14, sL15, sL16]); (try simp only [List.length_append, List.length_cons, List.length_nil, sL8, sL9, sL10, sL11, sL12, sL13, sL14, sL15, sL16] at hl); omega) q4) (cwV 1 (hx_ts C) gL_setup_J4_append_15ec4 rfl rfl rfl (by decide +kernel) ⟨Nat.le_of_ble_eq_true rfl, Nat.le_of_ble_eq_true rfl⟩) rfl rfl rfl (st := []) rfl (Nat.le_of_ble_eq_true rfl) ⟨by show cells + 1 ≤ 200; omega, by show slots + 2000 ≤ 400000; omega⟩ dL_setup_166 (fun r w1 hpost => ?_)
  obtain ⟨rfl, hS⟩ := sbq hpost q3
  refine hw_bipush C dL_setup_169 (v := nI 97) (by decide) ?_
  refine hw_iload C dL_setup_171 6 rfl ?_
  refine hw_iadd C dL_setup_173 ?_
  refine hw_topi (v' := nI (97 + k)) (nI_add _ _) ?_
  refine hw_i2c C dL_setup_174 ?_
  refine hw_topi (v' := nI (97 + k)) (i2c_nI (by omega)) ?_
  obtain ⟨v0, c0, f0, rfl, q1, q2, q3, q4⟩ := hS
  refine hw_callWq C 0 (ci := 1) (Cn := RJ4) (Tc := TJ4) (N := 4) (As := [.int (nI (97 + k))]) (h_apc4 (by omega) q1 q2 (by (try simp only [List.length_append, List.length_cons, List.length_nil, sL8, sL9, sL10, sL11, sL12, sL13, sL14, sL15, sL16]); (try simp only [List.length_append, List.length_cons, List.length_nil, sL8, sL9, sL10, sL11, sL12, sL13, sL14, sL15, sL16] at hl); omega) q4) (cwV 1 (hx_ts C) gL_setup_J4_append_cf468 rfl rfl rfl (by decide +kernel) ⟨Nat.le_of_ble_eq_true rfl, Nat.le_of_ble_eq_true rfl⟩) rfl rfl rfl (st := []) rfl (Nat.le_of_ble_eq_true rfl) ⟨by show cells + 1 + 1 ≤ 200; omega, by show slots + 2000 + 2000 ≤ 400000; omega⟩ dL_setup_175 (fun r w1 hpost => ?_)
  obtain ⟨rfl, hS⟩ := sbq hpost q3
  refine hw_bipush C dL_setup_178 (v := nI 32) (by decide) ?_
  obtain ⟨v0, c0, f0, rfl, q1, q2, q3, q4⟩ := hS
  refine hw_callWq C 0 (ci := 1) (Cn := RJ4) (Tc := TJ4) (N := 4) (As := [.int (nI 32)]) (h_apc4 (by omega) q1 q2 (by (try simp only [List.length_append, List.length_cons, List.length_nil, sL8, sL9, sL10, sL11, sL12, sL13, sL14, sL15, sL16]); (try simp only [List.length_append, List.length_cons, List.length_nil, sL8, sL9, sL10, sL11, sL12, sL13, sL14, sL15, sL16] at hl); omega) q4) (cwV 1 (hx_ts C) gL_setup_J4_append_cf468 rfl rfl rfl (by decide +kernel) ⟨Nat.le_of_ble_eq_true rfl, Nat.le_of_ble_eq_true rfl⟩) rfl rfl rfl (st := []) rfl (Nat.le_of_ble_eq_true rfl) ⟨by show cells + 1 + 1 + 1 ≤ 200; omega, by show slots + 2000 + 2000 + 2000 ≤ 400000; omega⟩ dL_setup_180 (fun r w1 hpost => ?_)
  obtain ⟨rfl, hS⟩ := sbq hpost q3
  refine hw_iconst C dL_setup_183 (v := nI 1) rfl ?_
  refine hw_iload C dL_setup_184 0 rfl ?_
  refine hw_bipush C dL_setup_186 (v := nI 7) (by decide) ?_
  refine hw_irem C dL_setup_188 (by decide) ?_
  refine hw_topi (v' := nI (z % 7)) (pk_rem (by omega) (by decide) (by decide)) ?_
  refine hw_iadd C dL_setup_189 ?_
  refine hw_topi (v' := nI (1 + z % 7)) (nI_add _ _) ?_
  obtain ⟨v0, c0, f0, rfl, q1, q2, q3, q4⟩ := hS
  refine hw_callWq C 0 (ci := 1) (Cn := RJ4) (Tc := TJ4) (N := 4) (As := [.int (nI (1 + z % 7))]) (h_api4 (by omega) q1 q2 (by (try simp only [List.length_append, List.length_cons, List.length_nil, sL8, sL9, sL10, sL11, sL12, sL13, sL14, sL15, sL16]); have d0 := dig_le (1 + z % 7); (try simp only [List.length_append, List.length_cons, List.length_nil, sL8, sL9, sL10, sL11, sL12, sL13, sL14, sL15, sL16] at hl); omega) q4) (cwV 1 (hx_ts C) gL_setup_J4_append_bf812 rfl rfl rfl (by decide +kernel) ⟨Nat.le_of_ble_eq_true rfl, Nat.le_of_ble_eq_true rfl⟩) rfl rfl rfl (st := []) rfl (Nat.le_of_ble_eq_true rfl) ⟨by show cells + 1 + 1 + 1 + 1 ≤ 200; omega, by show slots + 2000 + 2000 + 2000 + 2000 ≤ 400000; omega⟩ dL_setup_190 (fun r w1 hpost => ?_)
  obtain ⟨rfl, hS⟩ := sbq hpost q3
  refine hw_bipush C dL_setup_193 (v := nI 32) (by decide) ?_
  obtain ⟨v0, c0, f0, rfl, q1, q2, q3, q4⟩ := hS
  refine hw_callWq C 0 (ci := 1) (Cn := RJ4) (Tc := TJ4) (N := 4) (As := [.int (nI 32)]) (h_apc4 (by omega) q1 q2 (by (try simp only [List.length_append, List.length_cons, List.length_nil, sL8, sL9, sL10, sL11, sL12, sL13, sL14, sL15, sL16]); have d0 := dig_le (1 + z % 7); (try simp only [List.length_append, List.length_cons, List.length_nil, sL8, sL9, sL10, sL11, sL12, sL13, sL14, sL15, sL16] at hl); omega) q4) (cwV 1 (hx_ts C) gL_setup_J4_append_cf468 rfl rfl rfl (by decide +kernel) ⟨Nat.le_of_ble_eq_true rfl, Nat.le_of_ble_eq_true rfl⟩) rfl rfl rfl (st := []) rfl (Nat.le_of_ble_eq_true rfl) ⟨by show cells + 1 + 1 + 1 + 1 + 1 ≤ 200; omega, by show slots + 2000 + 2000 + 2000 + 2000 + 2000 ≤ 400000; omega⟩ dL_setup_195 (fun r w1 hpost => ?_)
  obtain ⟨rfl, hS⟩ := sbq hpost q3
  refine hw_iload C dL_setup_198 0 rfl ?_
  refine hw_bipush C dL_setup_200 (v := nI 8) (by decide) ?_
  refine hw_idiv C dL_setup_202 (by decide) ?_
  refine hw_topi (v' := nI (z / 8)) (pk_div (by omega) (by decide) (by decide)) ?_
  refine hw_bipush C dL_setup_203 (v := nI 6) (by decide) ?_
  refine hw_irem C dL_setup_205 (by decide) ?_
  refine hw_topi (v' := nI (z / 8 % 6)) (pk_rem (by omega) (by decide) (by decide)) ?_
  obtain ⟨v0, c0, f0, rfl, q1, q2, q3, q4⟩ := hS
  refine hw_callWq C 0 (ci := 1) (Cn := RJ4) (Tc := TJ4) (N := 4) (As := [.int (nI (z / 8 % 6))]) (h_api4 (by omega) q1 q2 (by (try simp only [List.length_append, List.length_cons, List.length_nil, sL8, sL9, sL10, sL11, sL12, sL13, sL14, sL15, sL16]); have d0 := dig_le (1 + z % 7); have d1 := dig_le (z / 8 % 6); (try simp only [List.length_append, List.length_cons, List.length_nil, sL8, sL9, sL10, sL11, sL12, sL13, sL14, sL15, sL16] at hl); omega) q4) (cwV 1 (hx_ts C) gL_setup_J4_append_bf812 rfl rfl rfl (by decide +kernel) ⟨Nat.le_of_ble_eq_true rfl, Nat.le_of_ble_eq_true rfl⟩) rfl rfl rfl (st := []) rfl (Nat.le_of_ble_eq_true rfl) ⟨by show cells + 1 + 1 + 1 + 1 + 1 + 1 ≤ 200; omega, by show slots + 2000 + 2000 + 2000 + 2000 + 2000 + 2000 ≤ 400000; omega⟩ dL_setup_206 (fun r w1 hpost => ?_)
  obtain ⟨rfl, hS⟩ := sbq hpost q3
  refine hw_pop C dL_setup_209 rfl ?_
  refine hw_sub [1, 2, 3, 4, 5, 6, 0] rfl ?_
  refine K _ _ _ z hz0 hz _ hS ?_ (by omega) (by omega)
  simp only [List.append_assoc]
set_option maxRecDepth 20000 in
theorem su_in (C : Chw p s m [.ref sa, .int (nI steps)].toArray meth c cL_setup 10 wsL_setup RL N0 T D ad) (hS : SBw T b t w) (hp : pans ≤ 4) (hz : z < 2 ^ 28) (hl : t.length + 6 ≤ 1000) (hc : cells + 2 ≤ 200) (hs : slots + 4000 ≤ 400000) (K : ∀ w1, SBw T b (t ++ inT z pans) w1 → HW p l e (Rhw 10 200 400000) s m [.ref sa, .int (nI steps)].toArray below meth c 10 N0 D (cells + 2) (slots + 4000) Q w1 247 [(0, .ref sa), (1, .int (nI steps)), (2, .int (nI pans)), (3, .int (nI lo)), (4, .ref b), (5, .int (nI k)), (6, .int (nI z))] []) : HW p l e (Rhw 10 200 400000) s m [.ref sa, .int (nI steps)].toArray below meth c 10 N0 D cells slots Q w 210 [(0, .ref sa), (1, .int (nI steps)), (2, .int (nI pans)), (3, .int (nI lo)), (4, .ref b), (5, .int (nI k)), (6, .int (nI z))] [] := by
  by_cases hc1 : 0 < pans ∧ z / 64 % 2 = 0
  · obtain ⟨h1, h2⟩ := hc1
    refine hw_iload_n C dL_setup_210 rfl 2 rfl ?_
    refine hw_if_le C dL_setup_211 (tgt := 247) rfl (fun h9 => absurd h9 (nI_nle h1 (by omega))) (fun _ => ?_)
    refine hw_iload C dL_setup_214 6 rfl ?_
    refine hw_bipush C dL_setup_216 (v := nI 64) (by decide) ?_
    refine hw_idiv C dL_setup_218 (by decide) ?_
    refine hw_topi (v' := nI (z / 64)) (pk_div (by omega) (by decide) (by decide)) ?_
    refine hw_iconst C dL_setup_219 (v := nI 2) rfl ?_
    refine hw_irem C dL_setup_220 (by decide) ?_
    refine hw_topi (v' := nI (z / 64 % 2)) (pk_rem (by omega) (by decide) (by decide)) ?_
    refine hw_if_ne C dL_setup_221 (tgt := 247) rfl (fun h9 => absurd h9 ((fun h8 => h8 (by rw [h2]; rfl)))) (fun _ => ?_)
    refine hw_aload C dL_setup_224 4 rfl ?_
    refine hw_ldcS C (sr_18 (hx_st C)) dL_setup_226 ?_
    obtain ⟨v0, c0, f0, rfl, q1, q2, q3, q4⟩ := hS
    refine hw_callWq C 0 (ci := 1) (Cn := RJ4) (Tc := TJ4) (N := 4) (As := [.ref (ad 21 11 0)]) (h_aps4 (by decide) q1 q2 (by (try simp only [List.length_append, List.length_cons, List.length_nil, sL8, sL9, sL10, sL11, sL12, sL13, sL14, sL15, sL16]); (try simp only [List.length_append, List.length_cons, List.length_nil, sL8, sL9, sL10, sL11, sL12, sL13, sL14, sL15, sL16] at hl); omega) q4) (cwV 1 (hx_ts C) gL_setup_J4_append_15ec4 rfl rfl rfl (by decide +kernel) ⟨Nat.le_of_ble_eq_true rfl, Nat.le_of_ble_eq_true rfl⟩) rfl rfl rfl (st := []) rfl (Nat.le_of_ble_eq_true rfl) ⟨by show cells + 1 ≤ 200; omega, by show slots + 2000 ≤ 400000; omega⟩ dL_setup_228 (fun r w1 hpost => ?_)
    obtain ⟨rfl, hS⟩ := sbq hpost q3
    refine hw_bipush C dL_setup_231 (v := nI 97) (by decide) ?_
    refine hw_iload C dL_setup_233 6 rfl ?_
    refine hw_sipush C dL_setup_235 (v := nI 128) (by decide) ?_
    refine hw_idiv C dL_setup_238 (by decide) ?_
    refine hw_topi (v' := nI (z / 128)) (pk_div (by omega) (by decide) (by decide)) ?_
    refine hw_iload_n C dL_setup_239 rfl 2 rfl ?_
    refine hw_irem C dL_setup_240 (nI_ne0 h1 (by omega)) ?_
    refine hw_topi (v' := nI (z / 128 % pans)) (pk_rem (by omega) h1 (by omega)) ?_
    refine hw_iadd C dL_setup_241 ?_
    refine hw_topi (v' := nI (97 + z / 128 % pans)) (nI_add _ _) ?_
    refine hw_i2c C dL_setup_242 ?_
    refine hw_topi (v' := nI (97 + z / 128 % pans)) (i2c_nI (by have := Nat.mod_lt (z / 128) h1; omega)) ?_
    obtain ⟨v0, c0, f0, rfl, q1, q2, q3, q4⟩ := hS
    refine hw_callWq C 0 (ci := 1) (Cn := RJ4) (Tc := TJ4) (N := 4) (As := [.int (nI (97 + z / 128 % pans))]) (h_apc4 (by have := Nat.mod_lt (z / 128) h1; omega) q1 q2 (by (try simp only [List.length_append, List.length_cons, List.length_nil, sL8, sL9, sL10, sL11, sL12, sL13, sL14, sL15, sL16]); (try simp only [List.length_append, List.length_cons, List.length_nil, sL8, sL9, sL10, sL11, sL12, sL13, sL14, sL15, sL16] at hl); omega) q4) (cwV 1 (hx_ts C) gL_setup_J4_append_cf468 rfl rfl rfl (by decide +kernel) ⟨Nat.le_of_ble_eq_true rfl, Nat.le_of_ble_eq_true rfl⟩) rfl rfl rfl (st := []) rfl (Nat.le_of_ble_eq_true rfl) ⟨by show cells + 1 + 1 ≤ 200; omega, by show slots + 2000 + 2000 ≤ 400000; omega⟩ dL_setup_243 (fun r w1 hpost => ?_)
    obtain ⟨rfl, hS⟩ := sbq hpost q3
    refine hw_pop C dL_setup_246 rfl ?_
    refine hw_more (cells' := cells + 2) (slots' := slots + 4000) (by omega) (by omega) ?_
    refine K _ ?_
    unfold inT; rw [if_pos ⟨h1, h2⟩]; simpa only [List.append_assoc] using hS
  · have hS2 : SBw T b (t ++ inT z pans) w := by unfold inT; rw [if_neg hc1, List.append_nil]; exact hS
    have key : HW p l e (Rhw 10 200 400000) s m [.ref sa, .int (nI steps)].toArray below meth c 10 N0 D cells slots Q w 247 [(0, .ref sa), (1, .int (nI steps)), (2, .int (nI pans)), (3, .int (nI lo)), (4, .ref b), (5, .int (nI k)), (6, .int (nI z))] [] := hw_more (cells' := cells + 2) (slots' := slots + 4000) (by omega) (by omega) (K _ hS2)
    refine hw_iload_n C dL_setup_210 rfl 2 rfl ?_
    by_cases h1 : 0 < pans
    · refine hw_if_le C dL_setup_211 (tgt := 247) rfl (fun h9 => absurd h9 (nI_nle h1 (by omega))) (fun _ => ?_)
      refine hw_iload C dL_setup_214 6 rfl ?_
      refine hw_bipush C dL_setup_216 (v := nI 64) (by decide) ?_
      refine hw_idiv C dL_setup_218 (by decide) ?_
      refine hw_topi (v' := nI (z / 64)) (pk_div (by omega) (by decide) (by decide)) ?_
      refine hw_iconst C dL_setup_219 (v := nI 2) rfl ?_
      refine hw_irem C dL_setup_220 (by decide) ?_
      refine hw_topi (v' := nI (z / 64 % 2)) (pk_rem (by omega) (by decide) (by decide)) ?_
      exact hw_if_ne C dL_setup_221 (tgt := 247) rfl (fun _ => key) (fun h9 => absurd h9 (nI_ne0 (by omega) (by omega)))
    · obtain rfl : pans = 0 := by omega
      exact hw_if_le C dL_setup_211 (tgt := 247) rfl (fun _ => key) (fun h9 => absurd (by decide) h9)
set_option maxRecDepth 20000 in
theorem su_ha (C : Chw p s m [.ref sa, .int (nI steps)].toArray meth c cL_setup 10 wsL_setup RL N0 T D ad) (hS : SBw T b t w) (hz : z < 2 ^ 28) (hl : t.length + 10 ≤ 1000) (hc : cells + 2 ≤ 200) (hs : slots + 4000 ≤ 400000) (K : ∀ w1, SBw T b (t ++ (sByt (if z / 512 % 3 = 0 then 12 else 13) ++ sByt (if z / 2048 % 3 = 0 then 14 else 13))) w1 → HW p l e (Rhw 10 200 400000) s m [.ref sa, .int (nI steps)].toArray below meth c 10 N0 D (cells + 1 + 1) (slots + 2000 + 2000) Q w1 292 [(0, .ref sa), (1, .int (nI steps)), (2, .int (nI pans)), (3, .int (nI lo)), (4, .ref b), (5, .int (nI k)), (6, .int (nI z))] []) : HW p l e (Rhw 10 200 400000) s m [.ref sa, .int (nI steps)].toArray below meth c 10 N0 D cells slots Q w 247 [(0, .ref sa), (1, .int (nI steps)), (2, .int (nI pans)), (3, .int (nI lo)), (4, .ref b), (5, .int (nI k)), (6, .int (nI z))] [] := by
  refine hw_aload C dL_setup_247 4 rfl ?_
  refine hw_iload C dL_setup_249 6 rfl ?_
  refine hw_sipush C dL_setup_251 (v := nI 512) (by decide) ?_
  refine hw_idiv C dL_setup_254 (by decide) ?_
  refine hw_topi (v' := nI (z / 512)) (pk_div (by omega) (by decide) (by decide)) ?_
  refine hw_iconst C dL_setup_255 (v := nI 3) rfl ?_
  refine hw_irem C dL_setup_256 (by decide) ?_
  refine hw_topi (v' := nI (z / 512 % 3)) (pk_rem (by omega) (by decide) (by decide)) ?_
  have key : HW p l e (Rhw 10 200 400000) s m [.ref sa, .int (nI steps)].toArray below meth c 10 N0 D cells slots Q w 267 [(0, .ref sa), (1, .int (nI steps)), (2, .int (nI pans)), (3, .int (nI lo)), (4, .ref b), (5, .int (nI k)), (6, .int (nI z))] [.ref (ad 21 (if z / 512 % 3 = 0 then 12 else 13) 0), .ref b] := by
    obtain ⟨v0, c0, f0, rfl, q1, q2, q3, q4⟩ := hS
    refine hw_callWq C 0 (ci := 1) (Cn := RJ4) (Tc := TJ4) (N := 4) (As := [.ref (ad 21 (if z / 512 % 3 = 0 then 12 else 13) 0)]) (h_aps4 (by split <;> decide) q1 q2 (by (try simp only [List.length_append, List.length_cons, List.length_nil, sL8, sL9, sL10, sL11, sL12, sL13, sL14, sL15, sL16]); have d0 := sL_hot z; (try simp only [List.length_append, List.length_cons, List.length_nil, sL8, sL9, sL10, sL11, sL12, sL13, sL14, sL15, sL16] at hl); omega) q4) (cwV 1 (hx_ts C) gL_setup_J4_append_15ec4 rfl rfl rfl (by decide +kernel) ⟨Nat.le_of_ble_eq_true rfl, Nat.le_of_ble_eq_true rfl⟩) rfl rfl rfl (st := []) rfl (Nat.le_of_ble_eq_true rfl) ⟨by show cells + 1 ≤ 200; omega, by show slots + 2000 ≤ 400000; omega⟩ dL_setup_267 (fun r w1 hpost => ?_)
    obtain ⟨rfl, hS⟩ := sbq hpost q3
    refine hw_iload C dL_setup_270 6 rfl ?_
    refine hw_sipush C dL_setup_272 (v := nI 2048) (by decide) ?_
    refine hw_idiv C dL_setup_275 (by decide) ?_
    refine hw_topi (v' := nI (z / 2048)) (pk_div (by omega) (by decide) (by decide)) ?_
    refine hw_iconst C dL_setup_276 (v := nI 3) rfl ?_
    refine hw_irem C dL_setup_277 (by decide) ?_
    refine hw_topi (v' := nI (z / 2048 % 3)) (pk_rem (by omega) (by decide) (by decide)) ?_
    have key2 : HW p l e (Rhw 10 200 400000) s m [.ref sa, .int (nI steps)].toArray below meth c 10 N0 D (cells + 1) (slots + 2000) Q w1 288 [(0, .ref sa), (1, .int (nI steps)), (2, .int (nI pans)), (3, .int (nI lo)), (4, .ref b), (5, .int (nI k)), (6, .int (nI z))] [.ref (ad 21 (if z / 2048 % 3 = 0 then 14 else 13) 0), .ref b] := by
      obtain ⟨v0, c0, f0, rfl, q1, q2, q3, q4⟩ := hS
      refine hw_callWq C 0 (ci := 1) (Cn := RJ4) (Tc := TJ4) (N := 4) (As := [.ref (ad 21 (if z / 2048 % 3 = 0 then 14 else 13) 0)]) (h_aps4 (by split <;> decide) q1 q2 (by (try simp only [List.length_append, List.length_cons, List.length_nil, sL8, sL9, sL10, sL11, sL12, sL13, sL14, sL15, sL16]); have d0 := sL_hot z; have d1 := sL_alone z; (try simp only [List.length_append, List.length_cons, List.length_nil, sL8, sL9, sL10, sL11, sL12, sL13, sL14, sL15, sL16] at hl); omega) q4) (cwV 1 (hx_ts C) gL_setup_J4_append_15ec4 rfl rfl rfl (by decide +kernel) ⟨Nat.le_of_ble_eq_true rfl, Nat.le_of_ble_eq_true rfl⟩) rfl rfl rfl (st := []) rfl (Nat.le_of_ble_eq_true rfl) ⟨by show cells + 1 + 1 ≤ 200; omega, by show slots + 2000 + 2000 ≤ 400000; omega⟩ dL_setup_288 (fun r w1 hpost => ?_)
      obtain ⟨rfl, hS⟩ := sbq hpost q3
      refine hw_pop C dL_setup_291 rfl ?_
      refine K _ ?_
      simpa only [List.append_assoc] using hS
    by_cases h9 : z / 2048 % 3 = 0
    · rw [if_pos h9] at key2
      refine hw_if_ne C dL_setup_278 (tgt := 286) rfl (fun h8 => absurd (by rw [h9]; rfl) h8) (fun _ => ?_)
      refine hw_ldcS C (sr_21 (hx_st C)) dL_setup_281 ?_
      exact hw_goto C dL_setup_283 (tgt := 288) rfl key2
    · rw [if_neg h9] at key2
      refine hw_if_ne C dL_setup_278 (tgt := 286) rfl (fun _ => ?_) (fun h8 => absurd h8 (nI_ne0 (by omega) (by omega)))
      exact hw_ldcS C (sr_20 (hx_st C)) dL_setup_286 key2
  by_cases h9 : z / 512 % 3 = 0
  · rw [if_pos h9] at key
    refine hw_if_ne C dL_setup_257 (tgt := 265) rfl (fun h8 => absurd (by rw [h9]; rfl) h8) (fun _ => ?_)
    refine hw_ldcS C (sr_19 (hx_st C)) dL_setup_260 ?_
    exact hw_goto C dL_setup_262 (tgt := 267) rfl key
  · rw [if_neg h9] at key
    refine hw_if_ne C dL_setup_257 (tgt := 265) rfl (fun _ => ?_) (fun h8 => absurd h8 (nI_ne0 (by omega) (by omega)))
    exact hw_ldcS C (sr_20 (hx_st C)) dL_setup_265 key
set_option maxRecDepth 20000 in
theorem su_fin (C : Chw p s m [.ref sa, .int (nI steps)].toArray meth c cL_setup 10 wsL_setup RL N0 T D ad) (hS : SBw T b t w) (hl : t.length + 1 ≤ 1000) (hc : cells + 1 ≤ 200) (hs : slots + 2000 ≤ 400000) (K : ∀ w1, SBw T b (t ++ [nI 59]) w1 → HW p l e (Rhw 10 200 400000) s m [.ref sa, .int (nI steps)].toArray below meth c 10 N0 D (cells + 1) (slots + 2000) Q w1 143 [(0, .ref sa), (1, .int (nI steps)), (2, .int (nI pans)), (3, .int (nI lo)), (4, .ref b), (5, .int (nI (k + 1)))] []) : HW p l e (Rhw 10 200 400000) s m [.ref sa, .int (nI steps)].toArray below meth c 10 N0 D cells slots Q w 394 [(0, .ref sa), (1, .int (nI steps)), (2, .int (nI pans)), (3, .int (nI lo)), (4, .ref b), (5, .int (nI k)), (6, .int (nI z))] [] := by
  refine hw_aload C dL_setup_394 4 rfl ?_
  refine hw_bipush C dL_setup_396 (v := nI 59) (by decide) ?_
  obtain ⟨v0, c0, f0, rfl, q1, q2, q3, q4⟩ := hS
  refine hw_callWq C 0 (ci := 1) (Cn := RJ4) (Tc := TJ4) (N := 4) (As := [.int (nI 59)]) (h_apc4 (by omega) q1 q2 (by (try simp only [List.length_append, List.length_cons, List.length_nil, sL8, sL9, sL10, sL11, sL12, sL13, sL14, sL15, sL16]); (try simp only [List.length_append, List.length_cons, List.length_nil, sL8, sL9, sL10, sL11, sL12, sL13, sL14, sL15, sL16] at hl); omega) q4) (cwV 1 (hx_ts C) gL_setup_J4_append_cf468 rfl rfl rfl (by decide +kernel) ⟨Nat.le_of_ble_eq_true rfl, Nat.le_of_ble_eq_true rfl⟩) rfl rfl rfl (st := []) rfl (Nat.le_of_ble_eq_true rfl) ⟨by show cells + 1 ≤ 200; omega, by show slots + 2000 ≤ 400000; omega⟩ dL_setup_398 (fun r w1 hpost => ?_)
  obtain ⟨rfl, hS⟩ := sbq hpost q3
  refine hw_pop C dL_setup_401 rfl ?_
  refine hw_iinc C dL_setup_402 (kk := 5) rfl (v := nI (k + 1)) (nI_1 k) (by decide) rfl ?_
  refine hw_goto C dL_setup_405 (tgt := 143) rfl ?_
  refine hw_sub [1, 2, 3, 4, 5, 0] rfl ?_
  exact K _ hS
set_option maxRecDepth 10000 in
theorem su_row (C : Chw p s m [.ref sa, .int (nI steps)].toArray meth c cL_setup 10 wsL_setup RL N0 T D ad) (hX : HwX N0 sa sl sf s) (hS : SBw T b t w) (hk : k < 9) (hp : pans ≤ 4) (hl : t.length + 60 ≤ 1000) (hc : cells + 17 ≤ 200) (hs : slots + 34000 ≤ 400000) (K : ∀ w1, SBw T b (t ++ rowT sf sl pans k) w1 → HW p l e (Rhw 10 200 400000) s m [.ref sa, .int (nI steps)].toArray below meth c 10 N0 D (cells + 17) (slots + 34000) Q w1 143 [(0, .ref sa), (1, .int (nI steps)), (2, .int (nI pans)), (3, .int (nI lo)), (4, .ref b), (5, .int (nI (k + 1)))] []) : HW p l e (Rhw 10 200 400000) s m [.ref sa, .int (nI steps)].toArray below meth c 10 N0 D cells slots Q w 149 [(0, .ref sa), (1, .int (nI steps)), (2, .int (nI pans)), (3, .int (nI lo)), (4, .ref b), (5, .int (nI k))] [] := by
  refine su_st1 C hX hS hk (by omega) (by omega) (by omega) (fun cells1 slots1 w1 z hz0 hz t1 hS1 e1 ec es => ?_)
  subst ec
  subst es
  have l1 : t1.length ≤ t.length + 14 := by
    rw [e1]
    have d1 := dig_le (1 + z % 7)
    have d2 := dig_le (z / 8 % 6)
    simp only [List.length_append, List.length_cons, List.length_nil, sL8, sL9, sL10, sL11, sL12, sL13, sL14, sL15, sL16]
    omega
  refine su_in C hS1 hp hz (by omega) (by omega) (by omega) (fun w2 hS2 => ?_)
  have l2 : (t1 ++ inT z pans).length ≤ t.length + 20 := by
    have d1 := inT_len z pans
    simp only [List.length_append]
    omega
  refine su_ha C hS2 hz (by omega) (by omega) (by omega) (fun w3 hS3 => ?_)
  have l3 : (t1 ++ inT z pans ++ (sByt (if z / 512 % 3 = 0 then 12 else 13) ++ sByt (if z / 2048 % 3 = 0 then 14 else 13))).length ≤ t.length + 30 := by
    have d1 := sL_hot z
    have d2 := sL_alone z
    simp only [List.length_append] at l2 ⊢
    omega
  have fin : ∀ (cells1 slots1 : Nat) (w4 : va_W) (t4 : List Int32), SBw T b t4 w4 → t4 = (t1 ++ inT z pans ++ (sByt (if z / 512 % 3 = 0 then 12 else 13) ++ sByt (if z / 2048 % 3 = 0 then 14 else 13))) ++ rowP z k → cells1 ≤ cells + 16 → slots1 ≤ slots + 32000 → HW p l e (Rhw 10 200 400000) s m [.ref sa, .int (nI steps)].toArray below meth c 10 N0 D cells1 slots1 Q w4 394 [(0, .ref sa), (1, .int (nI steps)), (2, .int (nI pans)), (3, .int (nI lo)), (4, .ref b), (5, .int (nI k)), (6, .int (nI z))] [] := by
    intro cells1 slots1 w4 t4 hS4 e4 g1 g2
    have d1 := rowP_len z k
    refine su_fin C hS4 (by rw [e4, List.length_append]; omega) (by omega) (by omega) (fun w5 hS5 => ?_)
    refine hw_more (cells' := cells + 17) (slots' := slots + 34000) (by omega) (by omega) (K _ ?_)
    have e5 : t ++ rowT sf sl pans k = t4 ++ [nI 59] := by
      rw [e4, e1]
      unfold rowT
      rw [← hz0]
      simp only [List.append_assoc]
    rw [e5]
    exact hS5
  refine hw_iconst C dL_setup_292 (v := nI 0) (by decide) ?_
  refine hw_istore C dL_setup_293 (by decide) rfl ?_
  refine hw_iconst C dL_setup_295 (v := nI 0) (by decide) ?_
  refine hw_istore C dL_setup_296 (by decide) rfl ?_
  by_cases h0 : 0 < k
  · refine su_pr (cells := cells + 6 + 2 + 1 + 1) (slots := slots + 12000 + 4000 + 2000 + 2000) C hX h0 (by omega) hz (fun c1 s1 w4 t4 hS4 e4 g1 g2 => ?_) 3 0 0 _ _ w3 _ rfl (by decide) hS3 rfl (by omega) (by omega) (by omega) (by omega) (by omega)
    exact fin c1 s1 w4 t4 hS4 (by rw [e4, show rowP z k = prT z k 3 0 0 from if_pos h0]) (by omega) (by omega)
  · obtain rfl : k = 0 := by omega
    refine hw_iload C dL_setup_298 0 rfl ?_
    refine hw_iconst C dL_setup_300 (v := nI 3) (by decide) ?_
    refine hw_icmp_ge C dL_setup_301 (tgt := 394) rfl (fun h9 => absurd h9 (nI_ge (by decide) (by decide))) (fun _ => ?_)
    refine hw_iload C dL_setup_304 7 rfl ?_
    refine hw_if_le C dL_setup_306 (tgt := 394) rfl (fun _ => ?_) (fun h9 => absurd (by decide) h9)
    refine hw_sub [2, 3, 4, 5, 6, 7, 8] rfl ?_
    exact fin _ _ w3 _ hS3 (by rw [show rowP z 0 = [] from rfl, List.append_nil]) (by omega) (by omega)
set_option maxRecDepth 10000 in
theorem su_rows (C : Chw p s m [.ref sa, .int (nI steps)].toArray meth c cL_setup 10 wsL_setup RL N0 T D ad) (hX : HwX N0 sa sl sf s) (hp : pans ≤ 4) (hst : steps ≤ 9) (hr : meth.sig.returnType = some (.object "java/lang/String")) : ∀ (d k cells1 slots1 : Nat) (w1 : va_W) (t1 : List Int32), k + d = steps → SBw T b t1 w1 → t1.length ≤ 60 + 60 * k → cells1 ≤ 26 + 17 * k → slots1 ≤ 49004 + 34000 * k → t1 ++ rowsF sf sl pans d k = t → HW p l e (Rhw 10 200 400000) s m [.ref sa, .int (nI steps)].toArray below meth c 10 N0 D cells1 slots1 (MQ below (va_Qq (fun r w1 => ∃ r0 a f1, r = some r0 ∧ w1 = [(r0, .inr (0, [.ref a, .int 0, .int 0, .int 0])), (a, .inl (T 1, t.length, .inl f1))] ∧ (∀ j, j < t.length → f1 j = t.getD j 0) ∧ sb_Fit f1) (HwB N0 D) (fun q => N0 ≤ q)) [.ref sa, .int (nI steps)].toArray s 200 400000 (fun q => N0 ≤ q)) w1 143 [(0, .ref sa), (1, .int (nI steps)), (2, .int (nI pans)), (3, .int (nI lo)), (4, .ref b), (5, .int (nI k))] [] := by
  intro d
  induction d with
  | zero =>
    intro k cells1 slots1 w1 t1 e1 hS hl hc hs e2
    obtain rfl : t1 = t := by rw [← e2, rowsF, List.append_nil]
    refine hw_iload C dL_setup_143 5 rfl ?_
    refine hw_iload_n C dL_setup_145 rfl 1 rfl ?_
    refine hw_icmp_ge C dL_setup_146 (tgt := 408) rfl (fun _ => ?_) (fun h9 => absurd (nI_le (by omega) (by omega)) h9)
    refine hw_aload C dL_setup_408 4 rfl ?_
    obtain ⟨v0, c0, f0, rfl, q1, q2, q3, q4⟩ := hS
    refine hw_callWq C 0 (ci := 1) (Cn := RJ4) (Tc := TJ4) (N := 4) (As := []) (h_tos q1 q2 q4) (cwV 0 (hx_ts C) gL_setup_J4_toString_0e30d rfl rfl rfl (by decide +kernel) ⟨Nat.le_of_ble_eq_true rfl, Nat.le_of_ble_eq_true rfl⟩) rfl rfl rfl (st := []) rfl (Nat.le_of_ble_eq_true rfl) ⟨by show cells1 + 2 ≤ 200; omega, by show slots1 + (t1.length + 4) ≤ 400000; omega⟩ dL_setup_410 (fun r w2 h1 => ?_)
    obtain ⟨r0, a, f1, rfl, rfl, h2, h3⟩ := h1
    refine hw_conv [(r0, .inr (0, [.ref a, .int 0, .int 0, .int 0])), (a, .inl (T 1, t1.length, .inl f1))] (fun x hx => ?_) (fun hD => sb_D3 hD) ?_
    · rcases List.mem_cons.mp hx with rfl | hx
      · exact List.mem_cons_of_mem _ List.mem_cons_self
      · rw [List.mem_singleton.mp hx]; exact List.mem_cons_self
    · refine hw_more (cells' := 200) (slots' := 400000) (by omega) (by omega) ?_
      exact hw_aret C hr (Or.inl ⟨_, rfl⟩) _ ⟨r0, a, f1, rfl, rfl, fun j hj => (h2 j hj).trans (q3 j hj), h3⟩ (fun t h1 h2 => ⟨h1, h2⟩) dL_setup_413
  | succ d ih =>
    intro k cells1 slots1 w1 t1 e1 hS hl hc hs e2
    refine hw_iload C dL_setup_143 5 rfl ?_
    refine hw_iload_n C dL_setup_145 rfl 1 rfl ?_
    refine hw_icmp_ge C dL_setup_146 (tgt := 408) rfl (fun h9 => absurd h9 (nI_ge (by omega) (by omega))) (fun _ => ?_)
    refine su_row C hX hS (by omega) hp (by omega) (by omega) (by omega) (fun w2 hS2 => ?_)
    refine ih (k + 1) _ _ w2 _ (by omega) hS2 ?_ (by omega) (by omega) (by rw [← e2, rowsF, List.append_assoc])
    have h9 := rowT_len sf sl pans k
    rw [List.length_append]
    omega
set_option maxRecDepth 10000 in
theorem su_pans (C : Chw p s m [.ref sa, .int (nI steps)].toArray meth c cL_setup 10 wsL_setup RL N0 T D ad) (hX : HwX N0 sa sl sf s) (hp : pans ≤ 3) (K : ∀ (cells1 slots1 : Nat) (w1 : va_W) (t1 : List Int32), SBw T b t1 w1 → t1 = t → t1.length ≤ 60 → cells1 ≤ 26 → slots1 ≤ 49004 → HW p l e (Rhw 10 200 400000) s m [.ref sa, .int (nI steps)].toArray below meth c 10 N0 D cells1 slots1 Q w1 140 [(0, .ref sa), (1, .int (nI steps)), (2, .int (nI pans)), (3, .int (nI lo)), (4, .ref b), (5, .int (nI pans))] []) : ∀ (d k cells1 slots1 : Nat) (w1 : va_W) (t1 : List Int32), k + d = pans → SBw T b t1 w1 → t1.length + 10 * d ≤ 60 → cells1 + 5 * d ≤ 26 → slots1 + 10000 * d ≤ 49004 → t1 ++ pansF sf sl d k = t → HW p l e (Rhw 10 200 400000) s m [.ref sa, .int (nI steps)].toArray below meth c 10 N0 D cells1 slots1 Q w1 86 [(0, .ref sa), (1, .int (nI steps)), (2, .int (nI pans)), (3, .int (nI lo)), (4, .ref b), (5, .int (nI k))] [] := by
  intro d
  induction d with
  | zero =>
    intro k cells1 slots1 w1 t1 e1 hS hl hc hs e2
    obtain rfl : k = pans := by omega
    refine hw_iload C dL_setup_86 5 rfl ?_
    refine hw_iload_n C dL_setup_88 rfl 2 rfl ?_
    refine hw_icmp_ge C dL_setup_89 (tgt := 140) rfl (fun _ => ?_) (fun h9 => absurd (Int32.le_refl _) h9)
    exact K _ _ w1 t1 hS (by rw [← e2, pansF, List.append_nil]) (by omega) (by omega) (by omega)
  | succ d ih =>
    intro k cells1 slots1 w1 t1 e1 hS hl hc hs e2
    rw [Nat.mul_succ] at hl hc hs
    refine hw_iload C dL_setup_86 5 rfl ?_
    refine hw_iload_n C dL_setup_88 rfl 2 rfl ?_
    refine hw_icmp_ge C dL_setup_89 (tgt := 140) rfl (fun h9 => absurd h9 (nI_ge (by omega) (by omega))) (fun _ => ?_)
    refine su_pan C hX hS (by omega) (by omega) (by omega) (Nat.le_trans (Nat.add_le_add_left (Nat.le_add_left _ _) _) (Nat.le_trans hs (by decide))) (fun w2 hS2 => ?_)
    refine ih (k + 1) _ _ w2 _ (by omega) hS2 ?_ (by omega) (by rw [Nat.add_assoc, Nat.add_comm 10000]; exact hs) (by rw [← e2, pansF, List.append_assoc])
    have h9 := panT_len sf sl k
    rw [List.length_append]
    omega
set_option maxRecDepth 20000 in
theorem su_head (C : Chw p s m [.ref sa, .int (nI steps)].toArray meth c cL_setup 10 wsL_setup RL N0 T D ad) (hX : HwX N0 sa sl sf s) (K : ∀ (cells1 slots1 b : Nat) (w1 : va_W) (t1 : List Int32), SBw T b t1 w1 → t1 = headT sf sl → cells1 ≤ 11 → slots1 ≤ 19004 → HW p l e (Rhw 10 200 400000) s m [.ref sa, .int (nI steps)].toArray below meth c 10 N0 D cells1 slots1 Q w1 86 [(0, .ref sa), (1, .int (nI steps)), (2, .int (nI (pick sf sl 1 4))), (3, .int (nI (pick sf sl 2 12))), (4, .ref b), (5, .int (nI 0))] []) : HW p l e (Rhw 10 200 400000) s m [.ref sa, .int (nI steps)].toArray below meth c 10 N0 D 0 0 Q [] 0 [(0, .ref sa), (1, .int (nI steps))] [] := by
  refine hw_aload_n C dL_setup_0 rfl 0 rfl ?_
  refine hw_iconst C dL_setup_1 (v := nI 1) rfl ?_
  refine hw_iconst C dL_setup_2 (v := nI 4) rfl ?_
  refine hw_callSx C hX (As := [.ref sa, .int (nI 1), .int (nI 4)]) (h_pick (kk := 1) (n := 4) (by decide) (by decide) (by decide)) (va_cwS 3 (hx_ts C) gL_setup_L_pick rfl rfl rfl (by decide +kernel) ⟨Nat.le_of_ble_eq_true rfl, Nat.le_of_ble_eq_true rfl⟩) rfl (st := []) rfl (Nat.le_of_ble_eq_true rfl) ⟨by show 0 + 0 ≤ 200; omega, by show 0 + 0 ≤ 400000; omega⟩ dL_setup_3 (fun r w1 hpost => ?_)
  obtain ⟨rfl, rfl⟩ := hpost
  refine hw_istore_n C dL_setup_6 rfl (by decide) rfl ?_
  refine hw_aload_n C dL_setup_7 rfl 1 rfl ?_
  refine hw_iconst C dL_setup_8 (v := nI 2) rfl ?_
  refine hw_bipush C dL_setup_9 (v := nI 12) (by decide) ?_
  refine hw_callSx C hX (As := [.ref sa, .int (nI 2), .int (nI 12)]) (h_pick (kk := 2) (n := 12) (by decide) (by decide) (by decide)) (va_cwS 3 (hx_ts C) gL_setup_L_pick rfl rfl rfl (by decide +kernel) ⟨Nat.le_of_ble_eq_true rfl, Nat.le_of_ble_eq_true rfl⟩) rfl (st := []) rfl (Nat.le_of_ble_eq_true rfl) ⟨by show 0 + 0 ≤ 200; omega, by show 0 + 0 ≤ 400000; omega⟩ dL_setup_11 (fun r w1 hpost => ?_)
  obtain ⟨rfl, rfl⟩ := hpost
  refine hw_istore_n C dL_setup_14 rfl (by decide) rfl ?_
  refine hw_new C (ci := 1) (fs := [.null, .int 0, .int 0, .int 0]) tyJ4 jl_L_setup_1 tyJ4_ok jw_L_setup_c38 jw_L_setup_in jw_L_setup_ini rfl (by decide) (by show 0 + 1 ≤ 200; omega) (by show 0 + 4 ≤ 400000; omega) dL_setup_15 (fun b hb0 hnb => ?_)
  refine hw_dup C dL_setup_18 rfl ?_
  refine hw_ldcS C (sr_15 (hx_st C)) dL_setup_19 ?_
  refine hw_callIv C (As := [.ref (ad 21 8 0)]) (h_bi4 (by decide)) (cwI 1 (hx_ts C) gL_setup_J4_init_a7421 rfl rfl rfl (hx_ts C _ jw_L_setup_ini) (hx_ts C _ jw_L_setup_k42) (hx_ts C _ jw_L_setup_mJ4) rfl (by decide +kernel) ⟨Nat.le_of_ble_eq_true rfl, Nat.le_of_ble_eq_true rfl⟩) rfl (st := [.ref b]) rfl (Nat.le_of_ble_eq_true rfl) ⟨by show 0 + 1 + 2 ≤ 200; omega, by show 0 + 4 + 3000 ≤ 400000; omega⟩ dL_setup_21 (fun w1 h1 => ?_)
  obtain ⟨v1, c1, f1, rfl, h2, h3, h4, h5⟩ := h1
  have hS : SBw T b (sByt 8) (sbW T b v1 c1 (sByt 8).length f1) := ⟨v1, c1, f1, rfl, h2, h3, h4, h5⟩
  have hl : (sByt 8).length + 20 ≤ 1000 := by rw [sL8]; decide
  generalize sbW T b v1 c1 (sByt 8).length f1 = w1 at hS ⊢
  refine hw_iconst C dL_setup_24 (v := nI 1) rfl ?_
  refine hw_aload_n C dL_setup_25 rfl 2 rfl ?_
  refine hw_iconst C dL_setup_26 (v := nI 3) rfl ?_
  refine hw_iconst C dL_setup_27 (v := nI 3) rfl ?_
  refine hw_callSx C hX (As := [.ref sa, .int (nI 3), .int (nI 3)]) (h_pick (kk := 3) (n := 3) (by decide) (by decide) (by decide)) (va_cwS 3 (hx_ts C) gL_setup_L_pick rfl rfl rfl (by decide +kernel) ⟨Nat.le_of_ble_eq_true rfl, Nat.le_of_ble_eq_true rfl⟩) rfl (st := [.int (nI 1), .ref b]) rfl (Nat.le_of_ble_eq_true rfl) ⟨by show 0 + 1 + 2 + 0 ≤ 200; omega, by show 0 + 4 + 3000 + 0 ≤ 400000; omega⟩ dL_setup_28 (fun r w1 hpost => ?_)
  obtain ⟨rfl, rfl⟩ := hpost
  refine hw_iadd C dL_setup_31 ?_
  refine hw_topi (v' := nI (1 + pick sf sl 3 3)) (nI_add _ _) ?_
  obtain ⟨v0, c0, f0, rfl, q1, q2, q3, q4⟩ := hS
  refine hw_callWq C 0 (ci := 1) (Cn := RJ4) (Tc := TJ4) (N := 4) (As := [.int (nI (1 + pick sf sl 3 3))]) (h_api4 (by have := pick_lt (sf := sf) (sl := sl) (k := 3) (n := 3) (by decide); omega) q1 q2 (by (try simp only [List.length_append, List.length_cons, List.length_nil, sL8, sL9, sL10, sL11, sL12, sL13, sL14, sL15, sL16]); have d0 := dig_le (1 + pick sf sl 3 3); (try simp only [List.length_append, List.length_cons, List.length_nil, sL8, sL9, sL10, sL11, sL12, sL13, sL14, sL15, sL16] at hl); omega) q4) (cwV 1 (hx_ts C) gL_setup_J4_append_bf812 rfl rfl rfl (by decide +kernel) ⟨Nat.le_of_ble_eq_true rfl, Nat.le_of_ble_eq_true rfl⟩) rfl rfl rfl (st := []) rfl (Nat.le_of_ble_eq_true rfl) ⟨by show 0 + 1 + 2 + 1 ≤ 200; omega, by show 0 + 4 + 3000 + 2000 ≤ 400000; omega⟩ dL_setup_32 (fun r w1 hpost => ?_)
  obtain ⟨rfl, hS⟩ := sbq hpost q3
  refine hw_bipush C dL_setup_35 (v := nI 32) (by decide) ?_
  obtain ⟨v0, c0, f0, rfl, q1, q2, q3, q4⟩ := hS
  refine hw_callWq C 0 (ci := 1) (Cn := RJ4) (Tc := TJ4) (N := 4) (As := [.int (nI 32)]) (h_apc4 (by omega) q1 q2 (by (try simp only [List.length_append, List.length_cons, List.length_nil, sL8, sL9, sL10, sL11, sL12, sL13, sL14, sL15, sL16]); have d0 := dig_le (1 + pick sf sl 3 3); (try simp only [List.length_append, List.length_cons, List.length_nil, sL8, sL9, sL10, sL11, sL12, sL13, sL14, sL15, sL16] at hl); omega) q4) (cwV 1 (hx_ts C) gL_setup_J4_append_cf468 rfl rfl rfl (by decide +kernel) ⟨Nat.le_of_ble_eq_true rfl, Nat.le_of_ble_eq_true rfl⟩) rfl rfl rfl (st := []) rfl (Nat.le_of_ble_eq_true rfl) ⟨by show 0 + 1 + 2 + 1 + 1 ≤ 200; omega, by show 0 + 4 + 3000 + 2000 + 2000 ≤ 400000; omega⟩ dL_setup_37 (fun r w1 hpost => ?_)
  obtain ⟨rfl, hS⟩ := sbq hpost q3
  refine hw_aload_n C dL_setup_40 rfl 2 rfl ?_
  refine hw_iconst C dL_setup_41 (v := nI 4) rfl ?_
  refine hw_bipush C dL_setup_42 (v := nI 6) (by decide) ?_
  refine hw_callSx C hX (As := [.ref sa, .int (nI 4), .int (nI 6)]) (h_pick (kk := 4) (n := 6) (by decide) (by decide) (by decide)) (va_cwS 3 (hx_ts C) gL_setup_L_pick rfl rfl rfl (by decide +kernel) ⟨Nat.le_of_ble_eq_true rfl, Nat.le_of_ble_eq_true rfl⟩) rfl (st := [.ref b]) rfl (Nat.le_of_ble_eq_true rfl) ⟨by show 0 + 1 + 2 + 1 + 1 + 0 ≤ 200; omega, by show 0 + 4 + 3000 + 2000 + 2000 + 0 ≤ 400000; omega⟩ dL_setup_44 (fun r w1 hpost => ?_)
  obtain ⟨rfl, rfl⟩ := hpost
  obtain ⟨v0, c0, f0, rfl, q1, q2, q3, q4⟩ := hS
  refine hw_callWq C 0 (ci := 1) (Cn := RJ4) (Tc := TJ4) (N := 4) (As := [.int (nI (pick sf sl 4 6))]) (h_api4 (by have := pick_lt (sf := sf) (sl := sl) (k := 4) (n := 6) (by decide); omega) q1 q2 (by (try simp only [List.length_append, List.length_cons, List.length_nil, sL8, sL9, sL10, sL11, sL12, sL13, sL14, sL15, sL16]); have d0 := dig_le (1 + pick sf sl 3 3); have d1 := dig_le (pick sf sl 4 6); (try simp only [List.length_append, List.length_cons, List.length_nil, sL8, sL9, sL10, sL11, sL12, sL13, sL14, sL15, sL16] at hl); omega) q4) (cwV 1 (hx_ts C) gL_setup_J4_append_bf812 rfl rfl rfl (by decide +kernel) ⟨Nat.le_of_ble_eq_true rfl, Nat.le_of_ble_eq_true rfl⟩) rfl rfl rfl (st := []) rfl (Nat.le_of_ble_eq_true rfl) ⟨by show 0 + 1 + 2 + 1 + 1 + 1 ≤ 200; omega, by show 0 + 4 + 3000 + 2000 + 2000 + 2000 ≤ 400000; omega⟩ dL_setup_47 (fun r w1 hpost => ?_)
  obtain ⟨rfl, hS⟩ := sbq hpost q3
  refine hw_bipush C dL_setup_50 (v := nI 32) (by decide) ?_
  obtain ⟨v0, c0, f0, rfl, q1, q2, q3, q4⟩ := hS
  refine hw_callWq C 0 (ci := 1) (Cn := RJ4) (Tc := TJ4) (N := 4) (As := [.int (nI 32)]) (h_apc4 (by omega) q1 q2 (by (try simp only [List.length_append, List.length_cons, List.length_nil, sL8, sL9, sL10, sL11, sL12, sL13, sL14, sL15, sL16]); have d0 := dig_le (1 + pick sf sl 3 3); have d1 := dig_le (pick sf sl 4 6); (try simp only [List.length_append, List.length_cons, List.length_nil, sL8, sL9, sL10, sL11, sL12, sL13, sL14, sL15, sL16] at hl); omega) q4) (cwV 1 (hx_ts C) gL_setup_J4_append_cf468 rfl rfl rfl (by decide +kernel) ⟨Nat.le_of_ble_eq_true rfl, Nat.le_of_ble_eq_true rfl⟩) rfl rfl rfl (st := []) rfl (Nat.le_of_ble_eq_true rfl) ⟨by show 0 + 1 + 2 + 1 + 1 + 1 + 1 ≤ 200; omega, by show 0 + 4 + 3000 + 2000 + 2000 + 2000 + 2000 ≤ 400000; omega⟩ dL_setup_52 (fun r w1 hpost => ?_)
  obtain ⟨rfl, hS⟩ := sbq hpost q3
  refine hw_iload_n C dL_setup_55 rfl 0 rfl ?_
  obtain ⟨v0, c0, f0, rfl, q1, q2, q3, q4⟩ := hS
  refine hw_callWq C 0 (ci := 1) (Cn := RJ4) (Tc := TJ4) (N := 4) (As := [.int (nI (pick sf sl 2 12))]) (h_api4 (by have := pick_lt (sf := sf) (sl := sl) (k := 2) (n := 12) (by decide); omega) q1 q2 (by (try simp only [List.length_append, List.length_cons, List.length_nil, sL8, sL9, sL10, sL11, sL12, sL13, sL14, sL15, sL16]); have d0 := dig_le (1 + pick sf sl 3 3); have d1 := dig_le (pick sf sl 4 6); have d2 := dig_le (pick sf sl 2 12); (try simp only [List.length_append, List.length_cons, List.length_nil, sL8, sL9, sL10, sL11, sL12, sL13, sL14, sL15, sL16] at hl); omega) q4) (cwV 1 (hx_ts C) gL_setup_J4_append_bf812 rfl rfl rfl (by decide +kernel) ⟨Nat.le_of_ble_eq_true rfl, Nat.le_of_ble_eq_true rfl⟩) rfl rfl rfl (st := []) rfl (Nat.le_of_ble_eq_true rfl) ⟨by show 0 + 1 + 2 + 1 + 1 + 1 + 1 + 1 ≤ 200; omega, by show 0 + 4 + 3000 + 2000 + 2000 + 2000 + 2000 + 2000 ≤ 400000; omega⟩ dL_setup_56 (fun r w1 hpost => ?_)
  obtain ⟨rfl, hS⟩ := sbq hpost q3
  refine hw_bipush C dL_setup_59 (v := nI 32) (by decide) ?_
  obtain ⟨v0, c0, f0, rfl, q1, q2, q3, q4⟩ := hS
  refine hw_callWq C 0 (ci := 1) (Cn := RJ4) (Tc := TJ4) (N := 4) (As := [.int (nI 32)]) (h_apc4 (by omega) q1 q2 (by (try simp only [List.length_append, List.length_cons, List.length_nil, sL8, sL9, sL10, sL11, sL12, sL13, sL14, sL15, sL16]); have d0 := dig_le (1 + pick sf sl 3 3); have d1 := dig_le (pick sf sl 4 6); have d2 := dig_le (pick sf sl 2 12); (try simp only [List.length_append, List.length_cons, List.length_nil, sL8, sL9, sL10, sL11, sL12, sL13, sL14, sL15, sL16] at hl); omega) q4) (cwV 1 (hx_ts C) gL_setup_J4_append_cf468 rfl rfl rfl (by decide +kernel) ⟨Nat.le_of_ble_eq_true rfl, Nat.le_of_ble_eq_true rfl⟩) rfl rfl rfl (st := []) rfl (Nat.le_of_ble_eq_true rfl) ⟨by show 0 + 1 + 2 + 1 + 1 + 1 + 1 + 1 + 1 ≤ 200; omega, by show 0 + 4 + 3000 + 2000 + 2000 + 2000 + 2000 + 2000 + 2000 ≤ 400000; omega⟩ dL_setup_61 (fun r w1 hpost => ?_)
  obtain ⟨rfl, hS⟩ := sbq hpost q3
  refine hw_iload_n C dL_setup_64 rfl 0 rfl ?_
  refine hw_aload_n C dL_setup_65 rfl 2 rfl ?_
  refine hw_iconst C dL_setup_66 (v := nI 5) rfl ?_
  refine hw_bipush C dL_setup_67 (v := nI 20) (by decide) ?_
  refine hw_callSx C hX (As := [.ref sa, .int (nI 5), .int (nI 20)]) (h_pick (kk := 5) (n := 20) (by decide) (by decide) (by decide)) (va_cwS 3 (hx_ts C) gL_setup_L_pick rfl rfl rfl (by decide +kernel) ⟨Nat.le_of_ble_eq_true rfl, Nat.le_of_ble_eq_true rfl⟩) rfl (st := [.int (nI (pick sf sl 2 12)), .ref b]) rfl (Nat.le_of_ble_eq_true rfl) ⟨by show 0 + 1 + 2 + 1 + 1 + 1 + 1 + 1 + 1 + 0 ≤ 200; omega, by show 0 + 4 + 3000 + 2000 + 2000 + 2000 + 2000 + 2000 + 2000 + 0 ≤ 400000; omega⟩ dL_setup_69 (fun r w1 hpost => ?_)
  obtain ⟨rfl, rfl⟩ := hpost
  refine hw_iadd C dL_setup_72 ?_
  refine hw_topi (v' := nI (pick sf sl 2 12 + pick sf sl 5 20)) (nI_add _ _) ?_
  obtain ⟨v0, c0, f0, rfl, q1, q2, q3, q4⟩ := hS
  refine hw_callWq C 0 (ci := 1) (Cn := RJ4) (Tc := TJ4) (N := 4) (As := [.int (nI (pick sf sl 2 12 + pick sf sl 5 20))]) (h_api4 (by have := pick_lt (sf := sf) (sl := sl) (k := 2) (n := 12) (by decide); have := pick_lt (sf := sf) (sl := sl) (k := 5) (n := 20) (by decide); omega) q1 q2 (by (try simp only [List.length_append, List.length_cons, List.length_nil, sL8, sL9, sL10, sL11, sL12, sL13, sL14, sL15, sL16]); have d0 := dig_le (1 + pick sf sl 3 3); have d1 := dig_le (pick sf sl 4 6); have d2 := dig_le (pick sf sl 2 12); have d3 := dig_le (pick sf sl 2 12 + pick sf sl 5 20); (try simp only [List.length_append, List.length_cons, List.length_nil, sL8, sL9, sL10, sL11, sL12, sL13, sL14, sL15, sL16] at hl); omega) q4) (cwV 1 (hx_ts C) gL_setup_J4_append_bf812 rfl rfl rfl (by decide +kernel) ⟨Nat.le_of_ble_eq_true rfl, Nat.le_of_ble_eq_true rfl⟩) rfl rfl rfl (st := []) rfl (Nat.le_of_ble_eq_true rfl) ⟨by show 0 + 1 + 2 + 1 + 1 + 1 + 1 + 1 + 1 + 1 ≤ 200; omega, by show 0 + 4 + 3000 + 2000 + 2000 + 2000 + 2000 + 2000 + 2000 + 2000 ≤ 400000; omega⟩ dL_setup_73 (fun r w1 hpost => ?_)
  obtain ⟨rfl, hS⟩ := sbq hpost q3
  refine hw_bipush C dL_setup_76 (v := nI 59) (by decide) ?_
  obtain ⟨v0, c0, f0, rfl, q1, q2, q3, q4⟩ := hS
  refine hw_callWq C 0 (ci := 1) (Cn := RJ4) (Tc := TJ4) (N := 4) (As := [.int (nI 59)]) (h_apc4 (by omega) q1 q2 (by (try simp only [List.length_append, List.length_cons, List.length_nil, sL8, sL9, sL10, sL11, sL12, sL13, sL14, sL15, sL16]); have d0 := dig_le (1 + pick sf sl 3 3); have d1 := dig_le (pick sf sl 4 6); have d2 := dig_le (pick sf sl 2 12); have d3 := dig_le (pick sf sl 2 12 + pick sf sl 5 20); (try simp only [List.length_append, List.length_cons, List.length_nil, sL8, sL9, sL10, sL11, sL12, sL13, sL14, sL15, sL16] at hl); omega) q4) (cwV 1 (hx_ts C) gL_setup_J4_append_cf468 rfl rfl rfl (by decide +kernel) ⟨Nat.le_of_ble_eq_true rfl, Nat.le_of_ble_eq_true rfl⟩) rfl rfl rfl (st := []) rfl (Nat.le_of_ble_eq_true rfl) ⟨by show 0 + 1 + 2 + 1 + 1 + 1 + 1 + 1 + 1 + 1 + 1 ≤ 200; omega, by show 0 + 4 + 3000 + 2000 + 2000 + 2000 + 2000 + 2000 + 2000 + 2000 + 2000 ≤ 400000; omega⟩ dL_setup_78 (fun r w1 hpost => ?_)
  obtain ⟨rfl, hS⟩ := sbq hpost q3
  refine hw_astore C dL_setup_81 (by decide) rfl ?_
  refine hw_iconst C dL_setup_83 (v := nI 0) rfl ?_
  refine hw_istore C dL_setup_84 (by decide) rfl ?_
  refine hw_sub [4, 5, 3, 2, 1, 0] rfl ?_
  refine K _ _ b _ _ hS ?_ (Nat.le_refl 11) (by omega)
  unfold headT; simp only [List.append_assoc]
end
set_option maxRecDepth 10000 in
theorem h_setup {l : Launch} {N0 : Nat} {T : Nat → ClassId} {D : va_G} {ad : Nat → Nat → Nat → Nat} {sa sl steps : Nat} {sf : Nat → Int32} (hst : steps ≤ 9) :
    Met l yL_setup wsL_setup (Rhw 10 200 400000) (va_Pc [.ref sa, .int (nI steps)] (HwPx N0 T D ad [] sa sl sf)) (va_Qq (fun r w1 => ∃ r0 a f1, r = some r0 ∧ w1 = [(r0, .inr (0, [.ref a, .int 0, .int 0, .int 0])), (a, .inl (T 1, (setT sf sl steps).length, .inl f1))] ∧ (∀ j, j < (setT sf sl steps).length → f1 j = (setT sf sl steps).getD j 0) ∧ sb_Fit f1) (HwB N0 D) (fun q => N0 ≤ q)) 200 400000 (fun q => N0 ≤ q) := by
  refine hw_bodyx 200 400000 (by decide +kernel) rfl (Nat.le_of_ble_eq_true rfl) (fun p e s m below meth c C hX hr => ?_)
  refine su_head C hX (fun cells1 slots1 b w1 t1 hS e1 hc hs => ?_)
  have hp : pick sf sl 1 4 < 4 := pick_lt (by decide)
  have hl : t1.length ≤ 20 := by rw [e1]; exact headT_len sf sl
  refine su_pans C hX (t := headT sf sl ++ pansF sf sl (pick sf sl 1 4) 0) (by omega) (fun cells2 slots2 w2 t2 hS2 e2 hl2 hc2 hs2 => ?_) (pick sf sl 1 4) 0 _ _ w1 t1 (Nat.zero_add _) hS (by omega) (by omega) (by omega) (by rw [e1])
  refine hw_iconst C dL_setup_140 (v := nI 0) (by decide) ?_
  refine hw_istore C dL_setup_141 (by decide) rfl ?_
  refine hw_sub [1, 2, 3, 4, 5, 0] rfl ?_
  exact su_rows C hX (by omega) hst hr steps 0 _ _ w2 t2 (Nat.zero_add _) hS2 (by omega) (by omega) (by omega) (by rw [e2]; rfl)
