/-! THE LAW: from the new object to the rounds -/
section
variable {p : Program} {l : Launch} {e : Env} {s : State} {m : MethodId} {below : List Frame} {meth : Method} {c : Code} {T : Nat → ClassId} {D : va_G} {ad : Nat → Nat → Nat → Nat} {b sl : Nat} {sf : Nat → Int32}
/-- from the text said to the rounds -/
theorem law_load (C1 : Chw p s m #[.ref b] meth c code 10 wsL_law RL s.heap.size T D ad) (hX : HwX s.heap.size b sl sf s) (hr : meth.sig.returnType = ret) {n : Nat} (n1 : 1 ≤ n) (n9 : n ≤ 9) {Y0 Y1 : Mem} (hS : SY Y0 (lC sf sl n) (setT sf sl n).length Y1) {cells slots : Nat} (hc : cells ≤ 500) (hs : slots ≤ 450000) :
    HW p l e room_1 s m #[.ref b] below meth c 10 s.heap.size D cells slots (lw_Z below #[.ref b] s) (wC T gr1 ad Y1) 30 [(2, .int (nI n)), (1, .ref (ad 0 0 0)), (0, .ref b)] [] := by
  obtain ⟨s1, s2, s3, s4, s5⟩ := hS
  have h600 := setT_600 sf sl n9
  have hTT := TT_made sf sl s1 n9 (by omega) s2 (lC_7 sf sl n9) (lC_s sf sl n9) s3
  obtain ⟨Yc, Ym, l1, l2, l3, l4, l5, l6, l7⟩ := load_ok sf sl s1 n1 n9 hTT
  obtain ⟨qx, hx⟩ := wC_x (T := T) (ad := ad) (gr := gr1) (by decide +kernel)
  obtain ⟨fs, hfs⟩ := hx Y1
  refine hw_aload_n C1 dL_law_30 rfl 1 rfl ?_
  refine hw_callWi C1 qx (ci := 11) (Cn := RX11) (Tc := TX11) (N := 11) (As := []) (CI_HI (c_X11_load (g1 (by decide +kernel)) (load_X l1))) (cwV 0 (hx_ts C1) gL_law_X11_load rfl rfl rfl (by decide +kernel) ⟨Nat.le_of_ble_eq_true rfl, Nat.le_of_ble_eq_true rfl⟩) rfl hfs rfl (st := []) rfl (Nat.le_of_ble_eq_true rfl) ⟨by show cells + 0 ≤ 600086; omega, by show slots + 0 ≤ 7301442; omega⟩ dL_law_31 (fun r w1 h1 => ?_)
  obtain ⟨Y2, e1, rfl⟩ := h1
  obtain ⟨e2, e3⟩ := Prod.mk.inj e1
  subst e2
  subst e3
  refine hw_world (wC_k10 l2 n1_10) ?_
  refine hw_iload_n C1 dL_law_34 rfl 0 rfl ?_
  refine hw_icmp_eq C1 dL_law_35 (tgt := 40) rfl (fun _ => ?_) (fun h9 => absurd rfl h9)
  refine hw_new C1 (ci := 12) (fs := [.null, .int 0, .int 0, .null, .null, .null, .null, .int 0, .int 0, .int 0, .int 0, .int 0]) tyX12 jl_law_12 tyX12_ok lwc_119 lwi_12 lwn_12 rfl (by decide) (by show cells + 0 + 1 ≤ 600086; omega) (by show slots + 0 + 12 ≤ 7301442; omega) dL_law_40 (fun h hh0 hhn => ?_)
  refine hw_dup C1 dL_law_43 rfl ?_
  refine hw_aload_n C1 dL_law_44 rfl 1 rfl ?_
  refine hw_aload_n C1 dL_law_45 rfl 2 rfl ?_
  refine hw_iconst C1 dL_law_46 (v := nI 4) (by decide) ?_
  refine hw_bipush C1 dL_law_47 (v := nI 6) (by decide) ?_
  refine hw_callSx C1 hX (As := [.ref b, .int (nI 4), .int (nI 6)]) (h_pick (kk := 4) (n := 6) (by decide) (by decide) (by decide)) (va_cwS 3 (hx_ts C1) gL_law_L_pick rfl rfl rfl (by decide +kernel) ⟨Nat.le_of_ble_eq_true rfl, Nat.le_of_ble_eq_true rfl⟩) rfl (st := [.ref (ad 0 0 0), .ref h, .ref h]) rfl (Nat.le_of_ble_eq_true rfl) ⟨by show cells + 0 + 1 + 0 ≤ 600086; omega, by show slots + 0 + 12 + 0 ≤ 7301442; omega⟩ dL_law_49 (fun r w1 h1 => ?_)
  obtain ⟨rfl, rfl⟩ := h1
  refine hw_callIv C1 (As := [.ref (ad 0 0 0), .int (nI (pick sf sl 4 6))]) (h_ki l3 (g1 (by decide +kernel)) n1_12) (cwI 2 (hx_ts C1) gL_law_X12_init rfl rfl rfl (hx_ts C1 _ lwn_12) (hx_ts C1 _ lwk_121) (hx_ts C1 _ lwm_12) rfl (by decide +kernel) ⟨Nat.le_of_ble_eq_true rfl, Nat.le_of_ble_eq_true rfl⟩) rfl (st := [.ref h]) rfl (Nat.le_of_ble_eq_true rfl) ⟨by show cells + 0 + 1 + 0 + 5 ≤ 600086; omega, by show slots + 0 + 12 + 0 + 68 ≤ 7301442; omega⟩ dL_law_52 (fun w1 h1 => ?_)
  obtain ⟨ad2, d1, d2, rfl⟩ := h1
  obtain ⟨k1, k2⟩ := LI_ki l3 l4 l5 n9 l6 l7
  have C2 : Chw p s m #[.ref b] meth c code 10 wsL_law RL s.heap.size T D ad2 := Chw_ad C1 (fun k hk => d1 k (by omega))
  refine hw_astore_n C2 dL_law_55 rfl (by decide) rfl ?_
  refine hw_iconst C2 dL_law_56 (v := nI 0) (by decide) ?_
  refine hw_istore C2 dL_law_57 (by decide) rfl ?_
  refine hw_L (L1 := [(4, .int (nI 0)), (3, .ref (ad2 12 0 0)), (2, .int (nI n)), (1, .ref (ad2 0 0 0)), (0, .ref b)]) (by rw [d1 0 (by decide), d2]; rfl) ?_
  exact law_loop C2 hX hr 18 0 _ 0 _ _ rfl k1 (Nat.zero_le _) (by omega) (by omega)
theorem law_begin (C : Chw p s m #[.ref b] meth c code 10 wsL_law RL s.heap.size T D ad) (hX : HwX s.heap.size b sl sf s) (hr : meth.sig.returnType = ret) {Y : Mem} (hI : Inv Y) {cells slots : Nat} (hc : cells ≤ 250) (hs : slots ≤ 4000) :
    HW p l e room_1 s m #[.ref b] below meth c 10 s.heap.size D cells slots (lw_Z below #[.ref b] s) (wC T allG ad Y) 8 [(1, .ref (ad 0 0 0)), (0, .ref b)] [] := by
  refine hw_iconst C dL_law_8 (v := nI 1) (by decide) ?_
  refine hw_aload_n C dL_law_9 rfl 1 rfl ?_
  refine hw_iconst C dL_law_10 (v := nI 0) (by decide) ?_
  refine hw_bipush C dL_law_11 (v := nI 9) (by decide) ?_
  refine hw_callSx C hX (As := [.ref b, .int (nI 0), .int (nI 9)]) (h_pick (kk := 0) (n := 9) (by decide) (by decide) (by decide)) (va_cwS 3 (hx_ts C) gL_law_L_pick rfl rfl rfl (by decide +kernel) ⟨Nat.le_of_ble_eq_true rfl, Nat.le_of_ble_eq_true rfl⟩) rfl (st := [.int (nI 1)]) rfl (Nat.le_of_ble_eq_true rfl) ⟨by show cells + 0 ≤ 600086; omega, by show slots + 0 ≤ 7301442; omega⟩ dL_law_13 (fun r w1 h1 => ?_)
  obtain ⟨rfl, rfl⟩ := h1
  refine hw_iadd C dL_law_16 ?_
  refine hw_topi (v' := nI (1 + pick sf sl 0 9)) (nI_add _ _) ?_
  have hp : pick sf sl 0 9 < 9 := pick_lt (by decide)
  have n1 : 1 ≤ 1 + pick sf sl 0 9 := by omega
  have n9 : 1 + pick sf sl 0 9 ≤ 9 := by omega
  generalize 1 + pick sf sl 0 9 = n at n1 n9 ⊢
  refine hw_istore_n C dL_law_17 rfl (by decide) rfl ?_
  refine hw_aload_n C dL_law_18 rfl 1 rfl ?_
  refine hw_aload_n C dL_law_19 rfl 2 rfl ?_
  refine hw_iload_n C dL_law_20 rfl 0 rfl ?_
  refine hw_callN C hX (As := [.ref b, .int (nI n)]) (fun N1 _ => h_setup n9) (va_cwS 2 (hx_ts C) gL_law_L_setup rfl rfl rfl (by decide +kernel) ⟨Nat.le_of_ble_eq_true rfl, Nat.le_of_ble_eq_true rfl⟩) rfl (st := [.ref (ad 0 0 0)]) rfl (Nat.le_of_ble_eq_true rfl) ⟨by show cells + 0 + 200 ≤ 600086; omega, by show slots + 0 + 400000 ≤ 7301442; omega⟩ dL_law_21 (fun r w1 h1 => ?_)
  obtain ⟨r0, a, f1, rfl, rfl, hf, hfit⟩ := h1
  have h600 := setT_600 sf sl n9
  refine hw_perm List.perm_append_comm ?_
  refine hw_convP (wC T gr1 (adS ad r0 a) (YS Y (setT sf sl n).length f1)) (fun H hP => ?_) (fun hD => DM_fst hD ?_) ?_
  · rw [lwS9, nI_clamp (by omega)]
    refine PM.app (fun q hq => hP q (List.mem_append_left _ hq)) (fun q hq => ?_)
    rcases List.mem_cons.mp hq with e1 | hq
    · rw [e1]
      exact hP _ (List.mem_append_right _ List.mem_cons_self)
    · rw [List.mem_singleton.mp hq]
      exact at_ints (fun j hj => if_neg (by omega)) (hP _ (List.mem_append_right _ (List.mem_cons_of_mem _ List.mem_cons_self)))
  · rw [lwS9]; simp
  have C1 : Chw p s m #[.ref b] meth c code 10 wsL_law RL s.heap.size T D (adS ad r0 a) := Chw_ad C (fun k hk => adS_k (by omega) (by omega))
  have e0 : adS ad r0 a 0 = ad 0 := adS_k (by decide) (by decide)
  refine hw_L (L1 := [(2, .int (nI n)), (1, .ref (adS ad r0 a 0 0 0)), (0, .ref b)]) (by rw [e0]; rfl) ?_
  refine hw_st (st' := [.ref (adS ad r0 a 15 0 0), .ref (adS ad r0 a 0 0 0)]) (by rw [e0]; rfl) ?_
  have hI1 : Inv (YS Y (setT sf sl n).length f1) := Inv_fr (fun k hk => YS_k (by omega)) hI
  obtain ⟨bt, n0, t1, t2, t3, t4⟩ := TT_of (Inv_X hI1)
  have e16 : YS Y (setT sf sl n).length f1 16 0 0 = fun j => if j = 100000 then nI (setT sf sl n).length else f1 j := upR_at Y 16 0 0 _
  have hF : YS Y (setT sf sl n).length f1 16 0 0 100000 = nI (setT sf sl n).length := by rw [e16]; exact if_pos rfl
  have hb : ∀ j, gW (setT sf sl n).length (YS Y (setT sf sl n).length f1 16 0 0) j = nI (lC sf sl n j) := fun j => by
    unfold gW
    by_cases hj : j < (setT sf sl n).length
    · rw [if_pos hj, e16]
      show (if j = 100000 then _ else f1 j) = _
      rw [if_neg (by omega), hf j hj, lC_s sf sl n9 j hj]
    · rw [if_neg hj, lC_32 sf sl n9 j hj]
  refine hw_callSi C1 (As := [.ref (adS ad r0 a 0 0 0), .ref (adS ad r0 a 15 0 0)]) (h_say (gr := gr1) (c := lC sf sl n) (n := (setT sf sl n).length) hI1 t3 t1 (g1 (by decide +kernel)) (by decide +kernel) (by decide +kernel) n1_10 h600 hF (lC_7 sf sl n9) hb) (va_cwS 2 (hx_ts C1) gL_law_L_say rfl rfl rfl (by decide +kernel) ⟨Nat.le_of_ble_eq_true rfl, Nat.le_of_ble_eq_true rfl⟩) rfl (st := []) rfl (Nat.le_of_ble_eq_true rfl) ⟨by show cells + 0 + 200 + 0 ≤ 600086; omega, by show slots + 0 + 400000 + 0 ≤ 7301442; omega⟩ dL_law_24 (fun r w1 h1 => ?_)
  obtain ⟨rfl, Y1, rfl, hS⟩ := h1
  refine hw_if_eq C1 dL_law_27 (tgt := 38) rfl (fun h9 => absurd h9 (by decide)) (fun _ => ?_)
  exact law_load C1 hX hr n1 n9 hS (by omega) (by omega)
end
