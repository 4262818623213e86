/-! THE LAW, from its entry -/
theorem n0_10 : ∀ q ∈ allG, q.1 ≠ 10 := by decide +kernel
set_option maxHeartbeats 8000000 in
set_option maxRecDepth 100000 in
theorem whole_start {p : Program} {e : Env} {s : State} {m : MethodId} {below : List Frame} {meth : Method} {c : Code} (l : Launch) (hflags : l.flags = flags0) {b L : Nat} {xs : Nat → Int32} (hL : L ≤ 260) (C0 : lw_At p s m meth c b L xs) : W p l e room_1 s m #[Value.ref b] below meth c s.heap [] 0 0 (lw_Z below #[Value.ref b] s) (entryFrame m ([Value.ref b] : List Value).toArray 10) := by
  obtain ⟨hx, hb, hr, hml, hown, hts, hX, hbl, hlocks, hgv⟩ := C0
  have hs := flat_of_before _ hgv
  have hl : l.stackTraces = false := by
    unfold Launch.stackTraces
    rw [hflags]
    decide
  obtain ⟨D, T, hK⟩ := st_K hts
  obtain ⟨cst, hSt⟩ := st_below hs hts
  obtain ⟨Yb, Yc, Ye, Yf, Y3, Y4, f1, f2, f3, f4, fd, fe, ff', j1, j2, j3, hmk, hI⟩ := first_state
  have hz : ∀ k g o, ¬ (k = 6 ∧ g = 0 ∧ o = 0) → ¬ (k = 3 ∧ g = 0) → ¬ (k = 4 ∧ (g = 0 ∨ g = 1)) → ¬ (k = 5 ∧ g = 0) → ¬ (k = 2 ∧ (g = 0 ∨ g = 1)) → Yf k g o = Yz k g o := fun k g o h6 h3 h4 h5 h2 => by
    rw [ff' k g o (by omega), fe k g o (by omega), fd k g o h6 h3 h4 h5]
  have hwl : ∀ w ∈ wsL_law, w.before #[Value.ref b] s = true := fun w hw => lw2_ok hts w (wsL_in w hw)
  have C : CG p s m #[.ref b] meth c code 10 wsL_law RL T D (fun q => s.heap.size ≤ q) s.heap.size := ⟨hx, hb, hml, hown, hwl, hK, fun _ h => h, hlocks, st_nst hts, st_aov hts, rfl⟩
  have CH : Chw p s m #[.ref b] meth c code 10 wsL_law RL s.heap.size T D (adr s.heap.size cst) := ⟨hx, hb, hml, hown, hwl, hK, trivial, Nat.le_refl _, hlocks, st_nst hts, hSt⟩
  have hXw : HwX s.heap.size b L xs s := by
    obtain ⟨scr, x1, x2, x3, x4, x5⟩ := hX
    exact ⟨by omega, scr, x1, x2, x3, by omega, by rw [x4], x5, Nat.not_le.mpr hbl⟩
  have G : GW p l e room_1 s m #[.ref b] below meth c 10 D (fun q => s.heap.size ≤ q) s.heap.size 0 0 (lw_Z below #[Value.ref b] s) [] 0 [(0, .ref b)] [] := by
    refine gw_new C (ci := 11) (fs := [.null, .null, .null, .null, .null, .null, .null, .null, .null, .null, .null]) tyX11 jl_law_11 tyX11_ok lwc_19 lwi_11 lwn_11 rfl (by decide) (Nat.le_of_ble_eq_true rfl) (Nat.le_of_ble_eq_true rfl) dL_law_0 ?_
    refine gw_dup C dL_law_3 rfl ?_
    refine gw_ctorM C (Nc := s.heap.size) (ws := []) (ct_X11 (Ya := Yz) (Yb := Yb) (Yc := Yc) (Yd := up Yc 5 0 0 1 0) (Ye := Ye) (Yf := Yf) D T s.heap.size cst hl (fun o => Yz_0 (by omega) (by omega) (by omega)) Yz_6 (fun o => Yz_0 (by omega) (by omega) (by omega)) (fun o => Yz_0 (by omega) (by omega) (by omega)) (fun o => Yz_0 (by omega) (by omega) (by omega)) f1 f2 rfl
      (fun o => by rw [fd 5 1 o (by omega) (by omega) (by omega) (by omega)]; exact Yz_0 (by omega) (by omega) (by omega))
      (fun o ho => by rw [fd 8 0 o (by omega) (by omega) (by omega) (by omega)]; exact Yz_0 (by omega) (by omega) (by omega))
      (by rw [fd 8 0 1 (by omega) (by omega) (by omega) (by omega)]; exact Yz_8)
      (fun o => by rw [fd 1 0 o (by omega) (by omega) (by omega) (by omega)]; exact Yz_0 (by omega) (by omega) (by omega))
      (fun o => by rw [fd 2 0 o (by omega) (by omega) (by omega) (by omega)]; exact Yz_0 (by omega) (by omega) (by omega)) f3
      (fun o => by rw [fe 1 1 o (by omega), fd 1 1 o (by omega) (by omega) (by omega) (by omega)]; exact Yz_0 (by omega) (by omega) (by omega))
      (fun o => by rw [fe 2 1 o (by omega), fd 2 1 o (by omega) (by omega) (by omega) (by omega)]; exact Yz_0 (by omega) (by omega) (by omega)) f4
      (by rw [hz 0 0 0 (by omega) (by omega) (by omega) (by omega) (by omega)]; rfl)
      (by rw [hz 0 0 2 (by omega) (by omega) (by omega) (by omega) (by omega)]; exact Yz_0 (by omega) (by omega) (by omega))
      (fun o => by rw [hz 9 0 o (by omega) (by omega) (by omega) (by omega) (by omega)]; exact Yz_0 (by omega) (by omega) (by omega))
      (fun g hg o => by rw [hz 2 g o (by omega) (by omega) (by omega) (by omega) (by omega)]; exact Yz_0 (by omega) (by omega) (by omega))
      (fun o => by rw [hz 3 1 o (by omega) (by omega) (by omega) (by omega) (by omega)]; exact Yz_0 (by omega) (by omega) (by omega))
      (fun o => by rw [hz 4 2 o (by omega) (by omega) (by omega) (by omega) (by omega)]; exact Yz_0 (by omega) (by omega) (by omega))
      (fun o => by rw [hz 4 3 o (by omega) (by omega) (by omega) (by omega) (by omega)]; exact Yz_0 (by omega) (by omega) (by omega)))
      (cwI 0 (cg_ts C) gL_law_X11_init rfl rfl rfl (cg_ts C _ lwn_11) (cg_ts C _ lwk_107) (cg_ts C _ lwm_11) rfl (by decide +kernel) ⟨(Nat.le_of_ble_eq_true rfl), (Nat.le_of_ble_eq_true rfl)⟩) (dmZ s.heap.size cst) (fun q hq => nomatch hq) (fun _ h => h) hSt (Nat.le_refl _) (fun q h => Nat.not_le.mpr h) (Nat.le_refl _) rfl (st := [.ref (s.heap.size + 0)]) rfl (Nat.le_of_ble_eq_true rfl) ⟨(Nat.le_of_ble_eq_true rfl), (Nat.le_of_ble_eq_true rfl)⟩ dL_law_4 ?_
    refine gw_astore_n C dL_law_7 rfl (by decide) rfl ?_
    refine gw_HW ?_
    refine hw_world (List.append_nil _) ?_
    refine hw_world (wC_k10 hmk n0_10) ?_
    refine hw_L (L1 := [(1, .ref (adr s.heap.size cst 0 0 0)), (0, .ref b)]) (by rw [adr_lo (by decide)]; rfl) ?_
    exact law_begin CH hXw hr hI (by decide) (by decide)
  have hlv := lv_entry ([Value.ref b]) (n := 10) (Nat.le_of_ble_eq_true rfl)
  rw [lg_entry_eq]
  exact G s.heap [] _ (fun q hq => nomatch hq) ⟨List.Pairwise.nil, fun q hq => nomatch hq⟩ rfl va_S.rf hlv
