/-! PHASE 3: THE LAW, from its entry -/
theorem inN11 : ∀ w ∈ wsX110, w ∈ wsN_law := fun _ h => List.mem_append_left _ (List.mem_append_left _ (List.mem_append_left _ (List.mem_append_left _ (List.mem_append_left _ (List.mem_append_left _ (List.mem_append_left _ (List.mem_append_left _ (List.mem_append_left _ (List.mem_append_left _ (List.mem_append_left _ (List.mem_append_left _ (List.mem_append_left _ (List.mem_append_left _ (List.mem_append_left _ (List.mem_append_right _ h)))))))))))))))
theorem inN12 : ∀ w ∈ wsX120, w ∈ wsN_law := fun _ h => List.mem_append_left _ (List.mem_append_left _ (List.mem_append_left _ (List.mem_append_left _ (List.mem_append_left _ (List.mem_append_left _ (List.mem_append_left _ (List.mem_append_left _ (List.mem_append_left _ (List.mem_append_left _ (List.mem_append_left _ (List.mem_append_left _ (List.mem_append_left _ (List.mem_append_left _ (List.mem_append_right _ h))))))))))))))
theorem lwc_8 : Cond.classLink RL 8 RX11 ∈ wsN_law := by decide +kernel
theorem lwc_150 : Cond.classLink RL 150 RX12 ∈ wsN_law := by decide +kernel
theorem lwi_11 : Cond.instantiable RX11 11 ∈ wsN_law := by decide +kernel
theorem lwi_12 : Cond.instantiable RX12 19 ∈ wsN_law := by decide +kernel
theorem lwn_11 : Cond.initialized RX11 ∈ wsN_law := by decide +kernel
theorem lwn_12 : Cond.initialized RX12 ∈ wsN_law := by decide +kernel
theorem lwm_11 : Cond.instanceMethod yX11_init ∈ wsN_law := by decide +kernel
theorem lwm_12 : Cond.instanceMethod yX12_init ∈ wsN_law := by decide +kernel
theorem lwk_11 : Cond.methodLink RL 149 yX11_init ∈ wsN_law := by decide +kernel
theorem lwk_12 : Cond.methodLink RL 152 yX12_init ∈ wsN_law := by decide +kernel
theorem lwa_l : Cond.arrayClass .long ∈ wsN_law := by decide +kernel
theorem lt_adr {T : Nat → ClassId} {M : Nat} {cst : Nat → Nat → Nat → Nat} {Y : Mem} {gr : List (Nat × Nat)} (n : Nat) (hk : (gr.all fun q => decide (q.1 < 20)) = true) (hn : ((keys gr).all fun q => decide (pos q.1 q.2.1 q.2.2 < n)) = true) : ∀ q ∈ wC T gr (adr M cst) Y, q.1 < M + n := by
  intro q hq
  obtain ⟨c, hc, rfl⟩ := List.mem_map.mp hq
  have h1 : c.1 < 20 := by
    obtain ⟨x, hx, hc2⟩ := List.mem_flatMap.mp hc
    obtain ⟨o, ho, rfl⟩ := List.mem_map.mp hc2
    exact of_decide_eq_true (List.all_eq_true.mp hk x hx)
  have h2 := of_decide_eq_true (List.all_eq_true.mp hn c hc)
  show adr M cst c.1 c.2.1 c.2.2 < M + n
  rw [adr_lo h1]
  exact Nat.add_lt_add_left h2 M
theorem wC_app {T : Nat → ClassId} {ad : Nat → Nat → Nat → Nat} {Y : Mem} (g1 g2 : List (Nat × Nat)) : wC T (g1 ++ g2) ad Y = wC T g1 ad Y ++ wC T g2 ad Y := by simp [wC, keys]
theorem wC_congr {T : Nat → ClassId} {ad : Nat → Nat → Nat → Nat} {Y Y' : Mem} {gr : List (Nat × Nat)} (h : ∀ q ∈ gr, Y q.1 q.2 = Y' q.1 q.2) : wC T gr ad Y = wC T gr ad Y' := by
  unfold wC
  apply List.map_congr_left
  intro c hc
  obtain ⟨x, hx, hc2⟩ := List.mem_flatMap.mp hc
  obtain ⟨o, ho, rfl⟩ := List.mem_map.mp hc2
  dsimp only
  rw [h x hx]
section
variable {p : Program} {l : Launch} {e : Env} {R : Room} {s : State} {m : MethodId} {args : Array Value} {below : List Frame} {meth : Method} {c : Code} {cc : ByteArray} {nL : Nat} {T : Nat → ClassId} {D : va_G} {A : Nat → Prop} {sz cells slots : Nat} {Q : State → Prop} {ws : va_W} {pc : Nat} {L L' : List (Nat × Value)} {st : List Value} {Ts : List Cond} {own : String}
/-- a constructor's call, its cells beyond all that is there -/
theorem gw_ctorM (C : CG p s m args meth c cc nL Ts own T D A sz) {Nc N0 : Nat} {gr' : List (Nat × Nat)} {ad : Nat → Nat → Nat → Nat} {Y Y' : Mem} {h index n maxL k0 n0 : Nat} {raw : va_E} {y : MethodName} {bytes : ByteArray} {wsy : List Cond} {rm : Room} {As st0 : List Value} (hM : CtW l y wsy rm D T N0 ad As h raw (sz + cells) [] Y gr' Y' k0 n0) (cw : CallB R s args own index y bytes maxL none wsy rm k0 n0 n ∧ y.name = "<init>" ∧ (Cond.instanceMethod y).before args s = true)
    (hDn : DM (fun q => N0 ≤ q) (wC T gr' ad Y')) (hlo : ∀ q ∈ ws, q.1 < N0) (hA : ∀ q, N0 ≤ q → A q) (hSt : Stt Nc ad s s.heap) (hNc : Nc ≤ N0) (hcA : ∀ q, q < Nc → ¬ A q) (hNcs : Nc ≤ sz)
    (hn : As.length = n) (hst : st0 = As.reverse ++ .ref h :: st) (hcat : (st.map fun v => v.category).sum ≤ 8) (hf : cells + k0 ≤ R.cells ∧ slots + n0 ≤ R.slots) (d : decode cc pc = .ok (.invokespecial index, 3)) (k : GW p l e R s m args below meth c nL D A sz (cells + k0) (slots + n0) Q (wC T gr' ad Y' ++ ws) (pc + 3) L st) : GW p l e R s m args below meth c nL D A sz cells slots Q ((h, raw) :: ws) pc L st0 := by
  intro H locs ls hP hD hz hS hl1
  have hss : Nc ≤ s.heap.size := by rw [cg_sz C]; exact hNcs
  refine va_callv (va_runI (As := As) (rest := st) ⟨C.1, C.2.1, C.2.2.1, C.2.2.2.1, C.2.2.2.2.1⟩ hM cw ⟨CtW_blind D T N0 ad As h raw (sz + cells) [] Y, fun U hU hW => ⟨rfl, by rw [hU]; exact hz, by rw [hU]; exact fun q hq => hP q (by rcases List.mem_cons.mp hq with rfl | h9; exact List.mem_cons_self; exact nomatch h9), va_K.moved hW.alike C.2.2.2.2.2.1, Nst_warm hW (cg_nst C), (cg_aov C).moved hW.alike, (Stt_moved hW (by rw [hU]; exact hS.1) (fun q h1 _ => by rw [hU]; exact hS.2.1 q (Nat.lt_of_lt_of_le h1 hss) (hcA q h1)) hSt).narrow hNc⟩⟩ rfl hn hl1.1 hst (lv_room hcat) d hf) hS (fun q _ h2 => hA q h2) (fun q h2 => hA q h2) (fun u t H1 locs1 ht _ _ hB hz1 hk1 hS1 => ?_)
  obtain ⟨hP1, hz9⟩ := hB
  rw [ht] at hP1 hz9
  have hPw : PM D ws H := fun q hq => hP q (List.mem_cons_of_mem _ hq)
  refine k H1 locs1 ls (hP1.app (hPw.kept fun q hq => hk1 _ (hPw q hq).lt (Nat.not_le.mpr (hlo q hq)))) ⟨List.pairwise_append.mpr ⟨hDn.1, (List.pairwise_cons.mp hD.1).2, fun a ha b hb e => ?_⟩, fun q hq => ?_⟩ (by rw [hz9]; omega) hS1 hl1
  · have h2 := hDn.2 a ha
    have h3 := hlo b hb
    rw [e] at h2
    omega
  · rcases List.mem_append.mp hq with h2 | h2
    · exact hA _ (hDn.2 q h2)
    · exact hD.2 q (List.mem_cons_of_mem _ h2)
end
theorem cv_law {T : Nat → ClassId} {D : va_G} {M : Nat} {cst : Nat → Nat → Nat → Nat} {Yf Ym : Mem} (hk : ∀ k, k ≠ 10 → Ym k = Yf k) (h11 : Yf 11 0 0 = fun _ => 0) : ∀ H : Heap, PM D ((M + 199, .inl (T 7, 1, .inr (.inl (fun _ => 0)))) :: (wC T grM (adr M cst) Ym ++ (wC T allG (adr M cst) Yf ++ []))) H → PM D (wC T lawG (adr M cst) Ym) H := by
  intro H hP
  have e1 : wC T lawG (adr M cst) Ym = wC T allG (adr M cst) Yf ++ (wC T grM (adr M cst) Ym ++ wC T [(11, 0)] (adr M cst) Ym) := by
    show wC T (allG ++ ([(10, 0)] ++ [(11, 0)])) (adr M cst) Ym = _
    rw [wC_app, wC_app]
    congr 1
    refine wC_congr (fun q hq => ?_)
    have h10 : q.1 ≠ 10 := (by decide : ∀ q ∈ allG, q.1 ≠ 10) q hq
    rw [hk _ h10]
  rw [e1]
  refine PM.app (fun q hq => hP q ?_) (PM.app (fun q hq => hP q ?_) (fun q hq => ?_))
  · exact List.mem_cons_of_mem _ (List.mem_append_right _ (List.mem_append_left _ hq))
  · exact List.mem_cons_of_mem _ (List.mem_append_left _ hq)
  · have h0 := hP _ List.mem_cons_self
    have e2 : wC T [(11, 0)] (adr M cst) Ym = [(adr M cst 11 0 0, cell T (adr M cst) 11 0 0 (Ym 11 0 0))] := rfl
    rw [e2] at hq
    rw [List.mem_singleton.mp hq, ca11, hk 11 (by decide), h11]
    exact h0
set_option maxHeartbeats 8000000 in
set_option maxRecDepth 100000 in
/-- THE LAW, from its entry -/
theorem Yz_6 : Yz 6 0 0 = fun j => if j = 5 then -1 else 0 := by
  funext j
  show (if 6 = 6 ∧ 0 = 0 ∧ 0 = 0 ∧ j = 5 then (-1 : Int32) else if 6 = 0 ∧ 0 = 0 ∧ 0 = 0 ∧ j = 10 then 1 else if 6 = 10 ∧ 0 = 0 ∧ 0 = 0 ∧ j = 6 then -1 else if 6 = 8 ∧ 0 = 0 ∧ 0 = 1 then 1 else 0) = if j = 5 then -1 else 0
  by_cases h : j = 5
  · rw [if_pos ⟨rfl, rfl, rfl, h⟩, if_pos h]
  · rw [if_neg (fun q => h q.2.2.2), if_neg (by omega), if_neg (by omega), if_neg (by omega), if_neg h]
theorem whole_start {p : Program} {e : Env} {s : State} {m : MethodId} {below : List Frame} {meth : Method} {c : Code} (l : Launch) (hflags : l.flags = flags0) {b L : Nat} {xs : Nat → Int32} (hL : L ≤ 3072) (C0 : lw_At p s m meth c b L xs) : W p l e room_1 s m #[Value.ref b] below meth c s.heap [] 0 0 (lw_Z below #[Value.ref b] s) (entryFrame m ([Value.ref b] : List Value).toArray 9) := by
  obtain ⟨hx, hb, hr, hml, hown, hts, hX, hbl, hlocks, hgv⟩ := C0
  have hs := flat_of_before _ hgv
  have hl : l.stackTraces = false := by
    unfold Launch.stackTraces
    rw [hflags]
    decide
  obtain ⟨D, T, hK⟩ := st_K hts
  obtain ⟨cst, hSt⟩ := st_below hs hts
  have hEx := st_exw hs
  obtain ⟨Yb, Yc, Ye, Yf, Y3, Y4, f1, f2, f3, f4, fd, fe, ff', g1, g2, g3, hmk, hI⟩ := first_state
  have hz : ∀ k g o, ¬ (k = 6 ∧ g = 0 ∧ o = 0) → ¬ (k = 3 ∧ g = 0) → ¬ (k = 4 ∧ (g = 0 ∨ g = 1)) → ¬ (k = 5 ∧ g = 0) → ¬ (k = 2 ∧ (g = 0 ∨ g = 1)) → Yf k g o = Yz k g o := fun k g o h6 h3 h4 h5 h2 => by
    rw [ff' k g o (by omega), fe k g o (by omega), fd k g o h6 h3 h4 h5]
  have C : CG p s m #[.ref b] meth c code 9 wsN_law RL T D (fun q => s.heap.size ≤ q) s.heap.size := ⟨hx, hb, hml, hown, fun w hw => hts w (wsN_in w hw), hK, fun _ h => h, hlocks, st_nst hts, st_aov hts, rfl⟩
  have hS : LSx s s.heap.size b L xs := ⟨hX, hbl, Nat.not_le.mpr hbl⟩
  have G : GW p l e room_1 s m #[.ref b] below meth c 9 D (fun q => s.heap.size ≤ q) s.heap.size 0 0 (lw_Z below #[Value.ref b] s) [] 0 [(0, .ref b)] [] := by
    refine gw_new C (ci := 9) (fs := [.null, .null, .null, .null, .null, .null, .null, .null, .null, .null, .null]) tyX11 inN11 tyX11_ok lwc_8 lwi_11 lwn_11 rfl (by decide) (Nat.le_of_ble_eq_true rfl) (Nat.le_of_ble_eq_true rfl) dL_law_0 ?_
    refine gw_dup C dL_law_3 rfl ?_
    refine gw_ctorM C (Nc := s.heap.size) (ws := []) (ct_X11 (Ya := Yz) (Yb := Yb) (Yc := Yc) (Yd := up Yc 5 0 0 1 0) (Ye := Ye) (Yf := Yf) D T s.heap.size cst hl (fun o => Yz_0 (by omega) (by omega) (by omega)) Yz_6 (fun o => Yz_0 (by omega) (by omega) (by omega)) (fun o => Yz_0 (by omega) (by omega) (by omega)) (fun o => Yz_0 (by omega) (by omega) (by omega)) f1 f2 rfl
      (fun o => by rw [fd 5 1 o (by omega) (by omega) (by omega) (by omega)]; exact Yz_0 (by omega) (by omega) (by omega))
      (fun o ho => by rw [fd 8 0 o (by omega) (by omega) (by omega) (by omega)]; exact Yz_0 (by omega) (by omega) (by omega))
      (by rw [fd 8 0 1 (by omega) (by omega) (by omega) (by omega)]; exact Yz_8)
      (fun o => by rw [fd 1 0 o (by omega) (by omega) (by omega) (by omega)]; exact Yz_0 (by omega) (by omega) (by omega))
      (fun o => by rw [fd 2 0 o (by omega) (by omega) (by omega) (by omega)]; exact Yz_0 (by omega) (by omega) (by omega)) f3
      (fun o => by rw [fe 1 1 o (by omega), fd 1 1 o (by omega) (by omega) (by omega) (by omega)]; exact Yz_0 (by omega) (by omega) (by omega))
      (fun o => by rw [fe 2 1 o (by omega), fd 2 1 o (by omega) (by omega) (by omega) (by omega)]; exact Yz_0 (by omega) (by omega) (by omega)) f4
      (by rw [hz 0 0 0 (by omega) (by omega) (by omega) (by omega) (by omega)]; rfl)
      (by rw [hz 0 0 2 (by omega) (by omega) (by omega) (by omega) (by omega)]; exact Yz_0 (by omega) (by omega) (by omega))
      (fun o => by rw [hz 9 0 o (by omega) (by omega) (by omega) (by omega) (by omega)]; exact Yz_0 (by omega) (by omega) (by omega))
      (fun g hg o => by rw [hz 2 g o (by omega) (by omega) (by omega) (by omega) (by omega)]; exact Yz_0 (by omega) (by omega) (by omega))
      (fun o => by rw [hz 3 1 o (by omega) (by omega) (by omega) (by omega) (by omega)]; exact Yz_0 (by omega) (by omega) (by omega))
      (fun o => by rw [hz 4 2 o (by omega) (by omega) (by omega) (by omega) (by omega)]; exact Yz_0 (by omega) (by omega) (by omega))
      (fun o => by rw [hz 4 3 o (by omega) (by omega) (by omega) (by omega) (by omega)]; exact Yz_0 (by omega) (by omega) (by omega)))
      (cwI 0 (cg_ts C) gL_law_X11_init rfl rfl rfl (cg_ts C _ lwn_11) (cg_ts C _ lwk_11) (cg_ts C _ lwm_11) rfl (by decide +kernel) ⟨(Nat.le_of_ble_eq_true rfl), (Nat.le_of_ble_eq_true rfl)⟩) (dmZ s.heap.size cst) (fun q hq => nomatch hq) (fun _ h => h) hSt (Nat.le_refl _) (fun q h => Nat.not_le.mpr h) (Nat.le_refl _) rfl (st := [.ref (s.heap.size + 0)]) rfl (Nat.le_of_ble_eq_true rfl) ⟨(Nat.le_of_ble_eq_true rfl), (Nat.le_of_ble_eq_true rfl)⟩ dL_law_4 ?_
    refine gw_astore_n C dL_law_7 rfl (by decide) rfl ?_
    refine gw_new C (ci := 10) (fs := [.null, .null, .int 0, .null, .int 0, .int 0, .int 0, .null, .int 0, .int 0, .null, .null, .null, .null, .int 0, .int 0, .int 0, .int 0, .null]) tyX12 inN12 tyX12_ok lwc_150 lwi_12 lwn_12 rfl (by decide) (Nat.le_of_ble_eq_true rfl) (Nat.le_of_ble_eq_true rfl) dL_law_8 ?_
    refine gw_dup C dL_law_11 rfl ?_
    refine gw_ctorM C (Nc := s.heap.size) (ct_X12 (Y := Yf) (Y1 := upR Yf 10 0 3 (fun j => if 0 ≤ j ∧ j < 184 then nI (b0 j) else Yf 10 0 3 j)) (r := nI 184) (Y3 := Y3) (b := 1) (Y4 := Y4) (Y5 := up Y4 10 0 0 4 0) D T s.heap.size cst
      (by rw [hz 10 0 0 (by omega) (by omega) (by omega) (by omega) (by omega)]; funext j; unfold Yz; rw [if_neg (by omega), if_neg (by omega)]; simp)
      (fun o ho => by rw [hz 10 0 o (by omega) (by omega) (by omega) (by omega) (by omega)]; exact Yz_0 (by omega) (by omega) (by omega)) g1 (len0 _) rfl g2 g3 rfl)
      (cwI 0 (cg_ts C) gL_law_X12_init rfl rfl rfl (cg_ts C _ lwn_12) (cg_ts C _ lwk_12) (cg_ts C _ lwm_12) rfl (by decide +kernel) ⟨(Nat.le_of_ble_eq_true rfl), (Nat.le_of_ble_eq_true rfl)⟩) (dmM s.heap.size cst)
      (fun q hq => by
        rcases List.mem_append.mp hq with h | h
        · exact lt_adr 189 (by decide) (by decide +kernel) q h
        · exact nomatch h) (fun _ h => Nat.le_trans (Nat.le_add_right _ _) h) hSt (Nat.le_add_right _ _) (fun q h => Nat.not_le.mpr h) (Nat.le_refl _) rfl (st := [.ref (s.heap.size + 189)]) rfl (Nat.le_of_ble_eq_true rfl) ⟨(Nat.le_of_ble_eq_true rfl), (Nat.le_of_ble_eq_true rfl)⟩ dL_law_12 ?_
    refine gw_astore_n C dL_law_15 rfl (by decide) rfl ?_
    refine gw_iconst C dL_law_16 (v := 1) rfl ?_
    refine gw_newa C (atype := .long) 7 rfl lwa_l (N := 1) (a0 := (1, .inr (.inl (fun _ => 0)))) rfl (fun h => h) (by decide) (by decide +kernel) (by decide) (Nat.le_of_ble_eq_true rfl) (Nat.le_of_ble_eq_true rfl) dL_law_17 ?_
    refine gw_astore_n C dL_law_19 rfl (by decide) rfl ?_
    refine gw_iconst C dL_law_20 (v := 0) rfl ?_
    refine gw_istore C dL_law_21 (by decide) (L' := [(4, .int 0), (3, .ref (s.heap.size + 199)), (2, .ref (s.heap.size + 189)), (1, .ref (s.heap.size + 0)), (0, .ref b)]) rfl ?_
    have hD9 : DM (fun q => s.heap.size ≤ q) (wC T lawG (adr s.heap.size cst) (up Y4 10 0 0 4 0)) := DM_adr 0 (by decide) (by decide +kernel) (by decide +kernel) (fun _ h => h)
    refine gw_FW (T := T) (gr := lawG) (ad := adr s.heap.size cst) (Y := up Y4 10 0 0 4 0) (cv_law hmk (by rw [hz 11 0 0 (by omega) (by omega) (by omega) (by omega) (by omega)]; exact Yz_0 (by omega) (by omega) (by omega))) ?_
    have X : Cx p s m #[.ref b] meth c code 9 wsN_law RL s.heap.size T D lawG (adr s.heap.size cst) := cx_of C hD9 (Nat.le_refl _) hSt
    have K := law_loop (p := p) (l := l) (e := e) (below := below) X hEx hl hS hL hr (L / 6) 0 (up Y4 10 0 0 4 0) (0 + 1 + 188 + 1 + 9 + 1) (0 + 11 + 2686 + 19 + 5200 + 1) (by omega) hI (by omega) (by omega)
    exact fw_sub [4, 3, 2, 1, 0] rfl K
  have hlv := lv_entry ([Value.ref b]) (n := 9) (Nat.le_of_ble_eq_true rfl)
  rw [lg_entry_eq]
  exact G s.heap [] _ (fun q hq => nomatch hq) ⟨List.Pairwise.nil, fun q hq => nomatch hq⟩ rfl va_S.rf hlv
