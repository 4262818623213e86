/-! PHASE 3: THE LAW: cases -/
section
variable {p : Program} {l : Launch} {e : Env} {s : State} {m : MethodId} {args : Array Value} {below : List Frame} {meth : Method} {c : Code} {N0 : Nat} {T : Nat → ClassId} {D : va_G} {ad : Nat → Nat → Nat → Nat} {cells slots : Nat} {Q : State → Prop} {Y : Mem} {b Ln : Nat} {xs : Nat → Int32} {i : Int32}
set_option maxHeartbeats 4000000 in
theorem law_16 (X : LX p s m args meth c N0 T D ad l b Ln xs i cells slots) (hI : Inv Y) (k : ∀ Y' : Mem, Inv Y' → LO p l e s m args below meth c N0 T D ad b i (cells + 2) (slots + 12) Q Y' 3079) : LO p l e s m args below meth c N0 T D ad b i cells slots Q Y 767 := by
  obtain ⟨C, hE, hl, hS, ⟨h1, h2, h3, h4, h5⟩, hc2, hs2⟩ := X
  have hc1 : cells + 1 ≤ 601024 := Nat.le_of_succ_le hc2
  have hs1 : slots + 6 ≤ 7293034 := Nat.le_trans (Nat.add_le_add_left (by decide) _) hs2
  have hc : cells ≤ 601024 := Nat.le_of_succ_le hc1
  have hs : slots ≤ 7293034 := Nat.le_trans (Nat.le_add_right _ _) hs1
  refine fw_aload_n C dL_law_767 rfl 1 rfl ?_
  refine fw_aload_n C dL_law_768 rfl 0 rfl ?_
  refine fw_iload C dL_law_769 4 rfl ?_
  refine fw_iconst C dL_law_771 (v := 1) rfl ?_
  refine fw_iadd C dL_law_772 ?_
  refine fw_sld C hS h1 dL_law_773 ?_
  refine fw_aload_n C dL_law_774 rfl 3 rfl ?_
  rcases q_pansInUse hI (xs (i + 1).toNatClampNeg) with ⟨n, Yc, e1, hn, bb, Ym, e2, e3, hI2⟩ | ⟨r, Yc, e1, Ym, e2, e3, hI2⟩
  · have e2 : X12_pansInUse Yc (xs (i + 1).toNatClampNeg) = some (bb, Ym) := e2
    refine fw_callH C hE (c_L_pansInUse hl (fun q hq => hq) e1 (fun n1 Y1 q => by cases q; exact hn)) (vx_cwSW 3 (cx_ts C) gL_law_L_pansInUse rfl rfl rfl (by decide +kernel) ⟨(Nat.le_of_ble_eq_true rfl), (Nat.le_of_ble_eq_true rfl)⟩) rfl (st := []) rfl (Nat.le_of_ble_eq_true rfl) ⟨hc1, hs1⟩ dL_law_775 ?_
    refine fw_mem (Y' := Yc) rfl ?_
    refine fw_topi (v' := c3 n) rfl ?_
    refine fw_istore C dL_law_778 (by decide) (L' := [(5, .int (c3 n)), (0, .ref b), (1, .ref (ad 0 0 0)), (2, .ref (ad 10 0 0)), (3, .ref (ad 11 0 0)), (4, .int i)]) rfl ?_
    refine fw_aload_n C dL_law_780 rfl 3 rfl ?_
    refine fw_aload_n C dL_law_781 rfl 1 rfl ?_
    refine fw_iload C dL_law_782 5 rfl ?_
    refine fw_iconst C dL_law_784 (v := 1) rfl ?_
    refine fw_iadd C dL_law_785 ?_
    refine fw_sld C hS h1 dL_law_786 ?_
    refine fw_callVi C (ci := 10) (Cn := RX12) (Tc := TX12) (N := 19) (As := [.int (xs (i + 1).toNatClampNeg)]) (c_X12_pansInUse (lawg (by decide)) e2) (cwV 1 (cx_ts C) gL_law_X12_pansInUse rfl rfl rfl (by decide +kernel) ⟨(Nat.le_of_ble_eq_true rfl), (Nat.le_of_ble_eq_true rfl)⟩) rfl (lawg (g := [(10, 0)]) (by decide) _ List.mem_cons_self) (of10_0 _) (ce10 T ad _ _) rfl (st := []) rfl (Nat.le_of_ble_eq_true rfl) ⟨hc1, hs1⟩ dL_law_787 (ppw ?_)
    refine fw_istore C dL_law_790 (by decide) (L' := [(6, .int bb), (5, .int (c3 n)), (0, .ref b), (1, .ref (ad 0 0 0)), (2, .ref (ad 10 0 0)), (3, .ref (ad 11 0 0)), (4, .int i)]) rfl ?_
    refine fw_aload_n C dL_law_792 rfl 4 rfl ?_
    refine fw_callVi C (ci := 10) (Cn := RX12) (Tc := TX12) (N := 19) (As := []) (c_X12_thrown (lawg (by decide)) (thr_ok e3)) (cwV 0 (cx_ts C) gL_law_X12_thrown rfl rfl rfl (by decide +kernel) ⟨(Nat.le_of_ble_eq_true rfl), (Nat.le_of_ble_eq_true rfl)⟩) rfl (lawg (g := [(10, 0)]) (by decide) _ List.mem_cons_self) (of10_0 _) (ce10 T ad _ _) rfl (st := []) rfl (Nat.le_of_ble_eq_true rfl) ⟨hc1, hs1⟩ dL_law_793 (pp2 ?_)
    refine fw_iload C dL_law_796 1 rfl ?_
    refine fw_icmp_eq C dL_law_798 (tgt := 803) rfl (fun _ => ?_) (fun c1 => absurd rfl c1)
    refine fw_iload C dL_law_803 1 rfl ?_
    refine fw_if_ne C dL_law_805 (tgt := 820) rfl (fun _ => ?_) (fun c1 => absurd c1 hn)
    refine fw_goto C dL_law_820 (tgt := 3079) rfl ?_
    exact fw_widen (Nat.add_le_add_left (by decide) _) (Nat.add_le_add_left (by decide) _) (fw_sub [2, 3, 4, 5, 6] rfl (k _ hI2))
  · have e2 : X12_pansInUse Yc (xs (i + 1).toNatClampNeg) = some (r, Ym) := e2
    refine fw_callH C hE (c_L_pansInUse hl (fun q hq => hq) e1 (fun n1 Y1 q => nomatch q)) (vx_cwSW 3 (cx_ts C) gL_law_L_pansInUse rfl rfl rfl (by decide +kernel) ⟨(Nat.le_of_ble_eq_true rfl), (Nat.le_of_ble_eq_true rfl)⟩) rfl (st := []) rfl (Nat.le_of_ble_eq_true rfl) ⟨hc1, hs1⟩ dL_law_775 ?_
    refine fw_mem (Y' := s11 r Yc) rfl ?_
    refine fw_topi (v' := 0) rfl ?_
    have e4 : X12_pansInUse (s11 r Yc) (xs (i + 1).toNatClampNeg) = some (r, s11 r Ym) := s11_some (f := fun Z => X12_pansInUse Z (xs (i + 1).toNatClampNeg)) (fun _ Z => k_X12_pansInUse Z (xs (i + 1).toNatClampNeg)) _ e2
    refine fw_istore C dL_law_778 (by decide) (L' := [(5, .int 0), (0, .ref b), (1, .ref (ad 0 0 0)), (2, .ref (ad 10 0 0)), (3, .ref (ad 11 0 0)), (4, .int i)]) rfl ?_
    refine fw_aload_n C dL_law_780 rfl 3 rfl ?_
    refine fw_aload_n C dL_law_781 rfl 1 rfl ?_
    refine fw_iload C dL_law_782 5 rfl ?_
    refine fw_iconst C dL_law_784 (v := 1) rfl ?_
    refine fw_iadd C dL_law_785 ?_
    refine fw_sld C hS h1 dL_law_786 ?_
    refine fw_callVi C (ci := 10) (Cn := RX12) (Tc := TX12) (N := 19) (As := [.int (xs (i + 1).toNatClampNeg)]) (c_X12_pansInUse (lawg (by decide)) e4) (cwV 1 (cx_ts C) gL_law_X12_pansInUse rfl rfl rfl (by decide +kernel) ⟨(Nat.le_of_ble_eq_true rfl), (Nat.le_of_ble_eq_true rfl)⟩) rfl (lawg (g := [(10, 0)]) (by decide) _ List.mem_cons_self) (of10_0 _) (ce10 T ad _ _) rfl (st := []) rfl (Nat.le_of_ble_eq_true rfl) ⟨hc1, hs1⟩ dL_law_787 (ppw ?_)
    refine fw_istore C dL_law_790 (by decide) (L' := [(6, .int r), (5, .int 0), (0, .ref b), (1, .ref (ad 0 0 0)), (2, .ref (ad 10 0 0)), (3, .ref (ad 11 0 0)), (4, .int i)]) rfl ?_
    refine fw_aload_n C dL_law_792 rfl 4 rfl ?_
    refine fw_callVi C (ci := 10) (Cn := RX12) (Tc := TX12) (N := 19) (As := []) (c_X12_thrown (lawg (by decide)) (thr_s11 r e3)) (cwV 0 (cx_ts C) gL_law_X12_thrown rfl rfl rfl (by decide +kernel) ⟨(Nat.le_of_ble_eq_true rfl), (Nat.le_of_ble_eq_true rfl)⟩) rfl (lawg (g := [(10, 0)]) (by decide) _ List.mem_cons_self) (of10_0 _) (ce10 T ad _ _) rfl (st := []) rfl (Nat.le_of_ble_eq_true rfl) ⟨hc1, hs1⟩ dL_law_793 (pp2 ?_)
    refine fw_iload C dL_law_796 1 rfl ?_
    refine fw_icmp_eq C dL_law_798 (tgt := 803) rfl (fun _ => ?_) (fun c1 => absurd rfl c1)
    refine fw_iload C dL_law_803 1 rfl ?_
    refine fw_if_ne C dL_law_805 (tgt := 820) rfl (fun c1 => absurd rfl c1) (fun _ => ?_)
    refine fw_aload_n C dL_law_808 rfl 5 rfl ?_
    refine fw_iconst C dL_law_809 (v := 0) rfl ?_
    refine fw_lald0 C (lawg (g := [(11, 0)]) (by decide) _ List.mem_cons_self) dL_law_810 ?_
    refine fw_top (v' := .long (r : Int32).toInt64) (by rw [s11_11]) ?_
    refine fw_iload C dL_law_811 0 rfl ?_
    refine fw_i2l C dL_law_813 rfl ?_
    refine fw_lcmp C dL_law_814 ?_
    refine fw_topi (v' := 0) (lg_self _) ?_
    refine fw_if_eq C dL_law_815 (tgt := 820) rfl (fun _ => ?_) (fun c1 => absurd rfl c1)
    refine fw_goto C dL_law_820 (tgt := 3079) rfl ?_
    exact fw_widen (Nat.add_le_add_left (by decide) _) (Nat.add_le_add_left (by decide) _) (fw_sub [2, 3, 4, 5, 6] rfl (k _ (Inv_s11 _ hI2)))
set_option maxHeartbeats 4000000 in
theorem law_17 (X : LX p s m args meth c N0 T D ad l b Ln xs i cells slots) (hI : Inv Y) (k : ∀ Y' : Mem, Inv Y' → LO p l e s m args below meth c N0 T D ad b i (cells + 2) (slots + 12) Q Y' 3079) : LO p l e s m args below meth c N0 T D ad b i cells slots Q Y 823 := by
  obtain ⟨C, hE, hl, hS, ⟨h1, h2, h3, h4, h5⟩, hc2, hs2⟩ := X
  have hc1 : cells + 1 ≤ 601024 := Nat.le_of_succ_le hc2
  have hs1 : slots + 6 ≤ 7293034 := Nat.le_trans (Nat.add_le_add_left (by decide) _) hs2
  have hc : cells ≤ 601024 := Nat.le_of_succ_le hc1
  have hs : slots ≤ 7293034 := Nat.le_trans (Nat.le_add_right _ _) hs1
  refine fw_aload_n C dL_law_823 rfl 1 rfl ?_
  refine fw_aload_n C dL_law_824 rfl 0 rfl ?_
  refine fw_iload C dL_law_825 4 rfl ?_
  refine fw_iconst C dL_law_827 (v := 1) rfl ?_
  refine fw_iadd C dL_law_828 ?_
  refine fw_sld C hS h1 dL_law_829 ?_
  refine fw_aload_n C dL_law_830 rfl 3 rfl ?_
  rcases q_duration hI (xs (i + 1).toNatClampNeg) with ⟨n, Yc, e1, hn, bb, Ym, e2, e3, hI2⟩ | ⟨r, Yc, e1, Ym, e2, e3, hI2⟩
  · have e2 : X12_duration Yc (xs (i + 1).toNatClampNeg) = some (bb, Ym) := e2
    refine fw_callH C hE (c_L_duration hl (fun q hq => hq) e1 (fun n1 Y1 q => by cases q; exact hn)) (vx_cwSW 3 (cx_ts C) gL_law_L_duration rfl rfl rfl (by decide +kernel) ⟨(Nat.le_of_ble_eq_true rfl), (Nat.le_of_ble_eq_true rfl)⟩) rfl (st := []) rfl (Nat.le_of_ble_eq_true rfl) ⟨hc1, hs1⟩ dL_law_831 ?_
    refine fw_mem (Y' := Yc) rfl ?_
    refine fw_topi (v' := c3 n) rfl ?_
    refine fw_istore C dL_law_834 (by decide) (L' := [(5, .int (c3 n)), (0, .ref b), (1, .ref (ad 0 0 0)), (2, .ref (ad 10 0 0)), (3, .ref (ad 11 0 0)), (4, .int i)]) rfl ?_
    refine fw_aload_n C dL_law_836 rfl 3 rfl ?_
    refine fw_aload_n C dL_law_837 rfl 1 rfl ?_
    refine fw_iload C dL_law_838 5 rfl ?_
    refine fw_iconst C dL_law_840 (v := 1) rfl ?_
    refine fw_iadd C dL_law_841 ?_
    refine fw_sld C hS h1 dL_law_842 ?_
    refine fw_callVi C (ci := 10) (Cn := RX12) (Tc := TX12) (N := 19) (As := [.int (xs (i + 1).toNatClampNeg)]) (c_X12_duration (lawg (by decide)) e2) (cwV 1 (cx_ts C) gL_law_X12_duration rfl rfl rfl (by decide +kernel) ⟨(Nat.le_of_ble_eq_true rfl), (Nat.le_of_ble_eq_true rfl)⟩) rfl (lawg (g := [(10, 0)]) (by decide) _ List.mem_cons_self) (of10_0 _) (ce10 T ad _ _) rfl (st := []) rfl (Nat.le_of_ble_eq_true rfl) ⟨hc1, hs1⟩ dL_law_843 (ppw ?_)
    refine fw_istore C dL_law_846 (by decide) (L' := [(6, .int bb), (5, .int (c3 n)), (0, .ref b), (1, .ref (ad 0 0 0)), (2, .ref (ad 10 0 0)), (3, .ref (ad 11 0 0)), (4, .int i)]) rfl ?_
    refine fw_aload_n C dL_law_848 rfl 4 rfl ?_
    refine fw_callVi C (ci := 10) (Cn := RX12) (Tc := TX12) (N := 19) (As := []) (c_X12_thrown (lawg (by decide)) (thr_ok e3)) (cwV 0 (cx_ts C) gL_law_X12_thrown rfl rfl rfl (by decide +kernel) ⟨(Nat.le_of_ble_eq_true rfl), (Nat.le_of_ble_eq_true rfl)⟩) rfl (lawg (g := [(10, 0)]) (by decide) _ List.mem_cons_self) (of10_0 _) (ce10 T ad _ _) rfl (st := []) rfl (Nat.le_of_ble_eq_true rfl) ⟨hc1, hs1⟩ dL_law_849 (pp2 ?_)
    refine fw_iload C dL_law_852 1 rfl ?_
    refine fw_icmp_eq C dL_law_854 (tgt := 859) rfl (fun _ => ?_) (fun c1 => absurd rfl c1)
    refine fw_iload C dL_law_859 1 rfl ?_
    refine fw_if_ne C dL_law_861 (tgt := 876) rfl (fun _ => ?_) (fun c1 => absurd c1 hn)
    refine fw_goto C dL_law_876 (tgt := 3079) rfl ?_
    exact fw_widen (Nat.add_le_add_left (by decide) _) (Nat.add_le_add_left (by decide) _) (fw_sub [2, 3, 4, 5, 6] rfl (k _ hI2))
  · have e2 : X12_duration Yc (xs (i + 1).toNatClampNeg) = some (r, Ym) := e2
    refine fw_callH C hE (c_L_duration hl (fun q hq => hq) e1 (fun n1 Y1 q => nomatch q)) (vx_cwSW 3 (cx_ts C) gL_law_L_duration rfl rfl rfl (by decide +kernel) ⟨(Nat.le_of_ble_eq_true rfl), (Nat.le_of_ble_eq_true rfl)⟩) rfl (st := []) rfl (Nat.le_of_ble_eq_true rfl) ⟨hc1, hs1⟩ dL_law_831 ?_
    refine fw_mem (Y' := s11 r Yc) rfl ?_
    refine fw_topi (v' := 0) rfl ?_
    have e4 : X12_duration (s11 r Yc) (xs (i + 1).toNatClampNeg) = some (r, s11 r Ym) := s11_some (f := fun Z => X12_duration Z (xs (i + 1).toNatClampNeg)) (fun _ Z => k_X12_duration Z (xs (i + 1).toNatClampNeg)) _ e2
    refine fw_istore C dL_law_834 (by decide) (L' := [(5, .int 0), (0, .ref b), (1, .ref (ad 0 0 0)), (2, .ref (ad 10 0 0)), (3, .ref (ad 11 0 0)), (4, .int i)]) rfl ?_
    refine fw_aload_n C dL_law_836 rfl 3 rfl ?_
    refine fw_aload_n C dL_law_837 rfl 1 rfl ?_
    refine fw_iload C dL_law_838 5 rfl ?_
    refine fw_iconst C dL_law_840 (v := 1) rfl ?_
    refine fw_iadd C dL_law_841 ?_
    refine fw_sld C hS h1 dL_law_842 ?_
    refine fw_callVi C (ci := 10) (Cn := RX12) (Tc := TX12) (N := 19) (As := [.int (xs (i + 1).toNatClampNeg)]) (c_X12_duration (lawg (by decide)) e4) (cwV 1 (cx_ts C) gL_law_X12_duration rfl rfl rfl (by decide +kernel) ⟨(Nat.le_of_ble_eq_true rfl), (Nat.le_of_ble_eq_true rfl)⟩) rfl (lawg (g := [(10, 0)]) (by decide) _ List.mem_cons_self) (of10_0 _) (ce10 T ad _ _) rfl (st := []) rfl (Nat.le_of_ble_eq_true rfl) ⟨hc1, hs1⟩ dL_law_843 (ppw ?_)
    refine fw_istore C dL_law_846 (by decide) (L' := [(6, .int r), (5, .int 0), (0, .ref b), (1, .ref (ad 0 0 0)), (2, .ref (ad 10 0 0)), (3, .ref (ad 11 0 0)), (4, .int i)]) rfl ?_
    refine fw_aload_n C dL_law_848 rfl 4 rfl ?_
    refine fw_callVi C (ci := 10) (Cn := RX12) (Tc := TX12) (N := 19) (As := []) (c_X12_thrown (lawg (by decide)) (thr_s11 r e3)) (cwV 0 (cx_ts C) gL_law_X12_thrown rfl rfl rfl (by decide +kernel) ⟨(Nat.le_of_ble_eq_true rfl), (Nat.le_of_ble_eq_true rfl)⟩) rfl (lawg (g := [(10, 0)]) (by decide) _ List.mem_cons_self) (of10_0 _) (ce10 T ad _ _) rfl (st := []) rfl (Nat.le_of_ble_eq_true rfl) ⟨hc1, hs1⟩ dL_law_849 (pp2 ?_)
    refine fw_iload C dL_law_852 1 rfl ?_
    refine fw_icmp_eq C dL_law_854 (tgt := 859) rfl (fun _ => ?_) (fun c1 => absurd rfl c1)
    refine fw_iload C dL_law_859 1 rfl ?_
    refine fw_if_ne C dL_law_861 (tgt := 876) rfl (fun c1 => absurd rfl c1) (fun _ => ?_)
    refine fw_aload_n C dL_law_864 rfl 5 rfl ?_
    refine fw_iconst C dL_law_865 (v := 0) rfl ?_
    refine fw_lald0 C (lawg (g := [(11, 0)]) (by decide) _ List.mem_cons_self) dL_law_866 ?_
    refine fw_top (v' := .long (r : Int32).toInt64) (by rw [s11_11]) ?_
    refine fw_iload C dL_law_867 0 rfl ?_
    refine fw_i2l C dL_law_869 rfl ?_
    refine fw_lcmp C dL_law_870 ?_
    refine fw_topi (v' := 0) (lg_self _) ?_
    refine fw_if_eq C dL_law_871 (tgt := 876) rfl (fun _ => ?_) (fun c1 => absurd rfl c1)
    refine fw_goto C dL_law_876 (tgt := 3079) rfl ?_
    exact fw_widen (Nat.add_le_add_left (by decide) _) (Nat.add_le_add_left (by decide) _) (fw_sub [2, 3, 4, 5, 6] rfl (k _ (Inv_s11 _ hI2)))
set_option maxHeartbeats 4000000 in
theorem law_18 (X : LX p s m args meth c N0 T D ad l b Ln xs i cells slots) (hI : Inv Y) (k : ∀ Y' : Mem, Inv Y' → LO p l e s m args below meth c N0 T D ad b i (cells + 2) (slots + 12) Q Y' 3079) : LO p l e s m args below meth c N0 T D ad b i cells slots Q Y 879 := by
  obtain ⟨C, hE, hl, hS, ⟨h1, h2, h3, h4, h5⟩, hc2, hs2⟩ := X
  have hc1 : cells + 1 ≤ 601024 := Nat.le_of_succ_le hc2
  have hs1 : slots + 6 ≤ 7293034 := Nat.le_trans (Nat.add_le_add_left (by decide) _) hs2
  have hc : cells ≤ 601024 := Nat.le_of_succ_le hc1
  have hs : slots ≤ 7293034 := Nat.le_trans (Nat.le_add_right _ _) hs1
  refine fw_aload_n C dL_law_879 rfl 1 rfl ?_
  refine fw_aload_n C dL_law_880 rfl 0 rfl ?_
  refine fw_iload C dL_law_881 4 rfl ?_
  refine fw_iconst C dL_law_883 (v := 1) rfl ?_
  refine fw_iadd C dL_law_884 ?_
  refine fw_sld C hS h1 dL_law_885 ?_
  refine fw_aload_n C dL_law_886 rfl 3 rfl ?_
  rcases q_stepTaste hI (xs (i + 1).toNatClampNeg) with ⟨n, Yc, e1, hn, bb, Ym, e2, e3, hI2⟩ | ⟨r, Yc, e1, Ym, e2, e3, hI2⟩
  · have e2 : X12_stepTaste Yc (xs (i + 1).toNatClampNeg) = some (bb, Ym) := e2
    refine fw_callH C hE (c_L_stepTaste hl (fun q hq => hq) e1 (fun n1 Y1 q => by cases q; exact hn)) (vx_cwSW 3 (cx_ts C) gL_law_L_stepTaste rfl rfl rfl (by decide +kernel) ⟨(Nat.le_of_ble_eq_true rfl), (Nat.le_of_ble_eq_true rfl)⟩) rfl (st := []) rfl (Nat.le_of_ble_eq_true rfl) ⟨hc1, hs1⟩ dL_law_887 ?_
    refine fw_mem (Y' := Yc) rfl ?_
    refine fw_topi (v' := c3 n) rfl ?_
    refine fw_istore C dL_law_890 (by decide) (L' := [(5, .int (c3 n)), (0, .ref b), (1, .ref (ad 0 0 0)), (2, .ref (ad 10 0 0)), (3, .ref (ad 11 0 0)), (4, .int i)]) rfl ?_
    refine fw_aload_n C dL_law_892 rfl 3 rfl ?_
    refine fw_aload_n C dL_law_893 rfl 1 rfl ?_
    refine fw_iload C dL_law_894 5 rfl ?_
    refine fw_iconst C dL_law_896 (v := 1) rfl ?_
    refine fw_iadd C dL_law_897 ?_
    refine fw_sld C hS h1 dL_law_898 ?_
    refine fw_callVi C (ci := 10) (Cn := RX12) (Tc := TX12) (N := 19) (As := [.int (xs (i + 1).toNatClampNeg)]) (c_X12_stepTaste (lawg (by decide)) e2) (cwV 1 (cx_ts C) gL_law_X12_stepTaste rfl rfl rfl (by decide +kernel) ⟨(Nat.le_of_ble_eq_true rfl), (Nat.le_of_ble_eq_true rfl)⟩) rfl (lawg (g := [(10, 0)]) (by decide) _ List.mem_cons_self) (of10_0 _) (ce10 T ad _ _) rfl (st := []) rfl (Nat.le_of_ble_eq_true rfl) ⟨hc1, hs1⟩ dL_law_899 (ppw ?_)
    refine fw_istore C dL_law_902 (by decide) (L' := [(6, .int bb), (5, .int (c3 n)), (0, .ref b), (1, .ref (ad 0 0 0)), (2, .ref (ad 10 0 0)), (3, .ref (ad 11 0 0)), (4, .int i)]) rfl ?_
    refine fw_aload_n C dL_law_904 rfl 4 rfl ?_
    refine fw_callVi C (ci := 10) (Cn := RX12) (Tc := TX12) (N := 19) (As := []) (c_X12_thrown (lawg (by decide)) (thr_ok e3)) (cwV 0 (cx_ts C) gL_law_X12_thrown rfl rfl rfl (by decide +kernel) ⟨(Nat.le_of_ble_eq_true rfl), (Nat.le_of_ble_eq_true rfl)⟩) rfl (lawg (g := [(10, 0)]) (by decide) _ List.mem_cons_self) (of10_0 _) (ce10 T ad _ _) rfl (st := []) rfl (Nat.le_of_ble_eq_true rfl) ⟨hc1, hs1⟩ dL_law_905 (pp2 ?_)
    refine fw_iload C dL_law_908 1 rfl ?_
    refine fw_icmp_eq C dL_law_910 (tgt := 915) rfl (fun _ => ?_) (fun c1 => absurd rfl c1)
    refine fw_iload C dL_law_915 1 rfl ?_
    refine fw_if_ne C dL_law_917 (tgt := 932) rfl (fun _ => ?_) (fun c1 => absurd c1 hn)
    refine fw_goto C dL_law_932 (tgt := 3079) rfl ?_
    exact fw_widen (Nat.add_le_add_left (by decide) _) (Nat.add_le_add_left (by decide) _) (fw_sub [2, 3, 4, 5, 6] rfl (k _ hI2))
  · have e2 : X12_stepTaste Yc (xs (i + 1).toNatClampNeg) = some (r, Ym) := e2
    refine fw_callH C hE (c_L_stepTaste hl (fun q hq => hq) e1 (fun n1 Y1 q => nomatch q)) (vx_cwSW 3 (cx_ts C) gL_law_L_stepTaste rfl rfl rfl (by decide +kernel) ⟨(Nat.le_of_ble_eq_true rfl), (Nat.le_of_ble_eq_true rfl)⟩) rfl (st := []) rfl (Nat.le_of_ble_eq_true rfl) ⟨hc1, hs1⟩ dL_law_887 ?_
    refine fw_mem (Y' := s11 r Yc) rfl ?_
    refine fw_topi (v' := 0) rfl ?_
    have e4 : X12_stepTaste (s11 r Yc) (xs (i + 1).toNatClampNeg) = some (r, s11 r Ym) := s11_some (f := fun Z => X12_stepTaste Z (xs (i + 1).toNatClampNeg)) (fun _ Z => k_X12_stepTaste Z (xs (i + 1).toNatClampNeg)) _ e2
    refine fw_istore C dL_law_890 (by decide) (L' := [(5, .int 0), (0, .ref b), (1, .ref (ad 0 0 0)), (2, .ref (ad 10 0 0)), (3, .ref (ad 11 0 0)), (4, .int i)]) rfl ?_
    refine fw_aload_n C dL_law_892 rfl 3 rfl ?_
    refine fw_aload_n C dL_law_893 rfl 1 rfl ?_
    refine fw_iload C dL_law_894 5 rfl ?_
    refine fw_iconst C dL_law_896 (v := 1) rfl ?_
    refine fw_iadd C dL_law_897 ?_
    refine fw_sld C hS h1 dL_law_898 ?_
    refine fw_callVi C (ci := 10) (Cn := RX12) (Tc := TX12) (N := 19) (As := [.int (xs (i + 1).toNatClampNeg)]) (c_X12_stepTaste (lawg (by decide)) e4) (cwV 1 (cx_ts C) gL_law_X12_stepTaste rfl rfl rfl (by decide +kernel) ⟨(Nat.le_of_ble_eq_true rfl), (Nat.le_of_ble_eq_true rfl)⟩) rfl (lawg (g := [(10, 0)]) (by decide) _ List.mem_cons_self) (of10_0 _) (ce10 T ad _ _) rfl (st := []) rfl (Nat.le_of_ble_eq_true rfl) ⟨hc1, hs1⟩ dL_law_899 (ppw ?_)
    refine fw_istore C dL_law_902 (by decide) (L' := [(6, .int r), (5, .int 0), (0, .ref b), (1, .ref (ad 0 0 0)), (2, .ref (ad 10 0 0)), (3, .ref (ad 11 0 0)), (4, .int i)]) rfl ?_
    refine fw_aload_n C dL_law_904 rfl 4 rfl ?_
    refine fw_callVi C (ci := 10) (Cn := RX12) (Tc := TX12) (N := 19) (As := []) (c_X12_thrown (lawg (by decide)) (thr_s11 r e3)) (cwV 0 (cx_ts C) gL_law_X12_thrown rfl rfl rfl (by decide +kernel) ⟨(Nat.le_of_ble_eq_true rfl), (Nat.le_of_ble_eq_true rfl)⟩) rfl (lawg (g := [(10, 0)]) (by decide) _ List.mem_cons_self) (of10_0 _) (ce10 T ad _ _) rfl (st := []) rfl (Nat.le_of_ble_eq_true rfl) ⟨hc1, hs1⟩ dL_law_905 (pp2 ?_)
    refine fw_iload C dL_law_908 1 rfl ?_
    refine fw_icmp_eq C dL_law_910 (tgt := 915) rfl (fun _ => ?_) (fun c1 => absurd rfl c1)
    refine fw_iload C dL_law_915 1 rfl ?_
    refine fw_if_ne C dL_law_917 (tgt := 932) rfl (fun c1 => absurd rfl c1) (fun _ => ?_)
    refine fw_aload_n C dL_law_920 rfl 5 rfl ?_
    refine fw_iconst C dL_law_921 (v := 0) rfl ?_
    refine fw_lald0 C (lawg (g := [(11, 0)]) (by decide) _ List.mem_cons_self) dL_law_922 ?_
    refine fw_top (v' := .long (r : Int32).toInt64) (by rw [s11_11]) ?_
    refine fw_iload C dL_law_923 0 rfl ?_
    refine fw_i2l C dL_law_925 rfl ?_
    refine fw_lcmp C dL_law_926 ?_
    refine fw_topi (v' := 0) (lg_self _) ?_
    refine fw_if_eq C dL_law_927 (tgt := 932) rfl (fun _ => ?_) (fun c1 => absurd rfl c1)
    refine fw_goto C dL_law_932 (tgt := 3079) rfl ?_
    exact fw_widen (Nat.add_le_add_left (by decide) _) (Nat.add_le_add_left (by decide) _) (fw_sub [2, 3, 4, 5, 6] rfl (k _ (Inv_s11 _ hI2)))
set_option maxHeartbeats 4000000 in
theorem law_19 (X : LX p s m args meth c N0 T D ad l b Ln xs i cells slots) (hI : Inv Y) (k : ∀ Y' : Mem, Inv Y' → LO p l e s m args below meth c N0 T D ad b i (cells + 2) (slots + 12) Q Y' 3079) : LO p l e s m args below meth c N0 T D ad b i cells slots Q Y 935 := by
  obtain ⟨C, hE, hl, hS, ⟨h1, h2, h3, h4, h5⟩, hc2, hs2⟩ := X
  have hc1 : cells + 1 ≤ 601024 := Nat.le_of_succ_le hc2
  have hs1 : slots + 6 ≤ 7293034 := Nat.le_trans (Nat.add_le_add_left (by decide) _) hs2
  have hc : cells ≤ 601024 := Nat.le_of_succ_le hc1
  have hs : slots ≤ 7293034 := Nat.le_trans (Nat.le_add_right _ _) hs1
  refine fw_aload_n C dL_law_935 rfl 1 rfl ?_
  refine fw_aload_n C dL_law_936 rfl 0 rfl ?_
  refine fw_iload C dL_law_937 4 rfl ?_
  refine fw_iconst C dL_law_939 (v := 1) rfl ?_
  refine fw_iadd C dL_law_940 ?_
  refine fw_sld C hS h1 dL_law_941 ?_
  refine fw_aload_n C dL_law_942 rfl 3 rfl ?_
  rcases q_panType hI (xs (i + 1).toNatClampNeg) with ⟨n, Yc, e1, hn, bb, Ym, e2, e3, hI2⟩ | ⟨r, Yc, e1, Ym, e2, e3, hI2⟩
  · have e2 : X12_panType Yc (xs (i + 1).toNatClampNeg) = some (bb, Ym) := e2
    refine fw_callH C hE (c_L_panType hl (fun q hq => hq) e1 (fun n1 Y1 q => by cases q; exact hn)) (vx_cwSW 3 (cx_ts C) gL_law_L_panType rfl rfl rfl (by decide +kernel) ⟨(Nat.le_of_ble_eq_true rfl), (Nat.le_of_ble_eq_true rfl)⟩) rfl (st := []) rfl (Nat.le_of_ble_eq_true rfl) ⟨hc1, hs1⟩ dL_law_943 ?_
    refine fw_mem (Y' := Yc) rfl ?_
    refine fw_topi (v' := c3 n) rfl ?_
    refine fw_istore C dL_law_946 (by decide) (L' := [(5, .int (c3 n)), (0, .ref b), (1, .ref (ad 0 0 0)), (2, .ref (ad 10 0 0)), (3, .ref (ad 11 0 0)), (4, .int i)]) rfl ?_
    refine fw_aload_n C dL_law_948 rfl 3 rfl ?_
    refine fw_aload_n C dL_law_949 rfl 1 rfl ?_
    refine fw_iload C dL_law_950 5 rfl ?_
    refine fw_iconst C dL_law_952 (v := 1) rfl ?_
    refine fw_iadd C dL_law_953 ?_
    refine fw_sld C hS h1 dL_law_954 ?_
    refine fw_callVi C (ci := 10) (Cn := RX12) (Tc := TX12) (N := 19) (As := [.int (xs (i + 1).toNatClampNeg)]) (c_X12_panType (lawg (by decide)) e2) (cwV 1 (cx_ts C) gL_law_X12_panType rfl rfl rfl (by decide +kernel) ⟨(Nat.le_of_ble_eq_true rfl), (Nat.le_of_ble_eq_true rfl)⟩) rfl (lawg (g := [(10, 0)]) (by decide) _ List.mem_cons_self) (of10_0 _) (ce10 T ad _ _) rfl (st := []) rfl (Nat.le_of_ble_eq_true rfl) ⟨hc1, hs1⟩ dL_law_955 (ppw ?_)
    refine fw_istore C dL_law_958 (by decide) (L' := [(6, .int bb), (5, .int (c3 n)), (0, .ref b), (1, .ref (ad 0 0 0)), (2, .ref (ad 10 0 0)), (3, .ref (ad 11 0 0)), (4, .int i)]) rfl ?_
    refine fw_aload_n C dL_law_960 rfl 4 rfl ?_
    refine fw_callVi C (ci := 10) (Cn := RX12) (Tc := TX12) (N := 19) (As := []) (c_X12_thrown (lawg (by decide)) (thr_ok e3)) (cwV 0 (cx_ts C) gL_law_X12_thrown rfl rfl rfl (by decide +kernel) ⟨(Nat.le_of_ble_eq_true rfl), (Nat.le_of_ble_eq_true rfl)⟩) rfl (lawg (g := [(10, 0)]) (by decide) _ List.mem_cons_self) (of10_0 _) (ce10 T ad _ _) rfl (st := []) rfl (Nat.le_of_ble_eq_true rfl) ⟨hc1, hs1⟩ dL_law_961 (pp2 ?_)
    refine fw_iload C dL_law_964 1 rfl ?_
    refine fw_icmp_eq C dL_law_966 (tgt := 971) rfl (fun _ => ?_) (fun c1 => absurd rfl c1)
    refine fw_iload C dL_law_971 1 rfl ?_
    refine fw_if_ne C dL_law_973 (tgt := 988) rfl (fun _ => ?_) (fun c1 => absurd c1 hn)
    refine fw_goto C dL_law_988 (tgt := 3079) rfl ?_
    exact fw_widen (Nat.add_le_add_left (by decide) _) (Nat.add_le_add_left (by decide) _) (fw_sub [2, 3, 4, 5, 6] rfl (k _ hI2))
  · have e2 : X12_panType Yc (xs (i + 1).toNatClampNeg) = some (r, Ym) := e2
    refine fw_callH C hE (c_L_panType hl (fun q hq => hq) e1 (fun n1 Y1 q => nomatch q)) (vx_cwSW 3 (cx_ts C) gL_law_L_panType rfl rfl rfl (by decide +kernel) ⟨(Nat.le_of_ble_eq_true rfl), (Nat.le_of_ble_eq_true rfl)⟩) rfl (st := []) rfl (Nat.le_of_ble_eq_true rfl) ⟨hc1, hs1⟩ dL_law_943 ?_
    refine fw_mem (Y' := s11 r Yc) rfl ?_
    refine fw_topi (v' := 0) rfl ?_
    have e4 : X12_panType (s11 r Yc) (xs (i + 1).toNatClampNeg) = some (r, s11 r Ym) := s11_some (f := fun Z => X12_panType Z (xs (i + 1).toNatClampNeg)) (fun _ Z => k_X12_panType Z (xs (i + 1).toNatClampNeg)) _ e2
    refine fw_istore C dL_law_946 (by decide) (L' := [(5, .int 0), (0, .ref b), (1, .ref (ad 0 0 0)), (2, .ref (ad 10 0 0)), (3, .ref (ad 11 0 0)), (4, .int i)]) rfl ?_
    refine fw_aload_n C dL_law_948 rfl 3 rfl ?_
    refine fw_aload_n C dL_law_949 rfl 1 rfl ?_
    refine fw_iload C dL_law_950 5 rfl ?_
    refine fw_iconst C dL_law_952 (v := 1) rfl ?_
    refine fw_iadd C dL_law_953 ?_
    refine fw_sld C hS h1 dL_law_954 ?_
    refine fw_callVi C (ci := 10) (Cn := RX12) (Tc := TX12) (N := 19) (As := [.int (xs (i + 1).toNatClampNeg)]) (c_X12_panType (lawg (by decide)) e4) (cwV 1 (cx_ts C) gL_law_X12_panType rfl rfl rfl (by decide +kernel) ⟨(Nat.le_of_ble_eq_true rfl), (Nat.le_of_ble_eq_true rfl)⟩) rfl (lawg (g := [(10, 0)]) (by decide) _ List.mem_cons_self) (of10_0 _) (ce10 T ad _ _) rfl (st := []) rfl (Nat.le_of_ble_eq_true rfl) ⟨hc1, hs1⟩ dL_law_955 (ppw ?_)
    refine fw_istore C dL_law_958 (by decide) (L' := [(6, .int r), (5, .int 0), (0, .ref b), (1, .ref (ad 0 0 0)), (2, .ref (ad 10 0 0)), (3, .ref (ad 11 0 0)), (4, .int i)]) rfl ?_
    refine fw_aload_n C dL_law_960 rfl 4 rfl ?_
    refine fw_callVi C (ci := 10) (Cn := RX12) (Tc := TX12) (N := 19) (As := []) (c_X12_thrown (lawg (by decide)) (thr_s11 r e3)) (cwV 0 (cx_ts C) gL_law_X12_thrown rfl rfl rfl (by decide +kernel) ⟨(Nat.le_of_ble_eq_true rfl), (Nat.le_of_ble_eq_true rfl)⟩) rfl (lawg (g := [(10, 0)]) (by decide) _ List.mem_cons_self) (of10_0 _) (ce10 T ad _ _) rfl (st := []) rfl (Nat.le_of_ble_eq_true rfl) ⟨hc1, hs1⟩ dL_law_961 (pp2 ?_)
    refine fw_iload C dL_law_964 1 rfl ?_
    refine fw_icmp_eq C dL_law_966 (tgt := 971) rfl (fun _ => ?_) (fun c1 => absurd rfl c1)
    refine fw_iload C dL_law_971 1 rfl ?_
    refine fw_if_ne C dL_law_973 (tgt := 988) rfl (fun c1 => absurd rfl c1) (fun _ => ?_)
    refine fw_aload_n C dL_law_976 rfl 5 rfl ?_
    refine fw_iconst C dL_law_977 (v := 0) rfl ?_
    refine fw_lald0 C (lawg (g := [(11, 0)]) (by decide) _ List.mem_cons_self) dL_law_978 ?_
    refine fw_top (v' := .long (r : Int32).toInt64) (by rw [s11_11]) ?_
    refine fw_iload C dL_law_979 0 rfl ?_
    refine fw_i2l C dL_law_981 rfl ?_
    refine fw_lcmp C dL_law_982 ?_
    refine fw_topi (v' := 0) (lg_self _) ?_
    refine fw_if_eq C dL_law_983 (tgt := 988) rfl (fun _ => ?_) (fun c1 => absurd rfl c1)
    refine fw_goto C dL_law_988 (tgt := 3079) rfl ?_
    exact fw_widen (Nat.add_le_add_left (by decide) _) (Nat.add_le_add_left (by decide) _) (fw_sub [2, 3, 4, 5, 6] rfl (k _ (Inv_s11 _ hI2)))
set_option maxHeartbeats 4000000 in
theorem law_20 (X : LX p s m args meth c N0 T D ad l b Ln xs i cells slots) (hI : Inv Y) (k : ∀ Y' : Mem, Inv Y' → LO p l e s m args below meth c N0 T D ad b i (cells + 2) (slots + 12) Q Y' 3079) : LO p l e s m args below meth c N0 T D ad b i cells slots Q Y 991 := by
  obtain ⟨C, hE, hl, hS, ⟨h1, h2, h3, h4, h5⟩, hc2, hs2⟩ := X
  have hc1 : cells + 1 ≤ 601024 := Nat.le_of_succ_le hc2
  have hs1 : slots + 6 ≤ 7293034 := Nat.le_trans (Nat.add_le_add_left (by decide) _) hs2
  have hc : cells ≤ 601024 := Nat.le_of_succ_le hc1
  have hs : slots ≤ 7293034 := Nat.le_trans (Nat.le_add_right _ _) hs1
  refine fw_aload_n C dL_law_991 rfl 1 rfl ?_
  refine fw_aload_n C dL_law_992 rfl 0 rfl ?_
  refine fw_iload C dL_law_993 4 rfl ?_
  refine fw_iconst C dL_law_995 (v := 1) rfl ?_
  refine fw_iadd C dL_law_996 ?_
  refine fw_sld C hS h1 dL_law_997 ?_
  refine fw_aload_n C dL_law_998 rfl 3 rfl ?_
  rcases q_isHot hI (xs (i + 1).toNatClampNeg) with ⟨n, Yc, e1, hn, bb, Ym, e2, e3, hI2⟩ | ⟨r, Yc, e1, Ym, e2, e3, hI2⟩
  · have e2 : X12_isHot Yc (xs (i + 1).toNatClampNeg) = some (bb, Ym) := e2
    refine fw_callH C hE (c_L_isHot hl (fun q hq => hq) e1 (fun n1 Y1 q => by cases q; exact hn)) (vx_cwSW 3 (cx_ts C) gL_law_L_isHot rfl rfl rfl (by decide +kernel) ⟨(Nat.le_of_ble_eq_true rfl), (Nat.le_of_ble_eq_true rfl)⟩) rfl (st := []) rfl (Nat.le_of_ble_eq_true rfl) ⟨hc1, hs1⟩ dL_law_999 ?_
    refine fw_mem (Y' := Yc) rfl ?_
    refine fw_topi (v' := c3 n) rfl ?_
    refine fw_istore C dL_law_1002 (by decide) (L' := [(5, .int (c3 n)), (0, .ref b), (1, .ref (ad 0 0 0)), (2, .ref (ad 10 0 0)), (3, .ref (ad 11 0 0)), (4, .int i)]) rfl ?_
    refine fw_aload_n C dL_law_1004 rfl 3 rfl ?_
    refine fw_aload_n C dL_law_1005 rfl 1 rfl ?_
    refine fw_iload C dL_law_1006 5 rfl ?_
    refine fw_iconst C dL_law_1008 (v := 1) rfl ?_
    refine fw_iadd C dL_law_1009 ?_
    refine fw_sld C hS h1 dL_law_1010 ?_
    refine fw_callVi C (ci := 10) (Cn := RX12) (Tc := TX12) (N := 19) (As := [.int (xs (i + 1).toNatClampNeg)]) (c_X12_isHot (lawg (by decide)) e2) (cwV 1 (cx_ts C) gL_law_X12_isHot rfl rfl rfl (by decide +kernel) ⟨(Nat.le_of_ble_eq_true rfl), (Nat.le_of_ble_eq_true rfl)⟩) rfl (lawg (g := [(10, 0)]) (by decide) _ List.mem_cons_self) (of10_0 _) (ce10 T ad _ _) rfl (st := []) rfl (Nat.le_of_ble_eq_true rfl) ⟨hc1, hs1⟩ dL_law_1011 (ppw ?_)
    refine fw_istore C dL_law_1014 (by decide) (L' := [(6, .int bb), (5, .int (c3 n)), (0, .ref b), (1, .ref (ad 0 0 0)), (2, .ref (ad 10 0 0)), (3, .ref (ad 11 0 0)), (4, .int i)]) rfl ?_
    refine fw_aload_n C dL_law_1016 rfl 4 rfl ?_
    refine fw_callVi C (ci := 10) (Cn := RX12) (Tc := TX12) (N := 19) (As := []) (c_X12_thrown (lawg (by decide)) (thr_ok e3)) (cwV 0 (cx_ts C) gL_law_X12_thrown rfl rfl rfl (by decide +kernel) ⟨(Nat.le_of_ble_eq_true rfl), (Nat.le_of_ble_eq_true rfl)⟩) rfl (lawg (g := [(10, 0)]) (by decide) _ List.mem_cons_self) (of10_0 _) (ce10 T ad _ _) rfl (st := []) rfl (Nat.le_of_ble_eq_true rfl) ⟨hc1, hs1⟩ dL_law_1017 (pp2 ?_)
    refine fw_iload C dL_law_1020 1 rfl ?_
    refine fw_icmp_eq C dL_law_1022 (tgt := 1027) rfl (fun _ => ?_) (fun c1 => absurd rfl c1)
    refine fw_iload C dL_law_1027 1 rfl ?_
    refine fw_if_ne C dL_law_1029 (tgt := 1051) rfl (fun _ => ?_) (fun c1 => absurd c1 hn)
    refine fw_goto C dL_law_1051 (tgt := 3079) rfl ?_
    exact fw_widen (Nat.add_le_add_left (by decide) _) (Nat.add_le_add_left (by decide) _) (fw_sub [2, 3, 4, 5, 6] rfl (k _ hI2))
  · have e2 : X12_isHot Yc (xs (i + 1).toNatClampNeg) = some (r, Ym) := e2
    refine fw_callH C hE (c_L_isHot hl (fun q hq => hq) e1 (fun n1 Y1 q => nomatch q)) (vx_cwSW 3 (cx_ts C) gL_law_L_isHot rfl rfl rfl (by decide +kernel) ⟨(Nat.le_of_ble_eq_true rfl), (Nat.le_of_ble_eq_true rfl)⟩) rfl (st := []) rfl (Nat.le_of_ble_eq_true rfl) ⟨hc1, hs1⟩ dL_law_999 ?_
    refine fw_mem (Y' := s11 (if r = 0 then 0 else 1) Yc) rfl ?_
    refine fw_topi (v' := 0) rfl ?_
    have e4 : X12_isHot (s11 (if r = 0 then 0 else 1) Yc) (xs (i + 1).toNatClampNeg) = some (r, s11 (if r = 0 then 0 else 1) Ym) := s11_some (f := fun Z => X12_isHot Z (xs (i + 1).toNatClampNeg)) (fun _ Z => k_X12_isHot Z (xs (i + 1).toNatClampNeg)) _ e2
    refine fw_istore C dL_law_1002 (by decide) (L' := [(5, .int 0), (0, .ref b), (1, .ref (ad 0 0 0)), (2, .ref (ad 10 0 0)), (3, .ref (ad 11 0 0)), (4, .int i)]) rfl ?_
    refine fw_aload_n C dL_law_1004 rfl 3 rfl ?_
    refine fw_aload_n C dL_law_1005 rfl 1 rfl ?_
    refine fw_iload C dL_law_1006 5 rfl ?_
    refine fw_iconst C dL_law_1008 (v := 1) rfl ?_
    refine fw_iadd C dL_law_1009 ?_
    refine fw_sld C hS h1 dL_law_1010 ?_
    refine fw_callVi C (ci := 10) (Cn := RX12) (Tc := TX12) (N := 19) (As := [.int (xs (i + 1).toNatClampNeg)]) (c_X12_isHot (lawg (by decide)) e4) (cwV 1 (cx_ts C) gL_law_X12_isHot rfl rfl rfl (by decide +kernel) ⟨(Nat.le_of_ble_eq_true rfl), (Nat.le_of_ble_eq_true rfl)⟩) rfl (lawg (g := [(10, 0)]) (by decide) _ List.mem_cons_self) (of10_0 _) (ce10 T ad _ _) rfl (st := []) rfl (Nat.le_of_ble_eq_true rfl) ⟨hc1, hs1⟩ dL_law_1011 (ppw ?_)
    refine fw_istore C dL_law_1014 (by decide) (L' := [(6, .int r), (5, .int 0), (0, .ref b), (1, .ref (ad 0 0 0)), (2, .ref (ad 10 0 0)), (3, .ref (ad 11 0 0)), (4, .int i)]) rfl ?_
    refine fw_aload_n C dL_law_1016 rfl 4 rfl ?_
    refine fw_callVi C (ci := 10) (Cn := RX12) (Tc := TX12) (N := 19) (As := []) (c_X12_thrown (lawg (by decide)) (thr_s11 (if r = 0 then 0 else 1) e3)) (cwV 0 (cx_ts C) gL_law_X12_thrown rfl rfl rfl (by decide +kernel) ⟨(Nat.le_of_ble_eq_true rfl), (Nat.le_of_ble_eq_true rfl)⟩) rfl (lawg (g := [(10, 0)]) (by decide) _ List.mem_cons_self) (of10_0 _) (ce10 T ad _ _) rfl (st := []) rfl (Nat.le_of_ble_eq_true rfl) ⟨hc1, hs1⟩ dL_law_1017 (pp2 ?_)
    refine fw_iload C dL_law_1020 1 rfl ?_
    refine fw_icmp_eq C dL_law_1022 (tgt := 1027) rfl (fun _ => ?_) (fun c1 => absurd rfl c1)
    refine fw_iload C dL_law_1027 1 rfl ?_
    refine fw_if_ne C dL_law_1029 (tgt := 1051) rfl (fun c1 => absurd rfl c1) (fun _ => ?_)
    refine fw_aload_n C dL_law_1032 rfl 5 rfl ?_
    refine fw_iconst C dL_law_1033 (v := 0) rfl ?_
    refine fw_lald0 C (lawg (g := [(11, 0)]) (by decide) _ List.mem_cons_self) dL_law_1034 ?_
    refine fw_top (v' := .long ((if r = 0 then 0 else 1) : Int32).toInt64) (by rw [s11_11]) ?_
    refine fw_iload C dL_law_1035 0 rfl ?_
    refine fw_if_eq C dL_law_1037 (tgt := 1044) rfl (fun c1 => ?_) (fun c1 => ?_)
    · refine fw_lconst C dL_law_1044 (v := 0) rfl ?_
      refine fw_lcmp C dL_law_1045 ?_
      refine fw_topi (v' := 0) (by rw [if_pos c1]; rfl) ?_
      refine fw_if_eq C dL_law_1046 (tgt := 1051) rfl (fun _ => ?_) (fun c1 => absurd rfl c1)
      refine fw_goto C dL_law_1051 (tgt := 3079) rfl ?_
      exact fw_widen (Nat.add_le_add_left (by decide) _) (Nat.add_le_add_left (by decide) _) (fw_sub [2, 3, 4, 5, 6] rfl (k _ (Inv_s11 _ hI2)))
    · refine fw_lconst C dL_law_1040 (v := 1) rfl ?_
      refine fw_goto C dL_law_1041 (tgt := 1045) rfl ?_
      refine fw_lcmp C dL_law_1045 ?_
      refine fw_topi (v' := 0) (by rw [if_neg c1]; rfl) ?_
      refine fw_if_eq C dL_law_1046 (tgt := 1051) rfl (fun _ => ?_) (fun c1 => absurd rfl c1)
      refine fw_goto C dL_law_1051 (tgt := 3079) rfl ?_
      exact fw_widen (Nat.add_le_add_left (by decide) _) (Nat.add_le_add_left (by decide) _) (fw_sub [2, 3, 4, 5, 6] rfl (k _ (Inv_s11 _ hI2)))
set_option maxHeartbeats 4000000 in
theorem law_21 (X : LX p s m args meth c N0 T D ad l b Ln xs i cells slots) (hI : Inv Y) (k : ∀ Y' : Mem, Inv Y' → LO p l e s m args below meth c N0 T D ad b i (cells + 2) (slots + 12) Q Y' 3079) : LO p l e s m args below meth c N0 T D ad b i cells slots Q Y 1054 := by
  obtain ⟨C, hE, hl, hS, ⟨h1, h2, h3, h4, h5⟩, hc2, hs2⟩ := X
  have hc1 : cells + 1 ≤ 601024 := Nat.le_of_succ_le hc2
  have hs1 : slots + 6 ≤ 7293034 := Nat.le_trans (Nat.add_le_add_left (by decide) _) hs2
  have hc : cells ≤ 601024 := Nat.le_of_succ_le hc1
  have hs : slots ≤ 7293034 := Nat.le_trans (Nat.le_add_right _ _) hs1
  refine fw_aload_n C dL_law_1054 rfl 1 rfl ?_
  refine fw_aload_n C dL_law_1055 rfl 0 rfl ?_
  refine fw_iload C dL_law_1056 4 rfl ?_
  refine fw_iconst C dL_law_1058 (v := 1) rfl ?_
  refine fw_iadd C dL_law_1059 ?_
  refine fw_sld C hS h1 dL_law_1060 ?_
  refine fw_aload_n C dL_law_1061 rfl 3 rfl ?_
  rcases q_isUnattended hI (xs (i + 1).toNatClampNeg) with ⟨n, Yc, e1, hn, bb, Ym, e2, e3, hI2⟩ | ⟨r, Yc, e1, Ym, e2, e3, hI2⟩
  · have e2 : X12_isUnattended Yc (xs (i + 1).toNatClampNeg) = some (bb, Ym) := e2
    refine fw_callH C hE (c_L_isUnattended hl (fun q hq => hq) e1 (fun n1 Y1 q => by cases q; exact hn)) (vx_cwSW 3 (cx_ts C) gL_law_L_isUnattended rfl rfl rfl (by decide +kernel) ⟨(Nat.le_of_ble_eq_true rfl), (Nat.le_of_ble_eq_true rfl)⟩) rfl (st := []) rfl (Nat.le_of_ble_eq_true rfl) ⟨hc1, hs1⟩ dL_law_1062 ?_
    refine fw_mem (Y' := Yc) rfl ?_
    refine fw_topi (v' := c3 n) rfl ?_
    refine fw_istore C dL_law_1065 (by decide) (L' := [(5, .int (c3 n)), (0, .ref b), (1, .ref (ad 0 0 0)), (2, .ref (ad 10 0 0)), (3, .ref (ad 11 0 0)), (4, .int i)]) rfl ?_
    refine fw_aload_n C dL_law_1067 rfl 3 rfl ?_
    refine fw_aload_n C dL_law_1068 rfl 1 rfl ?_
    refine fw_iload C dL_law_1069 5 rfl ?_
    refine fw_iconst C dL_law_1071 (v := 1) rfl ?_
    refine fw_iadd C dL_law_1072 ?_
    refine fw_sld C hS h1 dL_law_1073 ?_
    refine fw_callVi C (ci := 10) (Cn := RX12) (Tc := TX12) (N := 19) (As := [.int (xs (i + 1).toNatClampNeg)]) (c_X12_isUnattended (lawg (by decide)) e2) (cwV 1 (cx_ts C) gL_law_X12_isUnattended rfl rfl rfl (by decide +kernel) ⟨(Nat.le_of_ble_eq_true rfl), (Nat.le_of_ble_eq_true rfl)⟩) rfl (lawg (g := [(10, 0)]) (by decide) _ List.mem_cons_self) (of10_0 _) (ce10 T ad _ _) rfl (st := []) rfl (Nat.le_of_ble_eq_true rfl) ⟨hc1, hs1⟩ dL_law_1074 (ppw ?_)
    refine fw_istore C dL_law_1077 (by decide) (L' := [(6, .int bb), (5, .int (c3 n)), (0, .ref b), (1, .ref (ad 0 0 0)), (2, .ref (ad 10 0 0)), (3, .ref (ad 11 0 0)), (4, .int i)]) rfl ?_
    refine fw_aload_n C dL_law_1079 rfl 4 rfl ?_
    refine fw_callVi C (ci := 10) (Cn := RX12) (Tc := TX12) (N := 19) (As := []) (c_X12_thrown (lawg (by decide)) (thr_ok e3)) (cwV 0 (cx_ts C) gL_law_X12_thrown rfl rfl rfl (by decide +kernel) ⟨(Nat.le_of_ble_eq_true rfl), (Nat.le_of_ble_eq_true rfl)⟩) rfl (lawg (g := [(10, 0)]) (by decide) _ List.mem_cons_self) (of10_0 _) (ce10 T ad _ _) rfl (st := []) rfl (Nat.le_of_ble_eq_true rfl) ⟨hc1, hs1⟩ dL_law_1080 (pp2 ?_)
    refine fw_iload C dL_law_1083 1 rfl ?_
    refine fw_icmp_eq C dL_law_1085 (tgt := 1090) rfl (fun _ => ?_) (fun c1 => absurd rfl c1)
    refine fw_iload C dL_law_1090 1 rfl ?_
    refine fw_if_ne C dL_law_1092 (tgt := 1114) rfl (fun _ => ?_) (fun c1 => absurd c1 hn)
    refine fw_goto C dL_law_1114 (tgt := 3079) rfl ?_
    exact fw_widen (Nat.add_le_add_left (by decide) _) (Nat.add_le_add_left (by decide) _) (fw_sub [2, 3, 4, 5, 6] rfl (k _ hI2))
  · have e2 : X12_isUnattended Yc (xs (i + 1).toNatClampNeg) = some (r, Ym) := e2
    refine fw_callH C hE (c_L_isUnattended hl (fun q hq => hq) e1 (fun n1 Y1 q => nomatch q)) (vx_cwSW 3 (cx_ts C) gL_law_L_isUnattended rfl rfl rfl (by decide +kernel) ⟨(Nat.le_of_ble_eq_true rfl), (Nat.le_of_ble_eq_true rfl)⟩) rfl (st := []) rfl (Nat.le_of_ble_eq_true rfl) ⟨hc1, hs1⟩ dL_law_1062 ?_
    refine fw_mem (Y' := s11 (if r = 0 then 0 else 1) Yc) rfl ?_
    refine fw_topi (v' := 0) rfl ?_
    have e4 : X12_isUnattended (s11 (if r = 0 then 0 else 1) Yc) (xs (i + 1).toNatClampNeg) = some (r, s11 (if r = 0 then 0 else 1) Ym) := s11_some (f := fun Z => X12_isUnattended Z (xs (i + 1).toNatClampNeg)) (fun _ Z => k_X12_isUnattended Z (xs (i + 1).toNatClampNeg)) _ e2
    refine fw_istore C dL_law_1065 (by decide) (L' := [(5, .int 0), (0, .ref b), (1, .ref (ad 0 0 0)), (2, .ref (ad 10 0 0)), (3, .ref (ad 11 0 0)), (4, .int i)]) rfl ?_
    refine fw_aload_n C dL_law_1067 rfl 3 rfl ?_
    refine fw_aload_n C dL_law_1068 rfl 1 rfl ?_
    refine fw_iload C dL_law_1069 5 rfl ?_
    refine fw_iconst C dL_law_1071 (v := 1) rfl ?_
    refine fw_iadd C dL_law_1072 ?_
    refine fw_sld C hS h1 dL_law_1073 ?_
    refine fw_callVi C (ci := 10) (Cn := RX12) (Tc := TX12) (N := 19) (As := [.int (xs (i + 1).toNatClampNeg)]) (c_X12_isUnattended (lawg (by decide)) e4) (cwV 1 (cx_ts C) gL_law_X12_isUnattended rfl rfl rfl (by decide +kernel) ⟨(Nat.le_of_ble_eq_true rfl), (Nat.le_of_ble_eq_true rfl)⟩) rfl (lawg (g := [(10, 0)]) (by decide) _ List.mem_cons_self) (of10_0 _) (ce10 T ad _ _) rfl (st := []) rfl (Nat.le_of_ble_eq_true rfl) ⟨hc1, hs1⟩ dL_law_1074 (ppw ?_)
    refine fw_istore C dL_law_1077 (by decide) (L' := [(6, .int r), (5, .int 0), (0, .ref b), (1, .ref (ad 0 0 0)), (2, .ref (ad 10 0 0)), (3, .ref (ad 11 0 0)), (4, .int i)]) rfl ?_
    refine fw_aload_n C dL_law_1079 rfl 4 rfl ?_
    refine fw_callVi C (ci := 10) (Cn := RX12) (Tc := TX12) (N := 19) (As := []) (c_X12_thrown (lawg (by decide)) (thr_s11 (if r = 0 then 0 else 1) e3)) (cwV 0 (cx_ts C) gL_law_X12_thrown rfl rfl rfl (by decide +kernel) ⟨(Nat.le_of_ble_eq_true rfl), (Nat.le_of_ble_eq_true rfl)⟩) rfl (lawg (g := [(10, 0)]) (by decide) _ List.mem_cons_self) (of10_0 _) (ce10 T ad _ _) rfl (st := []) rfl (Nat.le_of_ble_eq_true rfl) ⟨hc1, hs1⟩ dL_law_1080 (pp2 ?_)
    refine fw_iload C dL_law_1083 1 rfl ?_
    refine fw_icmp_eq C dL_law_1085 (tgt := 1090) rfl (fun _ => ?_) (fun c1 => absurd rfl c1)
    refine fw_iload C dL_law_1090 1 rfl ?_
    refine fw_if_ne C dL_law_1092 (tgt := 1114) rfl (fun c1 => absurd rfl c1) (fun _ => ?_)
    refine fw_aload_n C dL_law_1095 rfl 5 rfl ?_
    refine fw_iconst C dL_law_1096 (v := 0) rfl ?_
    refine fw_lald0 C (lawg (g := [(11, 0)]) (by decide) _ List.mem_cons_self) dL_law_1097 ?_
    refine fw_top (v' := .long ((if r = 0 then 0 else 1) : Int32).toInt64) (by rw [s11_11]) ?_
    refine fw_iload C dL_law_1098 0 rfl ?_
    refine fw_if_eq C dL_law_1100 (tgt := 1107) rfl (fun c1 => ?_) (fun c1 => ?_)
    · refine fw_lconst C dL_law_1107 (v := 0) rfl ?_
      refine fw_lcmp C dL_law_1108 ?_
      refine fw_topi (v' := 0) (by rw [if_pos c1]; rfl) ?_
      refine fw_if_eq C dL_law_1109 (tgt := 1114) rfl (fun _ => ?_) (fun c1 => absurd rfl c1)
      refine fw_goto C dL_law_1114 (tgt := 3079) rfl ?_
      exact fw_widen (Nat.add_le_add_left (by decide) _) (Nat.add_le_add_left (by decide) _) (fw_sub [2, 3, 4, 5, 6] rfl (k _ (Inv_s11 _ hI2)))
    · refine fw_lconst C dL_law_1103 (v := 1) rfl ?_
      refine fw_goto C dL_law_1104 (tgt := 1108) rfl ?_
      refine fw_lcmp C dL_law_1108 ?_
      refine fw_topi (v' := 0) (by rw [if_neg c1]; rfl) ?_
      refine fw_if_eq C dL_law_1109 (tgt := 1114) rfl (fun _ => ?_) (fun c1 => absurd rfl c1)
      refine fw_goto C dL_law_1114 (tgt := 3079) rfl ?_
      exact fw_widen (Nat.add_le_add_left (by decide) _) (Nat.add_le_add_left (by decide) _) (fw_sub [2, 3, 4, 5, 6] rfl (k _ (Inv_s11 _ hI2)))
set_option maxHeartbeats 4000000 in
theorem law_22 (X : LX p s m args meth c N0 T D ad l b Ln xs i cells slots) (hI : Inv Y) (k : ∀ Y' : Mem, Inv Y' → LO p l e s m args below meth c N0 T D ad b i (cells + 2) (slots + 12) Q Y' 3079) : LO p l e s m args below meth c N0 T D ad b i cells slots Q Y 1117 := by
  obtain ⟨C, hE, hl, hS, ⟨h1, h2, h3, h4, h5⟩, hc2, hs2⟩ := X
  have hc1 : cells + 1 ≤ 601024 := Nat.le_of_succ_le hc2
  have hs1 : slots + 6 ≤ 7293034 := Nat.le_trans (Nat.add_le_add_left (by decide) _) hs2
  have hc : cells ≤ 601024 := Nat.le_of_succ_le hc1
  have hs : slots ≤ 7293034 := Nat.le_trans (Nat.le_add_right _ _) hs1
  refine fw_aload_n C dL_law_1117 rfl 1 rfl ?_
  refine fw_aload_n C dL_law_1118 rfl 0 rfl ?_
  refine fw_iload C dL_law_1119 4 rfl ?_
  refine fw_iconst C dL_law_1121 (v := 1) rfl ?_
  refine fw_iadd C dL_law_1122 ?_
  refine fw_sld C hS h1 dL_law_1123 ?_
  refine fw_aload_n C dL_law_1124 rfl 0 rfl ?_
  refine fw_iload C dL_law_1125 4 rfl ?_
  refine fw_iconst C dL_law_1127 (v := 2) rfl ?_
  refine fw_iadd C dL_law_1128 ?_
  refine fw_sld C hS h2 dL_law_1129 ?_
  refine fw_aload_n C dL_law_1130 rfl 3 rfl ?_
  rcases q_predecessor hI (xs (i + 1).toNatClampNeg) (xs (i + 2).toNatClampNeg) with ⟨n, Yc, e1, hn, bb, Ym, e2, e3, hI2⟩ | ⟨r, Yc, e1, Ym, e2, e3, hI2⟩
  · have e2 : X12_predecessor Yc (xs (i + 1).toNatClampNeg) (xs (i + 2).toNatClampNeg) = some (bb, Ym) := e2
    refine fw_callH C hE (c_L_predecessor hl (fun q hq => hq) e1 (fun n1 Y1 q => by cases q; exact hn)) (vx_cwSW 4 (cx_ts C) gL_law_L_predecessor rfl rfl rfl (by decide +kernel) ⟨(Nat.le_of_ble_eq_true rfl), (Nat.le_of_ble_eq_true rfl)⟩) rfl (st := []) rfl (Nat.le_of_ble_eq_true rfl) ⟨hc1, hs1⟩ dL_law_1131 ?_
    refine fw_mem (Y' := Yc) rfl ?_
    refine fw_topi (v' := c3 n) rfl ?_
    refine fw_istore C dL_law_1134 (by decide) (L' := [(5, .int (c3 n)), (0, .ref b), (1, .ref (ad 0 0 0)), (2, .ref (ad 10 0 0)), (3, .ref (ad 11 0 0)), (4, .int i)]) rfl ?_
    refine fw_aload_n C dL_law_1136 rfl 3 rfl ?_
    refine fw_aload_n C dL_law_1137 rfl 1 rfl ?_
    refine fw_iload C dL_law_1138 5 rfl ?_
    refine fw_iconst C dL_law_1140 (v := 1) rfl ?_
    refine fw_iadd C dL_law_1141 ?_
    refine fw_sld C hS h1 dL_law_1142 ?_
    refine fw_aload_n C dL_law_1143 rfl 1 rfl ?_
    refine fw_iload C dL_law_1144 5 rfl ?_
    refine fw_iconst C dL_law_1146 (v := 2) rfl ?_
    refine fw_iadd C dL_law_1147 ?_
    refine fw_sld C hS h2 dL_law_1148 ?_
    refine fw_callVi C (ci := 10) (Cn := RX12) (Tc := TX12) (N := 19) (As := [.int (xs (i + 1).toNatClampNeg), .int (xs (i + 2).toNatClampNeg)]) (c_X12_predecessor (lawg (by decide)) e2) (cwV 2 (cx_ts C) gL_law_X12_predecessor rfl rfl rfl (by decide +kernel) ⟨(Nat.le_of_ble_eq_true rfl), (Nat.le_of_ble_eq_true rfl)⟩) rfl (lawg (g := [(10, 0)]) (by decide) _ List.mem_cons_self) (of10_0 _) (ce10 T ad _ _) rfl (st := []) rfl (Nat.le_of_ble_eq_true rfl) ⟨hc1, hs1⟩ dL_law_1149 (ppw ?_)
    refine fw_istore C dL_law_1152 (by decide) (L' := [(6, .int bb), (5, .int (c3 n)), (0, .ref b), (1, .ref (ad 0 0 0)), (2, .ref (ad 10 0 0)), (3, .ref (ad 11 0 0)), (4, .int i)]) rfl ?_
    refine fw_aload_n C dL_law_1154 rfl 4 rfl ?_
    refine fw_callVi C (ci := 10) (Cn := RX12) (Tc := TX12) (N := 19) (As := []) (c_X12_thrown (lawg (by decide)) (thr_ok e3)) (cwV 0 (cx_ts C) gL_law_X12_thrown rfl rfl rfl (by decide +kernel) ⟨(Nat.le_of_ble_eq_true rfl), (Nat.le_of_ble_eq_true rfl)⟩) rfl (lawg (g := [(10, 0)]) (by decide) _ List.mem_cons_self) (of10_0 _) (ce10 T ad _ _) rfl (st := []) rfl (Nat.le_of_ble_eq_true rfl) ⟨hc1, hs1⟩ dL_law_1155 (pp2 ?_)
    refine fw_iload C dL_law_1158 1 rfl ?_
    refine fw_icmp_eq C dL_law_1160 (tgt := 1165) rfl (fun _ => ?_) (fun c1 => absurd rfl c1)
    refine fw_iload C dL_law_1165 1 rfl ?_
    refine fw_if_ne C dL_law_1167 (tgt := 1182) rfl (fun _ => ?_) (fun c1 => absurd c1 hn)
    refine fw_goto C dL_law_1182 (tgt := 3079) rfl ?_
    exact fw_widen (Nat.add_le_add_left (by decide) _) (Nat.add_le_add_left (by decide) _) (fw_sub [2, 3, 4, 5, 6] rfl (k _ hI2))
  · have e2 : X12_predecessor Yc (xs (i + 1).toNatClampNeg) (xs (i + 2).toNatClampNeg) = some (r, Ym) := e2
    refine fw_callH C hE (c_L_predecessor hl (fun q hq => hq) e1 (fun n1 Y1 q => nomatch q)) (vx_cwSW 4 (cx_ts C) gL_law_L_predecessor rfl rfl rfl (by decide +kernel) ⟨(Nat.le_of_ble_eq_true rfl), (Nat.le_of_ble_eq_true rfl)⟩) rfl (st := []) rfl (Nat.le_of_ble_eq_true rfl) ⟨hc1, hs1⟩ dL_law_1131 ?_
    refine fw_mem (Y' := s11 r Yc) rfl ?_
    refine fw_topi (v' := 0) rfl ?_
    have e4 : X12_predecessor (s11 r Yc) (xs (i + 1).toNatClampNeg) (xs (i + 2).toNatClampNeg) = some (r, s11 r Ym) := s11_some (f := fun Z => X12_predecessor Z (xs (i + 1).toNatClampNeg) (xs (i + 2).toNatClampNeg)) (fun _ Z => k_X12_predecessor Z (xs (i + 1).toNatClampNeg) (xs (i + 2).toNatClampNeg)) _ e2
    refine fw_istore C dL_law_1134 (by decide) (L' := [(5, .int 0), (0, .ref b), (1, .ref (ad 0 0 0)), (2, .ref (ad 10 0 0)), (3, .ref (ad 11 0 0)), (4, .int i)]) rfl ?_
    refine fw_aload_n C dL_law_1136 rfl 3 rfl ?_
    refine fw_aload_n C dL_law_1137 rfl 1 rfl ?_
    refine fw_iload C dL_law_1138 5 rfl ?_
    refine fw_iconst C dL_law_1140 (v := 1) rfl ?_
    refine fw_iadd C dL_law_1141 ?_
    refine fw_sld C hS h1 dL_law_1142 ?_
    refine fw_aload_n C dL_law_1143 rfl 1 rfl ?_
    refine fw_iload C dL_law_1144 5 rfl ?_
    refine fw_iconst C dL_law_1146 (v := 2) rfl ?_
    refine fw_iadd C dL_law_1147 ?_
    refine fw_sld C hS h2 dL_law_1148 ?_
    refine fw_callVi C (ci := 10) (Cn := RX12) (Tc := TX12) (N := 19) (As := [.int (xs (i + 1).toNatClampNeg), .int (xs (i + 2).toNatClampNeg)]) (c_X12_predecessor (lawg (by decide)) e4) (cwV 2 (cx_ts C) gL_law_X12_predecessor rfl rfl rfl (by decide +kernel) ⟨(Nat.le_of_ble_eq_true rfl), (Nat.le_of_ble_eq_true rfl)⟩) rfl (lawg (g := [(10, 0)]) (by decide) _ List.mem_cons_self) (of10_0 _) (ce10 T ad _ _) rfl (st := []) rfl (Nat.le_of_ble_eq_true rfl) ⟨hc1, hs1⟩ dL_law_1149 (ppw ?_)
    refine fw_istore C dL_law_1152 (by decide) (L' := [(6, .int r), (5, .int 0), (0, .ref b), (1, .ref (ad 0 0 0)), (2, .ref (ad 10 0 0)), (3, .ref (ad 11 0 0)), (4, .int i)]) rfl ?_
    refine fw_aload_n C dL_law_1154 rfl 4 rfl ?_
    refine fw_callVi C (ci := 10) (Cn := RX12) (Tc := TX12) (N := 19) (As := []) (c_X12_thrown (lawg (by decide)) (thr_s11 r e3)) (cwV 0 (cx_ts C) gL_law_X12_thrown rfl rfl rfl (by decide +kernel) ⟨(Nat.le_of_ble_eq_true rfl), (Nat.le_of_ble_eq_true rfl)⟩) rfl (lawg (g := [(10, 0)]) (by decide) _ List.mem_cons_self) (of10_0 _) (ce10 T ad _ _) rfl (st := []) rfl (Nat.le_of_ble_eq_true rfl) ⟨hc1, hs1⟩ dL_law_1155 (pp2 ?_)
    refine fw_iload C dL_law_1158 1 rfl ?_
    refine fw_icmp_eq C dL_law_1160 (tgt := 1165) rfl (fun _ => ?_) (fun c1 => absurd rfl c1)
    refine fw_iload C dL_law_1165 1 rfl ?_
    refine fw_if_ne C dL_law_1167 (tgt := 1182) rfl (fun c1 => absurd rfl c1) (fun _ => ?_)
    refine fw_aload_n C dL_law_1170 rfl 5 rfl ?_
    refine fw_iconst C dL_law_1171 (v := 0) rfl ?_
    refine fw_lald0 C (lawg (g := [(11, 0)]) (by decide) _ List.mem_cons_self) dL_law_1172 ?_
    refine fw_top (v' := .long (r : Int32).toInt64) (by rw [s11_11]) ?_
    refine fw_iload C dL_law_1173 0 rfl ?_
    refine fw_i2l C dL_law_1175 rfl ?_
    refine fw_lcmp C dL_law_1176 ?_
    refine fw_topi (v' := 0) (lg_self _) ?_
    refine fw_if_eq C dL_law_1177 (tgt := 1182) rfl (fun _ => ?_) (fun c1 => absurd rfl c1)
    refine fw_goto C dL_law_1182 (tgt := 3079) rfl ?_
    exact fw_widen (Nat.add_le_add_left (by decide) _) (Nat.add_le_add_left (by decide) _) (fw_sub [2, 3, 4, 5, 6] rfl (k _ (Inv_s11 _ hI2)))
set_option maxHeartbeats 4000000 in
theorem law_23 (X : LX p s m args meth c N0 T D ad l b Ln xs i cells slots) (hI : Inv Y) (k : ∀ Y' : Mem, Inv Y' → LO p l e s m args below meth c N0 T D ad b i (cells + 2) (slots + 12) Q Y' 3079) : LO p l e s m args below meth c N0 T D ad b i cells slots Q Y 1185 := by
  obtain ⟨C, hE, hl, hS, ⟨h1, h2, h3, h4, h5⟩, hc2, hs2⟩ := X
  have hc1 : cells + 1 ≤ 601024 := Nat.le_of_succ_le hc2
  have hs1 : slots + 6 ≤ 7293034 := Nat.le_trans (Nat.add_le_add_left (by decide) _) hs2
  have hc : cells ≤ 601024 := Nat.le_of_succ_le hc1
  have hs : slots ≤ 7293034 := Nat.le_trans (Nat.le_add_right _ _) hs1
  refine fw_aload_n C dL_law_1185 rfl 1 rfl ?_
  refine fw_aload_n C dL_law_1186 rfl 0 rfl ?_
  refine fw_iload C dL_law_1187 4 rfl ?_
  refine fw_iconst C dL_law_1189 (v := 1) rfl ?_
  refine fw_iadd C dL_law_1190 ?_
  refine fw_sld C hS h1 dL_law_1191 ?_
  refine fw_aload_n C dL_law_1192 rfl 3 rfl ?_
  rcases q_successorCount hI (xs (i + 1).toNatClampNeg) with ⟨n, Yc, e1, hn, bb, Ym, e2, e3, hI2⟩ | ⟨r, Yc, e1, Ym, e2, e3, hI2⟩
  · have e2 : X12_successorCount Yc (xs (i + 1).toNatClampNeg) = some (bb, Ym) := e2
    refine fw_callH C hE (c_L_successorCount hl (fun q hq => hq) e1 (fun n1 Y1 q => by cases q; exact hn)) (vx_cwSW 3 (cx_ts C) gL_law_L_successorCount rfl rfl rfl (by decide +kernel) ⟨(Nat.le_of_ble_eq_true rfl), (Nat.le_of_ble_eq_true rfl)⟩) rfl (st := []) rfl (Nat.le_of_ble_eq_true rfl) ⟨hc1, hs1⟩ dL_law_1193 ?_
    refine fw_mem (Y' := Yc) rfl ?_
    refine fw_topi (v' := c3 n) rfl ?_
    refine fw_istore C dL_law_1196 (by decide) (L' := [(5, .int (c3 n)), (0, .ref b), (1, .ref (ad 0 0 0)), (2, .ref (ad 10 0 0)), (3, .ref (ad 11 0 0)), (4, .int i)]) rfl ?_
    refine fw_aload_n C dL_law_1198 rfl 3 rfl ?_
    refine fw_aload_n C dL_law_1199 rfl 1 rfl ?_
    refine fw_iload C dL_law_1200 5 rfl ?_
    refine fw_iconst C dL_law_1202 (v := 1) rfl ?_
    refine fw_iadd C dL_law_1203 ?_
    refine fw_sld C hS h1 dL_law_1204 ?_
    refine fw_callVi C (ci := 10) (Cn := RX12) (Tc := TX12) (N := 19) (As := [.int (xs (i + 1).toNatClampNeg)]) (c_X12_successorCount (lawg (by decide)) e2) (cwV 1 (cx_ts C) gL_law_X12_successorCount rfl rfl rfl (by decide +kernel) ⟨(Nat.le_of_ble_eq_true rfl), (Nat.le_of_ble_eq_true rfl)⟩) rfl (lawg (g := [(10, 0)]) (by decide) _ List.mem_cons_self) (of10_0 _) (ce10 T ad _ _) rfl (st := []) rfl (Nat.le_of_ble_eq_true rfl) ⟨hc1, hs1⟩ dL_law_1205 (ppw ?_)
    refine fw_istore C dL_law_1208 (by decide) (L' := [(6, .int bb), (5, .int (c3 n)), (0, .ref b), (1, .ref (ad 0 0 0)), (2, .ref (ad 10 0 0)), (3, .ref (ad 11 0 0)), (4, .int i)]) rfl ?_
    refine fw_aload_n C dL_law_1210 rfl 4 rfl ?_
    refine fw_callVi C (ci := 10) (Cn := RX12) (Tc := TX12) (N := 19) (As := []) (c_X12_thrown (lawg (by decide)) (thr_ok e3)) (cwV 0 (cx_ts C) gL_law_X12_thrown rfl rfl rfl (by decide +kernel) ⟨(Nat.le_of_ble_eq_true rfl), (Nat.le_of_ble_eq_true rfl)⟩) rfl (lawg (g := [(10, 0)]) (by decide) _ List.mem_cons_self) (of10_0 _) (ce10 T ad _ _) rfl (st := []) rfl (Nat.le_of_ble_eq_true rfl) ⟨hc1, hs1⟩ dL_law_1211 (pp2 ?_)
    refine fw_iload C dL_law_1214 1 rfl ?_
    refine fw_icmp_eq C dL_law_1216 (tgt := 1221) rfl (fun _ => ?_) (fun c1 => absurd rfl c1)
    refine fw_iload C dL_law_1221 1 rfl ?_
    refine fw_if_ne C dL_law_1223 (tgt := 1238) rfl (fun _ => ?_) (fun c1 => absurd c1 hn)
    refine fw_goto C dL_law_1238 (tgt := 3079) rfl ?_
    exact fw_widen (Nat.add_le_add_left (by decide) _) (Nat.add_le_add_left (by decide) _) (fw_sub [2, 3, 4, 5, 6] rfl (k _ hI2))
  · have e2 : X12_successorCount Yc (xs (i + 1).toNatClampNeg) = some (r, Ym) := e2
    refine fw_callH C hE (c_L_successorCount hl (fun q hq => hq) e1 (fun n1 Y1 q => nomatch q)) (vx_cwSW 3 (cx_ts C) gL_law_L_successorCount rfl rfl rfl (by decide +kernel) ⟨(Nat.le_of_ble_eq_true rfl), (Nat.le_of_ble_eq_true rfl)⟩) rfl (st := []) rfl (Nat.le_of_ble_eq_true rfl) ⟨hc1, hs1⟩ dL_law_1193 ?_
    refine fw_mem (Y' := s11 r Yc) rfl ?_
    refine fw_topi (v' := 0) rfl ?_
    have e4 : X12_successorCount (s11 r Yc) (xs (i + 1).toNatClampNeg) = some (r, s11 r Ym) := s11_some (f := fun Z => X12_successorCount Z (xs (i + 1).toNatClampNeg)) (fun _ Z => k_X12_successorCount Z (xs (i + 1).toNatClampNeg)) _ e2
    refine fw_istore C dL_law_1196 (by decide) (L' := [(5, .int 0), (0, .ref b), (1, .ref (ad 0 0 0)), (2, .ref (ad 10 0 0)), (3, .ref (ad 11 0 0)), (4, .int i)]) rfl ?_
    refine fw_aload_n C dL_law_1198 rfl 3 rfl ?_
    refine fw_aload_n C dL_law_1199 rfl 1 rfl ?_
    refine fw_iload C dL_law_1200 5 rfl ?_
    refine fw_iconst C dL_law_1202 (v := 1) rfl ?_
    refine fw_iadd C dL_law_1203 ?_
    refine fw_sld C hS h1 dL_law_1204 ?_
    refine fw_callVi C (ci := 10) (Cn := RX12) (Tc := TX12) (N := 19) (As := [.int (xs (i + 1).toNatClampNeg)]) (c_X12_successorCount (lawg (by decide)) e4) (cwV 1 (cx_ts C) gL_law_X12_successorCount rfl rfl rfl (by decide +kernel) ⟨(Nat.le_of_ble_eq_true rfl), (Nat.le_of_ble_eq_true rfl)⟩) rfl (lawg (g := [(10, 0)]) (by decide) _ List.mem_cons_self) (of10_0 _) (ce10 T ad _ _) rfl (st := []) rfl (Nat.le_of_ble_eq_true rfl) ⟨hc1, hs1⟩ dL_law_1205 (ppw ?_)
    refine fw_istore C dL_law_1208 (by decide) (L' := [(6, .int r), (5, .int 0), (0, .ref b), (1, .ref (ad 0 0 0)), (2, .ref (ad 10 0 0)), (3, .ref (ad 11 0 0)), (4, .int i)]) rfl ?_
    refine fw_aload_n C dL_law_1210 rfl 4 rfl ?_
    refine fw_callVi C (ci := 10) (Cn := RX12) (Tc := TX12) (N := 19) (As := []) (c_X12_thrown (lawg (by decide)) (thr_s11 r e3)) (cwV 0 (cx_ts C) gL_law_X12_thrown rfl rfl rfl (by decide +kernel) ⟨(Nat.le_of_ble_eq_true rfl), (Nat.le_of_ble_eq_true rfl)⟩) rfl (lawg (g := [(10, 0)]) (by decide) _ List.mem_cons_self) (of10_0 _) (ce10 T ad _ _) rfl (st := []) rfl (Nat.le_of_ble_eq_true rfl) ⟨hc1, hs1⟩ dL_law_1211 (pp2 ?_)
    refine fw_iload C dL_law_1214 1 rfl ?_
    refine fw_icmp_eq C dL_law_1216 (tgt := 1221) rfl (fun _ => ?_) (fun c1 => absurd rfl c1)
    refine fw_iload C dL_law_1221 1 rfl ?_
    refine fw_if_ne C dL_law_1223 (tgt := 1238) rfl (fun c1 => absurd rfl c1) (fun _ => ?_)
    refine fw_aload_n C dL_law_1226 rfl 5 rfl ?_
    refine fw_iconst C dL_law_1227 (v := 0) rfl ?_
    refine fw_lald0 C (lawg (g := [(11, 0)]) (by decide) _ List.mem_cons_self) dL_law_1228 ?_
    refine fw_top (v' := .long (r : Int32).toInt64) (by rw [s11_11]) ?_
    refine fw_iload C dL_law_1229 0 rfl ?_
    refine fw_i2l C dL_law_1231 rfl ?_
    refine fw_lcmp C dL_law_1232 ?_
    refine fw_topi (v' := 0) (lg_self _) ?_
    refine fw_if_eq C dL_law_1233 (tgt := 1238) rfl (fun _ => ?_) (fun c1 => absurd rfl c1)
    refine fw_goto C dL_law_1238 (tgt := 3079) rfl ?_
    exact fw_widen (Nat.add_le_add_left (by decide) _) (Nat.add_le_add_left (by decide) _) (fw_sub [2, 3, 4, 5, 6] rfl (k _ (Inv_s11 _ hI2)))
set_option maxHeartbeats 4000000 in
theorem law_24 (X : LX p s m args meth c N0 T D ad l b Ln xs i cells slots) (hI : Inv Y) (k : ∀ Y' : Mem, Inv Y' → LO p l e s m args below meth c N0 T D ad b i (cells + 2) (slots + 12) Q Y' 3079) : LO p l e s m args below meth c N0 T D ad b i cells slots Q Y 1241 := by
  obtain ⟨C, hE, hl, hS, ⟨h1, h2, h3, h4, h5⟩, hc2, hs2⟩ := X
  have hc1 : cells + 1 ≤ 601024 := Nat.le_of_succ_le hc2
  have hs1 : slots + 6 ≤ 7293034 := Nat.le_trans (Nat.add_le_add_left (by decide) _) hs2
  have hc : cells ≤ 601024 := Nat.le_of_succ_le hc1
  have hs : slots ≤ 7293034 := Nat.le_trans (Nat.le_add_right _ _) hs1
  refine fw_aload_n C dL_law_1241 rfl 1 rfl ?_
  refine fw_aload_n C dL_law_1242 rfl 0 rfl ?_
  refine fw_iload C dL_law_1243 4 rfl ?_
  refine fw_iconst C dL_law_1245 (v := 1) rfl ?_
  refine fw_iadd C dL_law_1246 ?_
  refine fw_sld C hS h1 dL_law_1247 ?_
  refine fw_aload_n C dL_law_1248 rfl 0 rfl ?_
  refine fw_iload C dL_law_1249 4 rfl ?_
  refine fw_iconst C dL_law_1251 (v := 2) rfl ?_
  refine fw_iadd C dL_law_1252 ?_
  refine fw_sld C hS h2 dL_law_1253 ?_
  refine fw_aload_n C dL_law_1254 rfl 3 rfl ?_
  rcases q_dependsOn hI (xs (i + 1).toNatClampNeg) (xs (i + 2).toNatClampNeg) with ⟨n, Yc, e1, hn, bb, Ym, e2, e3, hI2⟩ | ⟨r, Yc, e1, Ym, e2, e3, hI2⟩
  · have e2 : X12_dependsOn Yc (xs (i + 1).toNatClampNeg) (xs (i + 2).toNatClampNeg) = some (bb, Ym) := e2
    refine fw_callH C hE (c_L_dependsOn hl (fun q hq => hq) e1 (fun n1 Y1 q => by cases q; exact hn)) (vx_cwSW 4 (cx_ts C) gL_law_L_dependsOn rfl rfl rfl (by decide +kernel) ⟨(Nat.le_of_ble_eq_true rfl), (Nat.le_of_ble_eq_true rfl)⟩) rfl (st := []) rfl (Nat.le_of_ble_eq_true rfl) ⟨hc2, hs2⟩ dL_law_1255 ?_
    refine fw_mem (Y' := Yc) rfl ?_
    refine fw_topi (v' := c3 n) rfl ?_
    refine fw_istore C dL_law_1258 (by decide) (L' := [(5, .int (c3 n)), (0, .ref b), (1, .ref (ad 0 0 0)), (2, .ref (ad 10 0 0)), (3, .ref (ad 11 0 0)), (4, .int i)]) rfl ?_
    refine fw_aload_n C dL_law_1260 rfl 3 rfl ?_
    refine fw_aload_n C dL_law_1261 rfl 1 rfl ?_
    refine fw_iload C dL_law_1262 5 rfl ?_
    refine fw_iconst C dL_law_1264 (v := 1) rfl ?_
    refine fw_iadd C dL_law_1265 ?_
    refine fw_sld C hS h1 dL_law_1266 ?_
    refine fw_aload_n C dL_law_1267 rfl 1 rfl ?_
    refine fw_iload C dL_law_1268 5 rfl ?_
    refine fw_iconst C dL_law_1270 (v := 2) rfl ?_
    refine fw_iadd C dL_law_1271 ?_
    refine fw_sld C hS h2 dL_law_1272 ?_
    refine fw_callVi C (ci := 10) (Cn := RX12) (Tc := TX12) (N := 19) (As := [.int (xs (i + 1).toNatClampNeg), .int (xs (i + 2).toNatClampNeg)]) (c_X12_dependsOn (lawg (by decide)) e2) (cwV 2 (cx_ts C) gL_law_X12_dependsOn rfl rfl rfl (by decide +kernel) ⟨(Nat.le_of_ble_eq_true rfl), (Nat.le_of_ble_eq_true rfl)⟩) rfl (lawg (g := [(10, 0)]) (by decide) _ List.mem_cons_self) (of10_0 _) (ce10 T ad _ _) rfl (st := []) rfl (Nat.le_of_ble_eq_true rfl) ⟨hc2, hs2⟩ dL_law_1273 (ppw ?_)
    refine fw_istore C dL_law_1276 (by decide) (L' := [(6, .int bb), (5, .int (c3 n)), (0, .ref b), (1, .ref (ad 0 0 0)), (2, .ref (ad 10 0 0)), (3, .ref (ad 11 0 0)), (4, .int i)]) rfl ?_
    refine fw_aload_n C dL_law_1278 rfl 4 rfl ?_
    refine fw_callVi C (ci := 10) (Cn := RX12) (Tc := TX12) (N := 19) (As := []) (c_X12_thrown (lawg (by decide)) (thr_ok e3)) (cwV 0 (cx_ts C) gL_law_X12_thrown rfl rfl rfl (by decide +kernel) ⟨(Nat.le_of_ble_eq_true rfl), (Nat.le_of_ble_eq_true rfl)⟩) rfl (lawg (g := [(10, 0)]) (by decide) _ List.mem_cons_self) (of10_0 _) (ce10 T ad _ _) rfl (st := []) rfl (Nat.le_of_ble_eq_true rfl) ⟨hc2, hs2⟩ dL_law_1279 (pp2 ?_)
    refine fw_iload C dL_law_1282 1 rfl ?_
    refine fw_icmp_eq C dL_law_1284 (tgt := 1289) rfl (fun _ => ?_) (fun c1 => absurd rfl c1)
    refine fw_iload C dL_law_1289 1 rfl ?_
    refine fw_if_ne C dL_law_1291 (tgt := 1313) rfl (fun _ => ?_) (fun c1 => absurd c1 hn)
    refine fw_goto C dL_law_1313 (tgt := 3079) rfl ?_
    exact fw_widen (Nat.add_le_add_left (by decide) _) (Nat.add_le_add_left (by decide) _) (fw_sub [2, 3, 4, 5, 6] rfl (k _ hI2))
  · have e2 : X12_dependsOn Yc (xs (i + 1).toNatClampNeg) (xs (i + 2).toNatClampNeg) = some (r, Ym) := e2
    refine fw_callH C hE (c_L_dependsOn hl (fun q hq => hq) e1 (fun n1 Y1 q => nomatch q)) (vx_cwSW 4 (cx_ts C) gL_law_L_dependsOn rfl rfl rfl (by decide +kernel) ⟨(Nat.le_of_ble_eq_true rfl), (Nat.le_of_ble_eq_true rfl)⟩) rfl (st := []) rfl (Nat.le_of_ble_eq_true rfl) ⟨hc2, hs2⟩ dL_law_1255 ?_
    refine fw_mem (Y' := s11 (if r = 0 then 0 else 1) Yc) rfl ?_
    refine fw_topi (v' := 0) rfl ?_
    have e4 : X12_dependsOn (s11 (if r = 0 then 0 else 1) Yc) (xs (i + 1).toNatClampNeg) (xs (i + 2).toNatClampNeg) = some (r, s11 (if r = 0 then 0 else 1) Ym) := s11_some (f := fun Z => X12_dependsOn Z (xs (i + 1).toNatClampNeg) (xs (i + 2).toNatClampNeg)) (fun _ Z => k_X12_dependsOn Z (xs (i + 1).toNatClampNeg) (xs (i + 2).toNatClampNeg)) _ e2
    refine fw_istore C dL_law_1258 (by decide) (L' := [(5, .int 0), (0, .ref b), (1, .ref (ad 0 0 0)), (2, .ref (ad 10 0 0)), (3, .ref (ad 11 0 0)), (4, .int i)]) rfl ?_
    refine fw_aload_n C dL_law_1260 rfl 3 rfl ?_
    refine fw_aload_n C dL_law_1261 rfl 1 rfl ?_
    refine fw_iload C dL_law_1262 5 rfl ?_
    refine fw_iconst C dL_law_1264 (v := 1) rfl ?_
    refine fw_iadd C dL_law_1265 ?_
    refine fw_sld C hS h1 dL_law_1266 ?_
    refine fw_aload_n C dL_law_1267 rfl 1 rfl ?_
    refine fw_iload C dL_law_1268 5 rfl ?_
    refine fw_iconst C dL_law_1270 (v := 2) rfl ?_
    refine fw_iadd C dL_law_1271 ?_
    refine fw_sld C hS h2 dL_law_1272 ?_
    refine fw_callVi C (ci := 10) (Cn := RX12) (Tc := TX12) (N := 19) (As := [.int (xs (i + 1).toNatClampNeg), .int (xs (i + 2).toNatClampNeg)]) (c_X12_dependsOn (lawg (by decide)) e4) (cwV 2 (cx_ts C) gL_law_X12_dependsOn rfl rfl rfl (by decide +kernel) ⟨(Nat.le_of_ble_eq_true rfl), (Nat.le_of_ble_eq_true rfl)⟩) rfl (lawg (g := [(10, 0)]) (by decide) _ List.mem_cons_self) (of10_0 _) (ce10 T ad _ _) rfl (st := []) rfl (Nat.le_of_ble_eq_true rfl) ⟨hc2, hs2⟩ dL_law_1273 (ppw ?_)
    refine fw_istore C dL_law_1276 (by decide) (L' := [(6, .int r), (5, .int 0), (0, .ref b), (1, .ref (ad 0 0 0)), (2, .ref (ad 10 0 0)), (3, .ref (ad 11 0 0)), (4, .int i)]) rfl ?_
    refine fw_aload_n C dL_law_1278 rfl 4 rfl ?_
    refine fw_callVi C (ci := 10) (Cn := RX12) (Tc := TX12) (N := 19) (As := []) (c_X12_thrown (lawg (by decide)) (thr_s11 (if r = 0 then 0 else 1) e3)) (cwV 0 (cx_ts C) gL_law_X12_thrown rfl rfl rfl (by decide +kernel) ⟨(Nat.le_of_ble_eq_true rfl), (Nat.le_of_ble_eq_true rfl)⟩) rfl (lawg (g := [(10, 0)]) (by decide) _ List.mem_cons_self) (of10_0 _) (ce10 T ad _ _) rfl (st := []) rfl (Nat.le_of_ble_eq_true rfl) ⟨hc2, hs2⟩ dL_law_1279 (pp2 ?_)
    refine fw_iload C dL_law_1282 1 rfl ?_
    refine fw_icmp_eq C dL_law_1284 (tgt := 1289) rfl (fun _ => ?_) (fun c1 => absurd rfl c1)
    refine fw_iload C dL_law_1289 1 rfl ?_
    refine fw_if_ne C dL_law_1291 (tgt := 1313) rfl (fun c1 => absurd rfl c1) (fun _ => ?_)
    refine fw_aload_n C dL_law_1294 rfl 5 rfl ?_
    refine fw_iconst C dL_law_1295 (v := 0) rfl ?_
    refine fw_lald0 C (lawg (g := [(11, 0)]) (by decide) _ List.mem_cons_self) dL_law_1296 ?_
    refine fw_top (v' := .long ((if r = 0 then 0 else 1) : Int32).toInt64) (by rw [s11_11]) ?_
    refine fw_iload C dL_law_1297 0 rfl ?_
    refine fw_if_eq C dL_law_1299 (tgt := 1306) rfl (fun c1 => ?_) (fun c1 => ?_)
    · refine fw_lconst C dL_law_1306 (v := 0) rfl ?_
      refine fw_lcmp C dL_law_1307 ?_
      refine fw_topi (v' := 0) (by rw [if_pos c1]; rfl) ?_
      refine fw_if_eq C dL_law_1308 (tgt := 1313) rfl (fun _ => ?_) (fun c1 => absurd rfl c1)
      refine fw_goto C dL_law_1313 (tgt := 3079) rfl ?_
      exact fw_widen (Nat.add_le_add_left (by decide) _) (Nat.add_le_add_left (by decide) _) (fw_sub [2, 3, 4, 5, 6] rfl (k _ (Inv_s11 _ hI2)))
    · refine fw_lconst C dL_law_1302 (v := 1) rfl ?_
      refine fw_goto C dL_law_1303 (tgt := 1307) rfl ?_
      refine fw_lcmp C dL_law_1307 ?_
      refine fw_topi (v' := 0) (by rw [if_neg c1]; rfl) ?_
      refine fw_if_eq C dL_law_1308 (tgt := 1313) rfl (fun _ => ?_) (fun c1 => absurd rfl c1)
      refine fw_goto C dL_law_1313 (tgt := 3079) rfl ?_
      exact fw_widen (Nat.add_le_add_left (by decide) _) (Nat.add_le_add_left (by decide) _) (fw_sub [2, 3, 4, 5, 6] rfl (k _ (Inv_s11 _ hI2)))
set_option maxHeartbeats 4000000 in
theorem law_25 (X : LX p s m args meth c N0 T D ad l b Ln xs i cells slots) (hI : Inv Y) (k : ∀ Y' : Mem, Inv Y' → LO p l e s m args below meth c N0 T D ad b i (cells + 2) (slots + 12) Q Y' 3079) : LO p l e s m args below meth c N0 T D ad b i cells slots Q Y 1316 := by
  obtain ⟨C, hE, hl, hS, ⟨h1, h2, h3, h4, h5⟩, hc2, hs2⟩ := X
  have hc1 : cells + 1 ≤ 601024 := Nat.le_of_succ_le hc2
  have hs1 : slots + 6 ≤ 7293034 := Nat.le_trans (Nat.add_le_add_left (by decide) _) hs2
  have hc : cells ≤ 601024 := Nat.le_of_succ_le hc1
  have hs : slots ≤ 7293034 := Nat.le_trans (Nat.le_add_right _ _) hs1
  refine fw_aload_n C dL_law_1316 rfl 1 rfl ?_
  refine fw_aload_n C dL_law_1317 rfl 0 rfl ?_
  refine fw_iload C dL_law_1318 4 rfl ?_
  refine fw_iconst C dL_law_1320 (v := 1) rfl ?_
  refine fw_iadd C dL_law_1321 ?_
  refine fw_sld C hS h1 dL_law_1322 ?_
  refine fw_aload_n C dL_law_1323 rfl 3 rfl ?_
  rcases q_pathLength hI (xs (i + 1).toNatClampNeg) with ⟨n, Yc, e1, hn, bb, Ym, e2, e3, hI2⟩ | ⟨r, Yc, e1, Ym, e2, e3, hI2⟩
  · have e2 : X12_pathLength Yc (xs (i + 1).toNatClampNeg) = some (bb, Ym) := e2
    refine fw_callH C hE (c_L_pathLength hl (fun q hq => hq) e1 (fun n1 Y1 q => by cases q; exact hn)) (vx_cwSW 3 (cx_ts C) gL_law_L_pathLength rfl rfl rfl (by decide +kernel) ⟨(Nat.le_of_ble_eq_true rfl), (Nat.le_of_ble_eq_true rfl)⟩) rfl (st := []) rfl (Nat.le_of_ble_eq_true rfl) ⟨hc1, hs1⟩ dL_law_1324 ?_
    refine fw_mem (Y' := Yc) rfl ?_
    refine fw_topi (v' := c3 n) rfl ?_
    refine fw_istore C dL_law_1327 (by decide) (L' := [(5, .int (c3 n)), (0, .ref b), (1, .ref (ad 0 0 0)), (2, .ref (ad 10 0 0)), (3, .ref (ad 11 0 0)), (4, .int i)]) rfl ?_
    refine fw_aload_n C dL_law_1329 rfl 3 rfl ?_
    refine fw_aload_n C dL_law_1330 rfl 1 rfl ?_
    refine fw_iload C dL_law_1331 5 rfl ?_
    refine fw_iconst C dL_law_1333 (v := 1) rfl ?_
    refine fw_iadd C dL_law_1334 ?_
    refine fw_sld C hS h1 dL_law_1335 ?_
    refine fw_callVi C (ci := 10) (Cn := RX12) (Tc := TX12) (N := 19) (As := [.int (xs (i + 1).toNatClampNeg)]) (c_X12_pathLength (lawg (by decide)) e2) (cwV 1 (cx_ts C) gL_law_X12_pathLength rfl rfl rfl (by decide +kernel) ⟨(Nat.le_of_ble_eq_true rfl), (Nat.le_of_ble_eq_true rfl)⟩) rfl (lawg (g := [(10, 0)]) (by decide) _ List.mem_cons_self) (of10_0 _) (ce10 T ad _ _) rfl (st := []) rfl (Nat.le_of_ble_eq_true rfl) ⟨hc1, hs1⟩ dL_law_1336 (ppw ?_)
    refine fw_istore C dL_law_1339 (by decide) (L' := [(6, .int bb), (5, .int (c3 n)), (0, .ref b), (1, .ref (ad 0 0 0)), (2, .ref (ad 10 0 0)), (3, .ref (ad 11 0 0)), (4, .int i)]) rfl ?_
    refine fw_aload_n C dL_law_1341 rfl 4 rfl ?_
    refine fw_callVi C (ci := 10) (Cn := RX12) (Tc := TX12) (N := 19) (As := []) (c_X12_thrown (lawg (by decide)) (thr_ok e3)) (cwV 0 (cx_ts C) gL_law_X12_thrown rfl rfl rfl (by decide +kernel) ⟨(Nat.le_of_ble_eq_true rfl), (Nat.le_of_ble_eq_true rfl)⟩) rfl (lawg (g := [(10, 0)]) (by decide) _ List.mem_cons_self) (of10_0 _) (ce10 T ad _ _) rfl (st := []) rfl (Nat.le_of_ble_eq_true rfl) ⟨hc1, hs1⟩ dL_law_1342 (pp2 ?_)
    refine fw_iload C dL_law_1345 1 rfl ?_
    refine fw_icmp_eq C dL_law_1347 (tgt := 1352) rfl (fun _ => ?_) (fun c1 => absurd rfl c1)
    refine fw_iload C dL_law_1352 1 rfl ?_
    refine fw_if_ne C dL_law_1354 (tgt := 1369) rfl (fun _ => ?_) (fun c1 => absurd c1 hn)
    refine fw_goto C dL_law_1369 (tgt := 3079) rfl ?_
    exact fw_widen (Nat.add_le_add_left (by decide) _) (Nat.add_le_add_left (by decide) _) (fw_sub [2, 3, 4, 5, 6] rfl (k _ hI2))
  · have e2 : X12_pathLength Yc (xs (i + 1).toNatClampNeg) = some (r, Ym) := e2
    refine fw_callH C hE (c_L_pathLength hl (fun q hq => hq) e1 (fun n1 Y1 q => nomatch q)) (vx_cwSW 3 (cx_ts C) gL_law_L_pathLength rfl rfl rfl (by decide +kernel) ⟨(Nat.le_of_ble_eq_true rfl), (Nat.le_of_ble_eq_true rfl)⟩) rfl (st := []) rfl (Nat.le_of_ble_eq_true rfl) ⟨hc1, hs1⟩ dL_law_1324 ?_
    refine fw_mem (Y' := s11 r Yc) rfl ?_
    refine fw_topi (v' := 0) rfl ?_
    have e4 : X12_pathLength (s11 r Yc) (xs (i + 1).toNatClampNeg) = some (r, s11 r Ym) := s11_some (f := fun Z => X12_pathLength Z (xs (i + 1).toNatClampNeg)) (fun _ Z => k_X12_pathLength Z (xs (i + 1).toNatClampNeg)) _ e2
    refine fw_istore C dL_law_1327 (by decide) (L' := [(5, .int 0), (0, .ref b), (1, .ref (ad 0 0 0)), (2, .ref (ad 10 0 0)), (3, .ref (ad 11 0 0)), (4, .int i)]) rfl ?_
    refine fw_aload_n C dL_law_1329 rfl 3 rfl ?_
    refine fw_aload_n C dL_law_1330 rfl 1 rfl ?_
    refine fw_iload C dL_law_1331 5 rfl ?_
    refine fw_iconst C dL_law_1333 (v := 1) rfl ?_
    refine fw_iadd C dL_law_1334 ?_
    refine fw_sld C hS h1 dL_law_1335 ?_
    refine fw_callVi C (ci := 10) (Cn := RX12) (Tc := TX12) (N := 19) (As := [.int (xs (i + 1).toNatClampNeg)]) (c_X12_pathLength (lawg (by decide)) e4) (cwV 1 (cx_ts C) gL_law_X12_pathLength rfl rfl rfl (by decide +kernel) ⟨(Nat.le_of_ble_eq_true rfl), (Nat.le_of_ble_eq_true rfl)⟩) rfl (lawg (g := [(10, 0)]) (by decide) _ List.mem_cons_self) (of10_0 _) (ce10 T ad _ _) rfl (st := []) rfl (Nat.le_of_ble_eq_true rfl) ⟨hc1, hs1⟩ dL_law_1336 (ppw ?_)
    refine fw_istore C dL_law_1339 (by decide) (L' := [(6, .int r), (5, .int 0), (0, .ref b), (1, .ref (ad 0 0 0)), (2, .ref (ad 10 0 0)), (3, .ref (ad 11 0 0)), (4, .int i)]) rfl ?_
    refine fw_aload_n C dL_law_1341 rfl 4 rfl ?_
    refine fw_callVi C (ci := 10) (Cn := RX12) (Tc := TX12) (N := 19) (As := []) (c_X12_thrown (lawg (by decide)) (thr_s11 r e3)) (cwV 0 (cx_ts C) gL_law_X12_thrown rfl rfl rfl (by decide +kernel) ⟨(Nat.le_of_ble_eq_true rfl), (Nat.le_of_ble_eq_true rfl)⟩) rfl (lawg (g := [(10, 0)]) (by decide) _ List.mem_cons_self) (of10_0 _) (ce10 T ad _ _) rfl (st := []) rfl (Nat.le_of_ble_eq_true rfl) ⟨hc1, hs1⟩ dL_law_1342 (pp2 ?_)
    refine fw_iload C dL_law_1345 1 rfl ?_
    refine fw_icmp_eq C dL_law_1347 (tgt := 1352) rfl (fun _ => ?_) (fun c1 => absurd rfl c1)
    refine fw_iload C dL_law_1352 1 rfl ?_
    refine fw_if_ne C dL_law_1354 (tgt := 1369) rfl (fun c1 => absurd rfl c1) (fun _ => ?_)
    refine fw_aload_n C dL_law_1357 rfl 5 rfl ?_
    refine fw_iconst C dL_law_1358 (v := 0) rfl ?_
    refine fw_lald0 C (lawg (g := [(11, 0)]) (by decide) _ List.mem_cons_self) dL_law_1359 ?_
    refine fw_top (v' := .long (r : Int32).toInt64) (by rw [s11_11]) ?_
    refine fw_iload C dL_law_1360 0 rfl ?_
    refine fw_i2l C dL_law_1362 rfl ?_
    refine fw_lcmp C dL_law_1363 ?_
    refine fw_topi (v' := 0) (lg_self _) ?_
    refine fw_if_eq C dL_law_1364 (tgt := 1369) rfl (fun _ => ?_) (fun c1 => absurd rfl c1)
    refine fw_goto C dL_law_1369 (tgt := 3079) rfl ?_
    exact fw_widen (Nat.add_le_add_left (by decide) _) (Nat.add_le_add_left (by decide) _) (fw_sub [2, 3, 4, 5, 6] rfl (k _ (Inv_s11 _ hI2)))
set_option maxHeartbeats 4000000 in
theorem law_26 (X : LX p s m args meth c N0 T D ad l b Ln xs i cells slots) (hI : Inv Y) (k : ∀ Y' : Mem, Inv Y' → LO p l e s m args below meth c N0 T D ad b i (cells + 2) (slots + 12) Q Y' 3079) : LO p l e s m args below meth c N0 T D ad b i cells slots Q Y 1372 := by
  obtain ⟨C, hE, hl, hS, ⟨h1, h2, h3, h4, h5⟩, hc2, hs2⟩ := X
  have hc1 : cells + 1 ≤ 601024 := Nat.le_of_succ_le hc2
  have hs1 : slots + 6 ≤ 7293034 := Nat.le_trans (Nat.add_le_add_left (by decide) _) hs2
  have hc : cells ≤ 601024 := Nat.le_of_succ_le hc1
  have hs : slots ≤ 7293034 := Nat.le_trans (Nat.le_add_right _ _) hs1
  refine fw_aload_n C dL_law_1372 rfl 1 rfl ?_
  refine fw_aload_n C dL_law_1373 rfl 0 rfl ?_
  refine fw_iload C dL_law_1374 4 rfl ?_
  refine fw_iconst C dL_law_1376 (v := 1) rfl ?_
  refine fw_iadd C dL_law_1377 ?_
  refine fw_sld C hS h1 dL_law_1378 ?_
  refine fw_aload_n C dL_law_1379 rfl 0 rfl ?_
  refine fw_iload C dL_law_1380 4 rfl ?_
  refine fw_iconst C dL_law_1382 (v := 2) rfl ?_
  refine fw_iadd C dL_law_1383 ?_
  refine fw_sld C hS h2 dL_law_1384 ?_
  refine fw_aload_n C dL_law_1385 rfl 3 rfl ?_
  rcases q_nameLetter hI (xs (i + 1).toNatClampNeg) (xs (i + 2).toNatClampNeg) with ⟨n, Yc, e1, hn, bb, Ym, e2, e3, hI2⟩ | ⟨r, Yc, e1, Ym, e2, e3, hI2⟩
  · have e2 : X12_nameLetter Yc (xs (i + 1).toNatClampNeg) (xs (i + 2).toNatClampNeg) = some (bb, Ym) := e2
    refine fw_callH C hE (c_L_nameLetter hl (fun q hq => hq) e1 (fun n1 Y1 q => by cases q; exact hn)) (vx_cwSW 4 (cx_ts C) gL_law_L_nameLetter rfl rfl rfl (by decide +kernel) ⟨(Nat.le_of_ble_eq_true rfl), (Nat.le_of_ble_eq_true rfl)⟩) rfl (st := []) rfl (Nat.le_of_ble_eq_true rfl) ⟨hc2, hs2⟩ dL_law_1386 ?_
    refine fw_mem (Y' := Yc) rfl ?_
    refine fw_topi (v' := c3 n) rfl ?_
    refine fw_istore C dL_law_1389 (by decide) (L' := [(5, .int (c3 n)), (0, .ref b), (1, .ref (ad 0 0 0)), (2, .ref (ad 10 0 0)), (3, .ref (ad 11 0 0)), (4, .int i)]) rfl ?_
    refine fw_aload_n C dL_law_1391 rfl 3 rfl ?_
    refine fw_aload_n C dL_law_1392 rfl 1 rfl ?_
    refine fw_iload C dL_law_1393 5 rfl ?_
    refine fw_iconst C dL_law_1395 (v := 1) rfl ?_
    refine fw_iadd C dL_law_1396 ?_
    refine fw_sld C hS h1 dL_law_1397 ?_
    refine fw_aload_n C dL_law_1398 rfl 1 rfl ?_
    refine fw_iload C dL_law_1399 5 rfl ?_
    refine fw_iconst C dL_law_1401 (v := 2) rfl ?_
    refine fw_iadd C dL_law_1402 ?_
    refine fw_sld C hS h2 dL_law_1403 ?_
    refine fw_callVi C (ci := 10) (Cn := RX12) (Tc := TX12) (N := 19) (As := [.int (xs (i + 1).toNatClampNeg), .int (xs (i + 2).toNatClampNeg)]) (c_X12_nameLetter (lawg (by decide)) e2) (cwV 2 (cx_ts C) gL_law_X12_nameLetter rfl rfl rfl (by decide +kernel) ⟨(Nat.le_of_ble_eq_true rfl), (Nat.le_of_ble_eq_true rfl)⟩) rfl (lawg (g := [(10, 0)]) (by decide) _ List.mem_cons_self) (of10_0 _) (ce10 T ad _ _) rfl (st := []) rfl (Nat.le_of_ble_eq_true rfl) ⟨hc2, hs2⟩ dL_law_1404 (ppw ?_)
    refine fw_istore C dL_law_1407 (by decide) (L' := [(6, .int bb), (5, .int (c3 n)), (0, .ref b), (1, .ref (ad 0 0 0)), (2, .ref (ad 10 0 0)), (3, .ref (ad 11 0 0)), (4, .int i)]) rfl ?_
    refine fw_aload_n C dL_law_1409 rfl 4 rfl ?_
    refine fw_callVi C (ci := 10) (Cn := RX12) (Tc := TX12) (N := 19) (As := []) (c_X12_thrown (lawg (by decide)) (thr_ok e3)) (cwV 0 (cx_ts C) gL_law_X12_thrown rfl rfl rfl (by decide +kernel) ⟨(Nat.le_of_ble_eq_true rfl), (Nat.le_of_ble_eq_true rfl)⟩) rfl (lawg (g := [(10, 0)]) (by decide) _ List.mem_cons_self) (of10_0 _) (ce10 T ad _ _) rfl (st := []) rfl (Nat.le_of_ble_eq_true rfl) ⟨hc2, hs2⟩ dL_law_1410 (pp2 ?_)
    refine fw_iload C dL_law_1413 1 rfl ?_
    refine fw_icmp_eq C dL_law_1415 (tgt := 1420) rfl (fun _ => ?_) (fun c1 => absurd rfl c1)
    refine fw_iload C dL_law_1420 1 rfl ?_
    refine fw_if_ne C dL_law_1422 (tgt := 1437) rfl (fun _ => ?_) (fun c1 => absurd c1 hn)
    refine fw_goto C dL_law_1437 (tgt := 3079) rfl ?_
    exact fw_widen (Nat.add_le_add_left (by decide) _) (Nat.add_le_add_left (by decide) _) (fw_sub [2, 3, 4, 5, 6] rfl (k _ hI2))
  · have e2 : X12_nameLetter Yc (xs (i + 1).toNatClampNeg) (xs (i + 2).toNatClampNeg) = some (r, Ym) := e2
    refine fw_callH C hE (c_L_nameLetter hl (fun q hq => hq) e1 (fun n1 Y1 q => nomatch q)) (vx_cwSW 4 (cx_ts C) gL_law_L_nameLetter rfl rfl rfl (by decide +kernel) ⟨(Nat.le_of_ble_eq_true rfl), (Nat.le_of_ble_eq_true rfl)⟩) rfl (st := []) rfl (Nat.le_of_ble_eq_true rfl) ⟨hc2, hs2⟩ dL_law_1386 ?_
    refine fw_mem (Y' := s11 r Yc) rfl ?_
    refine fw_topi (v' := 0) rfl ?_
    have e4 : X12_nameLetter (s11 r Yc) (xs (i + 1).toNatClampNeg) (xs (i + 2).toNatClampNeg) = some (r, s11 r Ym) := s11_some (f := fun Z => X12_nameLetter Z (xs (i + 1).toNatClampNeg) (xs (i + 2).toNatClampNeg)) (fun _ Z => k_X12_nameLetter Z (xs (i + 1).toNatClampNeg) (xs (i + 2).toNatClampNeg)) _ e2
    refine fw_istore C dL_law_1389 (by decide) (L' := [(5, .int 0), (0, .ref b), (1, .ref (ad 0 0 0)), (2, .ref (ad 10 0 0)), (3, .ref (ad 11 0 0)), (4, .int i)]) rfl ?_
    refine fw_aload_n C dL_law_1391 rfl 3 rfl ?_
    refine fw_aload_n C dL_law_1392 rfl 1 rfl ?_
    refine fw_iload C dL_law_1393 5 rfl ?_
    refine fw_iconst C dL_law_1395 (v := 1) rfl ?_
    refine fw_iadd C dL_law_1396 ?_
    refine fw_sld C hS h1 dL_law_1397 ?_
    refine fw_aload_n C dL_law_1398 rfl 1 rfl ?_
    refine fw_iload C dL_law_1399 5 rfl ?_
    refine fw_iconst C dL_law_1401 (v := 2) rfl ?_
    refine fw_iadd C dL_law_1402 ?_
    refine fw_sld C hS h2 dL_law_1403 ?_
    refine fw_callVi C (ci := 10) (Cn := RX12) (Tc := TX12) (N := 19) (As := [.int (xs (i + 1).toNatClampNeg), .int (xs (i + 2).toNatClampNeg)]) (c_X12_nameLetter (lawg (by decide)) e4) (cwV 2 (cx_ts C) gL_law_X12_nameLetter rfl rfl rfl (by decide +kernel) ⟨(Nat.le_of_ble_eq_true rfl), (Nat.le_of_ble_eq_true rfl)⟩) rfl (lawg (g := [(10, 0)]) (by decide) _ List.mem_cons_self) (of10_0 _) (ce10 T ad _ _) rfl (st := []) rfl (Nat.le_of_ble_eq_true rfl) ⟨hc2, hs2⟩ dL_law_1404 (ppw ?_)
    refine fw_istore C dL_law_1407 (by decide) (L' := [(6, .int r), (5, .int 0), (0, .ref b), (1, .ref (ad 0 0 0)), (2, .ref (ad 10 0 0)), (3, .ref (ad 11 0 0)), (4, .int i)]) rfl ?_
    refine fw_aload_n C dL_law_1409 rfl 4 rfl ?_
    refine fw_callVi C (ci := 10) (Cn := RX12) (Tc := TX12) (N := 19) (As := []) (c_X12_thrown (lawg (by decide)) (thr_s11 r e3)) (cwV 0 (cx_ts C) gL_law_X12_thrown rfl rfl rfl (by decide +kernel) ⟨(Nat.le_of_ble_eq_true rfl), (Nat.le_of_ble_eq_true rfl)⟩) rfl (lawg (g := [(10, 0)]) (by decide) _ List.mem_cons_self) (of10_0 _) (ce10 T ad _ _) rfl (st := []) rfl (Nat.le_of_ble_eq_true rfl) ⟨hc2, hs2⟩ dL_law_1410 (pp2 ?_)
    refine fw_iload C dL_law_1413 1 rfl ?_
    refine fw_icmp_eq C dL_law_1415 (tgt := 1420) rfl (fun _ => ?_) (fun c1 => absurd rfl c1)
    refine fw_iload C dL_law_1420 1 rfl ?_
    refine fw_if_ne C dL_law_1422 (tgt := 1437) rfl (fun c1 => absurd rfl c1) (fun _ => ?_)
    refine fw_aload_n C dL_law_1425 rfl 5 rfl ?_
    refine fw_iconst C dL_law_1426 (v := 0) rfl ?_
    refine fw_lald0 C (lawg (g := [(11, 0)]) (by decide) _ List.mem_cons_self) dL_law_1427 ?_
    refine fw_top (v' := .long (r : Int32).toInt64) (by rw [s11_11]) ?_
    refine fw_iload C dL_law_1428 0 rfl ?_
    refine fw_i2l C dL_law_1430 rfl ?_
    refine fw_lcmp C dL_law_1431 ?_
    refine fw_topi (v' := 0) (lg_self _) ?_
    refine fw_if_eq C dL_law_1432 (tgt := 1437) rfl (fun _ => ?_) (fun c1 => absurd rfl c1)
    refine fw_goto C dL_law_1437 (tgt := 3079) rfl ?_
    exact fw_widen (Nat.add_le_add_left (by decide) _) (Nat.add_le_add_left (by decide) _) (fw_sub [2, 3, 4, 5, 6] rfl (k _ (Inv_s11 _ hI2)))
set_option maxHeartbeats 4000000 in
theorem law_27 (X : LX p s m args meth c N0 T D ad l b Ln xs i cells slots) (hI : Inv Y) (k : ∀ Y' : Mem, Inv Y' → LO p l e s m args below meth c N0 T D ad b i (cells + 2) (slots + 12) Q Y' 3079) : LO p l e s m args below meth c N0 T D ad b i cells slots Q Y 1440 := by
  obtain ⟨C, hE, hl, hS, ⟨h1, h2, h3, h4, h5⟩, hc2, hs2⟩ := X
  have hc1 : cells + 1 ≤ 601024 := Nat.le_of_succ_le hc2
  have hs1 : slots + 6 ≤ 7293034 := Nat.le_trans (Nat.add_le_add_left (by decide) _) hs2
  have hc : cells ≤ 601024 := Nat.le_of_succ_le hc1
  have hs : slots ≤ 7293034 := Nat.le_trans (Nat.le_add_right _ _) hs1
  refine fw_aload_n C dL_law_1440 rfl 1 rfl ?_
  refine fw_aload_n C dL_law_1441 rfl 3 rfl ?_
  rcases q_findStep hI with ⟨n, Yc, e1, hn, bb, Ym, e2, e3, hI2⟩ | ⟨r, Yc, e1, Ym, e2, e3, hI2⟩
  · have e2 : X12_findStep Yc = some (bb, Ym) := e2
    refine fw_callH C hE (c_L_findStep hl (fun q hq => hq) e1 (fun n1 Y1 q => by cases q; exact hn)) (vx_cwSW 2 (cx_ts C) gL_law_L_findStep rfl rfl rfl (by decide +kernel) ⟨(Nat.le_of_ble_eq_true rfl), (Nat.le_of_ble_eq_true rfl)⟩) rfl (st := []) rfl (Nat.le_of_ble_eq_true rfl) ⟨hc1, hs1⟩ dL_law_1442 ?_
    refine fw_mem (Y' := Yc) rfl ?_
    refine fw_topi (v' := c4 n) rfl ?_
    refine fw_istore C dL_law_1445 (by decide) (L' := [(5, .int (c4 n)), (0, .ref b), (1, .ref (ad 0 0 0)), (2, .ref (ad 10 0 0)), (3, .ref (ad 11 0 0)), (4, .int i)]) rfl ?_
    refine fw_aload_n C dL_law_1447 rfl 3 rfl ?_
    refine fw_callVi C (ci := 10) (Cn := RX12) (Tc := TX12) (N := 19) (As := []) (c_X12_findStep (lawg (by decide)) e2) (cwV 0 (cx_ts C) gL_law_X12_findStep rfl rfl rfl (by decide +kernel) ⟨(Nat.le_of_ble_eq_true rfl), (Nat.le_of_ble_eq_true rfl)⟩) rfl (lawg (g := [(10, 0)]) (by decide) _ List.mem_cons_self) (of10_0 _) (ce10 T ad _ _) rfl (st := []) rfl (Nat.le_of_ble_eq_true rfl) ⟨hc1, hs1⟩ dL_law_1448 (ppw ?_)
    refine fw_istore C dL_law_1451 (by decide) (L' := [(6, .int bb), (5, .int (c4 n)), (0, .ref b), (1, .ref (ad 0 0 0)), (2, .ref (ad 10 0 0)), (3, .ref (ad 11 0 0)), (4, .int i)]) rfl ?_
    refine fw_aload_n C dL_law_1453 rfl 4 rfl ?_
    refine fw_callVi C (ci := 10) (Cn := RX12) (Tc := TX12) (N := 19) (As := []) (c_X12_thrown (lawg (by decide)) (thr_ok e3)) (cwV 0 (cx_ts C) gL_law_X12_thrown rfl rfl rfl (by decide +kernel) ⟨(Nat.le_of_ble_eq_true rfl), (Nat.le_of_ble_eq_true rfl)⟩) rfl (lawg (g := [(10, 0)]) (by decide) _ List.mem_cons_self) (of10_0 _) (ce10 T ad _ _) rfl (st := []) rfl (Nat.le_of_ble_eq_true rfl) ⟨hc1, hs1⟩ dL_law_1454 (pp2 ?_)
    refine fw_iload C dL_law_1457 1 rfl ?_
    refine fw_icmp_eq C dL_law_1459 (tgt := 1464) rfl (fun _ => ?_) (fun c1 => absurd rfl c1)
    refine fw_iload C dL_law_1464 1 rfl ?_
    refine fw_if_ne C dL_law_1466 (tgt := 1481) rfl (fun _ => ?_) (fun c1 => absurd c1 hn)
    refine fw_goto C dL_law_1481 (tgt := 3079) rfl ?_
    exact fw_widen (Nat.add_le_add_left (by decide) _) (Nat.add_le_add_left (by decide) _) (fw_sub [2, 3, 4, 5, 6] rfl (k _ hI2))
  · have e2 : X12_findStep Yc = some (r, Ym) := e2
    refine fw_callH C hE (c_L_findStep hl (fun q hq => hq) e1 (fun n1 Y1 q => nomatch q)) (vx_cwSW 2 (cx_ts C) gL_law_L_findStep rfl rfl rfl (by decide +kernel) ⟨(Nat.le_of_ble_eq_true rfl), (Nat.le_of_ble_eq_true rfl)⟩) rfl (st := []) rfl (Nat.le_of_ble_eq_true rfl) ⟨hc1, hs1⟩ dL_law_1442 ?_
    refine fw_mem (Y' := s11 r Yc) rfl ?_
    refine fw_topi (v' := 0) rfl ?_
    have e4 : X12_findStep (s11 r Yc) = some (r, s11 r Ym) := s11_some (f := fun Z => X12_findStep Z) (fun _ Z => k_X12_findStep Z) _ e2
    refine fw_istore C dL_law_1445 (by decide) (L' := [(5, .int 0), (0, .ref b), (1, .ref (ad 0 0 0)), (2, .ref (ad 10 0 0)), (3, .ref (ad 11 0 0)), (4, .int i)]) rfl ?_
    refine fw_aload_n C dL_law_1447 rfl 3 rfl ?_
    refine fw_callVi C (ci := 10) (Cn := RX12) (Tc := TX12) (N := 19) (As := []) (c_X12_findStep (lawg (by decide)) e4) (cwV 0 (cx_ts C) gL_law_X12_findStep rfl rfl rfl (by decide +kernel) ⟨(Nat.le_of_ble_eq_true rfl), (Nat.le_of_ble_eq_true rfl)⟩) rfl (lawg (g := [(10, 0)]) (by decide) _ List.mem_cons_self) (of10_0 _) (ce10 T ad _ _) rfl (st := []) rfl (Nat.le_of_ble_eq_true rfl) ⟨hc1, hs1⟩ dL_law_1448 (ppw ?_)
    refine fw_istore C dL_law_1451 (by decide) (L' := [(6, .int r), (5, .int 0), (0, .ref b), (1, .ref (ad 0 0 0)), (2, .ref (ad 10 0 0)), (3, .ref (ad 11 0 0)), (4, .int i)]) rfl ?_
    refine fw_aload_n C dL_law_1453 rfl 4 rfl ?_
    refine fw_callVi C (ci := 10) (Cn := RX12) (Tc := TX12) (N := 19) (As := []) (c_X12_thrown (lawg (by decide)) (thr_s11 r e3)) (cwV 0 (cx_ts C) gL_law_X12_thrown rfl rfl rfl (by decide +kernel) ⟨(Nat.le_of_ble_eq_true rfl), (Nat.le_of_ble_eq_true rfl)⟩) rfl (lawg (g := [(10, 0)]) (by decide) _ List.mem_cons_self) (of10_0 _) (ce10 T ad _ _) rfl (st := []) rfl (Nat.le_of_ble_eq_true rfl) ⟨hc1, hs1⟩ dL_law_1454 (pp2 ?_)
    refine fw_iload C dL_law_1457 1 rfl ?_
    refine fw_icmp_eq C dL_law_1459 (tgt := 1464) rfl (fun _ => ?_) (fun c1 => absurd rfl c1)
    refine fw_iload C dL_law_1464 1 rfl ?_
    refine fw_if_ne C dL_law_1466 (tgt := 1481) rfl (fun c1 => absurd rfl c1) (fun _ => ?_)
    refine fw_aload_n C dL_law_1469 rfl 5 rfl ?_
    refine fw_iconst C dL_law_1470 (v := 0) rfl ?_
    refine fw_lald0 C (lawg (g := [(11, 0)]) (by decide) _ List.mem_cons_self) dL_law_1471 ?_
    refine fw_top (v' := .long (r : Int32).toInt64) (by rw [s11_11]) ?_
    refine fw_iload C dL_law_1472 0 rfl ?_
    refine fw_i2l C dL_law_1474 rfl ?_
    refine fw_lcmp C dL_law_1475 ?_
    refine fw_topi (v' := 0) (lg_self _) ?_
    refine fw_if_eq C dL_law_1476 (tgt := 1481) rfl (fun _ => ?_) (fun c1 => absurd rfl c1)
    refine fw_goto C dL_law_1481 (tgt := 3079) rfl ?_
    exact fw_widen (Nat.add_le_add_left (by decide) _) (Nat.add_le_add_left (by decide) _) (fw_sub [2, 3, 4, 5, 6] rfl (k _ (Inv_s11 _ hI2)))
set_option maxHeartbeats 4000000 in
theorem law_28 (X : LX p s m args meth c N0 T D ad l b Ln xs i cells slots) (hI : Inv Y) (k : ∀ Y' : Mem, Inv Y' → LO p l e s m args below meth c N0 T D ad b i (cells + 2) (slots + 12) Q Y' 3079) : LO p l e s m args below meth c N0 T D ad b i cells slots Q Y 1484 := by
  obtain ⟨C, hE, hl, hS, ⟨h1, h2, h3, h4, h5⟩, hc2, hs2⟩ := X
  have hc1 : cells + 1 ≤ 601024 := Nat.le_of_succ_le hc2
  have hs1 : slots + 6 ≤ 7293034 := Nat.le_trans (Nat.add_le_add_left (by decide) _) hs2
  have hc : cells ≤ 601024 := Nat.le_of_succ_le hc1
  have hs : slots ≤ 7293034 := Nat.le_trans (Nat.le_add_right _ _) hs1
  refine fw_aload_n C dL_law_1484 rfl 1 rfl ?_
  refine fw_aload_n C dL_law_1485 rfl 0 rfl ?_
  refine fw_iload C dL_law_1486 4 rfl ?_
  refine fw_iconst C dL_law_1488 (v := 1) rfl ?_
  refine fw_iadd C dL_law_1489 ?_
  refine fw_sld C hS h1 dL_law_1490 ?_
  refine fw_aload_n C dL_law_1491 rfl 3 rfl ?_
  rcases q_status hI (xs (i + 1).toNatClampNeg) with ⟨n, Yc, e1, hn, bb, Ym, e2, e3, hI2⟩ | ⟨r, Yc, e1, Ym, e2, e3, hI2⟩
  · have e2 : X12_status Yc (xs (i + 1).toNatClampNeg) = some (bb, Ym) := e2
    refine fw_callH C hE (c_L_status hl (fun q hq => hq) e1 (fun n1 Y1 q => by cases q; exact hn)) (vx_cwSW 3 (cx_ts C) gL_law_L_status rfl rfl rfl (by decide +kernel) ⟨(Nat.le_of_ble_eq_true rfl), (Nat.le_of_ble_eq_true rfl)⟩) rfl (st := []) rfl (Nat.le_of_ble_eq_true rfl) ⟨hc1, hs1⟩ dL_law_1492 ?_
    refine fw_mem (Y' := Yc) rfl ?_
    refine fw_topi (v' := c3 n) rfl ?_
    refine fw_istore C dL_law_1495 (by decide) (L' := [(5, .int (c3 n)), (0, .ref b), (1, .ref (ad 0 0 0)), (2, .ref (ad 10 0 0)), (3, .ref (ad 11 0 0)), (4, .int i)]) rfl ?_
    refine fw_aload_n C dL_law_1497 rfl 3 rfl ?_
    refine fw_aload_n C dL_law_1498 rfl 1 rfl ?_
    refine fw_iload C dL_law_1499 5 rfl ?_
    refine fw_iconst C dL_law_1501 (v := 1) rfl ?_
    refine fw_iadd C dL_law_1502 ?_
    refine fw_sld C hS h1 dL_law_1503 ?_
    refine fw_callVi C (ci := 10) (Cn := RX12) (Tc := TX12) (N := 19) (As := [.int (xs (i + 1).toNatClampNeg)]) (c_X12_status (lawg (by decide)) e2) (cwV 1 (cx_ts C) gL_law_X12_status rfl rfl rfl (by decide +kernel) ⟨(Nat.le_of_ble_eq_true rfl), (Nat.le_of_ble_eq_true rfl)⟩) rfl (lawg (g := [(10, 0)]) (by decide) _ List.mem_cons_self) (of10_0 _) (ce10 T ad _ _) rfl (st := []) rfl (Nat.le_of_ble_eq_true rfl) ⟨hc1, hs1⟩ dL_law_1504 (ppw ?_)
    refine fw_istore C dL_law_1507 (by decide) (L' := [(6, .int bb), (5, .int (c3 n)), (0, .ref b), (1, .ref (ad 0 0 0)), (2, .ref (ad 10 0 0)), (3, .ref (ad 11 0 0)), (4, .int i)]) rfl ?_
    refine fw_aload_n C dL_law_1509 rfl 4 rfl ?_
    refine fw_callVi C (ci := 10) (Cn := RX12) (Tc := TX12) (N := 19) (As := []) (c_X12_thrown (lawg (by decide)) (thr_ok e3)) (cwV 0 (cx_ts C) gL_law_X12_thrown rfl rfl rfl (by decide +kernel) ⟨(Nat.le_of_ble_eq_true rfl), (Nat.le_of_ble_eq_true rfl)⟩) rfl (lawg (g := [(10, 0)]) (by decide) _ List.mem_cons_self) (of10_0 _) (ce10 T ad _ _) rfl (st := []) rfl (Nat.le_of_ble_eq_true rfl) ⟨hc1, hs1⟩ dL_law_1510 (pp2 ?_)
    refine fw_iload C dL_law_1513 1 rfl ?_
    refine fw_icmp_eq C dL_law_1515 (tgt := 1520) rfl (fun _ => ?_) (fun c1 => absurd rfl c1)
    refine fw_iload C dL_law_1520 1 rfl ?_
    refine fw_if_ne C dL_law_1522 (tgt := 1537) rfl (fun _ => ?_) (fun c1 => absurd c1 hn)
    refine fw_goto C dL_law_1537 (tgt := 3079) rfl ?_
    exact fw_widen (Nat.add_le_add_left (by decide) _) (Nat.add_le_add_left (by decide) _) (fw_sub [2, 3, 4, 5, 6] rfl (k _ hI2))
  · have e2 : X12_status Yc (xs (i + 1).toNatClampNeg) = some (r, Ym) := e2
    refine fw_callH C hE (c_L_status hl (fun q hq => hq) e1 (fun n1 Y1 q => nomatch q)) (vx_cwSW 3 (cx_ts C) gL_law_L_status rfl rfl rfl (by decide +kernel) ⟨(Nat.le_of_ble_eq_true rfl), (Nat.le_of_ble_eq_true rfl)⟩) rfl (st := []) rfl (Nat.le_of_ble_eq_true rfl) ⟨hc1, hs1⟩ dL_law_1492 ?_
    refine fw_mem (Y' := s11 r Yc) rfl ?_
    refine fw_topi (v' := 0) rfl ?_
    have e4 : X12_status (s11 r Yc) (xs (i + 1).toNatClampNeg) = some (r, s11 r Ym) := s11_some (f := fun Z => X12_status Z (xs (i + 1).toNatClampNeg)) (fun _ Z => k_X12_status Z (xs (i + 1).toNatClampNeg)) _ e2
    refine fw_istore C dL_law_1495 (by decide) (L' := [(5, .int 0), (0, .ref b), (1, .ref (ad 0 0 0)), (2, .ref (ad 10 0 0)), (3, .ref (ad 11 0 0)), (4, .int i)]) rfl ?_
    refine fw_aload_n C dL_law_1497 rfl 3 rfl ?_
    refine fw_aload_n C dL_law_1498 rfl 1 rfl ?_
    refine fw_iload C dL_law_1499 5 rfl ?_
    refine fw_iconst C dL_law_1501 (v := 1) rfl ?_
    refine fw_iadd C dL_law_1502 ?_
    refine fw_sld C hS h1 dL_law_1503 ?_
    refine fw_callVi C (ci := 10) (Cn := RX12) (Tc := TX12) (N := 19) (As := [.int (xs (i + 1).toNatClampNeg)]) (c_X12_status (lawg (by decide)) e4) (cwV 1 (cx_ts C) gL_law_X12_status rfl rfl rfl (by decide +kernel) ⟨(Nat.le_of_ble_eq_true rfl), (Nat.le_of_ble_eq_true rfl)⟩) rfl (lawg (g := [(10, 0)]) (by decide) _ List.mem_cons_self) (of10_0 _) (ce10 T ad _ _) rfl (st := []) rfl (Nat.le_of_ble_eq_true rfl) ⟨hc1, hs1⟩ dL_law_1504 (ppw ?_)
    refine fw_istore C dL_law_1507 (by decide) (L' := [(6, .int r), (5, .int 0), (0, .ref b), (1, .ref (ad 0 0 0)), (2, .ref (ad 10 0 0)), (3, .ref (ad 11 0 0)), (4, .int i)]) rfl ?_
    refine fw_aload_n C dL_law_1509 rfl 4 rfl ?_
    refine fw_callVi C (ci := 10) (Cn := RX12) (Tc := TX12) (N := 19) (As := []) (c_X12_thrown (lawg (by decide)) (thr_s11 r e3)) (cwV 0 (cx_ts C) gL_law_X12_thrown rfl rfl rfl (by decide +kernel) ⟨(Nat.le_of_ble_eq_true rfl), (Nat.le_of_ble_eq_true rfl)⟩) rfl (lawg (g := [(10, 0)]) (by decide) _ List.mem_cons_self) (of10_0 _) (ce10 T ad _ _) rfl (st := []) rfl (Nat.le_of_ble_eq_true rfl) ⟨hc1, hs1⟩ dL_law_1510 (pp2 ?_)
    refine fw_iload C dL_law_1513 1 rfl ?_
    refine fw_icmp_eq C dL_law_1515 (tgt := 1520) rfl (fun _ => ?_) (fun c1 => absurd rfl c1)
    refine fw_iload C dL_law_1520 1 rfl ?_
    refine fw_if_ne C dL_law_1522 (tgt := 1537) rfl (fun c1 => absurd rfl c1) (fun _ => ?_)
    refine fw_aload_n C dL_law_1525 rfl 5 rfl ?_
    refine fw_iconst C dL_law_1526 (v := 0) rfl ?_
    refine fw_lald0 C (lawg (g := [(11, 0)]) (by decide) _ List.mem_cons_self) dL_law_1527 ?_
    refine fw_top (v' := .long (r : Int32).toInt64) (by rw [s11_11]) ?_
    refine fw_iload C dL_law_1528 0 rfl ?_
    refine fw_i2l C dL_law_1530 rfl ?_
    refine fw_lcmp C dL_law_1531 ?_
    refine fw_topi (v' := 0) (lg_self _) ?_
    refine fw_if_eq C dL_law_1532 (tgt := 1537) rfl (fun _ => ?_) (fun c1 => absurd rfl c1)
    refine fw_goto C dL_law_1537 (tgt := 3079) rfl ?_
    exact fw_widen (Nat.add_le_add_left (by decide) _) (Nat.add_le_add_left (by decide) _) (fw_sub [2, 3, 4, 5, 6] rfl (k _ (Inv_s11 _ hI2)))
set_option maxHeartbeats 4000000 in
theorem law_29 (X : LX p s m args meth c N0 T D ad l b Ln xs i cells slots) (hI : Inv Y) (k : ∀ Y' : Mem, Inv Y' → LO p l e s m args below meth c N0 T D ad b i (cells + 2) (slots + 12) Q Y' 3079) : LO p l e s m args below meth c N0 T D ad b i cells slots Q Y 1540 := by
  obtain ⟨C, hE, hl, hS, ⟨h1, h2, h3, h4, h5⟩, hc2, hs2⟩ := X
  have hc1 : cells + 1 ≤ 601024 := Nat.le_of_succ_le hc2
  have hs1 : slots + 6 ≤ 7293034 := Nat.le_trans (Nat.add_le_add_left (by decide) _) hs2
  have hc : cells ≤ 601024 := Nat.le_of_succ_le hc1
  have hs : slots ≤ 7293034 := Nat.le_trans (Nat.le_add_right _ _) hs1
  refine fw_aload_n C dL_law_1540 rfl 1 rfl ?_
  refine fw_aload_n C dL_law_1541 rfl 0 rfl ?_
  refine fw_iload C dL_law_1542 4 rfl ?_
  refine fw_iconst C dL_law_1544 (v := 1) rfl ?_
  refine fw_iadd C dL_law_1545 ?_
  refine fw_sld C hS h1 dL_law_1546 ?_
  refine fw_aload_n C dL_law_1547 rfl 3 rfl ?_
  rcases q_remaining hI (xs (i + 1).toNatClampNeg) with ⟨n, Yc, e1, hn, bb, Ym, e2, e3, hI2⟩ | ⟨r, Yc, e1, Ym, e2, e3, hI2⟩
  · have e2 : X12_remaining Yc (xs (i + 1).toNatClampNeg) = some (bb, Ym) := e2
    refine fw_callH C hE (c_L_remaining hl (fun q hq => hq) e1 (fun n1 Y1 q => by cases q; exact hn)) (vx_cwSW 3 (cx_ts C) gL_law_L_remaining rfl rfl rfl (by decide +kernel) ⟨(Nat.le_of_ble_eq_true rfl), (Nat.le_of_ble_eq_true rfl)⟩) rfl (st := []) rfl (Nat.le_of_ble_eq_true rfl) ⟨hc1, hs1⟩ dL_law_1548 ?_
    refine fw_mem (Y' := Yc) rfl ?_
    refine fw_topi (v' := c3 n) rfl ?_
    refine fw_istore C dL_law_1551 (by decide) (L' := [(5, .int (c3 n)), (0, .ref b), (1, .ref (ad 0 0 0)), (2, .ref (ad 10 0 0)), (3, .ref (ad 11 0 0)), (4, .int i)]) rfl ?_
    refine fw_aload_n C dL_law_1553 rfl 3 rfl ?_
    refine fw_aload_n C dL_law_1554 rfl 1 rfl ?_
    refine fw_iload C dL_law_1555 5 rfl ?_
    refine fw_iconst C dL_law_1557 (v := 1) rfl ?_
    refine fw_iadd C dL_law_1558 ?_
    refine fw_sld C hS h1 dL_law_1559 ?_
    refine fw_callVi C (ci := 10) (Cn := RX12) (Tc := TX12) (N := 19) (As := [.int (xs (i + 1).toNatClampNeg)]) (c_X12_remaining (lawg (by decide)) e2) (cwV 1 (cx_ts C) gL_law_X12_remaining rfl rfl rfl (by decide +kernel) ⟨(Nat.le_of_ble_eq_true rfl), (Nat.le_of_ble_eq_true rfl)⟩) rfl (lawg (g := [(10, 0)]) (by decide) _ List.mem_cons_self) (of10_0 _) (ce10 T ad _ _) rfl (st := []) rfl (Nat.le_of_ble_eq_true rfl) ⟨hc1, hs1⟩ dL_law_1560 (ppw ?_)
    refine fw_istore C dL_law_1563 (by decide) (L' := [(6, .int bb), (5, .int (c3 n)), (0, .ref b), (1, .ref (ad 0 0 0)), (2, .ref (ad 10 0 0)), (3, .ref (ad 11 0 0)), (4, .int i)]) rfl ?_
    refine fw_aload_n C dL_law_1565 rfl 4 rfl ?_
    refine fw_callVi C (ci := 10) (Cn := RX12) (Tc := TX12) (N := 19) (As := []) (c_X12_thrown (lawg (by decide)) (thr_ok e3)) (cwV 0 (cx_ts C) gL_law_X12_thrown rfl rfl rfl (by decide +kernel) ⟨(Nat.le_of_ble_eq_true rfl), (Nat.le_of_ble_eq_true rfl)⟩) rfl (lawg (g := [(10, 0)]) (by decide) _ List.mem_cons_self) (of10_0 _) (ce10 T ad _ _) rfl (st := []) rfl (Nat.le_of_ble_eq_true rfl) ⟨hc1, hs1⟩ dL_law_1566 (pp2 ?_)
    refine fw_iload C dL_law_1569 1 rfl ?_
    refine fw_icmp_eq C dL_law_1571 (tgt := 1576) rfl (fun _ => ?_) (fun c1 => absurd rfl c1)
    refine fw_iload C dL_law_1576 1 rfl ?_
    refine fw_if_ne C dL_law_1578 (tgt := 1593) rfl (fun _ => ?_) (fun c1 => absurd c1 hn)
    refine fw_goto C dL_law_1593 (tgt := 3079) rfl ?_
    exact fw_widen (Nat.add_le_add_left (by decide) _) (Nat.add_le_add_left (by decide) _) (fw_sub [2, 3, 4, 5, 6] rfl (k _ hI2))
  · have e2 : X12_remaining Yc (xs (i + 1).toNatClampNeg) = some (r, Ym) := e2
    refine fw_callH C hE (c_L_remaining hl (fun q hq => hq) e1 (fun n1 Y1 q => nomatch q)) (vx_cwSW 3 (cx_ts C) gL_law_L_remaining rfl rfl rfl (by decide +kernel) ⟨(Nat.le_of_ble_eq_true rfl), (Nat.le_of_ble_eq_true rfl)⟩) rfl (st := []) rfl (Nat.le_of_ble_eq_true rfl) ⟨hc1, hs1⟩ dL_law_1548 ?_
    refine fw_mem (Y' := s11 r Yc) rfl ?_
    refine fw_topi (v' := 0) rfl ?_
    have e4 : X12_remaining (s11 r Yc) (xs (i + 1).toNatClampNeg) = some (r, s11 r Ym) := s11_some (f := fun Z => X12_remaining Z (xs (i + 1).toNatClampNeg)) (fun _ Z => k_X12_remaining Z (xs (i + 1).toNatClampNeg)) _ e2
    refine fw_istore C dL_law_1551 (by decide) (L' := [(5, .int 0), (0, .ref b), (1, .ref (ad 0 0 0)), (2, .ref (ad 10 0 0)), (3, .ref (ad 11 0 0)), (4, .int i)]) rfl ?_
    refine fw_aload_n C dL_law_1553 rfl 3 rfl ?_
    refine fw_aload_n C dL_law_1554 rfl 1 rfl ?_
    refine fw_iload C dL_law_1555 5 rfl ?_
    refine fw_iconst C dL_law_1557 (v := 1) rfl ?_
    refine fw_iadd C dL_law_1558 ?_
    refine fw_sld C hS h1 dL_law_1559 ?_
    refine fw_callVi C (ci := 10) (Cn := RX12) (Tc := TX12) (N := 19) (As := [.int (xs (i + 1).toNatClampNeg)]) (c_X12_remaining (lawg (by decide)) e4) (cwV 1 (cx_ts C) gL_law_X12_remaining rfl rfl rfl (by decide +kernel) ⟨(Nat.le_of_ble_eq_true rfl), (Nat.le_of_ble_eq_true rfl)⟩) rfl (lawg (g := [(10, 0)]) (by decide) _ List.mem_cons_self) (of10_0 _) (ce10 T ad _ _) rfl (st := []) rfl (Nat.le_of_ble_eq_true rfl) ⟨hc1, hs1⟩ dL_law_1560 (ppw ?_)
    refine fw_istore C dL_law_1563 (by decide) (L' := [(6, .int r), (5, .int 0), (0, .ref b), (1, .ref (ad 0 0 0)), (2, .ref (ad 10 0 0)), (3, .ref (ad 11 0 0)), (4, .int i)]) rfl ?_
    refine fw_aload_n C dL_law_1565 rfl 4 rfl ?_
    refine fw_callVi C (ci := 10) (Cn := RX12) (Tc := TX12) (N := 19) (As := []) (c_X12_thrown (lawg (by decide)) (thr_s11 r e3)) (cwV 0 (cx_ts C) gL_law_X12_thrown rfl rfl rfl (by decide +kernel) ⟨(Nat.le_of_ble_eq_true rfl), (Nat.le_of_ble_eq_true rfl)⟩) rfl (lawg (g := [(10, 0)]) (by decide) _ List.mem_cons_self) (of10_0 _) (ce10 T ad _ _) rfl (st := []) rfl (Nat.le_of_ble_eq_true rfl) ⟨hc1, hs1⟩ dL_law_1566 (pp2 ?_)
    refine fw_iload C dL_law_1569 1 rfl ?_
    refine fw_icmp_eq C dL_law_1571 (tgt := 1576) rfl (fun _ => ?_) (fun c1 => absurd rfl c1)
    refine fw_iload C dL_law_1576 1 rfl ?_
    refine fw_if_ne C dL_law_1578 (tgt := 1593) rfl (fun c1 => absurd rfl c1) (fun _ => ?_)
    refine fw_aload_n C dL_law_1581 rfl 5 rfl ?_
    refine fw_iconst C dL_law_1582 (v := 0) rfl ?_
    refine fw_lald0 C (lawg (g := [(11, 0)]) (by decide) _ List.mem_cons_self) dL_law_1583 ?_
    refine fw_top (v' := .long (r : Int32).toInt64) (by rw [s11_11]) ?_
    refine fw_iload C dL_law_1584 0 rfl ?_
    refine fw_i2l C dL_law_1586 rfl ?_
    refine fw_lcmp C dL_law_1587 ?_
    refine fw_topi (v' := 0) (lg_self _) ?_
    refine fw_if_eq C dL_law_1588 (tgt := 1593) rfl (fun _ => ?_) (fun c1 => absurd rfl c1)
    refine fw_goto C dL_law_1593 (tgt := 3079) rfl ?_
    exact fw_widen (Nat.add_le_add_left (by decide) _) (Nat.add_le_add_left (by decide) _) (fw_sub [2, 3, 4, 5, 6] rfl (k _ (Inv_s11 _ hI2)))
set_option maxHeartbeats 4000000 in
theorem law_30 (X : LX p s m args meth c N0 T D ad l b Ln xs i cells slots) (hI : Inv Y) (k : ∀ Y' : Mem, Inv Y' → LO p l e s m args below meth c N0 T D ad b i (cells + 2) (slots + 12) Q Y' 3079) : LO p l e s m args below meth c N0 T D ad b i cells slots Q Y 1596 := by
  obtain ⟨C, hE, hl, hS, ⟨h1, h2, h3, h4, h5⟩, hc2, hs2⟩ := X
  have hc1 : cells + 1 ≤ 601024 := Nat.le_of_succ_le hc2
  have hs1 : slots + 6 ≤ 7293034 := Nat.le_trans (Nat.add_le_add_left (by decide) _) hs2
  have hc : cells ≤ 601024 := Nat.le_of_succ_le hc1
  have hs : slots ≤ 7293034 := Nat.le_trans (Nat.le_add_right _ _) hs1
  refine fw_aload_n C dL_law_1596 rfl 1 rfl ?_
  refine fw_aload_n C dL_law_1597 rfl 0 rfl ?_
  refine fw_iload C dL_law_1598 4 rfl ?_
  refine fw_iconst C dL_law_1600 (v := 1) rfl ?_
  refine fw_iadd C dL_law_1601 ?_
  refine fw_sld C hS h1 dL_law_1602 ?_
  refine fw_aload_n C dL_law_1603 rfl 3 rfl ?_
  rcases q_age hI (xs (i + 1).toNatClampNeg) with ⟨n, Yc, e1, hn, bb, Ym, e2, e3, hI2⟩ | ⟨r, Yc, e1, Ym, e2, e3, hI2⟩
  · have e2 : X12_age Yc (xs (i + 1).toNatClampNeg) = some (bb, Ym) := e2
    refine fw_callH C hE (c_L_age hl (fun q hq => hq) e1 (fun n1 Y1 q => by cases q; exact hn)) (vx_cwSW 3 (cx_ts C) gL_law_L_age rfl rfl rfl (by decide +kernel) ⟨(Nat.le_of_ble_eq_true rfl), (Nat.le_of_ble_eq_true rfl)⟩) rfl (st := []) rfl (Nat.le_of_ble_eq_true rfl) ⟨hc1, hs1⟩ dL_law_1604 ?_
    refine fw_mem (Y' := Yc) rfl ?_
    refine fw_topi (v' := c3 n) rfl ?_
    refine fw_istore C dL_law_1607 (by decide) (L' := [(5, .int (c3 n)), (0, .ref b), (1, .ref (ad 0 0 0)), (2, .ref (ad 10 0 0)), (3, .ref (ad 11 0 0)), (4, .int i)]) rfl ?_
    refine fw_aload_n C dL_law_1609 rfl 3 rfl ?_
    refine fw_aload_n C dL_law_1610 rfl 1 rfl ?_
    refine fw_iload C dL_law_1611 5 rfl ?_
    refine fw_iconst C dL_law_1613 (v := 1) rfl ?_
    refine fw_iadd C dL_law_1614 ?_
    refine fw_sld C hS h1 dL_law_1615 ?_
    refine fw_callVi C (ci := 10) (Cn := RX12) (Tc := TX12) (N := 19) (As := [.int (xs (i + 1).toNatClampNeg)]) (c_X12_age (lawg (by decide)) e2) (cwV 1 (cx_ts C) gL_law_X12_age rfl rfl rfl (by decide +kernel) ⟨(Nat.le_of_ble_eq_true rfl), (Nat.le_of_ble_eq_true rfl)⟩) rfl (lawg (g := [(10, 0)]) (by decide) _ List.mem_cons_self) (of10_0 _) (ce10 T ad _ _) rfl (st := []) rfl (Nat.le_of_ble_eq_true rfl) ⟨hc1, hs1⟩ dL_law_1616 (ppw ?_)
    refine fw_istore C dL_law_1619 (by decide) (L' := [(6, .int bb), (5, .int (c3 n)), (0, .ref b), (1, .ref (ad 0 0 0)), (2, .ref (ad 10 0 0)), (3, .ref (ad 11 0 0)), (4, .int i)]) rfl ?_
    refine fw_aload_n C dL_law_1621 rfl 4 rfl ?_
    refine fw_callVi C (ci := 10) (Cn := RX12) (Tc := TX12) (N := 19) (As := []) (c_X12_thrown (lawg (by decide)) (thr_ok e3)) (cwV 0 (cx_ts C) gL_law_X12_thrown rfl rfl rfl (by decide +kernel) ⟨(Nat.le_of_ble_eq_true rfl), (Nat.le_of_ble_eq_true rfl)⟩) rfl (lawg (g := [(10, 0)]) (by decide) _ List.mem_cons_self) (of10_0 _) (ce10 T ad _ _) rfl (st := []) rfl (Nat.le_of_ble_eq_true rfl) ⟨hc1, hs1⟩ dL_law_1622 (pp2 ?_)
    refine fw_iload C dL_law_1625 1 rfl ?_
    refine fw_icmp_eq C dL_law_1627 (tgt := 1632) rfl (fun _ => ?_) (fun c1 => absurd rfl c1)
    refine fw_iload C dL_law_1632 1 rfl ?_
    refine fw_if_ne C dL_law_1634 (tgt := 1649) rfl (fun _ => ?_) (fun c1 => absurd c1 hn)
    refine fw_goto C dL_law_1649 (tgt := 3079) rfl ?_
    exact fw_widen (Nat.add_le_add_left (by decide) _) (Nat.add_le_add_left (by decide) _) (fw_sub [2, 3, 4, 5, 6] rfl (k _ hI2))
  · have e2 : X12_age Yc (xs (i + 1).toNatClampNeg) = some (r, Ym) := e2
    refine fw_callH C hE (c_L_age hl (fun q hq => hq) e1 (fun n1 Y1 q => nomatch q)) (vx_cwSW 3 (cx_ts C) gL_law_L_age rfl rfl rfl (by decide +kernel) ⟨(Nat.le_of_ble_eq_true rfl), (Nat.le_of_ble_eq_true rfl)⟩) rfl (st := []) rfl (Nat.le_of_ble_eq_true rfl) ⟨hc1, hs1⟩ dL_law_1604 ?_
    refine fw_mem (Y' := s11 r Yc) rfl ?_
    refine fw_topi (v' := 0) rfl ?_
    have e4 : X12_age (s11 r Yc) (xs (i + 1).toNatClampNeg) = some (r, s11 r Ym) := s11_some (f := fun Z => X12_age Z (xs (i + 1).toNatClampNeg)) (fun _ Z => k_X12_age Z (xs (i + 1).toNatClampNeg)) _ e2
    refine fw_istore C dL_law_1607 (by decide) (L' := [(5, .int 0), (0, .ref b), (1, .ref (ad 0 0 0)), (2, .ref (ad 10 0 0)), (3, .ref (ad 11 0 0)), (4, .int i)]) rfl ?_
    refine fw_aload_n C dL_law_1609 rfl 3 rfl ?_
    refine fw_aload_n C dL_law_1610 rfl 1 rfl ?_
    refine fw_iload C dL_law_1611 5 rfl ?_
    refine fw_iconst C dL_law_1613 (v := 1) rfl ?_
    refine fw_iadd C dL_law_1614 ?_
    refine fw_sld C hS h1 dL_law_1615 ?_
    refine fw_callVi C (ci := 10) (Cn := RX12) (Tc := TX12) (N := 19) (As := [.int (xs (i + 1).toNatClampNeg)]) (c_X12_age (lawg (by decide)) e4) (cwV 1 (cx_ts C) gL_law_X12_age rfl rfl rfl (by decide +kernel) ⟨(Nat.le_of_ble_eq_true rfl), (Nat.le_of_ble_eq_true rfl)⟩) rfl (lawg (g := [(10, 0)]) (by decide) _ List.mem_cons_self) (of10_0 _) (ce10 T ad _ _) rfl (st := []) rfl (Nat.le_of_ble_eq_true rfl) ⟨hc1, hs1⟩ dL_law_1616 (ppw ?_)
    refine fw_istore C dL_law_1619 (by decide) (L' := [(6, .int r), (5, .int 0), (0, .ref b), (1, .ref (ad 0 0 0)), (2, .ref (ad 10 0 0)), (3, .ref (ad 11 0 0)), (4, .int i)]) rfl ?_
    refine fw_aload_n C dL_law_1621 rfl 4 rfl ?_
    refine fw_callVi C (ci := 10) (Cn := RX12) (Tc := TX12) (N := 19) (As := []) (c_X12_thrown (lawg (by decide)) (thr_s11 r e3)) (cwV 0 (cx_ts C) gL_law_X12_thrown rfl rfl rfl (by decide +kernel) ⟨(Nat.le_of_ble_eq_true rfl), (Nat.le_of_ble_eq_true rfl)⟩) rfl (lawg (g := [(10, 0)]) (by decide) _ List.mem_cons_self) (of10_0 _) (ce10 T ad _ _) rfl (st := []) rfl (Nat.le_of_ble_eq_true rfl) ⟨hc1, hs1⟩ dL_law_1622 (pp2 ?_)
    refine fw_iload C dL_law_1625 1 rfl ?_
    refine fw_icmp_eq C dL_law_1627 (tgt := 1632) rfl (fun _ => ?_) (fun c1 => absurd rfl c1)
    refine fw_iload C dL_law_1632 1 rfl ?_
    refine fw_if_ne C dL_law_1634 (tgt := 1649) rfl (fun c1 => absurd rfl c1) (fun _ => ?_)
    refine fw_aload_n C dL_law_1637 rfl 5 rfl ?_
    refine fw_iconst C dL_law_1638 (v := 0) rfl ?_
    refine fw_lald0 C (lawg (g := [(11, 0)]) (by decide) _ List.mem_cons_self) dL_law_1639 ?_
    refine fw_top (v' := .long (r : Int32).toInt64) (by rw [s11_11]) ?_
    refine fw_iload C dL_law_1640 0 rfl ?_
    refine fw_i2l C dL_law_1642 rfl ?_
    refine fw_lcmp C dL_law_1643 ?_
    refine fw_topi (v' := 0) (lg_self _) ?_
    refine fw_if_eq C dL_law_1644 (tgt := 1649) rfl (fun _ => ?_) (fun c1 => absurd rfl c1)
    refine fw_goto C dL_law_1649 (tgt := 3079) rfl ?_
    exact fw_widen (Nat.add_le_add_left (by decide) _) (Nat.add_le_add_left (by decide) _) (fw_sub [2, 3, 4, 5, 6] rfl (k _ (Inv_s11 _ hI2)))
set_option maxHeartbeats 4000000 in
theorem law_31 (X : LX p s m args meth c N0 T D ad l b Ln xs i cells slots) (hI : Inv Y) (k : ∀ Y' : Mem, Inv Y' → LO p l e s m args below meth c N0 T D ad b i (cells + 2) (slots + 12) Q Y' 3079) : LO p l e s m args below meth c N0 T D ad b i cells slots Q Y 1652 := by
  obtain ⟨C, hE, hl, hS, ⟨h1, h2, h3, h4, h5⟩, hc2, hs2⟩ := X
  have hc1 : cells + 1 ≤ 601024 := Nat.le_of_succ_le hc2
  have hs1 : slots + 6 ≤ 7293034 := Nat.le_trans (Nat.add_le_add_left (by decide) _) hs2
  have hc : cells ≤ 601024 := Nat.le_of_succ_le hc1
  have hs : slots ≤ 7293034 := Nat.le_trans (Nat.le_add_right _ _) hs1
  refine fw_aload_n C dL_law_1652 rfl 1 rfl ?_
  refine fw_aload_n C dL_law_1653 rfl 0 rfl ?_
  refine fw_iload C dL_law_1654 4 rfl ?_
  refine fw_iconst C dL_law_1656 (v := 1) rfl ?_
  refine fw_iadd C dL_law_1657 ?_
  refine fw_sld C hS h1 dL_law_1658 ?_
  refine fw_aload_n C dL_law_1659 rfl 3 rfl ?_
  rcases q_startsOf hI (xs (i + 1).toNatClampNeg) with ⟨n, Yc, e1, hn, bb, Ym, e2, e3, hI2⟩ | ⟨r, Yc, e1, Ym, e2, e3, hI2⟩
  · have e2 : X12_startsOf Yc (xs (i + 1).toNatClampNeg) = some (bb, Ym) := e2
    refine fw_callH C hE (c_L_startsOf hl (fun q hq => hq) e1 (fun n1 Y1 q => by cases q; exact hn)) (vx_cwSW 3 (cx_ts C) gL_law_L_startsOf rfl rfl rfl (by decide +kernel) ⟨(Nat.le_of_ble_eq_true rfl), (Nat.le_of_ble_eq_true rfl)⟩) rfl (st := []) rfl (Nat.le_of_ble_eq_true rfl) ⟨hc1, hs1⟩ dL_law_1660 ?_
    refine fw_mem (Y' := Yc) rfl ?_
    refine fw_topi (v' := c3 n) rfl ?_
    refine fw_istore C dL_law_1663 (by decide) (L' := [(5, .int (c3 n)), (0, .ref b), (1, .ref (ad 0 0 0)), (2, .ref (ad 10 0 0)), (3, .ref (ad 11 0 0)), (4, .int i)]) rfl ?_
    refine fw_aload_n C dL_law_1665 rfl 3 rfl ?_
    refine fw_aload_n C dL_law_1666 rfl 1 rfl ?_
    refine fw_iload C dL_law_1667 5 rfl ?_
    refine fw_iconst C dL_law_1669 (v := 1) rfl ?_
    refine fw_iadd C dL_law_1670 ?_
    refine fw_sld C hS h1 dL_law_1671 ?_
    refine fw_callVi C (ci := 10) (Cn := RX12) (Tc := TX12) (N := 19) (As := [.int (xs (i + 1).toNatClampNeg)]) (c_X12_startsOf (lawg (by decide)) e2) (cwV 1 (cx_ts C) gL_law_X12_startsOf rfl rfl rfl (by decide +kernel) ⟨(Nat.le_of_ble_eq_true rfl), (Nat.le_of_ble_eq_true rfl)⟩) rfl (lawg (g := [(10, 0)]) (by decide) _ List.mem_cons_self) (of10_0 _) (ce10 T ad _ _) rfl (st := []) rfl (Nat.le_of_ble_eq_true rfl) ⟨hc1, hs1⟩ dL_law_1672 (ppw ?_)
    refine fw_istore C dL_law_1675 (by decide) (L' := [(6, .int bb), (5, .int (c3 n)), (0, .ref b), (1, .ref (ad 0 0 0)), (2, .ref (ad 10 0 0)), (3, .ref (ad 11 0 0)), (4, .int i)]) rfl ?_
    refine fw_aload_n C dL_law_1677 rfl 4 rfl ?_
    refine fw_callVi C (ci := 10) (Cn := RX12) (Tc := TX12) (N := 19) (As := []) (c_X12_thrown (lawg (by decide)) (thr_ok e3)) (cwV 0 (cx_ts C) gL_law_X12_thrown rfl rfl rfl (by decide +kernel) ⟨(Nat.le_of_ble_eq_true rfl), (Nat.le_of_ble_eq_true rfl)⟩) rfl (lawg (g := [(10, 0)]) (by decide) _ List.mem_cons_self) (of10_0 _) (ce10 T ad _ _) rfl (st := []) rfl (Nat.le_of_ble_eq_true rfl) ⟨hc1, hs1⟩ dL_law_1678 (pp2 ?_)
    refine fw_iload C dL_law_1681 1 rfl ?_
    refine fw_icmp_eq C dL_law_1683 (tgt := 1688) rfl (fun _ => ?_) (fun c1 => absurd rfl c1)
    refine fw_iload C dL_law_1688 1 rfl ?_
    refine fw_if_ne C dL_law_1690 (tgt := 1705) rfl (fun _ => ?_) (fun c1 => absurd c1 hn)
    refine fw_goto C dL_law_1705 (tgt := 3079) rfl ?_
    exact fw_widen (Nat.add_le_add_left (by decide) _) (Nat.add_le_add_left (by decide) _) (fw_sub [2, 3, 4, 5, 6] rfl (k _ hI2))
  · have e2 : X12_startsOf Yc (xs (i + 1).toNatClampNeg) = some (r, Ym) := e2
    refine fw_callH C hE (c_L_startsOf hl (fun q hq => hq) e1 (fun n1 Y1 q => nomatch q)) (vx_cwSW 3 (cx_ts C) gL_law_L_startsOf rfl rfl rfl (by decide +kernel) ⟨(Nat.le_of_ble_eq_true rfl), (Nat.le_of_ble_eq_true rfl)⟩) rfl (st := []) rfl (Nat.le_of_ble_eq_true rfl) ⟨hc1, hs1⟩ dL_law_1660 ?_
    refine fw_mem (Y' := s11 r Yc) rfl ?_
    refine fw_topi (v' := 0) rfl ?_
    have e4 : X12_startsOf (s11 r Yc) (xs (i + 1).toNatClampNeg) = some (r, s11 r Ym) := s11_some (f := fun Z => X12_startsOf Z (xs (i + 1).toNatClampNeg)) (fun _ Z => k_X12_startsOf Z (xs (i + 1).toNatClampNeg)) _ e2
    refine fw_istore C dL_law_1663 (by decide) (L' := [(5, .int 0), (0, .ref b), (1, .ref (ad 0 0 0)), (2, .ref (ad 10 0 0)), (3, .ref (ad 11 0 0)), (4, .int i)]) rfl ?_
    refine fw_aload_n C dL_law_1665 rfl 3 rfl ?_
    refine fw_aload_n C dL_law_1666 rfl 1 rfl ?_
    refine fw_iload C dL_law_1667 5 rfl ?_
    refine fw_iconst C dL_law_1669 (v := 1) rfl ?_
    refine fw_iadd C dL_law_1670 ?_
    refine fw_sld C hS h1 dL_law_1671 ?_
    refine fw_callVi C (ci := 10) (Cn := RX12) (Tc := TX12) (N := 19) (As := [.int (xs (i + 1).toNatClampNeg)]) (c_X12_startsOf (lawg (by decide)) e4) (cwV 1 (cx_ts C) gL_law_X12_startsOf rfl rfl rfl (by decide +kernel) ⟨(Nat.le_of_ble_eq_true rfl), (Nat.le_of_ble_eq_true rfl)⟩) rfl (lawg (g := [(10, 0)]) (by decide) _ List.mem_cons_self) (of10_0 _) (ce10 T ad _ _) rfl (st := []) rfl (Nat.le_of_ble_eq_true rfl) ⟨hc1, hs1⟩ dL_law_1672 (ppw ?_)
    refine fw_istore C dL_law_1675 (by decide) (L' := [(6, .int r), (5, .int 0), (0, .ref b), (1, .ref (ad 0 0 0)), (2, .ref (ad 10 0 0)), (3, .ref (ad 11 0 0)), (4, .int i)]) rfl ?_
    refine fw_aload_n C dL_law_1677 rfl 4 rfl ?_
    refine fw_callVi C (ci := 10) (Cn := RX12) (Tc := TX12) (N := 19) (As := []) (c_X12_thrown (lawg (by decide)) (thr_s11 r e3)) (cwV 0 (cx_ts C) gL_law_X12_thrown rfl rfl rfl (by decide +kernel) ⟨(Nat.le_of_ble_eq_true rfl), (Nat.le_of_ble_eq_true rfl)⟩) rfl (lawg (g := [(10, 0)]) (by decide) _ List.mem_cons_self) (of10_0 _) (ce10 T ad _ _) rfl (st := []) rfl (Nat.le_of_ble_eq_true rfl) ⟨hc1, hs1⟩ dL_law_1678 (pp2 ?_)
    refine fw_iload C dL_law_1681 1 rfl ?_
    refine fw_icmp_eq C dL_law_1683 (tgt := 1688) rfl (fun _ => ?_) (fun c1 => absurd rfl c1)
    refine fw_iload C dL_law_1688 1 rfl ?_
    refine fw_if_ne C dL_law_1690 (tgt := 1705) rfl (fun c1 => absurd rfl c1) (fun _ => ?_)
    refine fw_aload_n C dL_law_1693 rfl 5 rfl ?_
    refine fw_iconst C dL_law_1694 (v := 0) rfl ?_
    refine fw_lald0 C (lawg (g := [(11, 0)]) (by decide) _ List.mem_cons_self) dL_law_1695 ?_
    refine fw_top (v' := .long (r : Int32).toInt64) (by rw [s11_11]) ?_
    refine fw_iload C dL_law_1696 0 rfl ?_
    refine fw_i2l C dL_law_1698 rfl ?_
    refine fw_lcmp C dL_law_1699 ?_
    refine fw_topi (v' := 0) (lg_self _) ?_
    refine fw_if_eq C dL_law_1700 (tgt := 1705) rfl (fun _ => ?_) (fun c1 => absurd rfl c1)
    refine fw_goto C dL_law_1705 (tgt := 3079) rfl ?_
    exact fw_widen (Nat.add_le_add_left (by decide) _) (Nat.add_le_add_left (by decide) _) (fw_sub [2, 3, 4, 5, 6] rfl (k _ (Inv_s11 _ hI2)))
end
