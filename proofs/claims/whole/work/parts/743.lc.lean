/-! PHASE 3: THE LAW: cases -/
section
variable {p : Program} {l : Launch} {e : Env} {s : State} {m : MethodId} {args : Array Value} {below : List Frame} {meth : Method} {c : Code} {N0 : Nat} {T : Nat → ClassId} {D : va_G} {ad : Nat → Nat → Nat → Nat} {cells slots : Nat} {Q : State → Prop} {Y : Mem} {b Ln : Nat} {xs : Nat → Int32} {i : Int32}
set_option maxHeartbeats 4000000 in
theorem law_32 (X : LX p s m args meth c N0 T D ad l b Ln xs i cells slots) (hI : Inv Y) (k : ∀ Y' : Mem, Inv Y' → LO p l e s m args below meth c N0 T D ad b i (cells + 2) (slots + 12) Q Y' 3079) : LO p l e s m args below meth c N0 T D ad b i cells slots Q Y 1708 := by
  obtain ⟨C, hE, hl, hS, ⟨h1, h2, h3, h4, h5⟩, hc2, hs2⟩ := X
  have hc1 : cells + 1 ≤ 601024 := Nat.le_of_succ_le hc2
  have hs1 : slots + 6 ≤ 7293034 := Nat.le_trans (Nat.add_le_add_left (by decide) _) hs2
  have hc : cells ≤ 601024 := Nat.le_of_succ_le hc1
  have hs : slots ≤ 7293034 := Nat.le_trans (Nat.le_add_right _ _) hs1
  refine fw_aload_n C dL_law_1708 rfl 1 rfl ?_
  refine fw_aload_n C dL_law_1709 rfl 0 rfl ?_
  refine fw_iload C dL_law_1710 4 rfl ?_
  refine fw_iconst C dL_law_1712 (v := 1) rfl ?_
  refine fw_iadd C dL_law_1713 ?_
  refine fw_sld C hS h1 dL_law_1714 ?_
  refine fw_aload_n C dL_law_1715 rfl 3 rfl ?_
  rcases q_isTakenUp hI (xs (i + 1).toNatClampNeg) with ⟨n, Yc, e1, hn, bb, Ym, e2, e3, hI2⟩ | ⟨r, Yc, e1, Ym, e2, e3, hI2⟩
  · have e2 : X12_isTakenUp Yc (xs (i + 1).toNatClampNeg) = some (bb, Ym) := e2
    refine fw_callH C hE (c_L_isTakenUp hl (fun q hq => hq) e1 (fun n1 Y1 q => by cases q; exact hn)) (vx_cwSW 3 (cx_ts C) gL_law_L_isTakenUp rfl rfl rfl (by decide +kernel) ⟨(Nat.le_of_ble_eq_true rfl), (Nat.le_of_ble_eq_true rfl)⟩) rfl (st := []) rfl (Nat.le_of_ble_eq_true rfl) ⟨hc1, hs1⟩ dL_law_1716 ?_
    refine fw_mem (Y' := Yc) rfl ?_
    refine fw_topi (v' := c3 n) rfl ?_
    refine fw_istore C dL_law_1719 (by decide) (L' := [(5, .int (c3 n)), (0, .ref b), (1, .ref (ad 0 0 0)), (2, .ref (ad 10 0 0)), (3, .ref (ad 11 0 0)), (4, .int i)]) rfl ?_
    refine fw_aload_n C dL_law_1721 rfl 3 rfl ?_
    refine fw_aload_n C dL_law_1722 rfl 1 rfl ?_
    refine fw_iload C dL_law_1723 5 rfl ?_
    refine fw_iconst C dL_law_1725 (v := 1) rfl ?_
    refine fw_iadd C dL_law_1726 ?_
    refine fw_sld C hS h1 dL_law_1727 ?_
    refine fw_callVi C (ci := 10) (Cn := RX12) (Tc := TX12) (N := 19) (As := [.int (xs (i + 1).toNatClampNeg)]) (c_X12_isTakenUp (lawg (by decide)) e2) (cwV 1 (cx_ts C) gL_law_X12_isTakenUp rfl rfl rfl (by decide +kernel) ⟨(Nat.le_of_ble_eq_true rfl), (Nat.le_of_ble_eq_true rfl)⟩) rfl (lawg (g := [(10, 0)]) (by decide) _ List.mem_cons_self) (of10_0 _) (ce10 T ad _ _) rfl (st := []) rfl (Nat.le_of_ble_eq_true rfl) ⟨hc1, hs1⟩ dL_law_1728 (ppw ?_)
    refine fw_istore C dL_law_1731 (by decide) (L' := [(6, .int bb), (5, .int (c3 n)), (0, .ref b), (1, .ref (ad 0 0 0)), (2, .ref (ad 10 0 0)), (3, .ref (ad 11 0 0)), (4, .int i)]) rfl ?_
    refine fw_aload_n C dL_law_1733 rfl 4 rfl ?_
    refine fw_callVi C (ci := 10) (Cn := RX12) (Tc := TX12) (N := 19) (As := []) (c_X12_thrown (lawg (by decide)) (thr_ok e3)) (cwV 0 (cx_ts C) gL_law_X12_thrown rfl rfl rfl (by decide +kernel) ⟨(Nat.le_of_ble_eq_true rfl), (Nat.le_of_ble_eq_true rfl)⟩) rfl (lawg (g := [(10, 0)]) (by decide) _ List.mem_cons_self) (of10_0 _) (ce10 T ad _ _) rfl (st := []) rfl (Nat.le_of_ble_eq_true rfl) ⟨hc1, hs1⟩ dL_law_1734 (pp2 ?_)
    refine fw_iload C dL_law_1737 1 rfl ?_
    refine fw_icmp_eq C dL_law_1739 (tgt := 1744) rfl (fun _ => ?_) (fun c1 => absurd rfl c1)
    refine fw_iload C dL_law_1744 1 rfl ?_
    refine fw_if_ne C dL_law_1746 (tgt := 1768) rfl (fun _ => ?_) (fun c1 => absurd c1 hn)
    refine fw_goto C dL_law_1768 (tgt := 3079) rfl ?_
    exact fw_widen (Nat.add_le_add_left (by decide) _) (Nat.add_le_add_left (by decide) _) (fw_sub [2, 3, 4, 5, 6] rfl (k _ hI2))
  · have e2 : X12_isTakenUp Yc (xs (i + 1).toNatClampNeg) = some (r, Ym) := e2
    refine fw_callH C hE (c_L_isTakenUp hl (fun q hq => hq) e1 (fun n1 Y1 q => nomatch q)) (vx_cwSW 3 (cx_ts C) gL_law_L_isTakenUp rfl rfl rfl (by decide +kernel) ⟨(Nat.le_of_ble_eq_true rfl), (Nat.le_of_ble_eq_true rfl)⟩) rfl (st := []) rfl (Nat.le_of_ble_eq_true rfl) ⟨hc1, hs1⟩ dL_law_1716 ?_
    refine fw_mem (Y' := s11 (if r = 0 then 0 else 1) Yc) rfl ?_
    refine fw_topi (v' := 0) rfl ?_
    have e4 : X12_isTakenUp (s11 (if r = 0 then 0 else 1) Yc) (xs (i + 1).toNatClampNeg) = some (r, s11 (if r = 0 then 0 else 1) Ym) := s11_some (f := fun Z => X12_isTakenUp Z (xs (i + 1).toNatClampNeg)) (fun _ Z => k_X12_isTakenUp Z (xs (i + 1).toNatClampNeg)) _ e2
    refine fw_istore C dL_law_1719 (by decide) (L' := [(5, .int 0), (0, .ref b), (1, .ref (ad 0 0 0)), (2, .ref (ad 10 0 0)), (3, .ref (ad 11 0 0)), (4, .int i)]) rfl ?_
    refine fw_aload_n C dL_law_1721 rfl 3 rfl ?_
    refine fw_aload_n C dL_law_1722 rfl 1 rfl ?_
    refine fw_iload C dL_law_1723 5 rfl ?_
    refine fw_iconst C dL_law_1725 (v := 1) rfl ?_
    refine fw_iadd C dL_law_1726 ?_
    refine fw_sld C hS h1 dL_law_1727 ?_
    refine fw_callVi C (ci := 10) (Cn := RX12) (Tc := TX12) (N := 19) (As := [.int (xs (i + 1).toNatClampNeg)]) (c_X12_isTakenUp (lawg (by decide)) e4) (cwV 1 (cx_ts C) gL_law_X12_isTakenUp rfl rfl rfl (by decide +kernel) ⟨(Nat.le_of_ble_eq_true rfl), (Nat.le_of_ble_eq_true rfl)⟩) rfl (lawg (g := [(10, 0)]) (by decide) _ List.mem_cons_self) (of10_0 _) (ce10 T ad _ _) rfl (st := []) rfl (Nat.le_of_ble_eq_true rfl) ⟨hc1, hs1⟩ dL_law_1728 (ppw ?_)
    refine fw_istore C dL_law_1731 (by decide) (L' := [(6, .int r), (5, .int 0), (0, .ref b), (1, .ref (ad 0 0 0)), (2, .ref (ad 10 0 0)), (3, .ref (ad 11 0 0)), (4, .int i)]) rfl ?_
    refine fw_aload_n C dL_law_1733 rfl 4 rfl ?_
    refine fw_callVi C (ci := 10) (Cn := RX12) (Tc := TX12) (N := 19) (As := []) (c_X12_thrown (lawg (by decide)) (thr_s11 (if r = 0 then 0 else 1) e3)) (cwV 0 (cx_ts C) gL_law_X12_thrown rfl rfl rfl (by decide +kernel) ⟨(Nat.le_of_ble_eq_true rfl), (Nat.le_of_ble_eq_true rfl)⟩) rfl (lawg (g := [(10, 0)]) (by decide) _ List.mem_cons_self) (of10_0 _) (ce10 T ad _ _) rfl (st := []) rfl (Nat.le_of_ble_eq_true rfl) ⟨hc1, hs1⟩ dL_law_1734 (pp2 ?_)
    refine fw_iload C dL_law_1737 1 rfl ?_
    refine fw_icmp_eq C dL_law_1739 (tgt := 1744) rfl (fun _ => ?_) (fun c1 => absurd rfl c1)
    refine fw_iload C dL_law_1744 1 rfl ?_
    refine fw_if_ne C dL_law_1746 (tgt := 1768) rfl (fun c1 => absurd rfl c1) (fun _ => ?_)
    refine fw_aload_n C dL_law_1749 rfl 5 rfl ?_
    refine fw_iconst C dL_law_1750 (v := 0) rfl ?_
    refine fw_lald0 C (lawg (g := [(11, 0)]) (by decide) _ List.mem_cons_self) dL_law_1751 ?_
    refine fw_top (v' := .long ((if r = 0 then 0 else 1) : Int32).toInt64) (by rw [s11_11]) ?_
    refine fw_iload C dL_law_1752 0 rfl ?_
    refine fw_if_eq C dL_law_1754 (tgt := 1761) rfl (fun c1 => ?_) (fun c1 => ?_)
    · refine fw_lconst C dL_law_1761 (v := 0) rfl ?_
      refine fw_lcmp C dL_law_1762 ?_
      refine fw_topi (v' := 0) (by rw [if_pos c1]; rfl) ?_
      refine fw_if_eq C dL_law_1763 (tgt := 1768) rfl (fun _ => ?_) (fun c1 => absurd rfl c1)
      refine fw_goto C dL_law_1768 (tgt := 3079) rfl ?_
      exact fw_widen (Nat.add_le_add_left (by decide) _) (Nat.add_le_add_left (by decide) _) (fw_sub [2, 3, 4, 5, 6] rfl (k _ (Inv_s11 _ hI2)))
    · refine fw_lconst C dL_law_1757 (v := 1) rfl ?_
      refine fw_goto C dL_law_1758 (tgt := 1762) rfl ?_
      refine fw_lcmp C dL_law_1762 ?_
      refine fw_topi (v' := 0) (by rw [if_neg c1]; rfl) ?_
      refine fw_if_eq C dL_law_1763 (tgt := 1768) rfl (fun _ => ?_) (fun c1 => absurd rfl c1)
      refine fw_goto C dL_law_1768 (tgt := 3079) rfl ?_
      exact fw_widen (Nat.add_le_add_left (by decide) _) (Nat.add_le_add_left (by decide) _) (fw_sub [2, 3, 4, 5, 6] rfl (k _ (Inv_s11 _ hI2)))
set_option maxHeartbeats 4000000 in
theorem law_33 (X : LX p s m args meth c N0 T D ad l b Ln xs i cells slots) (hI : Inv Y) (k : ∀ Y' : Mem, Inv Y' → LO p l e s m args below meth c N0 T D ad b i (cells + 2) (slots + 12) Q Y' 3079) : LO p l e s m args below meth c N0 T D ad b i cells slots Q Y 1771 := by
  obtain ⟨C, hE, hl, hS, ⟨h1, h2, h3, h4, h5⟩, hc2, hs2⟩ := X
  have hc1 : cells + 1 ≤ 601024 := Nat.le_of_succ_le hc2
  have hs1 : slots + 6 ≤ 7293034 := Nat.le_trans (Nat.add_le_add_left (by decide) _) hs2
  have hc : cells ≤ 601024 := Nat.le_of_succ_le hc1
  have hs : slots ≤ 7293034 := Nat.le_trans (Nat.le_add_right _ _) hs1
  refine fw_aload_n C dL_law_1771 rfl 1 rfl ?_
  refine fw_aload_n C dL_law_1772 rfl 0 rfl ?_
  refine fw_iload C dL_law_1773 4 rfl ?_
  refine fw_iconst C dL_law_1775 (v := 1) rfl ?_
  refine fw_iadd C dL_law_1776 ?_
  refine fw_sld C hS h1 dL_law_1777 ?_
  obtain ⟨r, Yc, Ym, e1, e2, hI2⟩ := q_readyStep hI (xs (i + 1).toNatClampNeg)
  have e2 : X12_readyStep Yc (xs (i + 1).toNatClampNeg) = some (r, Ym) := e2
  refine fw_callVi C (ci := 9) (Cn := RX11) (Tc := TX11) (N := 11) (As := [.int (xs (i + 1).toNatClampNeg)]) (c_X11_readyStep (lawg (by decide)) e1) (cwV 1 (cx_ts C) gL_law_X11_readyStep rfl rfl rfl (by decide +kernel) ⟨(Nat.le_of_ble_eq_true rfl), (Nat.le_of_ble_eq_true rfl)⟩) rfl (lawg (g := [(0, 0)]) (by decide) _ List.mem_cons_self) (of0_0 _) (ce0 T ad _ _) rfl (st := []) rfl (Nat.le_of_ble_eq_true rfl) ⟨hc, hs⟩ dL_law_1778 (ppw ?_)
  refine fw_aload_n C dL_law_1781 rfl 2 rfl ?_
  refine fw_aload_n C dL_law_1782 rfl 0 rfl ?_
  refine fw_iload C dL_law_1783 4 rfl ?_
  refine fw_iconst C dL_law_1785 (v := 1) rfl ?_
  refine fw_iadd C dL_law_1786 ?_
  refine fw_sld C hS h1 dL_law_1787 ?_
  refine fw_callVi C (ci := 10) (Cn := RX12) (Tc := TX12) (N := 19) (As := [.int (xs (i + 1).toNatClampNeg)]) (c_X12_readyStep (lawg (by decide)) e2) (cwV 1 (cx_ts C) gL_law_X12_readyStep rfl rfl rfl (by decide +kernel) ⟨(Nat.le_of_ble_eq_true rfl), (Nat.le_of_ble_eq_true rfl)⟩) rfl (lawg (g := [(10, 0)]) (by decide) _ List.mem_cons_self) (of10_0 _) (ce10 T ad _ _) rfl (st := [.int r]) rfl (Nat.le_of_ble_eq_true rfl) ⟨hc, hs⟩ dL_law_1788 (ppw ?_)
  refine fw_icmp_eq C dL_law_1791 (tgt := 3079) rfl (fun _ => ?_) (fun c1 => absurd rfl c1)
  exact fw_widen (Nat.le_add_right _ _) (Nat.le_add_right _ _) (k _ hI2)
set_option maxHeartbeats 4000000 in
theorem law_34 (X : LX p s m args meth c N0 T D ad l b Ln xs i cells slots) (hI : Inv Y) (k : ∀ Y' : Mem, Inv Y' → LO p l e s m args below meth c N0 T D ad b i (cells + 2) (slots + 12) Q Y' 3079) : LO p l e s m args below meth c N0 T D ad b i cells slots Q Y 1796 := by
  obtain ⟨C, hE, hl, hS, ⟨h1, h2, h3, h4, h5⟩, hc2, hs2⟩ := X
  have hc1 : cells + 1 ≤ 601024 := Nat.le_of_succ_le hc2
  have hs1 : slots + 6 ≤ 7293034 := Nat.le_trans (Nat.add_le_add_left (by decide) _) hs2
  have hc : cells ≤ 601024 := Nat.le_of_succ_le hc1
  have hs : slots ≤ 7293034 := Nat.le_trans (Nat.le_add_right _ _) hs1
  refine fw_aload_n C dL_law_1796 rfl 1 rfl ?_
  refine fw_aload_n C dL_law_1797 rfl 0 rfl ?_
  refine fw_iload C dL_law_1798 4 rfl ?_
  refine fw_iconst C dL_law_1800 (v := 1) rfl ?_
  refine fw_iadd C dL_law_1801 ?_
  refine fw_sld C hS h1 dL_law_1802 ?_
  refine fw_aload_n C dL_law_1803 rfl 3 rfl ?_
  rcases q_whyNotRunning hI (xs (i + 1).toNatClampNeg) with ⟨n, Yc, e1, hn, bb, Ym, e2, e3, hI2⟩ | ⟨r, Yc, e1, Ym, e2, e3, hI2⟩
  · have e2 : X12_whyNotRunning Yc (xs (i + 1).toNatClampNeg) = some (bb, Ym) := e2
    refine fw_callH C hE (c_L_whyNotRunning hl (fun q hq => hq) e1 (fun n1 Y1 q => by cases q; exact hn)) (vx_cwSW 3 (cx_ts C) gL_law_L_whyNotRunning rfl rfl rfl (by decide +kernel) ⟨(Nat.le_of_ble_eq_true rfl), (Nat.le_of_ble_eq_true rfl)⟩) rfl (st := []) rfl (Nat.le_of_ble_eq_true rfl) ⟨hc1, hs1⟩ dL_law_1804 ?_
    refine fw_mem (Y' := Yc) rfl ?_
    refine fw_topi (v' := c3 n) rfl ?_
    refine fw_istore C dL_law_1807 (by decide) (L' := [(5, .int (c3 n)), (0, .ref b), (1, .ref (ad 0 0 0)), (2, .ref (ad 10 0 0)), (3, .ref (ad 11 0 0)), (4, .int i)]) rfl ?_
    refine fw_aload_n C dL_law_1809 rfl 3 rfl ?_
    refine fw_aload_n C dL_law_1810 rfl 1 rfl ?_
    refine fw_iload C dL_law_1811 5 rfl ?_
    refine fw_iconst C dL_law_1813 (v := 1) rfl ?_
    refine fw_iadd C dL_law_1814 ?_
    refine fw_sld C hS h1 dL_law_1815 ?_
    refine fw_callVi C (ci := 10) (Cn := RX12) (Tc := TX12) (N := 19) (As := [.int (xs (i + 1).toNatClampNeg)]) (c_X12_whyNotRunning (lawg (by decide)) e2) (cwV 1 (cx_ts C) gL_law_X12_whyNotRunning rfl rfl rfl (by decide +kernel) ⟨(Nat.le_of_ble_eq_true rfl), (Nat.le_of_ble_eq_true rfl)⟩) rfl (lawg (g := [(10, 0)]) (by decide) _ List.mem_cons_self) (of10_0 _) (ce10 T ad _ _) rfl (st := []) rfl (Nat.le_of_ble_eq_true rfl) ⟨hc1, hs1⟩ dL_law_1816 (ppw ?_)
    refine fw_istore C dL_law_1819 (by decide) (L' := [(6, .int bb), (5, .int (c3 n)), (0, .ref b), (1, .ref (ad 0 0 0)), (2, .ref (ad 10 0 0)), (3, .ref (ad 11 0 0)), (4, .int i)]) rfl ?_
    refine fw_aload_n C dL_law_1821 rfl 4 rfl ?_
    refine fw_callVi C (ci := 10) (Cn := RX12) (Tc := TX12) (N := 19) (As := []) (c_X12_thrown (lawg (by decide)) (thr_ok e3)) (cwV 0 (cx_ts C) gL_law_X12_thrown rfl rfl rfl (by decide +kernel) ⟨(Nat.le_of_ble_eq_true rfl), (Nat.le_of_ble_eq_true rfl)⟩) rfl (lawg (g := [(10, 0)]) (by decide) _ List.mem_cons_self) (of10_0 _) (ce10 T ad _ _) rfl (st := []) rfl (Nat.le_of_ble_eq_true rfl) ⟨hc1, hs1⟩ dL_law_1822 (pp2 ?_)
    refine fw_iload C dL_law_1825 1 rfl ?_
    refine fw_icmp_eq C dL_law_1827 (tgt := 1832) rfl (fun _ => ?_) (fun c1 => absurd rfl c1)
    refine fw_iload C dL_law_1832 1 rfl ?_
    refine fw_if_ne C dL_law_1834 (tgt := 1849) rfl (fun _ => ?_) (fun c1 => absurd c1 hn)
    refine fw_goto C dL_law_1849 (tgt := 3079) rfl ?_
    exact fw_widen (Nat.add_le_add_left (by decide) _) (Nat.add_le_add_left (by decide) _) (fw_sub [2, 3, 4, 5, 6] rfl (k _ hI2))
  · have e2 : X12_whyNotRunning Yc (xs (i + 1).toNatClampNeg) = some (r, Ym) := e2
    refine fw_callH C hE (c_L_whyNotRunning hl (fun q hq => hq) e1 (fun n1 Y1 q => nomatch q)) (vx_cwSW 3 (cx_ts C) gL_law_L_whyNotRunning rfl rfl rfl (by decide +kernel) ⟨(Nat.le_of_ble_eq_true rfl), (Nat.le_of_ble_eq_true rfl)⟩) rfl (st := []) rfl (Nat.le_of_ble_eq_true rfl) ⟨hc1, hs1⟩ dL_law_1804 ?_
    refine fw_mem (Y' := s11 r Yc) rfl ?_
    refine fw_topi (v' := 0) rfl ?_
    have e4 : X12_whyNotRunning (s11 r Yc) (xs (i + 1).toNatClampNeg) = some (r, s11 r Ym) := s11_some (f := fun Z => X12_whyNotRunning Z (xs (i + 1).toNatClampNeg)) (fun _ Z => k_X12_whyNotRunning Z (xs (i + 1).toNatClampNeg)) _ e2
    refine fw_istore C dL_law_1807 (by decide) (L' := [(5, .int 0), (0, .ref b), (1, .ref (ad 0 0 0)), (2, .ref (ad 10 0 0)), (3, .ref (ad 11 0 0)), (4, .int i)]) rfl ?_
    refine fw_aload_n C dL_law_1809 rfl 3 rfl ?_
    refine fw_aload_n C dL_law_1810 rfl 1 rfl ?_
    refine fw_iload C dL_law_1811 5 rfl ?_
    refine fw_iconst C dL_law_1813 (v := 1) rfl ?_
    refine fw_iadd C dL_law_1814 ?_
    refine fw_sld C hS h1 dL_law_1815 ?_
    refine fw_callVi C (ci := 10) (Cn := RX12) (Tc := TX12) (N := 19) (As := [.int (xs (i + 1).toNatClampNeg)]) (c_X12_whyNotRunning (lawg (by decide)) e4) (cwV 1 (cx_ts C) gL_law_X12_whyNotRunning rfl rfl rfl (by decide +kernel) ⟨(Nat.le_of_ble_eq_true rfl), (Nat.le_of_ble_eq_true rfl)⟩) rfl (lawg (g := [(10, 0)]) (by decide) _ List.mem_cons_self) (of10_0 _) (ce10 T ad _ _) rfl (st := []) rfl (Nat.le_of_ble_eq_true rfl) ⟨hc1, hs1⟩ dL_law_1816 (ppw ?_)
    refine fw_istore C dL_law_1819 (by decide) (L' := [(6, .int r), (5, .int 0), (0, .ref b), (1, .ref (ad 0 0 0)), (2, .ref (ad 10 0 0)), (3, .ref (ad 11 0 0)), (4, .int i)]) rfl ?_
    refine fw_aload_n C dL_law_1821 rfl 4 rfl ?_
    refine fw_callVi C (ci := 10) (Cn := RX12) (Tc := TX12) (N := 19) (As := []) (c_X12_thrown (lawg (by decide)) (thr_s11 r e3)) (cwV 0 (cx_ts C) gL_law_X12_thrown rfl rfl rfl (by decide +kernel) ⟨(Nat.le_of_ble_eq_true rfl), (Nat.le_of_ble_eq_true rfl)⟩) rfl (lawg (g := [(10, 0)]) (by decide) _ List.mem_cons_self) (of10_0 _) (ce10 T ad _ _) rfl (st := []) rfl (Nat.le_of_ble_eq_true rfl) ⟨hc1, hs1⟩ dL_law_1822 (pp2 ?_)
    refine fw_iload C dL_law_1825 1 rfl ?_
    refine fw_icmp_eq C dL_law_1827 (tgt := 1832) rfl (fun _ => ?_) (fun c1 => absurd rfl c1)
    refine fw_iload C dL_law_1832 1 rfl ?_
    refine fw_if_ne C dL_law_1834 (tgt := 1849) rfl (fun c1 => absurd rfl c1) (fun _ => ?_)
    refine fw_aload_n C dL_law_1837 rfl 5 rfl ?_
    refine fw_iconst C dL_law_1838 (v := 0) rfl ?_
    refine fw_lald0 C (lawg (g := [(11, 0)]) (by decide) _ List.mem_cons_self) dL_law_1839 ?_
    refine fw_top (v' := .long (r : Int32).toInt64) (by rw [s11_11]) ?_
    refine fw_iload C dL_law_1840 0 rfl ?_
    refine fw_i2l C dL_law_1842 rfl ?_
    refine fw_lcmp C dL_law_1843 ?_
    refine fw_topi (v' := 0) (lg_self _) ?_
    refine fw_if_eq C dL_law_1844 (tgt := 1849) rfl (fun _ => ?_) (fun c1 => absurd rfl c1)
    refine fw_goto C dL_law_1849 (tgt := 3079) rfl ?_
    exact fw_widen (Nat.add_le_add_left (by decide) _) (Nat.add_le_add_left (by decide) _) (fw_sub [2, 3, 4, 5, 6] rfl (k _ (Inv_s11 _ hI2)))
set_option maxHeartbeats 4000000 in
theorem law_35 (X : LX p s m args meth c N0 T D ad l b Ln xs i cells slots) (hI : Inv Y) (k : ∀ Y' : Mem, Inv Y' → LO p l e s m args below meth c N0 T D ad b i (cells + 2) (slots + 12) Q Y' 3079) : LO p l e s m args below meth c N0 T D ad b i cells slots Q Y 1852 := by
  obtain ⟨C, hE, hl, hS, ⟨h1, h2, h3, h4, h5⟩, hc2, hs2⟩ := X
  have hc1 : cells + 1 ≤ 601024 := Nat.le_of_succ_le hc2
  have hs1 : slots + 6 ≤ 7293034 := Nat.le_trans (Nat.add_le_add_left (by decide) _) hs2
  have hc : cells ≤ 601024 := Nat.le_of_succ_le hc1
  have hs : slots ≤ 7293034 := Nat.le_trans (Nat.le_add_right _ _) hs1
  refine fw_aload_n C dL_law_1852 rfl 1 rfl ?_
  refine fw_aload_n C dL_law_1853 rfl 0 rfl ?_
  refine fw_iload C dL_law_1854 4 rfl ?_
  refine fw_iconst C dL_law_1856 (v := 1) rfl ?_
  refine fw_iadd C dL_law_1857 ?_
  refine fw_sld C hS h1 dL_law_1858 ?_
  refine fw_aload_n C dL_law_1859 rfl 3 rfl ?_
  rcases q_blockingStep hI (xs (i + 1).toNatClampNeg) with ⟨n, Yc, e1, hn, bb, Ym, e2, e3, hI2⟩ | ⟨r, Yc, e1, Ym, e2, e3, hI2⟩
  · have e2 : X12_blockingStep Yc (xs (i + 1).toNatClampNeg) = some (bb, Ym) := e2
    refine fw_callH C hE (c_L_blockingStep hl (fun q hq => hq) e1 (fun n1 Y1 q => by cases q; exact hn)) (vx_cwSW 3 (cx_ts C) gL_law_L_blockingStep rfl rfl rfl (by decide +kernel) ⟨(Nat.le_of_ble_eq_true rfl), (Nat.le_of_ble_eq_true rfl)⟩) rfl (st := []) rfl (Nat.le_of_ble_eq_true rfl) ⟨hc1, hs1⟩ dL_law_1860 ?_
    refine fw_mem (Y' := Yc) rfl ?_
    refine fw_topi (v' := c3 n) rfl ?_
    refine fw_istore C dL_law_1863 (by decide) (L' := [(5, .int (c3 n)), (0, .ref b), (1, .ref (ad 0 0 0)), (2, .ref (ad 10 0 0)), (3, .ref (ad 11 0 0)), (4, .int i)]) rfl ?_
    refine fw_aload_n C dL_law_1865 rfl 3 rfl ?_
    refine fw_aload_n C dL_law_1866 rfl 1 rfl ?_
    refine fw_iload C dL_law_1867 5 rfl ?_
    refine fw_iconst C dL_law_1869 (v := 1) rfl ?_
    refine fw_iadd C dL_law_1870 ?_
    refine fw_sld C hS h1 dL_law_1871 ?_
    refine fw_callVi C (ci := 10) (Cn := RX12) (Tc := TX12) (N := 19) (As := [.int (xs (i + 1).toNatClampNeg)]) (c_X12_blockingStep (lawg (by decide)) e2) (cwV 1 (cx_ts C) gL_law_X12_blockingStep rfl rfl rfl (by decide +kernel) ⟨(Nat.le_of_ble_eq_true rfl), (Nat.le_of_ble_eq_true rfl)⟩) rfl (lawg (g := [(10, 0)]) (by decide) _ List.mem_cons_self) (of10_0 _) (ce10 T ad _ _) rfl (st := []) rfl (Nat.le_of_ble_eq_true rfl) ⟨hc1, hs1⟩ dL_law_1872 (ppw ?_)
    refine fw_istore C dL_law_1875 (by decide) (L' := [(6, .int bb), (5, .int (c3 n)), (0, .ref b), (1, .ref (ad 0 0 0)), (2, .ref (ad 10 0 0)), (3, .ref (ad 11 0 0)), (4, .int i)]) rfl ?_
    refine fw_aload_n C dL_law_1877 rfl 4 rfl ?_
    refine fw_callVi C (ci := 10) (Cn := RX12) (Tc := TX12) (N := 19) (As := []) (c_X12_thrown (lawg (by decide)) (thr_ok e3)) (cwV 0 (cx_ts C) gL_law_X12_thrown rfl rfl rfl (by decide +kernel) ⟨(Nat.le_of_ble_eq_true rfl), (Nat.le_of_ble_eq_true rfl)⟩) rfl (lawg (g := [(10, 0)]) (by decide) _ List.mem_cons_self) (of10_0 _) (ce10 T ad _ _) rfl (st := []) rfl (Nat.le_of_ble_eq_true rfl) ⟨hc1, hs1⟩ dL_law_1878 (pp2 ?_)
    refine fw_iload C dL_law_1881 1 rfl ?_
    refine fw_icmp_eq C dL_law_1883 (tgt := 1888) rfl (fun _ => ?_) (fun c1 => absurd rfl c1)
    refine fw_iload C dL_law_1888 1 rfl ?_
    refine fw_if_ne C dL_law_1890 (tgt := 1905) rfl (fun _ => ?_) (fun c1 => absurd c1 hn)
    refine fw_goto C dL_law_1905 (tgt := 3079) rfl ?_
    exact fw_widen (Nat.add_le_add_left (by decide) _) (Nat.add_le_add_left (by decide) _) (fw_sub [2, 3, 4, 5, 6] rfl (k _ hI2))
  · have e2 : X12_blockingStep Yc (xs (i + 1).toNatClampNeg) = some (r, Ym) := e2
    refine fw_callH C hE (c_L_blockingStep hl (fun q hq => hq) e1 (fun n1 Y1 q => nomatch q)) (vx_cwSW 3 (cx_ts C) gL_law_L_blockingStep rfl rfl rfl (by decide +kernel) ⟨(Nat.le_of_ble_eq_true rfl), (Nat.le_of_ble_eq_true rfl)⟩) rfl (st := []) rfl (Nat.le_of_ble_eq_true rfl) ⟨hc1, hs1⟩ dL_law_1860 ?_
    refine fw_mem (Y' := s11 r Yc) rfl ?_
    refine fw_topi (v' := 0) rfl ?_
    have e4 : X12_blockingStep (s11 r Yc) (xs (i + 1).toNatClampNeg) = some (r, s11 r Ym) := s11_some (f := fun Z => X12_blockingStep Z (xs (i + 1).toNatClampNeg)) (fun _ Z => k_X12_blockingStep Z (xs (i + 1).toNatClampNeg)) _ e2
    refine fw_istore C dL_law_1863 (by decide) (L' := [(5, .int 0), (0, .ref b), (1, .ref (ad 0 0 0)), (2, .ref (ad 10 0 0)), (3, .ref (ad 11 0 0)), (4, .int i)]) rfl ?_
    refine fw_aload_n C dL_law_1865 rfl 3 rfl ?_
    refine fw_aload_n C dL_law_1866 rfl 1 rfl ?_
    refine fw_iload C dL_law_1867 5 rfl ?_
    refine fw_iconst C dL_law_1869 (v := 1) rfl ?_
    refine fw_iadd C dL_law_1870 ?_
    refine fw_sld C hS h1 dL_law_1871 ?_
    refine fw_callVi C (ci := 10) (Cn := RX12) (Tc := TX12) (N := 19) (As := [.int (xs (i + 1).toNatClampNeg)]) (c_X12_blockingStep (lawg (by decide)) e4) (cwV 1 (cx_ts C) gL_law_X12_blockingStep rfl rfl rfl (by decide +kernel) ⟨(Nat.le_of_ble_eq_true rfl), (Nat.le_of_ble_eq_true rfl)⟩) rfl (lawg (g := [(10, 0)]) (by decide) _ List.mem_cons_self) (of10_0 _) (ce10 T ad _ _) rfl (st := []) rfl (Nat.le_of_ble_eq_true rfl) ⟨hc1, hs1⟩ dL_law_1872 (ppw ?_)
    refine fw_istore C dL_law_1875 (by decide) (L' := [(6, .int r), (5, .int 0), (0, .ref b), (1, .ref (ad 0 0 0)), (2, .ref (ad 10 0 0)), (3, .ref (ad 11 0 0)), (4, .int i)]) rfl ?_
    refine fw_aload_n C dL_law_1877 rfl 4 rfl ?_
    refine fw_callVi C (ci := 10) (Cn := RX12) (Tc := TX12) (N := 19) (As := []) (c_X12_thrown (lawg (by decide)) (thr_s11 r e3)) (cwV 0 (cx_ts C) gL_law_X12_thrown rfl rfl rfl (by decide +kernel) ⟨(Nat.le_of_ble_eq_true rfl), (Nat.le_of_ble_eq_true rfl)⟩) rfl (lawg (g := [(10, 0)]) (by decide) _ List.mem_cons_self) (of10_0 _) (ce10 T ad _ _) rfl (st := []) rfl (Nat.le_of_ble_eq_true rfl) ⟨hc1, hs1⟩ dL_law_1878 (pp2 ?_)
    refine fw_iload C dL_law_1881 1 rfl ?_
    refine fw_icmp_eq C dL_law_1883 (tgt := 1888) rfl (fun _ => ?_) (fun c1 => absurd rfl c1)
    refine fw_iload C dL_law_1888 1 rfl ?_
    refine fw_if_ne C dL_law_1890 (tgt := 1905) rfl (fun c1 => absurd rfl c1) (fun _ => ?_)
    refine fw_aload_n C dL_law_1893 rfl 5 rfl ?_
    refine fw_iconst C dL_law_1894 (v := 0) rfl ?_
    refine fw_lald0 C (lawg (g := [(11, 0)]) (by decide) _ List.mem_cons_self) dL_law_1895 ?_
    refine fw_top (v' := .long (r : Int32).toInt64) (by rw [s11_11]) ?_
    refine fw_iload C dL_law_1896 0 rfl ?_
    refine fw_i2l C dL_law_1898 rfl ?_
    refine fw_lcmp C dL_law_1899 ?_
    refine fw_topi (v' := 0) (lg_self _) ?_
    refine fw_if_eq C dL_law_1900 (tgt := 1905) rfl (fun _ => ?_) (fun c1 => absurd rfl c1)
    refine fw_goto C dL_law_1905 (tgt := 3079) rfl ?_
    exact fw_widen (Nat.add_le_add_left (by decide) _) (Nat.add_le_add_left (by decide) _) (fw_sub [2, 3, 4, 5, 6] rfl (k _ (Inv_s11 _ hI2)))
set_option maxHeartbeats 4000000 in
theorem law_36 (X : LX p s m args meth c N0 T D ad l b Ln xs i cells slots) (hI : Inv Y) (k : ∀ Y' : Mem, Inv Y' → LO p l e s m args below meth c N0 T D ad b i (cells + 2) (slots + 12) Q Y' 3079) : LO p l e s m args below meth c N0 T D ad b i cells slots Q Y 1908 := by
  obtain ⟨C, hE, hl, hS, ⟨h1, h2, h3, h4, h5⟩, hc2, hs2⟩ := X
  have hc1 : cells + 1 ≤ 601024 := Nat.le_of_succ_le hc2
  have hs1 : slots + 6 ≤ 7293034 := Nat.le_trans (Nat.add_le_add_left (by decide) _) hs2
  have hc : cells ≤ 601024 := Nat.le_of_succ_le hc1
  have hs : slots ≤ 7293034 := Nat.le_trans (Nat.le_add_right _ _) hs1
  refine fw_aload_n C dL_law_1908 rfl 1 rfl ?_
  refine fw_aload_n C dL_law_1909 rfl 0 rfl ?_
  refine fw_iload C dL_law_1910 4 rfl ?_
  refine fw_iconst C dL_law_1912 (v := 1) rfl ?_
  refine fw_iadd C dL_law_1913 ?_
  refine fw_sld C hS h1 dL_law_1914 ?_
  refine fw_aload_n C dL_law_1915 rfl 3 rfl ?_
  rcases q_rootBlocker hI (xs (i + 1).toNatClampNeg) with ⟨n, Yc, e1, hn, bb, Ym, e2, e3, hI2⟩ | ⟨r, Yc, e1, Ym, e2, e3, hI2⟩
  · have e2 : X12_rootBlocker Yc (xs (i + 1).toNatClampNeg) = some (bb, Ym) := e2
    refine fw_callH C hE (c_L_rootBlocker hl (fun q hq => hq) e1 (fun n1 Y1 q => by cases q; exact hn)) (vx_cwSW 3 (cx_ts C) gL_law_L_rootBlocker rfl rfl rfl (by decide +kernel) ⟨(Nat.le_of_ble_eq_true rfl), (Nat.le_of_ble_eq_true rfl)⟩) rfl (st := []) rfl (Nat.le_of_ble_eq_true rfl) ⟨hc1, hs1⟩ dL_law_1916 ?_
    refine fw_mem (Y' := Yc) rfl ?_
    refine fw_topi (v' := c3 n) rfl ?_
    refine fw_istore C dL_law_1919 (by decide) (L' := [(5, .int (c3 n)), (0, .ref b), (1, .ref (ad 0 0 0)), (2, .ref (ad 10 0 0)), (3, .ref (ad 11 0 0)), (4, .int i)]) rfl ?_
    refine fw_aload_n C dL_law_1921 rfl 3 rfl ?_
    refine fw_aload_n C dL_law_1922 rfl 1 rfl ?_
    refine fw_iload C dL_law_1923 5 rfl ?_
    refine fw_iconst C dL_law_1925 (v := 1) rfl ?_
    refine fw_iadd C dL_law_1926 ?_
    refine fw_sld C hS h1 dL_law_1927 ?_
    refine fw_callVi C (ci := 10) (Cn := RX12) (Tc := TX12) (N := 19) (As := [.int (xs (i + 1).toNatClampNeg)]) (c_X12_rootBlocker (lawg (by decide)) e2) (cwV 1 (cx_ts C) gL_law_X12_rootBlocker rfl rfl rfl (by decide +kernel) ⟨(Nat.le_of_ble_eq_true rfl), (Nat.le_of_ble_eq_true rfl)⟩) rfl (lawg (g := [(10, 0)]) (by decide) _ List.mem_cons_self) (of10_0 _) (ce10 T ad _ _) rfl (st := []) rfl (Nat.le_of_ble_eq_true rfl) ⟨hc1, hs1⟩ dL_law_1928 (ppw ?_)
    refine fw_istore C dL_law_1931 (by decide) (L' := [(6, .int bb), (5, .int (c3 n)), (0, .ref b), (1, .ref (ad 0 0 0)), (2, .ref (ad 10 0 0)), (3, .ref (ad 11 0 0)), (4, .int i)]) rfl ?_
    refine fw_aload_n C dL_law_1933 rfl 4 rfl ?_
    refine fw_callVi C (ci := 10) (Cn := RX12) (Tc := TX12) (N := 19) (As := []) (c_X12_thrown (lawg (by decide)) (thr_ok e3)) (cwV 0 (cx_ts C) gL_law_X12_thrown rfl rfl rfl (by decide +kernel) ⟨(Nat.le_of_ble_eq_true rfl), (Nat.le_of_ble_eq_true rfl)⟩) rfl (lawg (g := [(10, 0)]) (by decide) _ List.mem_cons_self) (of10_0 _) (ce10 T ad _ _) rfl (st := []) rfl (Nat.le_of_ble_eq_true rfl) ⟨hc1, hs1⟩ dL_law_1934 (pp2 ?_)
    refine fw_iload C dL_law_1937 1 rfl ?_
    refine fw_icmp_eq C dL_law_1939 (tgt := 1944) rfl (fun _ => ?_) (fun c1 => absurd rfl c1)
    refine fw_iload C dL_law_1944 1 rfl ?_
    refine fw_if_ne C dL_law_1946 (tgt := 1961) rfl (fun _ => ?_) (fun c1 => absurd c1 hn)
    refine fw_goto C dL_law_1961 (tgt := 3079) rfl ?_
    exact fw_widen (Nat.add_le_add_left (by decide) _) (Nat.add_le_add_left (by decide) _) (fw_sub [2, 3, 4, 5, 6] rfl (k _ hI2))
  · have e2 : X12_rootBlocker Yc (xs (i + 1).toNatClampNeg) = some (r, Ym) := e2
    refine fw_callH C hE (c_L_rootBlocker hl (fun q hq => hq) e1 (fun n1 Y1 q => nomatch q)) (vx_cwSW 3 (cx_ts C) gL_law_L_rootBlocker rfl rfl rfl (by decide +kernel) ⟨(Nat.le_of_ble_eq_true rfl), (Nat.le_of_ble_eq_true rfl)⟩) rfl (st := []) rfl (Nat.le_of_ble_eq_true rfl) ⟨hc1, hs1⟩ dL_law_1916 ?_
    refine fw_mem (Y' := s11 r Yc) rfl ?_
    refine fw_topi (v' := 0) rfl ?_
    have e4 : X12_rootBlocker (s11 r Yc) (xs (i + 1).toNatClampNeg) = some (r, s11 r Ym) := s11_some (f := fun Z => X12_rootBlocker Z (xs (i + 1).toNatClampNeg)) (fun _ Z => k_X12_rootBlocker Z (xs (i + 1).toNatClampNeg)) _ e2
    refine fw_istore C dL_law_1919 (by decide) (L' := [(5, .int 0), (0, .ref b), (1, .ref (ad 0 0 0)), (2, .ref (ad 10 0 0)), (3, .ref (ad 11 0 0)), (4, .int i)]) rfl ?_
    refine fw_aload_n C dL_law_1921 rfl 3 rfl ?_
    refine fw_aload_n C dL_law_1922 rfl 1 rfl ?_
    refine fw_iload C dL_law_1923 5 rfl ?_
    refine fw_iconst C dL_law_1925 (v := 1) rfl ?_
    refine fw_iadd C dL_law_1926 ?_
    refine fw_sld C hS h1 dL_law_1927 ?_
    refine fw_callVi C (ci := 10) (Cn := RX12) (Tc := TX12) (N := 19) (As := [.int (xs (i + 1).toNatClampNeg)]) (c_X12_rootBlocker (lawg (by decide)) e4) (cwV 1 (cx_ts C) gL_law_X12_rootBlocker rfl rfl rfl (by decide +kernel) ⟨(Nat.le_of_ble_eq_true rfl), (Nat.le_of_ble_eq_true rfl)⟩) rfl (lawg (g := [(10, 0)]) (by decide) _ List.mem_cons_self) (of10_0 _) (ce10 T ad _ _) rfl (st := []) rfl (Nat.le_of_ble_eq_true rfl) ⟨hc1, hs1⟩ dL_law_1928 (ppw ?_)
    refine fw_istore C dL_law_1931 (by decide) (L' := [(6, .int r), (5, .int 0), (0, .ref b), (1, .ref (ad 0 0 0)), (2, .ref (ad 10 0 0)), (3, .ref (ad 11 0 0)), (4, .int i)]) rfl ?_
    refine fw_aload_n C dL_law_1933 rfl 4 rfl ?_
    refine fw_callVi C (ci := 10) (Cn := RX12) (Tc := TX12) (N := 19) (As := []) (c_X12_thrown (lawg (by decide)) (thr_s11 r e3)) (cwV 0 (cx_ts C) gL_law_X12_thrown rfl rfl rfl (by decide +kernel) ⟨(Nat.le_of_ble_eq_true rfl), (Nat.le_of_ble_eq_true rfl)⟩) rfl (lawg (g := [(10, 0)]) (by decide) _ List.mem_cons_self) (of10_0 _) (ce10 T ad _ _) rfl (st := []) rfl (Nat.le_of_ble_eq_true rfl) ⟨hc1, hs1⟩ dL_law_1934 (pp2 ?_)
    refine fw_iload C dL_law_1937 1 rfl ?_
    refine fw_icmp_eq C dL_law_1939 (tgt := 1944) rfl (fun _ => ?_) (fun c1 => absurd rfl c1)
    refine fw_iload C dL_law_1944 1 rfl ?_
    refine fw_if_ne C dL_law_1946 (tgt := 1961) rfl (fun c1 => absurd rfl c1) (fun _ => ?_)
    refine fw_aload_n C dL_law_1949 rfl 5 rfl ?_
    refine fw_iconst C dL_law_1950 (v := 0) rfl ?_
    refine fw_lald0 C (lawg (g := [(11, 0)]) (by decide) _ List.mem_cons_self) dL_law_1951 ?_
    refine fw_top (v' := .long (r : Int32).toInt64) (by rw [s11_11]) ?_
    refine fw_iload C dL_law_1952 0 rfl ?_
    refine fw_i2l C dL_law_1954 rfl ?_
    refine fw_lcmp C dL_law_1955 ?_
    refine fw_topi (v' := 0) (lg_self _) ?_
    refine fw_if_eq C dL_law_1956 (tgt := 1961) rfl (fun _ => ?_) (fun c1 => absurd rfl c1)
    refine fw_goto C dL_law_1961 (tgt := 3079) rfl ?_
    exact fw_widen (Nat.add_le_add_left (by decide) _) (Nat.add_le_add_left (by decide) _) (fw_sub [2, 3, 4, 5, 6] rfl (k _ (Inv_s11 _ hI2)))
set_option maxHeartbeats 4000000 in
theorem law_37 (X : LX p s m args meth c N0 T D ad l b Ln xs i cells slots) (hI : Inv Y) (k : ∀ Y' : Mem, Inv Y' → LO p l e s m args below meth c N0 T D ad b i (cells + 2) (slots + 12) Q Y' 3079) : LO p l e s m args below meth c N0 T D ad b i cells slots Q Y 1964 := by
  obtain ⟨C, hE, hl, hS, ⟨h1, h2, h3, h4, h5⟩, hc2, hs2⟩ := X
  have hc1 : cells + 1 ≤ 601024 := Nat.le_of_succ_le hc2
  have hs1 : slots + 6 ≤ 7293034 := Nat.le_trans (Nat.add_le_add_left (by decide) _) hs2
  have hc : cells ≤ 601024 := Nat.le_of_succ_le hc1
  have hs : slots ≤ 7293034 := Nat.le_trans (Nat.le_add_right _ _) hs1
  refine fw_aload_n C dL_law_1964 rfl 1 rfl ?_
  obtain ⟨r, Ym, e1, e2, hI2⟩ := q_whyNotServed hI
  refine fw_callVi C (ci := 9) (Cn := RX11) (Tc := TX11) (N := 11) (As := []) (c_X11_whyNotServed (lawg (by decide)) e1) (cwV 0 (cx_ts C) gL_law_X11_whyNotServed rfl rfl rfl (by decide +kernel) ⟨(Nat.le_of_ble_eq_true rfl), (Nat.le_of_ble_eq_true rfl)⟩) rfl (lawg (g := [(0, 0)]) (by decide) _ List.mem_cons_self) (of0_0 _) (ce0 T ad _ _) rfl (st := []) rfl (Nat.le_of_ble_eq_true rfl) ⟨hc, hs⟩ dL_law_1965 (pp2 ?_)
  refine fw_aload_n C dL_law_1968 rfl 2 rfl ?_
  refine fw_callVi C (ci := 10) (Cn := RX12) (Tc := TX12) (N := 19) (As := []) (c_X12_whyNotServed (lawg (by decide)) e2) (cwV 0 (cx_ts C) gL_law_X12_whyNotServed rfl rfl rfl (by decide +kernel) ⟨(Nat.le_of_ble_eq_true rfl), (Nat.le_of_ble_eq_true rfl)⟩) rfl (lawg (g := [(10, 0)]) (by decide) _ List.mem_cons_self) (of10_0 _) (ce10 T ad _ _) rfl (st := [.int r]) rfl (Nat.le_of_ble_eq_true rfl) ⟨hc, hs⟩ dL_law_1969 (ppw ?_)
  refine fw_icmp_eq C dL_law_1972 (tgt := 3079) rfl (fun _ => ?_) (fun c1 => absurd rfl c1)
  exact fw_widen (Nat.le_add_right _ _) (Nat.le_add_right _ _) (k _ hI2)
set_option maxHeartbeats 4000000 in
theorem law_38 (X : LX p s m args meth c N0 T D ad l b Ln xs i cells slots) (hI : Inv Y) (k : ∀ Y' : Mem, Inv Y' → LO p l e s m args below meth c N0 T D ad b i (cells + 2) (slots + 12) Q Y' 3079) : LO p l e s m args below meth c N0 T D ad b i cells slots Q Y 1977 := by
  obtain ⟨C, hE, hl, hS, ⟨h1, h2, h3, h4, h5⟩, hc2, hs2⟩ := X
  have hc1 : cells + 1 ≤ 601024 := Nat.le_of_succ_le hc2
  have hs1 : slots + 6 ≤ 7293034 := Nat.le_trans (Nat.add_le_add_left (by decide) _) hs2
  have hc : cells ≤ 601024 := Nat.le_of_succ_le hc1
  have hs : slots ≤ 7293034 := Nat.le_trans (Nat.le_add_right _ _) hs1
  refine fw_aload_n C dL_law_1977 rfl 1 rfl ?_
  refine fw_aload_n C dL_law_1978 rfl 0 rfl ?_
  refine fw_iload C dL_law_1979 4 rfl ?_
  refine fw_iconst C dL_law_1981 (v := 1) rfl ?_
  refine fw_iadd C dL_law_1982 ?_
  refine fw_sld C hS h1 dL_law_1983 ?_
  obtain ⟨r, Yc, Ym, e1, e2, hI2⟩ := q_criticalStep hI (xs (i + 1).toNatClampNeg)
  have e2 : X12_criticalStep Yc (xs (i + 1).toNatClampNeg) = some (r, Ym) := e2
  refine fw_callVi C (ci := 9) (Cn := RX11) (Tc := TX11) (N := 11) (As := [.int (xs (i + 1).toNatClampNeg)]) (c_X11_criticalStep (lawg (by decide)) e1) (cwV 1 (cx_ts C) gL_law_X11_criticalStep rfl rfl rfl (by decide +kernel) ⟨(Nat.le_of_ble_eq_true rfl), (Nat.le_of_ble_eq_true rfl)⟩) rfl (lawg (g := [(0, 0)]) (by decide) _ List.mem_cons_self) (of0_0 _) (ce0 T ad _ _) rfl (st := []) rfl (Nat.le_of_ble_eq_true rfl) ⟨hc, hs⟩ dL_law_1984 (ppw ?_)
  refine fw_aload_n C dL_law_1987 rfl 2 rfl ?_
  refine fw_aload_n C dL_law_1988 rfl 0 rfl ?_
  refine fw_iload C dL_law_1989 4 rfl ?_
  refine fw_iconst C dL_law_1991 (v := 1) rfl ?_
  refine fw_iadd C dL_law_1992 ?_
  refine fw_sld C hS h1 dL_law_1993 ?_
  refine fw_callVi C (ci := 10) (Cn := RX12) (Tc := TX12) (N := 19) (As := [.int (xs (i + 1).toNatClampNeg)]) (c_X12_criticalStep (lawg (by decide)) e2) (cwV 1 (cx_ts C) gL_law_X12_criticalStep rfl rfl rfl (by decide +kernel) ⟨(Nat.le_of_ble_eq_true rfl), (Nat.le_of_ble_eq_true rfl)⟩) rfl (lawg (g := [(10, 0)]) (by decide) _ List.mem_cons_self) (of10_0 _) (ce10 T ad _ _) rfl (st := [.int r]) rfl (Nat.le_of_ble_eq_true rfl) ⟨hc, hs⟩ dL_law_1994 (ppw ?_)
  refine fw_icmp_eq C dL_law_1997 (tgt := 3079) rfl (fun _ => ?_) (fun c1 => absurd rfl c1)
  exact fw_widen (Nat.le_add_right _ _) (Nat.le_add_right _ _) (k _ hI2)
set_option maxHeartbeats 4000000 in
theorem law_39 (X : LX p s m args meth c N0 T D ad l b Ln xs i cells slots) (hI : Inv Y) (k : ∀ Y' : Mem, Inv Y' → LO p l e s m args below meth c N0 T D ad b i (cells + 2) (slots + 12) Q Y' 3079) : LO p l e s m args below meth c N0 T D ad b i cells slots Q Y 2002 := by
  obtain ⟨C, hE, hl, hS, ⟨h1, h2, h3, h4, h5⟩, hc2, hs2⟩ := X
  have hc1 : cells + 1 ≤ 601024 := Nat.le_of_succ_le hc2
  have hs1 : slots + 6 ≤ 7293034 := Nat.le_trans (Nat.add_le_add_left (by decide) _) hs2
  have hc : cells ≤ 601024 := Nat.le_of_succ_le hc1
  have hs : slots ≤ 7293034 := Nat.le_trans (Nat.le_add_right _ _) hs1
  refine fw_aload_n C dL_law_2002 rfl 1 rfl ?_
  refine fw_aload_n C dL_law_2003 rfl 0 rfl ?_
  refine fw_iload C dL_law_2004 4 rfl ?_
  refine fw_iconst C dL_law_2006 (v := 1) rfl ?_
  refine fw_iadd C dL_law_2007 ?_
  refine fw_sld C hS h1 dL_law_2008 ?_
  refine fw_aload_n C dL_law_2009 rfl 3 rfl ?_
  rcases q_slack hI (xs (i + 1).toNatClampNeg) with ⟨n, Yc, e1, hn, bb, Ym, e2, e3, hI2⟩ | ⟨r, Yc, e1, Ym, e2, e3, hI2⟩
  · have e2 : X12_slack Yc (xs (i + 1).toNatClampNeg) = some (bb, Ym) := e2
    refine fw_callH C hE (c_L_slack hl (fun q hq => hq) e1 (fun n1 Y1 q => by cases q; exact hn)) (vx_cwSW 3 (cx_ts C) gL_law_L_slack rfl rfl rfl (by decide +kernel) ⟨(Nat.le_of_ble_eq_true rfl), (Nat.le_of_ble_eq_true rfl)⟩) rfl (st := []) rfl (Nat.le_of_ble_eq_true rfl) ⟨hc1, hs1⟩ dL_law_2010 ?_
    refine fw_mem (Y' := Yc) rfl ?_
    refine fw_topi (v' := c3 n) rfl ?_
    refine fw_istore C dL_law_2013 (by decide) (L' := [(5, .int (c3 n)), (0, .ref b), (1, .ref (ad 0 0 0)), (2, .ref (ad 10 0 0)), (3, .ref (ad 11 0 0)), (4, .int i)]) rfl ?_
    refine fw_aload_n C dL_law_2015 rfl 3 rfl ?_
    refine fw_aload_n C dL_law_2016 rfl 1 rfl ?_
    refine fw_iload C dL_law_2017 5 rfl ?_
    refine fw_iconst C dL_law_2019 (v := 1) rfl ?_
    refine fw_iadd C dL_law_2020 ?_
    refine fw_sld C hS h1 dL_law_2021 ?_
    refine fw_callVi C (ci := 10) (Cn := RX12) (Tc := TX12) (N := 19) (As := [.int (xs (i + 1).toNatClampNeg)]) (c_X12_slack (lawg (by decide)) e2) (cwV 1 (cx_ts C) gL_law_X12_slack rfl rfl rfl (by decide +kernel) ⟨(Nat.le_of_ble_eq_true rfl), (Nat.le_of_ble_eq_true rfl)⟩) rfl (lawg (g := [(10, 0)]) (by decide) _ List.mem_cons_self) (of10_0 _) (ce10 T ad _ _) rfl (st := []) rfl (Nat.le_of_ble_eq_true rfl) ⟨hc1, hs1⟩ dL_law_2022 (ppw ?_)
    refine fw_istore C dL_law_2025 (by decide) (L' := [(6, .int bb), (5, .int (c3 n)), (0, .ref b), (1, .ref (ad 0 0 0)), (2, .ref (ad 10 0 0)), (3, .ref (ad 11 0 0)), (4, .int i)]) rfl ?_
    refine fw_aload_n C dL_law_2027 rfl 4 rfl ?_
    refine fw_callVi C (ci := 10) (Cn := RX12) (Tc := TX12) (N := 19) (As := []) (c_X12_thrown (lawg (by decide)) (thr_ok e3)) (cwV 0 (cx_ts C) gL_law_X12_thrown rfl rfl rfl (by decide +kernel) ⟨(Nat.le_of_ble_eq_true rfl), (Nat.le_of_ble_eq_true rfl)⟩) rfl (lawg (g := [(10, 0)]) (by decide) _ List.mem_cons_self) (of10_0 _) (ce10 T ad _ _) rfl (st := []) rfl (Nat.le_of_ble_eq_true rfl) ⟨hc1, hs1⟩ dL_law_2028 (pp2 ?_)
    refine fw_iload C dL_law_2031 1 rfl ?_
    refine fw_icmp_eq C dL_law_2033 (tgt := 2038) rfl (fun _ => ?_) (fun c1 => absurd rfl c1)
    refine fw_iload C dL_law_2038 1 rfl ?_
    refine fw_if_ne C dL_law_2040 (tgt := 2055) rfl (fun _ => ?_) (fun c1 => absurd c1 hn)
    refine fw_goto C dL_law_2055 (tgt := 3079) rfl ?_
    exact fw_widen (Nat.add_le_add_left (by decide) _) (Nat.add_le_add_left (by decide) _) (fw_sub [2, 3, 4, 5, 6] rfl (k _ hI2))
  · have e2 : X12_slack Yc (xs (i + 1).toNatClampNeg) = some (r, Ym) := e2
    refine fw_callH C hE (c_L_slack hl (fun q hq => hq) e1 (fun n1 Y1 q => nomatch q)) (vx_cwSW 3 (cx_ts C) gL_law_L_slack rfl rfl rfl (by decide +kernel) ⟨(Nat.le_of_ble_eq_true rfl), (Nat.le_of_ble_eq_true rfl)⟩) rfl (st := []) rfl (Nat.le_of_ble_eq_true rfl) ⟨hc1, hs1⟩ dL_law_2010 ?_
    refine fw_mem (Y' := s11 r Yc) rfl ?_
    refine fw_topi (v' := 0) rfl ?_
    have e4 : X12_slack (s11 r Yc) (xs (i + 1).toNatClampNeg) = some (r, s11 r Ym) := s11_some (f := fun Z => X12_slack Z (xs (i + 1).toNatClampNeg)) (fun _ Z => k_X12_slack Z (xs (i + 1).toNatClampNeg)) _ e2
    refine fw_istore C dL_law_2013 (by decide) (L' := [(5, .int 0), (0, .ref b), (1, .ref (ad 0 0 0)), (2, .ref (ad 10 0 0)), (3, .ref (ad 11 0 0)), (4, .int i)]) rfl ?_
    refine fw_aload_n C dL_law_2015 rfl 3 rfl ?_
    refine fw_aload_n C dL_law_2016 rfl 1 rfl ?_
    refine fw_iload C dL_law_2017 5 rfl ?_
    refine fw_iconst C dL_law_2019 (v := 1) rfl ?_
    refine fw_iadd C dL_law_2020 ?_
    refine fw_sld C hS h1 dL_law_2021 ?_
    refine fw_callVi C (ci := 10) (Cn := RX12) (Tc := TX12) (N := 19) (As := [.int (xs (i + 1).toNatClampNeg)]) (c_X12_slack (lawg (by decide)) e4) (cwV 1 (cx_ts C) gL_law_X12_slack rfl rfl rfl (by decide +kernel) ⟨(Nat.le_of_ble_eq_true rfl), (Nat.le_of_ble_eq_true rfl)⟩) rfl (lawg (g := [(10, 0)]) (by decide) _ List.mem_cons_self) (of10_0 _) (ce10 T ad _ _) rfl (st := []) rfl (Nat.le_of_ble_eq_true rfl) ⟨hc1, hs1⟩ dL_law_2022 (ppw ?_)
    refine fw_istore C dL_law_2025 (by decide) (L' := [(6, .int r), (5, .int 0), (0, .ref b), (1, .ref (ad 0 0 0)), (2, .ref (ad 10 0 0)), (3, .ref (ad 11 0 0)), (4, .int i)]) rfl ?_
    refine fw_aload_n C dL_law_2027 rfl 4 rfl ?_
    refine fw_callVi C (ci := 10) (Cn := RX12) (Tc := TX12) (N := 19) (As := []) (c_X12_thrown (lawg (by decide)) (thr_s11 r e3)) (cwV 0 (cx_ts C) gL_law_X12_thrown rfl rfl rfl (by decide +kernel) ⟨(Nat.le_of_ble_eq_true rfl), (Nat.le_of_ble_eq_true rfl)⟩) rfl (lawg (g := [(10, 0)]) (by decide) _ List.mem_cons_self) (of10_0 _) (ce10 T ad _ _) rfl (st := []) rfl (Nat.le_of_ble_eq_true rfl) ⟨hc1, hs1⟩ dL_law_2028 (pp2 ?_)
    refine fw_iload C dL_law_2031 1 rfl ?_
    refine fw_icmp_eq C dL_law_2033 (tgt := 2038) rfl (fun _ => ?_) (fun c1 => absurd rfl c1)
    refine fw_iload C dL_law_2038 1 rfl ?_
    refine fw_if_ne C dL_law_2040 (tgt := 2055) rfl (fun c1 => absurd rfl c1) (fun _ => ?_)
    refine fw_aload_n C dL_law_2043 rfl 5 rfl ?_
    refine fw_iconst C dL_law_2044 (v := 0) rfl ?_
    refine fw_lald0 C (lawg (g := [(11, 0)]) (by decide) _ List.mem_cons_self) dL_law_2045 ?_
    refine fw_top (v' := .long (r : Int32).toInt64) (by rw [s11_11]) ?_
    refine fw_iload C dL_law_2046 0 rfl ?_
    refine fw_i2l C dL_law_2048 rfl ?_
    refine fw_lcmp C dL_law_2049 ?_
    refine fw_topi (v' := 0) (lg_self _) ?_
    refine fw_if_eq C dL_law_2050 (tgt := 2055) rfl (fun _ => ?_) (fun c1 => absurd rfl c1)
    refine fw_goto C dL_law_2055 (tgt := 3079) rfl ?_
    exact fw_widen (Nat.add_le_add_left (by decide) _) (Nat.add_le_add_left (by decide) _) (fw_sub [2, 3, 4, 5, 6] rfl (k _ (Inv_s11 _ hI2)))
set_option maxHeartbeats 4000000 in
theorem law_40 (X : LX p s m args meth c N0 T D ad l b Ln xs i cells slots) (hI : Inv Y) (k : ∀ Y' : Mem, Inv Y' → LO p l e s m args below meth c N0 T D ad b i (cells + 2) (slots + 12) Q Y' 3079) : LO p l e s m args below meth c N0 T D ad b i cells slots Q Y 2058 := by
  obtain ⟨C, hE, hl, hS, ⟨h1, h2, h3, h4, h5⟩, hc2, hs2⟩ := X
  have hc1 : cells + 1 ≤ 601024 := Nat.le_of_succ_le hc2
  have hs1 : slots + 6 ≤ 7293034 := Nat.le_trans (Nat.add_le_add_left (by decide) _) hs2
  have hc : cells ≤ 601024 := Nat.le_of_succ_le hc1
  have hs : slots ≤ 7293034 := Nat.le_trans (Nat.le_add_right _ _) hs1
  refine fw_aload_n C dL_law_2058 rfl 1 rfl ?_
  obtain ⟨r, Yc, Ym, e1, e2, hI2⟩ := mtf_ok hI
  have e2 : X12_minutesToFinish Yc = some (r, Ym) := e2
  refine fw_callVi C (ci := 9) (Cn := RX11) (Tc := TX11) (N := 11) (As := []) (c_X11_minutesToFinish (lawg (by decide)) e1) (cwV 0 (cx_ts C) gL_law_X11_minutesToFinish rfl rfl rfl (by decide +kernel) ⟨(Nat.le_of_ble_eq_true rfl), (Nat.le_of_ble_eq_true rfl)⟩) rfl (lawg (g := [(0, 0)]) (by decide) _ List.mem_cons_self) (of0_0 _) (ce0 T ad _ _) rfl (st := []) rfl (Nat.le_of_ble_eq_true rfl) ⟨hc, hs⟩ dL_law_2059 (ppw ?_)
  refine fw_aload_n C dL_law_2062 rfl 2 rfl ?_
  refine fw_callVi C (ci := 10) (Cn := RX12) (Tc := TX12) (N := 19) (As := []) (c_X12_minutesToFinish (lawg (by decide)) e2) (cwV 0 (cx_ts C) gL_law_X12_minutesToFinish rfl rfl rfl (by decide +kernel) ⟨(Nat.le_of_ble_eq_true rfl), (Nat.le_of_ble_eq_true rfl)⟩) rfl (lawg (g := [(10, 0)]) (by decide) _ List.mem_cons_self) (of10_0 _) (ce10 T ad _ _) rfl (st := [.int r]) rfl (Nat.le_of_ble_eq_true rfl) ⟨hc, hs⟩ dL_law_2063 (ppw ?_)
  refine fw_icmp_eq C dL_law_2066 (tgt := 3079) rfl (fun _ => ?_) (fun c1 => absurd rfl c1)
  exact fw_widen (Nat.le_add_right _ _) (Nat.le_add_right _ _) (k _ hI2)
set_option maxHeartbeats 4000000 in
theorem law_41 (X : LX p s m args meth c N0 T D ad l b Ln xs i cells slots) (hI : Inv Y) (k : ∀ Y' : Mem, Inv Y' → LO p l e s m args below meth c N0 T D ad b i (cells + 2) (slots + 12) Q Y' 3079) : LO p l e s m args below meth c N0 T D ad b i cells slots Q Y 2071 := by
  obtain ⟨C, hE, hl, hS, ⟨h1, h2, h3, h4, h5⟩, hc2, hs2⟩ := X
  have hc1 : cells + 1 ≤ 601024 := Nat.le_of_succ_le hc2
  have hs1 : slots + 6 ≤ 7293034 := Nat.le_trans (Nat.add_le_add_left (by decide) _) hs2
  have hc : cells ≤ 601024 := Nat.le_of_succ_le hc1
  have hs : slots ≤ 7293034 := Nat.le_trans (Nat.le_add_right _ _) hs1
  refine fw_aload_n C dL_law_2071 rfl 1 rfl ?_
  refine fw_aload_n C dL_law_2072 rfl 0 rfl ?_
  refine fw_iload C dL_law_2073 4 rfl ?_
  refine fw_iconst C dL_law_2075 (v := 1) rfl ?_
  refine fw_iadd C dL_law_2076 ?_
  refine fw_sld C hS h1 dL_law_2077 ?_
  refine fw_aload_n C dL_law_2078 rfl 0 rfl ?_
  refine fw_iload C dL_law_2079 4 rfl ?_
  refine fw_iconst C dL_law_2081 (v := 2) rfl ?_
  refine fw_iadd C dL_law_2082 ?_
  refine fw_sld C hS h2 dL_law_2083 ?_
  refine fw_aload_n C dL_law_2084 rfl 3 rfl ?_
  rcases sta_ok hI (xs (i + 1).toNatClampNeg) (xs (i + 2).toNatClampNeg) with ⟨n, Yc, e1, hn, bb, Ym, e2, e3, hI2⟩ | ⟨r, Yc, e1, Ym, e2, e3, hI2⟩
  · have e2 : X12_statusAfter Yc (xs (i + 1).toNatClampNeg) (xs (i + 2).toNatClampNeg) = some (bb, Ym) := e2
    refine fw_callH C hE (c_L_statusAfter hl (fun q hq => hq) e1 (fun n1 Y1 q => by cases q; exact hn)) (vx_cwSW 4 (cx_ts C) gL_law_L_statusAfter rfl rfl rfl (by decide +kernel) ⟨(Nat.le_of_ble_eq_true rfl), (Nat.le_of_ble_eq_true rfl)⟩) rfl (st := []) rfl (Nat.le_of_ble_eq_true rfl) ⟨hc2, hs2⟩ dL_law_2085 ?_
    refine fw_mem (Y' := Yc) rfl ?_
    refine fw_topi (v' := c32 n) rfl ?_
    refine fw_istore C dL_law_2088 (by decide) (L' := [(5, .int (c32 n)), (0, .ref b), (1, .ref (ad 0 0 0)), (2, .ref (ad 10 0 0)), (3, .ref (ad 11 0 0)), (4, .int i)]) rfl ?_
    refine fw_aload_n C dL_law_2090 rfl 3 rfl ?_
    refine fw_aload_n C dL_law_2091 rfl 1 rfl ?_
    refine fw_iload C dL_law_2092 5 rfl ?_
    refine fw_iconst C dL_law_2094 (v := 1) rfl ?_
    refine fw_iadd C dL_law_2095 ?_
    refine fw_sld C hS h1 dL_law_2096 ?_
    refine fw_aload_n C dL_law_2097 rfl 1 rfl ?_
    refine fw_iload C dL_law_2098 5 rfl ?_
    refine fw_iconst C dL_law_2100 (v := 2) rfl ?_
    refine fw_iadd C dL_law_2101 ?_
    refine fw_sld C hS h2 dL_law_2102 ?_
    refine fw_callVi C (ci := 10) (Cn := RX12) (Tc := TX12) (N := 19) (As := [.int (xs (i + 1).toNatClampNeg), .int (xs (i + 2).toNatClampNeg)]) (c_X12_statusAfter (lawg (by decide)) e2) (cwV 2 (cx_ts C) gL_law_X12_statusAfter rfl rfl rfl (by decide +kernel) ⟨(Nat.le_of_ble_eq_true rfl), (Nat.le_of_ble_eq_true rfl)⟩) rfl (lawg (g := [(10, 0)]) (by decide) _ List.mem_cons_self) (of10_0 _) (ce10 T ad _ _) rfl (st := []) rfl (Nat.le_of_ble_eq_true rfl) ⟨hc2, hs2⟩ dL_law_2103 (ppw ?_)
    refine fw_istore C dL_law_2106 (by decide) (L' := [(6, .int bb), (5, .int (c32 n)), (0, .ref b), (1, .ref (ad 0 0 0)), (2, .ref (ad 10 0 0)), (3, .ref (ad 11 0 0)), (4, .int i)]) rfl ?_
    refine fw_aload_n C dL_law_2108 rfl 4 rfl ?_
    refine fw_callVi C (ci := 10) (Cn := RX12) (Tc := TX12) (N := 19) (As := []) (c_X12_thrown (lawg (by decide)) (thr_ok e3)) (cwV 0 (cx_ts C) gL_law_X12_thrown rfl rfl rfl (by decide +kernel) ⟨(Nat.le_of_ble_eq_true rfl), (Nat.le_of_ble_eq_true rfl)⟩) rfl (lawg (g := [(10, 0)]) (by decide) _ List.mem_cons_self) (of10_0 _) (ce10 T ad _ _) rfl (st := []) rfl (Nat.le_of_ble_eq_true rfl) ⟨hc2, hs2⟩ dL_law_2109 (pp2 ?_)
    refine fw_iload C dL_law_2112 1 rfl ?_
    refine fw_icmp_eq C dL_law_2114 (tgt := 2119) rfl (fun _ => ?_) (fun c1 => absurd rfl c1)
    refine fw_iload C dL_law_2119 1 rfl ?_
    refine fw_if_ne C dL_law_2121 (tgt := 2136) rfl (fun _ => ?_) (fun c1 => absurd c1 hn)
    refine fw_goto C dL_law_2136 (tgt := 3079) rfl ?_
    exact fw_widen (Nat.add_le_add_left (by decide) _) (Nat.add_le_add_left (by decide) _) (fw_sub [2, 3, 4, 5, 6] rfl (k _ hI2))
  · have e2 : X12_statusAfter Yc (xs (i + 1).toNatClampNeg) (xs (i + 2).toNatClampNeg) = some (r, Ym) := e2
    refine fw_callH C hE (c_L_statusAfter hl (fun q hq => hq) e1 (fun n1 Y1 q => nomatch q)) (vx_cwSW 4 (cx_ts C) gL_law_L_statusAfter rfl rfl rfl (by decide +kernel) ⟨(Nat.le_of_ble_eq_true rfl), (Nat.le_of_ble_eq_true rfl)⟩) rfl (st := []) rfl (Nat.le_of_ble_eq_true rfl) ⟨hc2, hs2⟩ dL_law_2085 ?_
    refine fw_mem (Y' := s11 r Yc) rfl ?_
    refine fw_topi (v' := 0) rfl ?_
    have e4 : X12_statusAfter (s11 r Yc) (xs (i + 1).toNatClampNeg) (xs (i + 2).toNatClampNeg) = some (r, s11 r Ym) := s11_some (f := fun Z => X12_statusAfter Z (xs (i + 1).toNatClampNeg) (xs (i + 2).toNatClampNeg)) (fun _ Z => k_X12_statusAfter Z (xs (i + 1).toNatClampNeg) (xs (i + 2).toNatClampNeg)) _ e2
    refine fw_istore C dL_law_2088 (by decide) (L' := [(5, .int 0), (0, .ref b), (1, .ref (ad 0 0 0)), (2, .ref (ad 10 0 0)), (3, .ref (ad 11 0 0)), (4, .int i)]) rfl ?_
    refine fw_aload_n C dL_law_2090 rfl 3 rfl ?_
    refine fw_aload_n C dL_law_2091 rfl 1 rfl ?_
    refine fw_iload C dL_law_2092 5 rfl ?_
    refine fw_iconst C dL_law_2094 (v := 1) rfl ?_
    refine fw_iadd C dL_law_2095 ?_
    refine fw_sld C hS h1 dL_law_2096 ?_
    refine fw_aload_n C dL_law_2097 rfl 1 rfl ?_
    refine fw_iload C dL_law_2098 5 rfl ?_
    refine fw_iconst C dL_law_2100 (v := 2) rfl ?_
    refine fw_iadd C dL_law_2101 ?_
    refine fw_sld C hS h2 dL_law_2102 ?_
    refine fw_callVi C (ci := 10) (Cn := RX12) (Tc := TX12) (N := 19) (As := [.int (xs (i + 1).toNatClampNeg), .int (xs (i + 2).toNatClampNeg)]) (c_X12_statusAfter (lawg (by decide)) e4) (cwV 2 (cx_ts C) gL_law_X12_statusAfter rfl rfl rfl (by decide +kernel) ⟨(Nat.le_of_ble_eq_true rfl), (Nat.le_of_ble_eq_true rfl)⟩) rfl (lawg (g := [(10, 0)]) (by decide) _ List.mem_cons_self) (of10_0 _) (ce10 T ad _ _) rfl (st := []) rfl (Nat.le_of_ble_eq_true rfl) ⟨hc2, hs2⟩ dL_law_2103 (ppw ?_)
    refine fw_istore C dL_law_2106 (by decide) (L' := [(6, .int r), (5, .int 0), (0, .ref b), (1, .ref (ad 0 0 0)), (2, .ref (ad 10 0 0)), (3, .ref (ad 11 0 0)), (4, .int i)]) rfl ?_
    refine fw_aload_n C dL_law_2108 rfl 4 rfl ?_
    refine fw_callVi C (ci := 10) (Cn := RX12) (Tc := TX12) (N := 19) (As := []) (c_X12_thrown (lawg (by decide)) (thr_s11 r e3)) (cwV 0 (cx_ts C) gL_law_X12_thrown rfl rfl rfl (by decide +kernel) ⟨(Nat.le_of_ble_eq_true rfl), (Nat.le_of_ble_eq_true rfl)⟩) rfl (lawg (g := [(10, 0)]) (by decide) _ List.mem_cons_self) (of10_0 _) (ce10 T ad _ _) rfl (st := []) rfl (Nat.le_of_ble_eq_true rfl) ⟨hc2, hs2⟩ dL_law_2109 (pp2 ?_)
    refine fw_iload C dL_law_2112 1 rfl ?_
    refine fw_icmp_eq C dL_law_2114 (tgt := 2119) rfl (fun _ => ?_) (fun c1 => absurd rfl c1)
    refine fw_iload C dL_law_2119 1 rfl ?_
    refine fw_if_ne C dL_law_2121 (tgt := 2136) rfl (fun c1 => absurd rfl c1) (fun _ => ?_)
    refine fw_aload_n C dL_law_2124 rfl 5 rfl ?_
    refine fw_iconst C dL_law_2125 (v := 0) rfl ?_
    refine fw_lald0 C (lawg (g := [(11, 0)]) (by decide) _ List.mem_cons_self) dL_law_2126 ?_
    refine fw_top (v' := .long (r : Int32).toInt64) (by rw [s11_11]) ?_
    refine fw_iload C dL_law_2127 0 rfl ?_
    refine fw_i2l C dL_law_2129 rfl ?_
    refine fw_lcmp C dL_law_2130 ?_
    refine fw_topi (v' := 0) (lg_self _) ?_
    refine fw_if_eq C dL_law_2131 (tgt := 2136) rfl (fun _ => ?_) (fun c1 => absurd rfl c1)
    refine fw_goto C dL_law_2136 (tgt := 3079) rfl ?_
    exact fw_widen (Nat.add_le_add_left (by decide) _) (Nat.add_le_add_left (by decide) _) (fw_sub [2, 3, 4, 5, 6] rfl (k _ (Inv_s11 _ hI2)))
set_option maxHeartbeats 4000000 in
theorem law_42 (X : LX p s m args meth c N0 T D ad l b Ln xs i cells slots) (hI : Inv Y) (k : ∀ Y' : Mem, Inv Y' → LO p l e s m args below meth c N0 T D ad b i (cells + 2) (slots + 12) Q Y' 3079) : LO p l e s m args below meth c N0 T D ad b i cells slots Q Y 2139 := by
  obtain ⟨C, hE, hl, hS, ⟨h1, h2, h3, h4, h5⟩, hc2, hs2⟩ := X
  have hc1 : cells + 1 ≤ 601024 := Nat.le_of_succ_le hc2
  have hs1 : slots + 6 ≤ 7293034 := Nat.le_trans (Nat.add_le_add_left (by decide) _) hs2
  have hc : cells ≤ 601024 := Nat.le_of_succ_le hc1
  have hs : slots ≤ 7293034 := Nat.le_trans (Nat.le_add_right _ _) hs1
  refine fw_aload_n C dL_law_2139 rfl 1 rfl ?_
  refine fw_aload_n C dL_law_2140 rfl 0 rfl ?_
  refine fw_iload C dL_law_2141 4 rfl ?_
  refine fw_iconst C dL_law_2143 (v := 1) rfl ?_
  refine fw_iadd C dL_law_2144 ?_
  refine fw_sld C hS h1 dL_law_2145 ?_
  refine fw_aload_n C dL_law_2146 rfl 3 rfl ?_
  rcases mtb_ok hI (xs (i + 1).toNatClampNeg) with ⟨n, Yc, e1, hn, bb, Ym, e2, e3, hI2⟩ | ⟨r, Yc, e1, Ym, e2, e3, hI2⟩
  · have e2 : X12_minutesToBurn Yc (xs (i + 1).toNatClampNeg) = some (bb, Ym) := e2
    refine fw_callH C hE (c_L_minutesToBurn hl (fun q hq => hq) e1 (fun n1 Y1 q => by cases q; exact hn)) (vx_cwSW 3 (cx_ts C) gL_law_L_minutesToBurn rfl rfl rfl (by decide +kernel) ⟨(Nat.le_of_ble_eq_true rfl), (Nat.le_of_ble_eq_true rfl)⟩) rfl (st := []) rfl (Nat.le_of_ble_eq_true rfl) ⟨hc1, hs1⟩ dL_law_2147 ?_
    refine fw_mem (Y' := Yc) rfl ?_
    refine fw_topi (v' := c3 n) rfl ?_
    refine fw_istore C dL_law_2150 (by decide) (L' := [(5, .int (c3 n)), (0, .ref b), (1, .ref (ad 0 0 0)), (2, .ref (ad 10 0 0)), (3, .ref (ad 11 0 0)), (4, .int i)]) rfl ?_
    refine fw_aload_n C dL_law_2152 rfl 3 rfl ?_
    refine fw_aload_n C dL_law_2153 rfl 1 rfl ?_
    refine fw_iload C dL_law_2154 5 rfl ?_
    refine fw_iconst C dL_law_2156 (v := 1) rfl ?_
    refine fw_iadd C dL_law_2157 ?_
    refine fw_sld C hS h1 dL_law_2158 ?_
    refine fw_callVi C (ci := 10) (Cn := RX12) (Tc := TX12) (N := 19) (As := [.int (xs (i + 1).toNatClampNeg)]) (c_X12_minutesToBurn (lawg (by decide)) e2) (cwV 1 (cx_ts C) gL_law_X12_minutesToBurn rfl rfl rfl (by decide +kernel) ⟨(Nat.le_of_ble_eq_true rfl), (Nat.le_of_ble_eq_true rfl)⟩) rfl (lawg (g := [(10, 0)]) (by decide) _ List.mem_cons_self) (of10_0 _) (ce10 T ad _ _) rfl (st := []) rfl (Nat.le_of_ble_eq_true rfl) ⟨hc1, hs1⟩ dL_law_2159 (ppw ?_)
    refine fw_istore C dL_law_2162 (by decide) (L' := [(6, .int bb), (5, .int (c3 n)), (0, .ref b), (1, .ref (ad 0 0 0)), (2, .ref (ad 10 0 0)), (3, .ref (ad 11 0 0)), (4, .int i)]) rfl ?_
    refine fw_aload_n C dL_law_2164 rfl 4 rfl ?_
    refine fw_callVi C (ci := 10) (Cn := RX12) (Tc := TX12) (N := 19) (As := []) (c_X12_thrown (lawg (by decide)) (thr_ok e3)) (cwV 0 (cx_ts C) gL_law_X12_thrown rfl rfl rfl (by decide +kernel) ⟨(Nat.le_of_ble_eq_true rfl), (Nat.le_of_ble_eq_true rfl)⟩) rfl (lawg (g := [(10, 0)]) (by decide) _ List.mem_cons_self) (of10_0 _) (ce10 T ad _ _) rfl (st := []) rfl (Nat.le_of_ble_eq_true rfl) ⟨hc1, hs1⟩ dL_law_2165 (pp2 ?_)
    refine fw_iload C dL_law_2168 1 rfl ?_
    refine fw_icmp_eq C dL_law_2170 (tgt := 2175) rfl (fun _ => ?_) (fun c1 => absurd rfl c1)
    refine fw_iload C dL_law_2175 1 rfl ?_
    refine fw_if_ne C dL_law_2177 (tgt := 2192) rfl (fun _ => ?_) (fun c1 => absurd c1 hn)
    refine fw_goto C dL_law_2192 (tgt := 3079) rfl ?_
    exact fw_widen (Nat.add_le_add_left (by decide) _) (Nat.add_le_add_left (by decide) _) (fw_sub [2, 3, 4, 5, 6] rfl (k _ hI2))
  · have e2 : X12_minutesToBurn Yc (xs (i + 1).toNatClampNeg) = some (r, Ym) := e2
    refine fw_callH C hE (c_L_minutesToBurn hl (fun q hq => hq) e1 (fun n1 Y1 q => nomatch q)) (vx_cwSW 3 (cx_ts C) gL_law_L_minutesToBurn rfl rfl rfl (by decide +kernel) ⟨(Nat.le_of_ble_eq_true rfl), (Nat.le_of_ble_eq_true rfl)⟩) rfl (st := []) rfl (Nat.le_of_ble_eq_true rfl) ⟨hc1, hs1⟩ dL_law_2147 ?_
    refine fw_mem (Y' := s11 r Yc) rfl ?_
    refine fw_topi (v' := 0) rfl ?_
    have e4 : X12_minutesToBurn (s11 r Yc) (xs (i + 1).toNatClampNeg) = some (r, s11 r Ym) := s11_some (f := fun Z => X12_minutesToBurn Z (xs (i + 1).toNatClampNeg)) (fun _ Z => k_X12_minutesToBurn Z (xs (i + 1).toNatClampNeg)) _ e2
    refine fw_istore C dL_law_2150 (by decide) (L' := [(5, .int 0), (0, .ref b), (1, .ref (ad 0 0 0)), (2, .ref (ad 10 0 0)), (3, .ref (ad 11 0 0)), (4, .int i)]) rfl ?_
    refine fw_aload_n C dL_law_2152 rfl 3 rfl ?_
    refine fw_aload_n C dL_law_2153 rfl 1 rfl ?_
    refine fw_iload C dL_law_2154 5 rfl ?_
    refine fw_iconst C dL_law_2156 (v := 1) rfl ?_
    refine fw_iadd C dL_law_2157 ?_
    refine fw_sld C hS h1 dL_law_2158 ?_
    refine fw_callVi C (ci := 10) (Cn := RX12) (Tc := TX12) (N := 19) (As := [.int (xs (i + 1).toNatClampNeg)]) (c_X12_minutesToBurn (lawg (by decide)) e4) (cwV 1 (cx_ts C) gL_law_X12_minutesToBurn rfl rfl rfl (by decide +kernel) ⟨(Nat.le_of_ble_eq_true rfl), (Nat.le_of_ble_eq_true rfl)⟩) rfl (lawg (g := [(10, 0)]) (by decide) _ List.mem_cons_self) (of10_0 _) (ce10 T ad _ _) rfl (st := []) rfl (Nat.le_of_ble_eq_true rfl) ⟨hc1, hs1⟩ dL_law_2159 (ppw ?_)
    refine fw_istore C dL_law_2162 (by decide) (L' := [(6, .int r), (5, .int 0), (0, .ref b), (1, .ref (ad 0 0 0)), (2, .ref (ad 10 0 0)), (3, .ref (ad 11 0 0)), (4, .int i)]) rfl ?_
    refine fw_aload_n C dL_law_2164 rfl 4 rfl ?_
    refine fw_callVi C (ci := 10) (Cn := RX12) (Tc := TX12) (N := 19) (As := []) (c_X12_thrown (lawg (by decide)) (thr_s11 r e3)) (cwV 0 (cx_ts C) gL_law_X12_thrown rfl rfl rfl (by decide +kernel) ⟨(Nat.le_of_ble_eq_true rfl), (Nat.le_of_ble_eq_true rfl)⟩) rfl (lawg (g := [(10, 0)]) (by decide) _ List.mem_cons_self) (of10_0 _) (ce10 T ad _ _) rfl (st := []) rfl (Nat.le_of_ble_eq_true rfl) ⟨hc1, hs1⟩ dL_law_2165 (pp2 ?_)
    refine fw_iload C dL_law_2168 1 rfl ?_
    refine fw_icmp_eq C dL_law_2170 (tgt := 2175) rfl (fun _ => ?_) (fun c1 => absurd rfl c1)
    refine fw_iload C dL_law_2175 1 rfl ?_
    refine fw_if_ne C dL_law_2177 (tgt := 2192) rfl (fun c1 => absurd rfl c1) (fun _ => ?_)
    refine fw_aload_n C dL_law_2180 rfl 5 rfl ?_
    refine fw_iconst C dL_law_2181 (v := 0) rfl ?_
    refine fw_lald0 C (lawg (g := [(11, 0)]) (by decide) _ List.mem_cons_self) dL_law_2182 ?_
    refine fw_top (v' := .long (r : Int32).toInt64) (by rw [s11_11]) ?_
    refine fw_iload C dL_law_2183 0 rfl ?_
    refine fw_i2l C dL_law_2185 rfl ?_
    refine fw_lcmp C dL_law_2186 ?_
    refine fw_topi (v' := 0) (lg_self _) ?_
    refine fw_if_eq C dL_law_2187 (tgt := 2192) rfl (fun _ => ?_) (fun c1 => absurd rfl c1)
    refine fw_goto C dL_law_2192 (tgt := 3079) rfl ?_
    exact fw_widen (Nat.add_le_add_left (by decide) _) (Nat.add_le_add_left (by decide) _) (fw_sub [2, 3, 4, 5, 6] rfl (k _ (Inv_s11 _ hI2)))
set_option maxHeartbeats 4000000 in
theorem law_43 (X : LX p s m args meth c N0 T D ad l b Ln xs i cells slots) (hI : Inv Y) (k : ∀ Y' : Mem, Inv Y' → LO p l e s m args below meth c N0 T D ad b i (cells + 2) (slots + 12) Q Y' 3079) : LO p l e s m args below meth c N0 T D ad b i cells slots Q Y 2195 := by
  obtain ⟨C, hE, hl, hS, ⟨h1, h2, h3, h4, h5⟩, hc2, hs2⟩ := X
  have hc1 : cells + 1 ≤ 601024 := Nat.le_of_succ_le hc2
  have hs1 : slots + 6 ≤ 7293034 := Nat.le_trans (Nat.add_le_add_left (by decide) _) hs2
  have hc : cells ≤ 601024 := Nat.le_of_succ_le hc1
  have hs : slots ≤ 7293034 := Nat.le_trans (Nat.le_add_right _ _) hs1
  refine fw_aload_n C dL_law_2195 rfl 1 rfl ?_
  refine fw_aload_n C dL_law_2196 rfl 0 rfl ?_
  refine fw_iload C dL_law_2197 4 rfl ?_
  refine fw_iconst C dL_law_2199 (v := 1) rfl ?_
  refine fw_iadd C dL_law_2200 ?_
  refine fw_sld C hS h1 dL_law_2201 ?_
  refine fw_aload_n C dL_law_2202 rfl 3 rfl ?_
  rcases mwc_ok hI (xs (i + 1).toNatClampNeg) with ⟨n, Yc, e1, hn, bb, Ym, e2, e3, hI2⟩ | ⟨r, Yc, e1, Ym, e2, e3, hI2⟩
  · have e2 : X12_minutesWithCooks Yc (xs (i + 1).toNatClampNeg) = some (bb, Ym) := e2
    refine fw_callH C hE (c_L_minutesWithCooks hl (fun q hq => hq) e1 (fun n1 Y1 q => by cases q; exact hn)) (vx_cwSW 3 (cx_ts C) gL_law_L_minutesWithCooks rfl rfl rfl (by decide +kernel) ⟨(Nat.le_of_ble_eq_true rfl), (Nat.le_of_ble_eq_true rfl)⟩) rfl (st := []) rfl (Nat.le_of_ble_eq_true rfl) ⟨hc1, hs1⟩ dL_law_2203 ?_
    refine fw_mem (Y' := Yc) rfl ?_
    refine fw_topi (v' := c2_ n) rfl ?_
    refine fw_istore C dL_law_2206 (by decide) (L' := [(5, .int (c2_ n)), (0, .ref b), (1, .ref (ad 0 0 0)), (2, .ref (ad 10 0 0)), (3, .ref (ad 11 0 0)), (4, .int i)]) rfl ?_
    refine fw_aload_n C dL_law_2208 rfl 3 rfl ?_
    refine fw_aload_n C dL_law_2209 rfl 1 rfl ?_
    refine fw_iload C dL_law_2210 5 rfl ?_
    refine fw_iconst C dL_law_2212 (v := 1) rfl ?_
    refine fw_iadd C dL_law_2213 ?_
    refine fw_sld C hS h1 dL_law_2214 ?_
    refine fw_callVi C (ci := 10) (Cn := RX12) (Tc := TX12) (N := 19) (As := [.int (xs (i + 1).toNatClampNeg)]) (c_X12_minutesWithCooks (lawg (by decide)) e2) (cwV 1 (cx_ts C) gL_law_X12_minutesWithCooks rfl rfl rfl (by decide +kernel) ⟨(Nat.le_of_ble_eq_true rfl), (Nat.le_of_ble_eq_true rfl)⟩) rfl (lawg (g := [(10, 0)]) (by decide) _ List.mem_cons_self) (of10_0 _) (ce10 T ad _ _) rfl (st := []) rfl (Nat.le_of_ble_eq_true rfl) ⟨hc1, hs1⟩ dL_law_2215 (ppw ?_)
    refine fw_istore C dL_law_2218 (by decide) (L' := [(6, .int bb), (5, .int (c2_ n)), (0, .ref b), (1, .ref (ad 0 0 0)), (2, .ref (ad 10 0 0)), (3, .ref (ad 11 0 0)), (4, .int i)]) rfl ?_
    refine fw_aload_n C dL_law_2220 rfl 4 rfl ?_
    refine fw_callVi C (ci := 10) (Cn := RX12) (Tc := TX12) (N := 19) (As := []) (c_X12_thrown (lawg (by decide)) (thr_ok e3)) (cwV 0 (cx_ts C) gL_law_X12_thrown rfl rfl rfl (by decide +kernel) ⟨(Nat.le_of_ble_eq_true rfl), (Nat.le_of_ble_eq_true rfl)⟩) rfl (lawg (g := [(10, 0)]) (by decide) _ List.mem_cons_self) (of10_0 _) (ce10 T ad _ _) rfl (st := []) rfl (Nat.le_of_ble_eq_true rfl) ⟨hc1, hs1⟩ dL_law_2221 (pp2 ?_)
    refine fw_iload C dL_law_2224 1 rfl ?_
    refine fw_icmp_eq C dL_law_2226 (tgt := 2231) rfl (fun _ => ?_) (fun c1 => absurd rfl c1)
    refine fw_iload C dL_law_2231 1 rfl ?_
    refine fw_if_ne C dL_law_2233 (tgt := 2248) rfl (fun _ => ?_) (fun c1 => absurd c1 hn)
    refine fw_goto C dL_law_2248 (tgt := 3079) rfl ?_
    exact fw_widen (Nat.add_le_add_left (by decide) _) (Nat.add_le_add_left (by decide) _) (fw_sub [2, 3, 4, 5, 6] rfl (k _ hI2))
  · have e2 : X12_minutesWithCooks Yc (xs (i + 1).toNatClampNeg) = some (r, Ym) := e2
    refine fw_callH C hE (c_L_minutesWithCooks hl (fun q hq => hq) e1 (fun n1 Y1 q => nomatch q)) (vx_cwSW 3 (cx_ts C) gL_law_L_minutesWithCooks rfl rfl rfl (by decide +kernel) ⟨(Nat.le_of_ble_eq_true rfl), (Nat.le_of_ble_eq_true rfl)⟩) rfl (st := []) rfl (Nat.le_of_ble_eq_true rfl) ⟨hc1, hs1⟩ dL_law_2203 ?_
    refine fw_mem (Y' := s11 r Yc) rfl ?_
    refine fw_topi (v' := 0) rfl ?_
    have e4 : X12_minutesWithCooks (s11 r Yc) (xs (i + 1).toNatClampNeg) = some (r, s11 r Ym) := s11_some (f := fun Z => X12_minutesWithCooks Z (xs (i + 1).toNatClampNeg)) (fun _ Z => k_X12_minutesWithCooks Z (xs (i + 1).toNatClampNeg)) _ e2
    refine fw_istore C dL_law_2206 (by decide) (L' := [(5, .int 0), (0, .ref b), (1, .ref (ad 0 0 0)), (2, .ref (ad 10 0 0)), (3, .ref (ad 11 0 0)), (4, .int i)]) rfl ?_
    refine fw_aload_n C dL_law_2208 rfl 3 rfl ?_
    refine fw_aload_n C dL_law_2209 rfl 1 rfl ?_
    refine fw_iload C dL_law_2210 5 rfl ?_
    refine fw_iconst C dL_law_2212 (v := 1) rfl ?_
    refine fw_iadd C dL_law_2213 ?_
    refine fw_sld C hS h1 dL_law_2214 ?_
    refine fw_callVi C (ci := 10) (Cn := RX12) (Tc := TX12) (N := 19) (As := [.int (xs (i + 1).toNatClampNeg)]) (c_X12_minutesWithCooks (lawg (by decide)) e4) (cwV 1 (cx_ts C) gL_law_X12_minutesWithCooks rfl rfl rfl (by decide +kernel) ⟨(Nat.le_of_ble_eq_true rfl), (Nat.le_of_ble_eq_true rfl)⟩) rfl (lawg (g := [(10, 0)]) (by decide) _ List.mem_cons_self) (of10_0 _) (ce10 T ad _ _) rfl (st := []) rfl (Nat.le_of_ble_eq_true rfl) ⟨hc1, hs1⟩ dL_law_2215 (ppw ?_)
    refine fw_istore C dL_law_2218 (by decide) (L' := [(6, .int r), (5, .int 0), (0, .ref b), (1, .ref (ad 0 0 0)), (2, .ref (ad 10 0 0)), (3, .ref (ad 11 0 0)), (4, .int i)]) rfl ?_
    refine fw_aload_n C dL_law_2220 rfl 4 rfl ?_
    refine fw_callVi C (ci := 10) (Cn := RX12) (Tc := TX12) (N := 19) (As := []) (c_X12_thrown (lawg (by decide)) (thr_s11 r e3)) (cwV 0 (cx_ts C) gL_law_X12_thrown rfl rfl rfl (by decide +kernel) ⟨(Nat.le_of_ble_eq_true rfl), (Nat.le_of_ble_eq_true rfl)⟩) rfl (lawg (g := [(10, 0)]) (by decide) _ List.mem_cons_self) (of10_0 _) (ce10 T ad _ _) rfl (st := []) rfl (Nat.le_of_ble_eq_true rfl) ⟨hc1, hs1⟩ dL_law_2221 (pp2 ?_)
    refine fw_iload C dL_law_2224 1 rfl ?_
    refine fw_icmp_eq C dL_law_2226 (tgt := 2231) rfl (fun _ => ?_) (fun c1 => absurd rfl c1)
    refine fw_iload C dL_law_2231 1 rfl ?_
    refine fw_if_ne C dL_law_2233 (tgt := 2248) rfl (fun c1 => absurd rfl c1) (fun _ => ?_)
    refine fw_aload_n C dL_law_2236 rfl 5 rfl ?_
    refine fw_iconst C dL_law_2237 (v := 0) rfl ?_
    refine fw_lald0 C (lawg (g := [(11, 0)]) (by decide) _ List.mem_cons_self) dL_law_2238 ?_
    refine fw_top (v' := .long (r : Int32).toInt64) (by rw [s11_11]) ?_
    refine fw_iload C dL_law_2239 0 rfl ?_
    refine fw_i2l C dL_law_2241 rfl ?_
    refine fw_lcmp C dL_law_2242 ?_
    refine fw_topi (v' := 0) (lg_self _) ?_
    refine fw_if_eq C dL_law_2243 (tgt := 2248) rfl (fun _ => ?_) (fun c1 => absurd rfl c1)
    refine fw_goto C dL_law_2248 (tgt := 3079) rfl ?_
    exact fw_widen (Nat.add_le_add_left (by decide) _) (Nat.add_le_add_left (by decide) _) (fw_sub [2, 3, 4, 5, 6] rfl (k _ (Inv_s11 _ hI2)))
set_option maxHeartbeats 4000000 in
theorem law_44 (X : LX p s m args meth c N0 T D ad l b Ln xs i cells slots) (hI : Inv Y) (k : ∀ Y' : Mem, Inv Y' → LO p l e s m args below meth c N0 T D ad b i (cells + 2) (slots + 12) Q Y' 3079) : LO p l e s m args below meth c N0 T D ad b i cells slots Q Y 2251 := by
  obtain ⟨C, hE, hl, hS, ⟨h1, h2, h3, h4, h5⟩, hc2, hs2⟩ := X
  have hc1 : cells + 1 ≤ 601024 := Nat.le_of_succ_le hc2
  have hs1 : slots + 6 ≤ 7293034 := Nat.le_trans (Nat.add_le_add_left (by decide) _) hs2
  have hc : cells ≤ 601024 := Nat.le_of_succ_le hc1
  have hs : slots ≤ 7293034 := Nat.le_trans (Nat.le_add_right _ _) hs1
  refine fw_aload_n C dL_law_2251 rfl 1 rfl ?_
  obtain ⟨r, Yc, Ym, e1, e2, hI2⟩ := few_ok hI
  have e2 : X12_fewestCooks Yc = some (r, Ym) := e2
  refine fw_callVi C (ci := 9) (Cn := RX11) (Tc := TX11) (N := 11) (As := []) (c_X11_fewestCooks (lawg (by decide)) e1) (cwV 0 (cx_ts C) gL_law_X11_fewestCooks rfl rfl rfl (by decide +kernel) ⟨(Nat.le_of_ble_eq_true rfl), (Nat.le_of_ble_eq_true rfl)⟩) rfl (lawg (g := [(0, 0)]) (by decide) _ List.mem_cons_self) (of0_0 _) (ce0 T ad _ _) rfl (st := []) rfl (Nat.le_of_ble_eq_true rfl) ⟨hc, hs⟩ dL_law_2252 (ppw ?_)
  refine fw_aload_n C dL_law_2255 rfl 2 rfl ?_
  refine fw_callVi C (ci := 10) (Cn := RX12) (Tc := TX12) (N := 19) (As := []) (c_X12_fewestCooks (lawg (by decide)) e2) (cwV 0 (cx_ts C) gL_law_X12_fewestCooks rfl rfl rfl (by decide +kernel) ⟨(Nat.le_of_ble_eq_true rfl), (Nat.le_of_ble_eq_true rfl)⟩) rfl (lawg (g := [(10, 0)]) (by decide) _ List.mem_cons_self) (of10_0 _) (ce10 T ad _ _) rfl (st := [.int r]) rfl (Nat.le_of_ble_eq_true rfl) ⟨hc, hs⟩ dL_law_2256 (ppw ?_)
  refine fw_icmp_eq C dL_law_2259 (tgt := 3079) rfl (fun _ => ?_) (fun c1 => absurd rfl c1)
  exact fw_widen (Nat.le_add_right _ _) (Nat.le_add_right _ _) (k _ hI2)
set_option maxHeartbeats 4000000 in
theorem law_45 (X : LX p s m args meth c N0 T D ad l b Ln xs i cells slots) (hI : Inv Y) (k : ∀ Y' : Mem, Inv Y' → LO p l e s m args below meth c N0 T D ad b i (cells + 2) (slots + 12) Q Y' 3079) : LO p l e s m args below meth c N0 T D ad b i cells slots Q Y 2264 := by
  obtain ⟨C, hE, hl, hS, ⟨h1, h2, h3, h4, h5⟩, hc2, hs2⟩ := X
  have hc1 : cells + 1 ≤ 601024 := Nat.le_of_succ_le hc2
  have hs1 : slots + 6 ≤ 7293034 := Nat.le_trans (Nat.add_le_add_left (by decide) _) hs2
  have hc : cells ≤ 601024 := Nat.le_of_succ_le hc1
  have hs : slots ≤ 7293034 := Nat.le_trans (Nat.le_add_right _ _) hs1
  refine fw_aload_n C dL_law_2264 rfl 1 rfl ?_
  refine fw_aload_n C dL_law_2265 rfl 3 rfl ?_
  rcases bot_ok hI with ⟨n, Yc, e1, hn, bb, Ym, e2, e3, hI2⟩ | ⟨r, Yc, e1, Ym, e2, e3, hI2⟩
  · have e2 : X12_bottleneck Yc = some (bb, Ym) := e2
    refine fw_callH C hE (c_L_bottleneck hl (fun q hq => hq) e1 (fun n1 Y1 q => by cases q; exact hn)) (vx_cwSW 2 (cx_ts C) gL_law_L_bottleneck rfl rfl rfl (by decide +kernel) ⟨(Nat.le_of_ble_eq_true rfl), (Nat.le_of_ble_eq_true rfl)⟩) rfl (st := []) rfl (Nat.le_of_ble_eq_true rfl) ⟨hc1, hs1⟩ dL_law_2266 ?_
    refine fw_mem (Y' := Yc) rfl ?_
    refine fw_topi (v' := c4 n) rfl ?_
    refine fw_istore C dL_law_2269 (by decide) (L' := [(5, .int (c4 n)), (0, .ref b), (1, .ref (ad 0 0 0)), (2, .ref (ad 10 0 0)), (3, .ref (ad 11 0 0)), (4, .int i)]) rfl ?_
    refine fw_aload_n C dL_law_2271 rfl 3 rfl ?_
    refine fw_callVi C (ci := 10) (Cn := RX12) (Tc := TX12) (N := 19) (As := []) (c_X12_bottleneck (lawg (by decide)) e2) (cwV 0 (cx_ts C) gL_law_X12_bottleneck rfl rfl rfl (by decide +kernel) ⟨(Nat.le_of_ble_eq_true rfl), (Nat.le_of_ble_eq_true rfl)⟩) rfl (lawg (g := [(10, 0)]) (by decide) _ List.mem_cons_self) (of10_0 _) (ce10 T ad _ _) rfl (st := []) rfl (Nat.le_of_ble_eq_true rfl) ⟨hc1, hs1⟩ dL_law_2272 (ppw ?_)
    refine fw_istore C dL_law_2275 (by decide) (L' := [(6, .int bb), (5, .int (c4 n)), (0, .ref b), (1, .ref (ad 0 0 0)), (2, .ref (ad 10 0 0)), (3, .ref (ad 11 0 0)), (4, .int i)]) rfl ?_
    refine fw_aload_n C dL_law_2277 rfl 4 rfl ?_
    refine fw_callVi C (ci := 10) (Cn := RX12) (Tc := TX12) (N := 19) (As := []) (c_X12_thrown (lawg (by decide)) (thr_ok e3)) (cwV 0 (cx_ts C) gL_law_X12_thrown rfl rfl rfl (by decide +kernel) ⟨(Nat.le_of_ble_eq_true rfl), (Nat.le_of_ble_eq_true rfl)⟩) rfl (lawg (g := [(10, 0)]) (by decide) _ List.mem_cons_self) (of10_0 _) (ce10 T ad _ _) rfl (st := []) rfl (Nat.le_of_ble_eq_true rfl) ⟨hc1, hs1⟩ dL_law_2278 (pp2 ?_)
    refine fw_iload C dL_law_2281 1 rfl ?_
    refine fw_icmp_eq C dL_law_2283 (tgt := 2288) rfl (fun _ => ?_) (fun c1 => absurd rfl c1)
    refine fw_iload C dL_law_2288 1 rfl ?_
    refine fw_if_ne C dL_law_2290 (tgt := 2305) rfl (fun _ => ?_) (fun c1 => absurd c1 hn)
    refine fw_goto C dL_law_2305 (tgt := 3079) rfl ?_
    exact fw_widen (Nat.add_le_add_left (by decide) _) (Nat.add_le_add_left (by decide) _) (fw_sub [2, 3, 4, 5, 6] rfl (k _ hI2))
  · have e2 : X12_bottleneck Yc = some (r, Ym) := e2
    refine fw_callH C hE (c_L_bottleneck hl (fun q hq => hq) e1 (fun n1 Y1 q => nomatch q)) (vx_cwSW 2 (cx_ts C) gL_law_L_bottleneck rfl rfl rfl (by decide +kernel) ⟨(Nat.le_of_ble_eq_true rfl), (Nat.le_of_ble_eq_true rfl)⟩) rfl (st := []) rfl (Nat.le_of_ble_eq_true rfl) ⟨hc1, hs1⟩ dL_law_2266 ?_
    refine fw_mem (Y' := s11 r Yc) rfl ?_
    refine fw_topi (v' := 0) rfl ?_
    have e4 : X12_bottleneck (s11 r Yc) = some (r, s11 r Ym) := s11_some (f := fun Z => X12_bottleneck Z) (fun _ Z => k_X12_bottleneck Z) _ e2
    refine fw_istore C dL_law_2269 (by decide) (L' := [(5, .int 0), (0, .ref b), (1, .ref (ad 0 0 0)), (2, .ref (ad 10 0 0)), (3, .ref (ad 11 0 0)), (4, .int i)]) rfl ?_
    refine fw_aload_n C dL_law_2271 rfl 3 rfl ?_
    refine fw_callVi C (ci := 10) (Cn := RX12) (Tc := TX12) (N := 19) (As := []) (c_X12_bottleneck (lawg (by decide)) e4) (cwV 0 (cx_ts C) gL_law_X12_bottleneck rfl rfl rfl (by decide +kernel) ⟨(Nat.le_of_ble_eq_true rfl), (Nat.le_of_ble_eq_true rfl)⟩) rfl (lawg (g := [(10, 0)]) (by decide) _ List.mem_cons_self) (of10_0 _) (ce10 T ad _ _) rfl (st := []) rfl (Nat.le_of_ble_eq_true rfl) ⟨hc1, hs1⟩ dL_law_2272 (ppw ?_)
    refine fw_istore C dL_law_2275 (by decide) (L' := [(6, .int r), (5, .int 0), (0, .ref b), (1, .ref (ad 0 0 0)), (2, .ref (ad 10 0 0)), (3, .ref (ad 11 0 0)), (4, .int i)]) rfl ?_
    refine fw_aload_n C dL_law_2277 rfl 4 rfl ?_
    refine fw_callVi C (ci := 10) (Cn := RX12) (Tc := TX12) (N := 19) (As := []) (c_X12_thrown (lawg (by decide)) (thr_s11 r e3)) (cwV 0 (cx_ts C) gL_law_X12_thrown rfl rfl rfl (by decide +kernel) ⟨(Nat.le_of_ble_eq_true rfl), (Nat.le_of_ble_eq_true rfl)⟩) rfl (lawg (g := [(10, 0)]) (by decide) _ List.mem_cons_self) (of10_0 _) (ce10 T ad _ _) rfl (st := []) rfl (Nat.le_of_ble_eq_true rfl) ⟨hc1, hs1⟩ dL_law_2278 (pp2 ?_)
    refine fw_iload C dL_law_2281 1 rfl ?_
    refine fw_icmp_eq C dL_law_2283 (tgt := 2288) rfl (fun _ => ?_) (fun c1 => absurd rfl c1)
    refine fw_iload C dL_law_2288 1 rfl ?_
    refine fw_if_ne C dL_law_2290 (tgt := 2305) rfl (fun c1 => absurd rfl c1) (fun _ => ?_)
    refine fw_aload_n C dL_law_2293 rfl 5 rfl ?_
    refine fw_iconst C dL_law_2294 (v := 0) rfl ?_
    refine fw_lald0 C (lawg (g := [(11, 0)]) (by decide) _ List.mem_cons_self) dL_law_2295 ?_
    refine fw_top (v' := .long (r : Int32).toInt64) (by rw [s11_11]) ?_
    refine fw_iload C dL_law_2296 0 rfl ?_
    refine fw_i2l C dL_law_2298 rfl ?_
    refine fw_lcmp C dL_law_2299 ?_
    refine fw_topi (v' := 0) (lg_self _) ?_
    refine fw_if_eq C dL_law_2300 (tgt := 2305) rfl (fun _ => ?_) (fun c1 => absurd rfl c1)
    refine fw_goto C dL_law_2305 (tgt := 3079) rfl ?_
    exact fw_widen (Nat.add_le_add_left (by decide) _) (Nat.add_le_add_left (by decide) _) (fw_sub [2, 3, 4, 5, 6] rfl (k _ (Inv_s11 _ hI2)))
set_option maxHeartbeats 4000000 in
theorem law_46 (X : LX p s m args meth c N0 T D ad l b Ln xs i cells slots) (hI : Inv Y) (k : ∀ Y' : Mem, Inv Y' → LO p l e s m args below meth c N0 T D ad b i (cells + 2) (slots + 12) Q Y' 3079) : LO p l e s m args below meth c N0 T D ad b i cells slots Q Y 2308 := by
  obtain ⟨C, hE, hl, hS, ⟨h1, h2, h3, h4, h5⟩, hc2, hs2⟩ := X
  have hc1 : cells + 1 ≤ 601024 := Nat.le_of_succ_le hc2
  have hs1 : slots + 6 ≤ 7293034 := Nat.le_trans (Nat.add_le_add_left (by decide) _) hs2
  have hc : cells ≤ 601024 := Nat.le_of_succ_le hc1
  have hs : slots ≤ 7293034 := Nat.le_trans (Nat.le_add_right _ _) hs1
  refine fw_aload_n C dL_law_2308 rfl 1 rfl ?_
  obtain ⟨r, Ym, e1, e2, hI2⟩ := q_saltNeeded hI
  refine fw_callVi C (ci := 9) (Cn := RX11) (Tc := TX11) (N := 11) (As := []) (c_X11_saltNeeded (lawg (by decide)) e1) (cwV 0 (cx_ts C) gL_law_X11_saltNeeded rfl rfl rfl (by decide +kernel) ⟨(Nat.le_of_ble_eq_true rfl), (Nat.le_of_ble_eq_true rfl)⟩) rfl (lawg (g := [(0, 0)]) (by decide) _ List.mem_cons_self) (of0_0 _) (ce0 T ad _ _) rfl (st := []) rfl (Nat.le_of_ble_eq_true rfl) ⟨hc, hs⟩ dL_law_2309 (pp2 ?_)
  refine fw_aload_n C dL_law_2312 rfl 2 rfl ?_
  refine fw_callVi C (ci := 10) (Cn := RX12) (Tc := TX12) (N := 19) (As := []) (c_X12_saltNeeded (lawg (by decide)) e2) (cwV 0 (cx_ts C) gL_law_X12_saltNeeded rfl rfl rfl (by decide +kernel) ⟨(Nat.le_of_ble_eq_true rfl), (Nat.le_of_ble_eq_true rfl)⟩) rfl (lawg (g := [(10, 0)]) (by decide) _ List.mem_cons_self) (of10_0 _) (ce10 T ad _ _) rfl (st := [.int r]) rfl (Nat.le_of_ble_eq_true rfl) ⟨hc, hs⟩ dL_law_2313 (ppw ?_)
  refine fw_icmp_eq C dL_law_2316 (tgt := 3079) rfl (fun _ => ?_) (fun c1 => absurd rfl c1)
  exact fw_widen (Nat.le_add_right _ _) (Nat.le_add_right _ _) (k _ hI2)
set_option maxHeartbeats 4000000 in
theorem law_47 (X : LX p s m args meth c N0 T D ad l b Ln xs i cells slots) (hI : Inv Y) (k : ∀ Y' : Mem, Inv Y' → LO p l e s m args below meth c N0 T D ad b i (cells + 2) (slots + 12) Q Y' 3079) : LO p l e s m args below meth c N0 T D ad b i cells slots Q Y 2321 := by
  obtain ⟨C, hE, hl, hS, ⟨h1, h2, h3, h4, h5⟩, hc2, hs2⟩ := X
  have hc1 : cells + 1 ≤ 601024 := Nat.le_of_succ_le hc2
  have hs1 : slots + 6 ≤ 7293034 := Nat.le_trans (Nat.add_le_add_left (by decide) _) hs2
  have hc : cells ≤ 601024 := Nat.le_of_succ_le hc1
  have hs : slots ≤ 7293034 := Nat.le_trans (Nat.le_add_right _ _) hs1
  refine fw_aload_n C dL_law_2321 rfl 1 rfl ?_
  obtain ⟨r, Ym, e1, e2, hI2⟩ := q_doneShare hI
  have ho := nn_doneShare hI e1
  refine fw_callVf C (ci := 9) (Cn := RX11) (Tc := TX11) (N := 11) (As := []) (c_X11_doneShare (lawg (by decide)) e1) (cwV 0 (cx_ts C) gL_law_X11_doneShare rfl rfl rfl (by decide +kernel) ⟨(Nat.le_of_ble_eq_true rfl), (Nat.le_of_ble_eq_true rfl)⟩) rfl (lawg (g := [(0, 0)]) (by decide) _ List.mem_cons_self) (of0_0 _) (ce0 T ad _ _) rfl (st := []) rfl (Nat.le_of_ble_eq_true rfl) ⟨hc, hs⟩ dL_law_2322 (pp2 ?_)
  refine fw_f2d C ho dL_law_2325 ?_
  refine fw_dstore C dL_law_2326 (by decide) (L' := [(5, .double (FP.f2d r)), (0, .ref b), (1, .ref (ad 0 0 0)), (2, .ref (ad 10 0 0)), (3, .ref (ad 11 0 0)), (4, .int i)]) rfl ?_
  refine fw_aload_n C dL_law_2328 rfl 3 rfl ?_
  refine fw_callVf C (ci := 10) (Cn := RX12) (Tc := TX12) (N := 19) (As := []) (c_X12_doneShare (lawg (by decide)) e2) (cwV 0 (cx_ts C) gL_law_X12_doneShare rfl rfl rfl (by decide +kernel) ⟨(Nat.le_of_ble_eq_true rfl), (Nat.le_of_ble_eq_true rfl)⟩) rfl (lawg (g := [(10, 0)]) (by decide) _ List.mem_cons_self) (of10_0 _) (ce10 T ad _ _) rfl (st := []) rfl (Nat.le_of_ble_eq_true rfl) ⟨hc, hs⟩ dL_law_2329 (ppw ?_)
  refine fw_f2d C ho dL_law_2332 ?_
  refine fw_dstore C dL_law_2333 (by decide) (L' := [(7, .double (FP.f2d r)), (5, .double (FP.f2d r)), (0, .ref b), (1, .ref (ad 0 0 0)), (2, .ref (ad 10 0 0)), (3, .ref (ad 11 0 0)), (4, .int i)]) rfl ?_
  refine fw_dload C dL_law_2335 1 rfl ?_
  refine fw_dload C dL_law_2337 0 rfl ?_
  refine fw_dcmp C dL_law_2339 ?_
  refine fw_topi (v' := 0) (dc_self ho _) ?_
  refine fw_if_eq C dL_law_2340 (tgt := 2361) rfl (fun _ => ?_) (fun c1 => absurd rfl c1)
  refine fw_goto C dL_law_2361 (tgt := 3079) rfl ?_
  exact fw_widen (Nat.le_add_right _ _) (Nat.le_add_right _ _) (fw_sub [2, 3, 4, 5, 6] rfl (k _ hI2))
end
