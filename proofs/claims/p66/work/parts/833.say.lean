/-! THE LAW's say: the text, told to the class in words of four letters -/
theorem wC_k10 {T : Nat → ClassId} {gr : List (Nat × Nat)} {ad : Nat → Nat → Nat → Nat} {Ym Yc : Mem} (h : ∀ k, k ≠ 10 → Ym k = Yc k) (hno : ∀ q ∈ gr, q.1 ≠ 10) : wC T gr ad Yc = wC T gr ad Ym := by
  unfold wC
  refine List.map_congr_left fun c hc => ?_
  have hne : c.1 ≠ 10 := by
    unfold keys at hc
    obtain ⟨q, q1, q2⟩ := List.mem_flatMap.mp hc
    obtain ⟨o, o1, o2⟩ := List.mem_map.mp q2
    rw [← o2]
    exact hno q q1
  rw [h c.1 hne]
theorem wC_x {T : Nat → ClassId} {gr : List (Nat × Nat)} {ad : Nat → Nat → Nat → Nat} (hg : (0, 0) ∈ gr) : ∃ qx : Nat, ∀ Y : Mem, ∃ fs : List Value, (wC T gr ad Y)[qx]? = some (ad 0 0 0, .inr (11, fs)) := by
  obtain ⟨qx, hx⟩ := wC_at (T := T) (ad := ad) (o := 0) hg (by decide)
  exact ⟨qx, fun Y => ⟨_, (hx Y).trans rfl⟩⟩
theorem wC_s {T : Nat → ClassId} {gr : List (Nat × Nat)} {ad : Nat → Nat → Nat → Nat} (hg : (15, 0) ∈ gr) : ∃ q5 : Nat, ∀ Y : Mem, (wC T gr ad Y)[q5]? = some (ad 15 0 0, .inr (0, [.ref (ad 16 0 0), .int 0, .int 0, .int 0])) := by
  obtain ⟨qx, hx⟩ := wC_at (T := T) (ad := ad) (o := 0) hg (by decide)
  exact ⟨qx, fun Y => (hx Y).trans rfl⟩
theorem wC_b {T : Nat → ClassId} {gr : List (Nat × Nat)} {ad : Nat → Nat → Nat → Nat} (hg : (16, 0) ∈ gr) : ∃ q6 : Nat, ∀ (Y : Mem) (F : Nat → Int32) (n : Nat), Y 16 0 0 = F → F 100000 = nI n → n ≤ 2000 → (wC T gr ad Y)[q6]? = some (ad 16 0 0, .inl (T 1, n, .inl F)) := by
  obtain ⟨qx, hx⟩ := wC_at (T := T) (ad := ad) (o := 0) hg (by decide)
  refine ⟨qx, fun Y F n h1 h2 h3 => ?_⟩
  have h4 : cell T ad 16 0 0 (Y 16 0 0) = .inl (T 1, (Y 16 0 0 100000).toNatClampNeg, .inl (Y 16 0 0)) := rfl
  rw [hx Y, h4, h1, h2, nI_clamp (by omega)]
/-- what has been said so far: m letters -/
def SY (Y0 : Mem) (c : Nat → Nat) (m : Nat) (Y : Mem) : Prop := Inv Y ∧ Y 5 0 0 1 = nI m ∧ (∀ j, j < m → Y 5 0 1 j = byt (c j)) ∧ (∀ k g o, ¬ (k = 5 ∧ g = 0) → k ≠ 10 → Y k g o = Y0 k g o) ∧ Y 10 0 1 = Y0 10 0 1
section
variable {p : Program} {l : Launch} {e : Env} {s : State} {m : MethodId} {below : List Frame} {meth : Method} {cd : Code} {N0 : Nat} {T : Nat → ClassId} {D : va_G} {gr : List (Nat × Nat)} {ad : Nat → Nat → Nat → Nat} {Y0 : Mem} {n : Nat} {c : Nat → Nat}
abbrev SQ_ (T : Nat → ClassId) (gr : List (Nat × Nat)) (ad : Nat → Nat → Nat → Nat) (Y0 : Mem) (c : Nat → Nat) (n : Nat) (x : Int32) (w1 : va_W) : Prop := x = 1 ∧ ∃ Y1, w1 = wC T gr ad Y1 ∧ SY Y0 c n Y1
theorem w_say (hG : ∀ q ∈ [(0, 0), (5, 0)], q ∈ gr) (hg15 : (15, 0) ∈ gr) (hg16 : (16, 0) ∈ gr) (hno : ∀ q ∈ gr, q.1 ≠ 10) (hn : n ≤ 600) (hF : Y0 16 0 0 100000 = nI n) (hc : ∀ i, c i < 128) (hb : ∀ j, gW n (Y0 16 0 0) j = nI (c j)) (hb2 : ∀ j, j < n → Y0 16 0 0 j = nI (c j))
    (C : Chw p s m [.ref (ad 0 0 0), .ref (ad 15 0 0)].toArray meth cd cL_say 3 wsL_say RL N0 T D ad) (hr : meth.sig.returnType = some .boolean) :
    ∀ (d q : Nat) (Y : Mem), n ≤ 20 * (q + d) → 20 * q ≤ n + 20 → SY Y0 c (20 * q) Y → HW p l e (Rhw 6 0 0) s m [.ref (ad 0 0 0), .ref (ad 15 0 0)].toArray below meth cd 3 N0 D 0 0 (MQ below (va_Qi (SQ_ T gr ad Y0 c n) (HwB N0 D) (fun q => N0 ≤ q)) [.ref (ad 0 0 0), .ref (ad 15 0 0)].toArray s 0 0 (fun q => N0 ≤ q)) (wC T gr ad Y) 8 [(2, .int (nI (20 * q))), (0, .ref (ad 0 0 0)), (1, .ref (ad 15 0 0))] [] := by
  obtain ⟨qx, hx⟩ := wC_x (T := T) (ad := ad) (hG _ (List.mem_cons_self))
  obtain ⟨q5, h5⟩ := wC_s (T := T) (ad := ad) hg15
  obtain ⟨q6, h6⟩ := wC_b (T := T) (ad := ad) hg16
  have hlet : ∀ j, j < n → ∃ x, x < 128 ∧ Y0 16 0 0 j = nI x := fun j hj => ⟨c j, hc j, hb2 j hj⟩
  have ihz : ∀ (q : Nat) (Y : Mem), n ≤ 20 * q → 20 * q ≤ n + 20 → SY Y0 c (20 * q) Y → HW p l e (Rhw 6 0 0) s m [.ref (ad 0 0 0), .ref (ad 15 0 0)].toArray below meth cd 3 N0 D 0 0 (MQ below (va_Qi (SQ_ T gr ad Y0 c n) (HwB N0 D) (fun q => N0 ≤ q)) [.ref (ad 0 0 0), .ref (ad 15 0 0)].toArray s 0 0 (fun q => N0 ≤ q)) (wC T gr ad Y) 8 [(2, .int (nI (20 * q))), (0, .ref (ad 0 0 0)), (1, .ref (ad 15 0 0))] [] := by
    intro q Y hq1 hq2 hS
    have e16 : Y 16 0 0 = Y0 16 0 0 := hS.2.2.2.1 16 0 0 (by omega) (by omega)
    have hB := h6 Y _ n e16 hF (by omega)
    refine hw_iload_n C dL_say_8 rfl 0 rfl ?_
    refine hw_aload_n C dL_say_9 rfl 2 rfl ?_
    refine hw_callWi C q5 (ci := 0) (Cn := RJ0) (Tc := TJ0) (N := 4) (As := []) (h_lenD (h5 Y) hB) (cwV 0 (hx_ts C) gL_say_J0_length_8abf5 rfl rfl rfl (by decide +kernel) ⟨Nat.le_of_ble_eq_true rfl, Nat.le_of_ble_eq_true rfl⟩) rfl (h5 Y) rfl (st := [.int (nI (20 * q))]) rfl (Nat.le_of_ble_eq_true rfl) ⟨Nat.le_refl _, Nat.le_refl _⟩ dL_say_10 (fun r w1 h1 => ?_)
    obtain ⟨rfl, rfl⟩ := h1
    refine hw_icmp_ge C dL_say_13 (tgt := 63) rfl (fun _ => ?_) (fun h9 => absurd (nI_le (by omega) (by omega)) h9)
    refine hw_aload_n C dL_say_63 rfl 1 rfl ?_
    refine hw_aload_n C dL_say_64 rfl 2 rfl ?_
    refine hw_callWi C q5 (ci := 0) (Cn := RJ0) (Tc := TJ0) (N := 4) (As := []) (h_lenD (h5 Y) hB) (cwV 0 (hx_ts C) gL_say_J0_length_8abf5 rfl rfl rfl (by decide +kernel) ⟨Nat.le_of_ble_eq_true rfl, Nat.le_of_ble_eq_true rfl⟩) rfl (h5 Y) rfl (st := [.ref (ad 0 0 0)]) rfl (Nat.le_of_ble_eq_true rfl) ⟨Nat.le_refl _, Nat.le_refl _⟩ dL_say_65 (fun r w1 h1 => ?_)
    obtain ⟨rfl, rfl⟩ := h1
    obtain ⟨Ym, t1, t2, t3, t4⟩ := a_truncate hS.1 hS.2.1 (t := n) (by omega) (by omega)
    obtain ⟨fs, hfs⟩ := hx Y
    refine hw_callWi C qx (ci := 11) (Cn := RX11) (Tc := TX11) (N := 11) (As := [.int (nI n)]) (CI_HI (c_X11_truncate hG t1)) (cwV 1 (hx_ts C) gL_say_X11_truncate rfl rfl rfl (by decide +kernel) ⟨Nat.le_of_ble_eq_true rfl, Nat.le_of_ble_eq_true rfl⟩) rfl hfs rfl (st := []) rfl (Nat.le_of_ble_eq_true rfl) ⟨Nat.le_refl _, Nat.le_refl _⟩ dL_say_68 (fun r w1 h1 => ?_)
    obtain ⟨Y1, e1, rfl⟩ := h1
    obtain ⟨rfl, rfl⟩ := Prod.mk.inj e1
    have e16' : (up Y 5 0 0 1 (nI n)) 16 0 0 = Y0 16 0 0 := by rw [up_eq, upR_o (by omega)]; exact e16
    have hB' := h6 _ _ n e16' hF (by omega)
    refine hw_aload_n C dL_say_71 rfl 2 rfl ?_
    refine hw_callWi C q5 (ci := 0) (Cn := RJ0) (Tc := TJ0) (N := 4) (As := []) (h_lenD (h5 _) hB') (cwV 0 (hx_ts C) gL_say_J0_length_8abf5 rfl rfl rfl (by decide +kernel) ⟨Nat.le_of_ble_eq_true rfl, Nat.le_of_ble_eq_true rfl⟩) rfl (h5 _) rfl (st := [.int (nI n)]) rfl (Nat.le_of_ble_eq_true rfl) ⟨Nat.le_refl _, Nat.le_refl _⟩ dL_say_72 (fun r w1 h1 => ?_)
    obtain ⟨rfl, rfl⟩ := h1
    refine hw_icmp_ne C dL_say_75 (tgt := 82) rfl (fun h9 => absurd rfl h9) (fun _ => ?_)
    refine hw_iconst C dL_say_78 (v := 1) rfl ?_
    refine hw_goto C dL_say_79 (tgt := 83) rfl ?_
    refine hw_zret C hr (Or.inr rfl) (wC T gr ad (up Y 5 0 0 1 (nI n))) ⟨rfl, Ym, wC_k10 t2 hno, t3, ?_, fun j hj => ?_, fun k g o h1 h2 => ?_, ?_⟩ (fun t h1 h2 => ⟨h1, h2⟩) dL_say_83
    · rw [t2 5 (by omega), up_at, pk_us]
    · rw [t2 5 (by omega), up_eq, upR_o (by omega)]; exact hS.2.2.1 j (by omega)
    · rw [t2 k h2, up_eq, upR_o (by omega)]; exact hS.2.2.2.1 k g o h1 h2
    · rw [t4]; exact hS.2.2.2.2
  intro d
  induction d with
  | zero =>
    intro q Y hq1 hq2 hS
    exact ihz q Y (by omega) hq2 hS
  | succ d ih =>
    intro q Y hq1 hq2 hS
    have e16 : Y 16 0 0 = Y0 16 0 0 := hS.2.2.2.1 16 0 0 (by omega) (by omega)
    by_cases hlt : 20 * q < n
    · have hB := h6 Y _ n e16 hF (by omega)
      refine hw_iload_n C dL_say_8 rfl 0 rfl ?_
      refine hw_aload_n C dL_say_9 rfl 2 rfl ?_
      refine hw_callWi C q5 (ci := 0) (Cn := RJ0) (Tc := TJ0) (N := 4) (As := []) (h_lenD (h5 Y) hB) (cwV 0 (hx_ts C) gL_say_J0_length_8abf5 rfl rfl rfl (by decide +kernel) ⟨Nat.le_of_ble_eq_true rfl, Nat.le_of_ble_eq_true rfl⟩) rfl (h5 Y) rfl (st := [.int (nI (20 * q))]) rfl (Nat.le_of_ble_eq_true rfl) ⟨Nat.le_refl _, Nat.le_refl _⟩ dL_say_10 (fun r w1 h1 => ?_)
      obtain ⟨rfl, rfl⟩ := h1
      refine hw_icmp_ge C dL_say_13 (tgt := 63) rfl (fun h9 => absurd h9 (nI_ge hlt (by omega))) (fun _ => ?_)
      refine hw_aload_n C dL_say_16 rfl 1 rfl ?_
      refine hw_aload_n C dL_say_17 rfl 2 rfl ?_
      refine hw_iload_n C dL_say_18 rfl 0 rfl ?_
      refine hw_callSi C (As := [.ref (ad 15 0 0), .int (nI (20 * q))]) (h_word (h5 Y) hB (by omega) (by omega) hlet) (va_cwS 2 (hx_ts C) gL_say_L_word rfl rfl rfl (by decide +kernel) ⟨Nat.le_of_ble_eq_true rfl, Nat.le_of_ble_eq_true rfl⟩) rfl (st := [.ref (ad 0 0 0)]) rfl (Nat.le_of_ble_eq_true rfl) ⟨Nat.le_refl _, Nat.le_refl _⟩ dL_say_19 (fun r w1 h1 => ?_)
      obtain ⟨rfl, rfl⟩ := h1
      refine hw_topi (v' := nI (W4 c (20 * q))) (wd_W4 hc hb _) ?_
      refine hw_aload_n C dL_say_22 rfl 2 rfl ?_
      refine hw_iload_n C dL_say_23 rfl 0 rfl ?_
      refine hw_iconst C dL_say_24 (v := nI 4) (by decide) ?_
      refine hw_iadd C dL_say_25 ?_
      refine hw_topi (v' := nI (20 * q + 4)) (nI_add _ _) ?_
      refine hw_callSi C (As := [.ref (ad 15 0 0), .int (nI (20 * q + 4))]) (h_word (h5 Y) hB (by omega) (by omega) hlet) (va_cwS 2 (hx_ts C) gL_say_L_word rfl rfl rfl (by decide +kernel) ⟨Nat.le_of_ble_eq_true rfl, Nat.le_of_ble_eq_true rfl⟩) rfl (st := [.int (nI (W4 c (20 * q))), .ref (ad 0 0 0)]) rfl (Nat.le_of_ble_eq_true rfl) ⟨Nat.le_refl _, Nat.le_refl _⟩ dL_say_26 (fun r w1 h1 => ?_)
      obtain ⟨rfl, rfl⟩ := h1
      refine hw_topi (v' := nI (W4 c (20 * q + 4))) (wd_W4 hc hb _) ?_
      refine hw_aload_n C dL_say_29 rfl 2 rfl ?_
      refine hw_iload_n C dL_say_30 rfl 0 rfl ?_
      refine hw_bipush C dL_say_31 (v := nI 8) (by decide) ?_
      refine hw_iadd C dL_say_33 ?_
      refine hw_topi (v' := nI (20 * q + 8)) (nI_add _ _) ?_
      refine hw_callSi C (As := [.ref (ad 15 0 0), .int (nI (20 * q + 8))]) (h_word (h5 Y) hB (by omega) (by omega) hlet) (va_cwS 2 (hx_ts C) gL_say_L_word rfl rfl rfl (by decide +kernel) ⟨Nat.le_of_ble_eq_true rfl, Nat.le_of_ble_eq_true rfl⟩) rfl (st := [.int (nI (W4 c (20 * q + 4))), .int (nI (W4 c (20 * q))), .ref (ad 0 0 0)]) rfl (Nat.le_of_ble_eq_true rfl) ⟨Nat.le_refl _, Nat.le_refl _⟩ dL_say_34 (fun r w1 h1 => ?_)
      obtain ⟨rfl, rfl⟩ := h1
      refine hw_topi (v' := nI (W4 c (20 * q + 8))) (wd_W4 hc hb _) ?_
      refine hw_aload_n C dL_say_37 rfl 2 rfl ?_
      refine hw_iload_n C dL_say_38 rfl 0 rfl ?_
      refine hw_bipush C dL_say_39 (v := nI 12) (by decide) ?_
      refine hw_iadd C dL_say_41 ?_
      refine hw_topi (v' := nI (20 * q + 12)) (nI_add _ _) ?_
      refine hw_callSi C (As := [.ref (ad 15 0 0), .int (nI (20 * q + 12))]) (h_word (h5 Y) hB (by omega) (by omega) hlet) (va_cwS 2 (hx_ts C) gL_say_L_word rfl rfl rfl (by decide +kernel) ⟨Nat.le_of_ble_eq_true rfl, Nat.le_of_ble_eq_true rfl⟩) rfl (st := [.int (nI (W4 c (20 * q + 8))), .int (nI (W4 c (20 * q + 4))), .int (nI (W4 c (20 * q))), .ref (ad 0 0 0)]) rfl (Nat.le_of_ble_eq_true rfl) ⟨Nat.le_refl _, Nat.le_refl _⟩ dL_say_42 (fun r w1 h1 => ?_)
      obtain ⟨rfl, rfl⟩ := h1
      refine hw_topi (v' := nI (W4 c (20 * q + 12))) (wd_W4 hc hb _) ?_
      refine hw_aload_n C dL_say_45 rfl 2 rfl ?_
      refine hw_iload_n C dL_say_46 rfl 0 rfl ?_
      refine hw_bipush C dL_say_47 (v := nI 16) (by decide) ?_
      refine hw_iadd C dL_say_49 ?_
      refine hw_topi (v' := nI (20 * q + 16)) (nI_add _ _) ?_
      refine hw_callSi C (As := [.ref (ad 15 0 0), .int (nI (20 * q + 16))]) (h_word (h5 Y) hB (by omega) (by omega) hlet) (va_cwS 2 (hx_ts C) gL_say_L_word rfl rfl rfl (by decide +kernel) ⟨Nat.le_of_ble_eq_true rfl, Nat.le_of_ble_eq_true rfl⟩) rfl (st := [.int (nI (W4 c (20 * q + 12))), .int (nI (W4 c (20 * q + 8))), .int (nI (W4 c (20 * q + 4))), .int (nI (W4 c (20 * q))), .ref (ad 0 0 0)]) rfl (Nat.le_of_ble_eq_true rfl) ⟨Nat.le_refl _, Nat.le_refl _⟩ dL_say_50 (fun r w1 h1 => ?_)
      obtain ⟨rfl, rfl⟩ := h1
      refine hw_topi (v' := nI (W4 c (20 * q + 16))) (wd_W4 hc hb _) ?_
      obtain ⟨Yc, Ym, t1, t2, t3, t4, t5, t6, t7, t8⟩ := a_append hS.1 hS.2.1 (by omega) hc (20 * q)
      obtain ⟨fs, hfs⟩ := hx Y
      refine hw_callWi C qx (ci := 11) (Cn := RX11) (Tc := TX11) (N := 11) (As := [.int (nI (W4 c (20 * q))), .int (nI (W4 c (20 * q + 4))), .int (nI (W4 c (20 * q + 8))), .int (nI (W4 c (20 * q + 12))), .int (nI (W4 c (20 * q + 16)))]) (CI_HI (c_X11_append hG t1)) (cwV 5 (hx_ts C) gL_say_X11_append rfl rfl rfl (by decide +kernel) ⟨Nat.le_of_ble_eq_true rfl, Nat.le_of_ble_eq_true rfl⟩) rfl hfs rfl (st := []) rfl (Nat.le_of_ble_eq_true rfl) ⟨Nat.le_refl _, Nat.le_refl _⟩ dL_say_53 (fun r w1 h1 => ?_)
      obtain ⟨Y1, e1, rfl⟩ := h1
      obtain ⟨rfl, rfl⟩ := Prod.mk.inj e1
      refine hw_world (wC_k10 t2 hno) ?_
      refine hw_pop C dL_say_56 rfl ?_
      refine hw_iinc C dL_say_57 (kk := 0) rfl (v := nI (20 * (q + 1))) (nI_add _ 20) (by decide) rfl ?_
      refine hw_goto C dL_say_60 (tgt := 8) rfl ?_
      refine ih (q + 1) Ym (by omega) (by omega) ⟨t3, ?_, fun j hj => ?_, fun k g o h1 h2 => ?_, ?_⟩
      · rw [t2 5 (by omega), t4]
        rfl
      · rw [t2 5 (by omega)]
        by_cases hj2 : j < 20 * q
        · rw [t5 j hj2]; exact hS.2.2.1 j hj2
        · obtain ⟨i, rfl⟩ : ∃ i, j = 20 * q + i := ⟨j - 20 * q, by omega⟩
          exact t6 i (by omega)
      · rw [t2 k h2, t7 k g o h1]; exact hS.2.2.2.1 k g o h1 h2
      · rw [t8]; exact hS.2.2.2.2
    · exact ihz q Y (by omega) hq2 hS
end
