/-! say, as a contract -/
theorem h_say {l : Launch} {N0 : Nat} {T : Nat → ClassId} {D : va_G} {gr : List (Nat × Nat)} {ad : Nat → Nat → Nat → Nat} {Y0 : Mem} {n n0 : Nat} {c : Nat → Nat} (hI : Inv Y0) (hn0 : Y0 5 0 0 1 = nI n0) (h700 : n0 ≤ 700) (hG : ∀ q ∈ [(0, 0), (5, 0)], q ∈ gr) (hg15 : (15, 0) ∈ gr) (hg16 : (16, 0) ∈ gr) (hno : ∀ q ∈ gr, q.1 ≠ 10) (hn : n ≤ 600) (hF : Y0 16 0 0 100000 = nI n) (hc : ∀ i, c i < 128) (hb : ∀ j, gW n (Y0 16 0 0) j = nI (c j)) :
    HwI l yL_say wsL_say (Rhw 6 0 0) N0 T D ad (wC T gr ad Y0) [.ref (ad 0 0 0), .ref (ad 15 0 0)] (SQ_ T gr ad Y0 c n) 0 0 := by
  refine hw_body 0 0 (by decide +kernel) rfl (Nat.le_of_ble_eq_true rfl) (fun p e s m below meth cd C _ hr => ?_)
  obtain ⟨qx, hx⟩ := wC_x (T := T) (ad := ad) (hG _ (List.mem_cons_self))
  obtain ⟨fs, hfs⟩ := hx Y0
  obtain ⟨Ym, t1, t2, t3, t4⟩ := a_truncate hI hn0 (t := 0) (Nat.zero_le _) h700
  refine hw_aload_n C dL_say_0 rfl 0 rfl ?_
  refine hw_iconst C dL_say_1 (v := nI 0) (by decide) ?_
  refine hw_callWi C qx (ci := 11) (Cn := RX11) (Tc := TX11) (N := 11) (As := [.int (nI 0)]) (CI_HI (c_X11_truncate hG t1)) (cwV 1 (hx_ts C) gL_say_X11_truncate rfl rfl rfl (by decide +kernel) ⟨Nat.le_of_ble_eq_true rfl, Nat.le_of_ble_eq_true rfl⟩) rfl hfs rfl (st := []) rfl (Nat.le_of_ble_eq_true rfl) ⟨Nat.le_refl _, Nat.le_refl _⟩ dL_say_2 (fun r w1 h1 => ?_)
  obtain ⟨Y1, e1, rfl⟩ := h1
  obtain ⟨rfl, rfl⟩ := Prod.mk.inj e1
  refine hw_world (wC_k10 t2 hno) ?_
  refine hw_pop C dL_say_5 rfl ?_
  refine hw_iconst C dL_say_6 (v := nI (20 * 0)) (by decide) ?_
  refine hw_istore_n C dL_say_7 rfl (by decide) rfl ?_
  refine w_say hG hg15 hg16 hno hn hF hc hb (fun j hj => by rw [← hb j]; unfold gW; rw [if_pos hj]) C hr 31 0 Ym (by omega) (by omega) ⟨t3, ?_, fun j hj => by omega, fun k g o h1 h2 => ?_, t4⟩
  · rw [t2 5 (by omega), up_at, pk_us]
  · rw [t2 k h2, up_eq, upR_o (by omega)]
