section
/-! A SCRIPT is carried out -/
def mArg (c s v : Nat) (x y : Int32) : Prop := (hasN c → x = nI s) ∧ (hasV c → if c = 6 then y = nI v else x = nI v)
theorem saltA_ok (Y : Mem) {v : Nat} (hv : v < 1000) : X11_isSaltAmount Y (nI v) = some (bI (decide (1 ≤ v ∧ v ≤ 9))) := by
  unfold X11_isSaltAmount
  by_cases e : v = 0
  · subst e; rw [if_pos (show nI 0 = 0 from rfl)]; rfl
  · have h9 : decide ((-9 : Int32) ≤ nI v ∧ nI v ≤ 9) = decide (1 ≤ v ∧ v ≤ 9) := by
      have l9 : nI v ≤ 9 ↔ v ≤ 9 := nI_leI (b := 9) (by omega) (by omega)
      have l0 : (-9 : Int32) ≤ nI v := by
        rw [Int32.le_iff_toInt_le, nI_toInt (by omega)]
        have : (-9 : Int32).toInt = -9 := rfl
        omega
      exact decide_eq_decide.mpr ⟨fun q => ⟨by omega, l9.mp q.2⟩, fun q => ⟨l0, l9.mpr q.2⟩⟩
    rw [if_neg (show ¬ nI v = 0 from by show ¬ nI v = nI 0; rw [nI_eq (by omega) (by omega)]; exact e), within_ok, bd1_e, h9]
    cases decide (1 ≤ v ∧ v ≤ 9)
    · rw [bI_f, if_pos rfl]
    · rw [bI_t, if_neg (by decide)]
theorem rngM (Z : Mem) {v lo hi : Nat} (hv : v < 1000) (hl : lo < 1000) (hh : hi < 1000) : X12_in Z (nI v) (nI lo) (nI hi) = some (bI (decide (lo ≤ v ∧ v ≤ hi))) := by
  rw [in_ok, rng_dec hv hl hh]
theorem rngC (Y : Mem) {v lo hi : Nat} (hv : v < 1000) (hl : lo < 1000) (hh : hi < 1000) : X11_isWithin Y (nI v) (nI lo) (nI hi) = some (bI (decide (lo ≤ v ∧ v ≤ hi))) := by
  rw [within_ok, rng_dec hv hl hh]
/-- one command of a script -/
def Step (Y Yp : Mem) (f : Nat → Int32) (c s v : Nat) (st nu : Int32) : Prop := ∃ ok : Bool, X11_isAllowed Yp c st nu = some (bI ok) ∧ (∀ Z x y, Z 10 0 1 = f → mArg c s v x y → X12_canDo Z (nI c) x y = some (bI ok)) ∧ (ok = true → ∃ Yc f', X11_carryOut Yp c st nu = some Yc ∧ Ch Yp Yc ∧ KS (Yc 2 0) (Y 10 0 1) f' ∧ (∀ x, 382 ≤ x → f' x = f x) ∧ ∀ Z x y, Z 10 0 1 = f → mArg c s v x y → ∃ Z', X12_doIt Z (nI c) x y = some Z' ∧ QN Z Z' ∧ Z' 10 0 1 = f')
theorem if_bI {α : Type} (b : Bool) (x y : α) : (if bI b = 1 then x else y) = if b = true then x else y := by cases b <;> rfl
theorem st_pass {Y Yp : Mem} {f : Nat → Int32} (hI : Inv Y) (ck : CK Y Yp f) {s v : Nat} (hv : v < 1000) (st : Int32) : Step Y Yp f 0 s v st (nI v) := by
  obtain ⟨B, b1, b2, k, bu, hn⟩ := CK_KR hI ck
  have e4 : Yp 2 0 0 1 = f 4 := k.2.2.1.1.2.1
  have g4 : inb 4 4202 = true := inb_n (j := 4) (by omega) (by omega)
  have i4 : ix 4 = 4 := ix_n (j := 4) (by omega)
  have hx : ∀ x y, mArg 0 s v x y → x = nI v := fun x y q => by
    have := q.2 (Or.inl rfl)
    rwa [if_neg (by omega)] at this
  refine ⟨decide (1 ≤ v ∧ v ≤ 200) && !decide ((9999 : Int32) < f 4 + nI v), ?_, fun Z x y hz hm => ?_, fun hok => ?_⟩
  · unfold X11_isAllowed X11_isPassLength X11_fitsClock
    rw [gd_t (by decide), gd_t (by decide), show sSw (ix (Int32.ofNat 0)) = 1 from by decide, if_pos rfl, show X11_isWithin Yp (nI v) 1 200 = _ from rngC Yp (lo := 1) (hi := 200) hv (by omega) (by omega), bd1_e, gd_t (bI_01 _), bd1_e, e4]
    cases decide (1 ≤ v ∧ v ≤ 200)
    · rw [bI_f, if_pos rfl]; rfl
    · rw [bI_t, if_neg (by decide)]
      by_cases q : (9999 : Int32) < f 4 + nI v
      · rw [if_pos q, bd1_e, if_pos rfl, decide_eq_true q]; rfl
      · rw [if_neg q, bd1_e, if_neg (by decide), decide_eq_false q]; rfl
  · have := hx x y hm
    subst this
    unfold X12_canDo
    rw [if_pos (show nI 0 = 0 from rfl), show X12_in Z (nI v) 1 200 = _ from rngM Z (lo := 1) (hi := 200) hv (by omega) (by omega), bd1_e]
    cases decide (1 ≤ v ∧ v ≤ 200)
    · rw [bI_f, if_pos rfl]; rfl
    · rw [bI_t, if_neg (by decide), gd_t g4, i4, hz]
      by_cases q : (9999 : Int32) < f 4 + nI v
      · rw [if_pos q, decide_eq_true q]; rfl
      · rw [if_neg q, decide_eq_false q]; rfl
  · rw [Bool.and_eq_true, decide_eq_true_eq, Bool.not_eq_true', decide_eq_false_iff_not] at hok
    obtain ⟨Yc, c1, c2, c3, c4, c5⟩ := op_pass hI ck (t := v) hok.1.2 hok.2
    refine ⟨Yc, _, ?_, c2, c3, c4, fun Z x y hz hm => ?_⟩
    · unfold X11_carryOut
      rw [gd_t (by decide), gd_t (by decide), show sSw (ix (Int32.ofNat 0)) = 1 from by decide, if_pos rfl, c1, bd2_e]
    · have := hx x y hm
      subst this
      obtain ⟨Z', m1, m2, m3⟩ := c5 Z hz
      refine ⟨Z', ?_, m3, m2⟩
      unfold X12_doIt
      rw [if_pos (show nI 0 = 0 from rfl), m1, bd2_e]
theorem st_salt {Y Yp : Mem} {f : Nat → Int32} (hI : Inv Y) (ck : CK Y Yp f) {s v : Nat} (hv : v < 1000) (st : Int32) : Step Y Yp f 1 s v st (nI v) := by
  obtain ⟨B, b1, b2, k, bu, hn⟩ := CK_KR hI ck
  have e5 : Yp 2 0 0 2 = f 5 := k.2.2.1.1.2.2.1
  have e6 : Yp 2 0 0 5 = f 6 := k.2.2.1.1.2.2.2.2
  have g6 : inb 6 4202 = true := inb_n (j := 6) (by omega) (by omega)
  have i6 : ix 6 = 6 := ix_n (j := 6) (by omega)
  have g5 : inb 5 4202 = true := inb_n (j := 5) (by omega) (by omega)
  have i5 : ix 5 = 5 := ix_n (j := 5) (by omega)
  have hx : ∀ x y, mArg 1 s v x y → x = nI v := fun x y q => by
    have := q.2 (Or.inr (Or.inl rfl))
    rwa [if_neg (by omega)] at this
  refine ⟨decide (1 ≤ v ∧ v ≤ 9) && (f 6 == 0), ?_, fun Z x y hz hm => ?_, fun hok => ?_⟩
  · unfold X11_isAllowed
    rw [gd_t (by decide), gd_t (by decide), show sSw (ix (Int32.ofNat 1)) = 2 from by decide, if_neg (by decide), if_pos rfl, saltA_ok Yp hv, bd1_e, e6]
    cases decide (1 ≤ v ∧ v ≤ 9)
    · rw [bI_f, if_pos rfl]; rfl
    · rw [bI_t, if_neg (by decide)]
      by_cases q : f 6 = 0
      · rw [if_pos q, q]; rfl
      · rw [if_neg q, beq_eq_false_iff_ne.mpr q]; rfl
  · have := hx x y hm
    subst this
    unfold X12_canDo
    rw [if_neg (show ¬ nI 1 = 0 from by decide), if_pos (show nI 1 = 1 from rfl), show X12_in Z (nI v) 1 9 = _ from rngM Z (lo := 1) (hi := 9) hv (by omega) (by omega), bd1_e]
    cases decide (1 ≤ v ∧ v ≤ 9)
    · rw [bI_f, if_pos rfl]; rfl
    · rw [bI_t, if_neg (by decide), gd_t g6, i6, hz]
      by_cases q : f 6 = 0
      · rw [if_pos q, q]; rfl
      · rw [if_neg q, beq_eq_false_iff_ne.mpr q]; rfl
  · refine ⟨wS Yp 0 (uo (Yp 2 0) 0 2 (Yp 2 0 0 2 + nI v)), upd f 5 (f 5 + nI v), ?_, Ch_wS _ _, ?_, hi_u f _ (by omega), fun Z x y hz hm => ?_⟩
    · unfold X11_carryOut
      rw [gd_t (by decide), gd_t (by decide), show sSw (ix (Int32.ofNat 1)) = 2 from by decide, if_neg (by decide), if_pos rfl, up_self, lt_e]
    · rw [wS_2, e5]; exact KS_salt _ ck.2.2.2
    · have := hx x y hm
      subst this
      refine ⟨upR Z 10 0 1 (upd f 5 (f 5 + nI v)), ?_, QN_upR _ _, upR_at _ _ _ _ _⟩
      unfold X12_doIt
      rw [if_neg (show ¬ nI 1 = 0 from by decide), if_pos (show nI 1 = 1 from rfl), gd_t g5, i5, up_eq, hz, lt_e]
theorem st_water {Y Yp : Mem} {f : Nat → Int32} (hI : Inv Y) (ck : CK Y Yp f) {s v : Nat} (hv : v < 1000) (st : Int32) : Step Y Yp f 2 s v st (nI v) := by
  obtain ⟨B, b1, b2, k, bu, hn⟩ := CK_KR hI ck
  have e5 : Yp 2 0 0 2 = f 5 := k.2.2.1.1.2.2.1
  have e6 : Yp 2 0 0 5 = f 6 := k.2.2.1.1.2.2.2.2
  have g6 : inb 6 4202 = true := inb_n (j := 6) (by omega) (by omega)
  have i6 : ix 6 = 6 := ix_n (j := 6) (by omega)
  have g5 : inb 5 4202 = true := inb_n (j := 5) (by omega) (by omega)
  have i5 : ix 5 = 5 := ix_n (j := 5) (by omega)
  have hx : ∀ x y, mArg 2 s v x y → x = nI v := fun x y q => by
    have := q.2 (Or.inr (Or.inr (Or.inl rfl)))
    rwa [if_neg (by omega)] at this
  refine ⟨decide (1 ≤ v ∧ v ≤ 9) && (f 6 == 0), ?_, fun Z x y hz hm => ?_, fun hok => ?_⟩
  · unfold X11_isAllowed
    rw [gd_t (by decide), gd_t (by decide), show sSw (ix (Int32.ofNat 2)) = 3 from by decide, if_neg (by decide), if_neg (by decide), if_pos rfl, saltA_ok Yp hv, bd1_e, e6]
    cases decide (1 ≤ v ∧ v ≤ 9)
    · rw [bI_f, if_pos rfl]; rfl
    · rw [bI_t, if_neg (by decide)]
      by_cases q : f 6 = 0
      · rw [if_pos q, q]; rfl
      · rw [if_neg q, beq_eq_false_iff_ne.mpr q]; rfl
  · have := hx x y hm
    subst this
    unfold X12_canDo
    rw [if_neg (show ¬ nI 2 = 0 from by decide), if_neg (show ¬ nI 2 = 1 from by decide), if_pos (show nI 2 = 2 from rfl), show X12_in Z (nI v) 1 9 = _ from rngM Z (lo := 1) (hi := 9) hv (by omega) (by omega), bd1_e]
    cases decide (1 ≤ v ∧ v ≤ 9)
    · rw [bI_f, if_pos rfl]; rfl
    · rw [bI_t, if_neg (by decide), gd_t g6, i6, hz]
      by_cases q : f 6 = 0
      · rw [if_pos q, q]; rfl
      · rw [if_neg q, beq_eq_false_iff_ne.mpr q]; rfl
  · refine ⟨wS Yp 0 (uo (Yp 2 0) 0 2 (Yp 2 0 0 2 - nI v)), upd f 5 (f 5 - nI v), ?_, Ch_wS _ _, ?_, hi_u f _ (by omega), fun Z x y hz hm => ?_⟩
    · unfold X11_carryOut
      rw [gd_t (by decide), gd_t (by decide), show sSw (ix (Int32.ofNat 2)) = 3 from by decide, if_neg (by decide), if_neg (by decide), if_pos rfl, up_self, lt_e]
    · rw [wS_2, e5]; exact KS_salt _ ck.2.2.2
    · have := hx x y hm
      subst this
      refine ⟨upR Z 10 0 1 (upd f 5 (f 5 - nI v)), ?_, QN_upR _ _, upR_at _ _ _ _ _⟩
      unfold X12_doIt
      rw [if_neg (show ¬ nI 2 = 0 from by decide), if_neg (show ¬ nI 2 = 1 from by decide), if_pos (show nI 2 = 2 from rfl), gd_t g5, i5, up_eq, hz, lt_e]
theorem st_stop {Y Yp : Mem} {f : Nat → Int32} (hI : Inv Y) (ck : CK Y Yp f) {s v : Nat} (hs : s < nS f) (nu : Int32) : Step Y Yp f 3 s v (nI s) nu := by
  obtain ⟨B, b1, b2, k, bu, hn⟩ := CK_KR hI ck
  have h14 := k.1.2.1
  have hb : bt (Yp 2 0 0 6) s = (fld f s 17 == 1) := by rw [(k.2.2.1.2.1 s (by omega)).1, stB_in hs]
  have hx : ∀ x y, mArg 3 s v x y → x = nI s := fun x y q => q.1 (Or.inl rfl)
  refine ⟨(fld f s 17 == 1), ?_, fun Z x y hz hm => ?_, fun hok => ?_⟩
  · unfold X11_isAllowed
    rw [gd_t (by decide), gd_t (by decide), show sSw (ix (Int32.ofNat 3)) = 4 from by decide, if_neg (by decide), if_neg (by decide), if_neg (by decide), if_pos rfl, contains_ok Yp _ (by omega), bd1_e, gd_t (bI_01 _), hb]
  · have := hx x y hm
    subst this
    have ho : X12_of Z (nI s) 17 = some (fld f s 17) := by
      have := of_ok Z (s := s) (w := 17) (by omega)
      rw [hz] at this
      exact this
    unfold X12_canDo
    rw [if_neg (show ¬ nI 3 = 0 from by decide), if_neg (show ¬ nI 3 = 1 from by decide), if_neg (show ¬ nI 3 = 2 from by decide), if_pos (show nI 3 = 3 from rfl), ho, bd1_e]
    by_cases q : fld f s 17 = 1
    · rw [if_pos q, q]; rfl
    · rw [if_neg q, beq_eq_false_iff_ne.mpr q]; rfl
  · obtain ⟨Yc, c1, c2, c3, c4, c5⟩ := op_halt hI ck hs (beq_iff_eq.mp hok)
    refine ⟨Yc, _, ?_, c2, c3, c4, fun Z x y hz hm => ?_⟩
    · unfold X11_carryOut
      rw [gd_t (by decide), gd_t (by decide), show sSw (ix (Int32.ofNat 3)) = 4 from by decide, if_neg (by decide), if_neg (by decide), if_neg (by decide), if_pos rfl, c1, bd2_e]
    · have := hx x y hm
      subst this
      refine ⟨_, ?_, QN_upR Z (mHalt f s), upR_at _ _ _ _ _⟩
      unfold X12_doIt
      rw [if_neg (show ¬ nI 3 = 0 from by decide), if_neg (show ¬ nI 3 = 1 from by decide), if_neg (show ¬ nI 3 = 2 from by decide), if_pos (show nI 3 = 3 from rfl), c5 Z hz, bd2_e]
theorem st_redo {Y Yp : Mem} {f : Nat → Int32} (hI : Inv Y) (ck : CK Y Yp f) {s v : Nat} (hs : s < nS f) (nu : Int32) : Step Y Yp f 4 s v (nI s) nu := by
  obtain ⟨B, b1, b2, k, bu, hn⟩ := CK_KR hI ck
  have hx : ∀ x y, mArg 4 s v x y → x = nI s := fun x y q => q.1 (Or.inr (Or.inl rfl))
  refine ⟨canRedo f s, ?_, fun Z x y hz hm => ?_, fun hok => ?_⟩
  · unfold X11_isAllowed
    rw [gd_t (by decide), gd_t (by decide), show sSw (ix (Int32.ofNat 4)) = 5 from by decide, if_neg (by decide), if_neg (by decide), if_neg (by decide), if_neg (by decide), if_pos rfl, redo_ok k hs, bd1_e, gd_t (bI_01 _)]
  · have := hx x y hm
    subst this
    have hr := canRedo_ok Z (s := s) (by rw [hz]; exact k.1) (by rw [hz]; exact hs)
    unfold X12_canDo
    rw [if_neg (show ¬ nI 4 = 0 from by decide), if_neg (show ¬ nI 4 = 1 from by decide), if_neg (show ¬ nI 4 = 2 from by decide), if_neg (show ¬ nI 4 = 3 from by decide), if_pos (show nI 4 = 4 from rfl), hr, bd1_e, gd_t (bI_01 _), hz]
  · have h17 : fld f s 17 = 2 := by
      unfold canRedo at hok
      rw [Bool.and_eq_true, Bool.and_eq_true, beq_iff_eq] at hok
      exact hok.1.1
    obtain ⟨Yc, c1, c2, c3, c4, c5⟩ := op_disc hI ck hs h17
    refine ⟨Yc, _, ?_, c2, c3, c4, fun Z x y hz hm => ?_⟩
    · unfold X11_carryOut
      rw [gd_t (by decide), gd_t (by decide), show sSw (ix (Int32.ofNat 4)) = 5 from by decide, if_neg (by decide), if_neg (by decide), if_neg (by decide), if_neg (by decide), if_pos rfl, c1, bd2_e]
    · have := hx x y hm
      subst this
      refine ⟨_, ?_, QN_upR Z (mDisc f s), upR_at _ _ _ _ _⟩
      unfold X12_doIt
      rw [if_neg (show ¬ nI 4 = 0 from by decide), if_neg (show ¬ nI 4 = 1 from by decide), if_neg (show ¬ nI 4 = 2 from by decide), if_neg (show ¬ nI 4 = 3 from by decide), if_pos (show nI 4 = 4 from rfl), c5 Z hz, bd2_e]
theorem st_cooks {Y Yp : Mem} {f : Nat → Int32} (ck : CK Y Yp f) {s v : Nat} (hv : v < 1000) (st : Int32) : Step Y Yp f 5 s v st (nI v) := by
  have g0 : inb 0 4202 = true := inb_n (j := 0) (by omega) (by omega)
  have i0 : ix 0 = 0 := ix_n (j := 0) (by omega)
  have hx : ∀ x y, mArg 5 s v x y → x = nI v := fun x y q => by
    have := q.2 (Or.inr (Or.inr (Or.inr (Or.inl rfl))))
    rwa [if_neg (by omega)] at this
  refine ⟨decide (1 ≤ v ∧ v ≤ 4), ?_, fun Z x y hz hm => ?_, fun hok => ?_⟩
  · unfold X11_isAllowed X11_isCookCount
    rw [gd_t (by decide), gd_t (by decide), show sSw (ix (Int32.ofNat 5)) = 6 from by decide, if_neg (by decide), if_neg (by decide), if_neg (by decide), if_neg (by decide), if_neg (by decide), if_pos rfl, show X11_isWithin Yp (nI v) 1 4 = _ from rngC Yp (lo := 1) (hi := 4) hv (by omega) (by omega), bd1_e, gd_t (bI_01 _), bd1_e, gd_t (bI_01 _)]
  · have := hx x y hm
    subst this
    unfold X12_canDo
    rw [if_neg (show ¬ nI 5 = 0 from by decide), if_neg (show ¬ nI 5 = 1 from by decide), if_neg (show ¬ nI 5 = 2 from by decide), if_neg (show ¬ nI 5 = 3 from by decide), if_neg (show ¬ nI 5 = 4 from by decide), if_pos (show nI 5 = 5 from rfl), show X12_in Z (nI v) 1 4 = _ from rngM Z (lo := 1) (hi := 4) hv (by omega) (by omega), bd1_e, gd_t (bI_01 _)]
  · refine ⟨wS Yp 0 (uo (Yp 2 0) 0 0 (nI v)), upd f 0 (nI v), ?_, Ch_wS _ _, ?_, hi_u f _ (by omega), fun Z x y hz hm => ?_⟩
    · unfold X11_carryOut
      rw [gd_t (by decide), gd_t (by decide), show sSw (ix (Int32.ofNat 5)) = 6 from by decide, if_neg (by decide), if_neg (by decide), if_neg (by decide), if_neg (by decide), if_neg (by decide), if_pos rfl, up_self, lt_e]
    · rw [wS_2]; exact KS_cooks _ ck.2.2.2
    · have := hx x y hm
      subst this
      refine ⟨upR Z 10 0 1 (upd f 0 (nI v)), ?_, QN_upR _ _, upR_at _ _ _ _ _⟩
      unfold X12_doIt
      rw [if_neg (show ¬ nI 5 = 0 from by decide), if_neg (show ¬ nI 5 = 1 from by decide), if_neg (show ¬ nI 5 = 2 from by decide), if_neg (show ¬ nI 5 = 3 from by decide), if_neg (show ¬ nI 5 = 4 from by decide), if_pos (show nI 5 = 5 from rfl), gd_t g0, i0, up_eq, hz, lt_e]
theorem st_time {Y Yp : Mem} {f : Nat → Int32} (hI : Inv Y) (ck : CK Y Yp f) {s v : Nat} (hs : s < nS f) (hv : v < 1000) : Step Y Yp f 6 s v (nI s) (nI v) := by
  obtain ⟨B, b1, b2, k, bu, hn⟩ := CK_KR hI ck
  have h14 := k.1.2.1
  have hx : ∀ x y, mArg 6 s v x y → x = nI s ∧ y = nI v := fun x y q => by
    have := q.2 (Or.inr (Or.inr (Or.inr (Or.inr rfl))))
    rw [if_pos rfl] at this
    exact ⟨q.1 (Or.inr (Or.inr rfl)), this⟩
  refine ⟨decide (1 ≤ v ∧ v ≤ 60), ?_, fun Z x y hz hm => ?_, fun hok => ?_⟩
  · unfold X11_isAllowed X11_isDuration
    rw [gd_t (by decide), gd_t (by decide), show sSw (ix (Int32.ofNat 6)) = 7 from by decide, if_neg (by decide), if_neg (by decide), if_neg (by decide), if_neg (by decide), if_neg (by decide), if_neg (by decide), if_pos rfl, show X11_isWithin Yp (nI v) 1 60 = _ from rngC Yp (lo := 1) (hi := 60) hv (by omega) (by omega), bd1_e, gd_t (bI_01 _), bd1_e, gd_t (bI_01 _)]
  · obtain ⟨rfl, rfl⟩ := hx x y hm
    unfold X12_canDo
    rw [if_neg (show ¬ nI 6 = 0 from by decide), if_neg (show ¬ nI 6 = 1 from by decide), if_neg (show ¬ nI 6 = 2 from by decide), if_neg (show ¬ nI 6 = 3 from by decide), if_neg (show ¬ nI 6 = 4 from by decide), if_neg (show ¬ nI 6 = 5 from by decide), if_pos (show nI 6 = 6 from rfl), show X12_in Z (nI v) 1 60 = _ from rngM Z (lo := 1) (hi := 60) hv (by omega) (by omega), bd1_e, gd_t (bI_01 _)]
  · have hv2 := of_decide_eq_true hok
    refine ⟨wS Yp 0 (uo (Yp 2 0) 1 s (nI v)), upd f (46 + s * 24 + 7) (nI v), ?_, Ch_wS _ _, ?_, hi_u f _ (by omega), fun Z x y hz hm => ?_⟩
    · unfold X11_carryOut
      rw [gd_t (by decide), gd_t (by decide), show sSw (ix (Int32.ofNat 6)) = 7 from by decide, if_neg (by decide), if_neg (by decide), if_neg (by decide), if_neg (by decide), if_neg (by decide), if_neg (by decide), if_pos rfl, gdi (show s < 14 by omega), ix_n (by omega), up_self, lt_e]
    · rw [wS_2]; exact KS_dur hv2 ck.2.2.2
    · obtain ⟨rfl, rfl⟩ := hx x y hm
      refine ⟨upR Z 10 0 1 (upd f (46 + s * 24 + 7) (nI v)), ?_, QN_upR _ _, upR_at _ _ _ _ _⟩
      have hse : X12_set Z (nI s) 7 (nI v) = some (upR Z 10 0 1 (upd f (46 + s * 24 + 7) (nI v))) := by
        have := set_ok Z (s := s) (w := 7) (nI v) (by omega)
        rw [hz] at this
        exact this
      unfold X12_doIt
      rw [if_neg (show ¬ nI 6 = 0 from by decide), if_neg (show ¬ nI 6 = 1 from by decide), if_neg (show ¬ nI 6 = 2 from by decide), if_neg (show ¬ nI 6 = 3 from by decide), if_neg (show ¬ nI 6 = 4 from by decide), if_neg (show ¬ nI 6 = 5 from by decide), if_pos (show nI 6 = 6 from rfl), hse, bd1_e]
theorem st_serve {Y Yp : Mem} {f : Nat → Int32} (hI : Inv Y) (ck : CK Y Yp f) {s v : Nat} (st nu : Int32) : Step Y Yp f 7 s v st nu := by
  obtain ⟨B, b1, b2, k, bu, hn⟩ := CK_KR hI ck
  have g6 : inb 6 4202 = true := inb_n (j := 6) (by omega) (by omega)
  have i6 : ix 6 = 6 := ix_n (j := 6) (by omega)
  have hsv := srvC_ok Yp k.1 k.2.1 k.2.2.1.2.1 k.2.2.1.1.2.2.1 k.2.2.1.1.2.2.2.2 k.2.2.2.2
  refine ⟨(srv f == 0), ?_, fun Z x y hz hm => ?_, fun hok => ?_⟩
  · unfold X11_isAllowed
    rw [gd_t (by decide), gd_t (by decide), show sSw (ix (Int32.ofNat 7)) = 0 from by decide, if_neg (by decide), if_neg (by decide), if_neg (by decide), if_neg (by decide), if_neg (by decide), if_neg (by decide), if_neg (by decide), hsv, bd1_e]
    by_cases q : srv f = 0
    · rw [if_pos q, q]; rfl
    · rw [if_neg q, beq_eq_false_iff_ne.mpr q]; rfl
  · have hr := srv_ok Z (by rw [hz]; exact k.1)
    unfold X12_canDo
    rw [if_neg (show ¬ nI 7 = 0 from by decide), if_neg (show ¬ nI 7 = 1 from by decide), if_neg (show ¬ nI 7 = 2 from by decide), if_neg (show ¬ nI 7 = 3 from by decide), if_neg (show ¬ nI 7 = 4 from by decide), if_neg (show ¬ nI 7 = 5 from by decide), if_neg (show ¬ nI 7 = 6 from by decide), hr, bd1_e, hz]
    by_cases q : srv f = 0
    · rw [if_pos q, q]; rfl
    · rw [if_neg q, beq_eq_false_iff_ne.mpr q]; rfl
  · refine ⟨wS Yp 0 (uo (Yp 2 0) 0 5 1), upd f 6 1, ?_, Ch_wS _ _, ?_, hi_u f _ (by omega), fun Z x y hz hm => ?_⟩
    · unfold X11_carryOut
      rw [gd_t (by decide), gd_t (by decide), show sSw (ix (Int32.ofNat 7)) = 0 from by decide, if_neg (by decide), if_neg (by decide), if_neg (by decide), if_neg (by decide), if_neg (by decide), if_neg (by decide), if_neg (by decide), up_self, lt_e]
    · rw [wS_2]; exact KS_serve ck.2.2.2
    · refine ⟨upR Z 10 0 1 (upd f 6 1), ?_, QN_upR _ _, upR_at _ _ _ _ _⟩
      unfold X12_doIt
      rw [if_neg (show ¬ nI 7 = 0 from by decide), if_neg (show ¬ nI 7 = 1 from by decide), if_neg (show ¬ nI 7 = 2 from by decide), if_neg (show ¬ nI 7 = 3 from by decide), if_neg (show ¬ nI 7 = 4 from by decide), if_neg (show ¬ nI 7 = 5 from by decide), if_neg (show ¬ nI 7 = 6 from by decide), gd_t g6, i6, up_eq, hz, lt_e]
theorem st_all {Y Yp : Mem} {f : Nat → Int32} (hI : Inv Y) (ck : CK Y Yp f) {c s v : Nat} {st nu : Int32} (hc : c < 8) (hN : hasN c → s < nS f ∧ st = nI s) (hV : hasV c → v < 1000 ∧ nu = nI v) : Step Y Yp f c s v st nu := by
  rcases (by omega : c = 0 ∨ c = 1 ∨ c = 2 ∨ c = 3 ∨ c = 4 ∨ c = 5 ∨ c = 6 ∨ c = 7) with rfl | rfl | rfl | rfl | rfl | rfl | rfl | rfl
  · obtain ⟨v1, rfl⟩ := hV (Or.inl rfl)
    exact st_pass hI ck v1 st
  · obtain ⟨v1, rfl⟩ := hV (Or.inr (Or.inl rfl))
    exact st_salt hI ck v1 st
  · obtain ⟨v1, rfl⟩ := hV (Or.inr (Or.inr (Or.inl rfl)))
    exact st_water hI ck v1 st
  · obtain ⟨v1, rfl⟩ := hN (Or.inl rfl)
    exact st_stop hI ck v1 nu
  · obtain ⟨v1, rfl⟩ := hN (Or.inr (Or.inl rfl))
    exact st_redo hI ck v1 nu
  · obtain ⟨v1, rfl⟩ := hV (Or.inr (Or.inr (Or.inr (Or.inl rfl))))
    exact st_cooks ck v1 st
  · obtain ⟨v1, rfl⟩ := hV (Or.inr (Or.inr (Or.inr (Or.inr rfl))))
    obtain ⟨s1, rfl⟩ := hN (Or.inr (Or.inr rfl))
    exact st_time hI ck s1 v1
  · exact st_serve hI ck st nu
theorem run_b {Y : Mem} (hI : Inv Y) {J ns : Nat} {a1 a2 a3 : Nat → Int32} (hJ : J ≤ 30) (hns : ns = nS (Y 10 0 1)) {d0 : Nat → Int32} (hr : ∀ i, i < J → CRa ns a1 a2 a3 d0 i) : ∀ d i Yp f fu, i + d = J → d < fu → CK Y Yp f → Yp 8 0 1 = a1 → Yp 8 0 2 = a2 → Yp 8 0 3 = a3 → Yp 8 0 0 4 = nI J → ∃ r Yc f', X11_runScript_b45 fu Yp (nI i) = some (.inr (r, Yc)) ∧ Ch Yp Yc ∧ KS (Yc 2 0) (Y 10 0 1) f' ∧ (∀ x, 382 ≤ x → f' x = f x) ∧ ∀ fv Z, d < fv → (∀ i, i < J → CRa ns a1 a2 a3 (Z 10 0 9) i) → Z 10 0 1 = f → ∃ Z', X12_runScript_b42 fv Z (nI i) (nI J) = some (r, Z') ∧ QN Z Z' ∧ Z' 10 0 1 = f' := by
  intro d
  induction d with
  | zero =>
    intro i Yp f fu hi fu_h ck e1 e2 e3 e4
    obtain ⟨fu, rfl⟩ := fuel_s fu_h
    refine ⟨nI J, Yp, f, ?_, Ch_refl _, ck.2.2.2, fun _ _ => rfl, fun fv Z fv_h _ hz => ?_⟩
    · unfold X11_runScript_b45
      rw [e4, if_pos (by rw [nI_leI (by omega) (by omega)]; omega)]
    · obtain ⟨fv, rfl⟩ := fuel_s fv_h
      refine ⟨Z, ?_, fun _ _ _ _ => rfl, hz⟩
      unfold X12_runScript_b42
      rw [if_pos (by rw [nI_leI (by omega) (by omega)]; omega), show i = J by omega]
  | succ d ih =>
    intro i Yp f fu hi fu_h ck e1 e2 e3 e4
    obtain ⟨fu, rfl⟩ := fuel_s fu_h
    obtain ⟨c, s, v, q1, q2, q3, q4, q5⟩ := hr i (by omega)
    have hn : nS f = ns := by rw [hns]; exact re_nS ck.2.2.2.1
    obtain ⟨ok, p1, p2, p3⟩ := st_all (c := c) (s := s) (v := v) (st := a2 i) (nu := a3 i) hI ck q1 (fun w => ⟨by rw [hn]; exact (q4 w).1, (q4 w).2.1⟩) (fun w => ⟨(q5 w).1, (q5 w).2.1⟩)
    have hC : X11_runScript_b45 (fu + 1) Yp (nI i) = bd1 (X11_isAllowed Yp c (a2 i) (a3 i)) fun r26 => if r26 = 0 then some (.inr (nI i, Yp)) else bd1 (X11_carryOut Yp c (a2 i) (a3 i)) fun Y31 => X11_runScript_b45 fu Y31 (nI (i + 1)) := by
      rw [X11_runScript_b45.eq_2, e4, if_neg (by rw [nI_leI (by omega) (by omega)]; omega), gdi (show i < 30 by omega), ix_n (by omega), e1, e2, e3, q2, gd_t (decide_eq_true (show ¬ nI (c + 1) = 0 from by show ¬ nI (c + 1) = nI 0; rw [nI_lit (by omega) (by omega)]; omega)), nI_clamp (by omega), lt_e, lt_e, lt_e, nI_1, show c + 1 - 1 = c by omega]
    have hM : ∀ (fv : Nat) (Z : Mem), (∀ i, i < J → CRa ns a1 a2 a3 (Z 10 0 9) i) → ∃ x y, mArg c s v x y ∧ X12_runScript_b42 (fv + 1) Z (nI i) (nI J) = bd1 (X12_canDo Z (nI c) x y) fun r21 => if r21 = 0 then some (nI i, Z) else bd1 (X12_doIt Z (nI c) x y) fun Y26 => X12_runScript_b42 fv Y26 (nI (i + 1)) (nI J) := by
      intro fv Z hz
      obtain ⟨c', s', v', z1, z2, z3, z4, z5⟩ := hz i (by omega)
      have ec : c' = c := by
        rw [q2, nI_lit (by omega) (by omega)] at z2
        omega
      subst ec
      refine ⟨Z 10 0 9 (i * 3 + 1), Z 10 0 9 (i * 3 + 2), ⟨fun w => ?_, fun w => ?_⟩, ?_⟩
      · obtain ⟨w1, w2, w3⟩ := q4 w
        obtain ⟨x1, x2, x3⟩ := z4 w
        rw [x3, ← w2, ← x2]
      · obtain ⟨w1, w2, w3⟩ := q5 w
        obtain ⟨x1, x2, x3⟩ := z5 w
        split
        · rename_i h6
          rw [if_pos h6] at x3
          rw [x3, ← w2, ← x2]
        · rename_i h6
          rw [if_neg h6] at x3
          rw [x3, ← w2, ← x2]
      · have j3 : nI i * 3 = nI (i * 3) := by show nI i * nI 3 = _; rw [pk_mul]
        have j31 : nI (i * 3) + 1 = nI (i * 3 + 1) := nI_add _ 1
        have j32 : nI (i * 3) + 2 = nI (i * 3 + 2) := nI_add _ 2
        rw [X12_runScript_b42.eq_2, if_neg (by rw [nI_leI (by omega) (by omega)]; omega), j3, j31, j32, gdi (show i * 3 < 90 by omega), gdi (show i * 3 + 1 < 90 by omega), gdi (show i * 3 + 2 < 90 by omega), ix_n (by omega), ix_n (by omega), ix_n (by omega), z3, nI_1]
    cases ok with
    | false =>
      refine ⟨nI i, Yp, f, by rw [hC, p1, bd1_e, bI_f, if_pos rfl], Ch_refl _, ck.2.2.2, fun _ _ => rfl, fun fv Z fv_h hz hf => ?_⟩
      obtain ⟨fv, rfl⟩ := fuel_s fv_h
      obtain ⟨x, y, m1, m2⟩ := hM fv Z hz
      exact ⟨Z, by rw [m2, p2 Z x y hf m1, bd1_e, bI_f, if_pos rfl], fun _ _ _ _ => rfl, hf⟩
    | true =>
      obtain ⟨Y1, f1, o1, o2, o3, o4, o5⟩ := p3 rfl
      have e8 : Y1 8 = Yp 8 := o2.1 8 (by omega) (by omega)
      obtain ⟨r, Yc, f', r1, r2, r3, r4, r5⟩ := ih (i + 1) Y1 f1 fu (by omega) (by omega) (CK_Ch ck o2 o3) (by rw [e8]; exact e1) (by rw [e8]; exact e2) (by rw [e8]; exact e3) (by rw [e8]; exact e4)
      refine ⟨r, Yc, f', by rw [hC, p1, bd1_e, bI_t, if_neg (by decide), o1, bd1_e, r1], Ch_trans o2 r2, r3, fun x hx => (r4 x hx).trans (o4 x hx), fun fv Z fv_h hz hf => ?_⟩
      obtain ⟨fv, rfl⟩ := fuel_s fv_h
      obtain ⟨x, y, m1, m2⟩ := hM fv Z hz
      obtain ⟨Z1, w1, w2, w3⟩ := o5 Z x y hf m1
      have e9 : Z1 10 0 9 = Z 10 0 9 := w2 10 0 9 (by omega)
      obtain ⟨Z2, t1, t2, t3⟩ := r5 fv Z1 (by omega) (by rw [e9]; exact hz) w3
      exact ⟨Z2, by rw [m2, p2 Z x y hf m1, bd1_e, bI_t, if_neg (by decide), w1, bd1_e, t1], QN_trans w2 t2, t3⟩
end
