/-! THE DECOMPILED METHODS -/
noncomputable def J0_coder_7d493 (Y : Mem) (w0 : Nat) : Option (Int32) :=
  gd (decide (w0 < 16)) <| some 0
noncomputable def J0_length_8abf5 (Y : Mem) (w0 : Nat) : Option (Int32) :=
  gd (decide (w0 < 16)) <| bd1 (J0_coder_7d493 Y w0) <| fun r2 => some (((Int32.ofNat (sByt w0).length)) >>> (r2 &&& 31))
noncomputable def J0_isLatin1_aae02 (Y : Mem) (w0 : Nat) : Option (Int32) :=
  gd (decide (w0 < 16)) <| some 1
noncomputable def J3_checkIndex_8e157 (Y : Mem) (a0 : Int32) (a1 : Int32) : Option (Int32) :=
  if a0 < 0 then (none) else (if a0 < a1 then (some a0) else (none))
noncomputable def J0_checkIndex_df160 (Y : Mem) (a0 : Int32) (a1 : Int32) : Option (Unit) :=
  bd1 (J3_checkIndex_8e157 Y a0 a1) <| fun r1 => some ()
noncomputable def J1_charAt_3b067 (Y : Mem) (w0 : Nat) (a1 : Int32) : Option (Int32) :=
  gd (decide (w0 < 16)) <| bd1 (J0_checkIndex_df160 Y a1 ((Int32.ofNat (sByt w0).length))) <| fun _ => gd (inb a1 (sByt w0).length) <| gd (decide ((i2c_ (((sByt w0).getD (ix a1) 0) &&& 255)).toUInt32.toUInt16.toUInt32.toInt32 = i2c_ (((sByt w0).getD (ix a1) 0) &&& 255))) <| some (i2c_ (((sByt w0).getD (ix a1) 0) &&& 255))
noncomputable def J0_charAt_5068e (Y : Mem) (w0 : Nat) (a1 : Int32) : Option (Int32) :=
  gd (decide (w0 < 16)) <| bd1 (J0_isLatin1_aae02 Y w0) <| fun r2 => if r2 = 0 then (none) else (bd1 (J1_charAt_3b067 Y w0 a1) <| fun r5 => gd (decide ((r5).toUInt32.toUInt16.toUInt32.toInt32 = r5)) <| some r5)
noncomputable def X10_isWord_b28 (Y : Mem) (w1 : Nat) : Nat → Int32 → Option (Int32)
  | 0, _ => none
  | n+1, l2 =>
  gd (decide (w1 < 16)) <| bd1 (J0_length_8abf5 Y w1) <| fun r7 => if r7 ≤ l2 then (some 1) else (gd (inb ((Y 6 0 0 2) + l2) (tcap (0))) <| bd1 (J0_charAt_5068e Y w1 l2) <| fun r11 => if (Y 5 0 1 (ix ((Y 6 0 0 2) + l2))) = r11 then (X10_isWord_b28 Y w1 n (l2 + 1)) else (some 0))
noncomputable def X10_isWord (Y : Mem) (w1 : Nat) : Option (Int32) :=
  if (Y 6 0 0 1) = 1 then (gd (decide (w1 < 16)) <| bd1 (J0_length_8abf5 Y w1) <| fun r3 => if ((Y 6 0 0 3) - (Y 6 0 0 2)) = r3 then (X10_isWord_b28 Y w1 FU 0) else (some 0)) else (some 0)
noncomputable def X10_isGap_b12 (Y : Mem) (a0 : Int32)  : Option (Int32) :=
  some 1
noncomputable def X10_isGap (Y : Mem) (a0 : Int32) : Option (Int32) :=
  if a0 = 32 then (X10_isGap_b12 Y a0) else (if a0 = 10 then (X10_isGap_b12 Y a0) else (some 0))
noncomputable def X11_isWithin (Y : Mem) (a0 : Int32) (a1 : Int32) (a2 : Int32) : Option (Int32) :=
  if a0 < a1 then (some 0) else (if a2 < a0 then (some 0) else (some 1))
noncomputable def X10_passRun_b0 (a1 : Int32) (a2 : Int32) : Nat → Mem → Option (Mem)
  | 0, _ => none
  | n+1, Y =>
  if (Y 5 0 0 1) ≤ (Y 6 0 0 3) then (some Y) else (gd (inb (Y 6 0 0 3) (tcap (0))) <| if (Y 5 0 1 (ix (Y 6 0 0 3))) < a1 then (some Y) else (if a2 < (Y 5 0 1 (ix (Y 6 0 0 3))) then (some Y) else (lt_ (up Y 6 0 0 3 ((Y 6 0 0 3) + 1)) <| fun Y5 => X10_passRun_b0 a1 a2 n Y5)))
noncomputable def X10_passRun (Y : Mem) (a1 : Int32) (a2 : Int32) : Option (Mem) :=
  X10_passRun_b0 a1 a2 FU Y
noncomputable def X10_advance_b217  (Y : Mem) (s0 : Int32) : Option (Mem) :=
  lt_ (up Y 6 0 0 1 s0) <| fun Y15 => lt_ (up Y15 6 0 0 3 ((Y15 6 0 0 2) + 1)) <| fun Y17 => some Y17
noncomputable def X10_advance_b188  (Y : Mem) (s0 : Int32) : Option (Mem) :=
  lt_ (up Y 6 0 0 1 s0) <| fun Y23 => some Y23
noncomputable def X10_advance_b133  (Y : Mem) (s0 : Int32) : Option (Mem) :=
  lt_ (up Y 6 0 0 1 s0) <| fun Y29 => some Y29
noncomputable def X10_advance_b53  (Y : Mem) : Option (Mem) :=
  lt_ (up Y 6 0 0 3 (Y 6 0 0 2)) <| fun Y4 => if (Y4 6 0 0 2) < (Y4 5 0 0 1) then (gd (inb (Y4 6 0 0 2) (tcap (0))) <| bd1 (X11_isWithin Y4 (Y4 5 0 1 (ix (Y4 6 0 0 2))) 97 122) <| fun r8 => if r8 = 0 then (bd1 (X11_isWithin Y4 (Y4 5 0 1 (ix (Y4 6 0 0 2))) 48 57) <| fun r11 => if r11 = 0 then (if (Y4 5 0 1 (ix (Y4 6 0 0 2))) = 59 then (X10_advance_b217 Y4 3) else (X10_advance_b217 Y4 4)) else (bd1 (X10_passRun Y4 48 57) <| fun Y21 => if 3 < ((Y21 6 0 0 3) - (Y21 6 0 0 2)) then (X10_advance_b188 Y21 4) else (X10_advance_b188 Y21 2))) else (bd1 (X10_passRun Y4 97 122) <| fun Y27 => if 8 < ((Y27 6 0 0 3) - (Y27 6 0 0 2)) then (X10_advance_b133 Y27 4) else (X10_advance_b133 Y27 1))) else (lt_ (up Y4 6 0 0 1 0) <| fun Y31 => some Y31)
noncomputable def X10_advance_b8  : Nat → Mem → Option (Mem)
  | 0, _ => none
  | n+1, Y =>
  if (Y 5 0 0 1) ≤ (Y 6 0 0 2) then (X10_advance_b53 Y) else (gd (inb (Y 6 0 0 2) (tcap (0))) <| bd1 (X10_isGap Y (Y 5 0 1 (ix (Y 6 0 0 2)))) <| fun r34 => if r34 = 0 then (X10_advance_b53 Y) else (lt_ (up Y 6 0 0 2 ((Y 6 0 0 2) + 1)) <| fun Y37 => X10_advance_b8 n Y37))
noncomputable def X10_advance (Y : Mem) : Option (Mem) :=
  lt_ (up Y 6 0 0 2 (Y 6 0 0 3)) <| fun Y1 => X10_advance_b8 FU Y1
noncomputable def X10_accept (Y : Mem) (w1 : Nat) : Option (Int32 × Mem) :=
  bd1 (X10_isWord Y w1) <| fun r1 => if r1 = 0 then (gd (decide (r1 = 0 ∨ r1 = 1)) <| some (r1, Y)) else (bd1 (X10_advance Y) <| fun Y7 => gd (decide (r1 = 0 ∨ r1 = 1)) <| some (r1, Y7))
noncomputable def X10_begin (Y : Mem) : Option (Mem) :=
  lt_ (up Y 6 0 0 4 0) <| fun Y1 => lt_ (up Y1 6 0 0 5 ((-1))) <| fun Y3 => lt_ (up Y3 6 0 0 3 0) <| fun Y5 => bd1 (X10_advance Y5) <| fun Y9 => some Y9
noncomputable def X10_fail (Y : Mem) (a1 : Int32) : Option (Mem) :=
  if (Y 6 0 0 1) = 5 then (some Y) else (lt_ (up Y 6 0 0 4 a1) <| fun Y2 => lt_ (up Y2 6 0 0 5 (Y2 6 0 0 2)) <| fun Y4 => lt_ (up Y4 6 0 0 1 5) <| fun Y6 => some Y6)
noncomputable def X4_matches_b3 (Y : Mem) (g0 : Nat) (a1 : Int32) (g2 : Nat) (a3 : Int32) : Nat → Int32 → Option (Int32)
  | 0, _ => none
  | n+1, l4 =>
  gd (inb a1 (ncap (g0))) <| if (Y 4 g0 2 (ix a1)) ≤ l4 then (some 1) else (gd (inb l4 6) <| gd (inb (a3 + l4) (tcap (g2))) <| if (Y 4 g0 (10+ix a1) (ix l4)) = (Y 5 g2 1 (ix (a3 + l4))) then (X4_matches_b3 Y g0 a1 g2 a3 n (l4 + 1)) else (some 0))
noncomputable def X4_matches (Y : Mem) (g0 : Nat) (a1 : Int32) (g2 : Nat) (a3 : Int32) : Option (Int32) :=
  X4_matches_b3 Y g0 a1 g2 a3 FU 0
noncomputable def X4_indexOf_b39 (Y : Mem) (g0 : Nat) (g1 : Nat) (a2 : Int32) (a3 : Int32) (k3 : Int32 → Option (Int32)) (l4 : Int32) : Option (Int32) :=
  k3 (l4 + 1)
noncomputable def X4_indexOf_b3 (Y : Mem) (g0 : Nat) (g1 : Nat) (a2 : Int32) (a3 : Int32) : Nat → Int32 → Option (Int32)
  | 0, _ => none
  | n+1, l4 =>
  if (Y 4 g0 0 2) ≤ l4 then (some ((-1))) else (gd (inb l4 (ncap (g0))) <| if (Y 4 g0 2 (ix l4)) = (a3 - a2) then (bd1 (X4_matches Y g0 l4 g1 a2) <| fun r4 => if r4 = 0 then (X4_indexOf_b39 Y g0 g1 a2 a3 (X4_indexOf_b3 Y g0 g1 a2 a3 n) l4) else (some l4)) else (X4_indexOf_b39 Y g0 g1 a2 a3 (X4_indexOf_b3 Y g0 g1 a2 a3 n) l4))
noncomputable def X4_indexOf (Y : Mem) (g0 : Nat) (g1 : Nat) (a2 : Int32) (a3 : Int32) : Option (Int32) :=
  X4_indexOf_b3 Y g0 g1 a2 a3 FU 0
noncomputable def X4_isFull (Y : Mem) (g0 : Nat) : Option (Int32) :=
  if (Y 4 g0 0 2) < ((Int32.ofNat (ncap (g0)))) then (some 0) else (some 1)
noncomputable def X4_prepare_b31 (g0 : Nat) (g1 : Nat) (a2 : Int32) (a3 : Int32) : Nat → Mem → Int32 → Option (Mem)
  | 0, _, _ => none
  | n+1, Y, l4 =>
  if (a3 - a2) ≤ l4 then (some Y) else (gd (inb (Y 4 g0 0 2) (ncap (g0))) <| gd (inb (a2 + l4) (tcap (g1))) <| gd (inb l4 6) <| lt_ (up Y 4 g0 (10+ix (Y 4 g0 0 2)) (ix l4) (vp_nar .byte (Y 5 g1 1 (ix (a2 + l4))))) <| fun Y12 => X4_prepare_b31 g0 g1 a2 a3 n Y12 (l4 + 1))
noncomputable def X4_prepare (Y : Mem) (g0 : Nat) (g1 : Nat) (a2 : Int32) (a3 : Int32) : Option (Mem) :=
  bd1 (X4_isFull Y g0) <| fun r1 => if r1 = 0 then (if (a3 - a2) ≤ 6 then (gd (inb (Y 4 g0 0 2) (ncap (g0))) <| lt_ (up Y 4 g0 2 (ix (Y 4 g0 0 2)) (a3 - a2)) <| fun Y6 => X4_prepare_b31 g0 g1 a2 a3 FU Y6 0) else (some Y)) else (some Y)
noncomputable def X10_expectNewName_b48 (g1 : Nat) (Y : Mem) : Option (Mem) :=
  bd1 (X10_fail Y 3) <| fun Y5 => some Y5
noncomputable def X10_expectNewName (Y : Mem) (g1 : Nat) : Option (Mem) :=
  if (Y 6 0 0 1) = 1 then (if 6 < ((Y 6 0 0 3) - (Y 6 0 0 2)) then (X10_expectNewName_b48 g1 Y) else (bd1 (X4_indexOf Y g1 0 (Y 6 0 0 2) (Y 6 0 0 3)) <| fun r6 => if r6 = ((-1)) then (bd1 (X4_prepare Y g1 0 (Y 6 0 0 2) (Y 6 0 0 3)) <| fun Y11 => bd1 (X10_advance Y11) <| fun Y14 => some Y14) else (X10_expectNewName_b48 g1 Y))) else (bd1 (X10_fail Y 1) <| fun Y17 => some Y17)
noncomputable def X10_expectNumber_b23 (a1 : Int32) (a2 : Int32) : Nat → Mem → Int32 → Int32 → Option (Int32 × Mem)
  | 0, _, _, _ => none
  | n+1, Y, l4, l3 =>
  if (Y 6 0 0 3) ≤ l4 then (bd1 (X11_isWithin Y l3 a1 a2) <| fun r5 => if r5 = 0 then (bd1 (X10_fail Y 2) <| fun Y13 => some (a1, Y13)) else (bd1 (X10_advance Y) <| fun Y10 => some (l3, Y10))) else (gd (inb l4 (tcap (0))) <| lt_ (((l3 * 10) + (Y 5 0 1 (ix l4))) - 48) <| fun v15 => X10_expectNumber_b23 a1 a2 n Y (l4 + 1) v15)
noncomputable def X10_expectNumber (Y : Mem) (a1 : Int32) (a2 : Int32) : Option (Int32 × Mem) :=
  if (Y 6 0 0 1) = 2 then (lt_ (Y 6 0 0 2) <| fun v2 => X10_expectNumber_b23 a1 a2 FU Y v2 0) else (bd1 (X10_fail Y 1) <| fun Y19 => some (a1, Y19))
noncomputable def X10_expectSemicolon (Y : Mem) : Option (Mem) :=
  if (Y 6 0 0 1) = 3 then (bd1 (X10_advance Y) <| fun Y4 => some Y4) else (bd1 (X10_fail Y 1) <| fun Y7 => some Y7)
noncomputable def X10_findName (Y : Mem) (g1 : Nat) : Option (Int32 × Mem) :=
  if (Y 6 0 0 1) = 1 then (bd1 (X4_indexOf Y g1 0 (Y 6 0 0 2) (Y 6 0 0 3)) <| fun r2 => if r2 = ((-1)) then (bd1 (X10_fail Y 3) <| fun Y7 => some (r2, Y7)) else (some (r2, Y))) else (bd1 (X10_fail Y 1) <| fun Y10 => some ((-1), Y10))
noncomputable def X10_isAnyWord (Y : Mem) : Option (Int32) :=
  if (Y 6 0 0 1) = 1 then (some 1) else (some 0)
noncomputable def X10_mayGoOn (Y : Mem) : Option (Int32) :=
  if (Y 6 0 0 1) = 0 then (some 0) else (if (Y 6 0 0 1) = 5 then (some 0) else (some 1))
noncomputable def X11_isSaltAmount (Y : Mem) (a1 : Int32) : Option (Int32) :=
  if a1 = 0 then (some 0) else (bd1 (X11_isWithin Y a1 ((-9)) 9) <| fun r2 => if r2 = 0 then (some 0) else (some 1))
noncomputable def X8_copyFrom (Y : Mem) (g0 : Nat) (g1 : Nat) : Option (Mem) :=
  lt_ (up Y 2 g0 0 0 (Y 2 g1 0 0)) <| fun Y1 => lt_ (up Y1 2 g0 0 1 (Y1 2 g1 0 1)) <| fun Y3 => lt_ (up Y3 2 g0 0 2 (Y3 2 g1 0 2)) <| fun Y5 => lt_ (up Y5 2 g0 0 3 (Y5 2 g1 0 3)) <| fun Y7 => lt_ (up Y7 2 g0 0 4 (Y7 2 g1 0 4)) <| fun Y9 => gd (decide ((Y9 2 g1 0 5) = 0 ∨ (Y9 2 g1 0 5) = 1)) <| lt_ (up Y9 2 g0 0 5 (Y9 2 g1 0 5)) <| fun Y11 => lt_ (up Y11 2 g0 0 6 (Y11 2 g1 0 6)) <| fun Y14 => lt_ (up Y14 2 g0 0 7 (Y14 2 g1 0 7)) <| fun Y16 => lt_ (up Y16 2 g0 0 8 (Y16 2 g1 0 8)) <| fun Y18 => lt_ (upR Y18 2 g0 1 (va_cpy (Y18 2 g1 1) (Y18 2 g0 1) 0 0 14)) <| fun Y20 => lt_ (upR Y20 2 g0 2 (va_cpy (Y20 2 g1 2) (Y20 2 g0 2) 0 0 14)) <| fun Y22 => lt_ (upR Y22 2 g0 3 (va_cpy (Y22 2 g1 3) (Y22 2 g0 3) 0 0 14)) <| fun Y24 => lt_ (upR Y24 2 g0 4 (va_cpy (Y24 2 g1 4) (Y24 2 g0 4) 0 0 14)) <| fun Y26 => lt_ (upR Y26 2 g0 5 (va_cpy (Y26 2 g1 5) (Y26 2 g0 5) 0 0 14)) <| fun Y28 => lt_ (upR Y28 2 g0 6 (va_cpy (Y28 2 g1 6) (Y28 2 g0 6) 0 0 14)) <| fun Y30 => some Y30
noncomputable def X2_push (Y : Mem) (g1 : Nat) : Option (Mem) :=
  gd (inb (Y 9 0 0 1) 6) <| bd1 (X8_copyFrom Y (2+ix (Y 9 0 0 1)) g1) <| fun Y4 => lt_ (up Y4 9 0 0 1 (((Y4 9 0 0 1) + 1) - ((Y4 9 0 0 1) + 1) / 6 * 6)) <| fun Y5 => lt_ (up Y5 9 0 0 2 ((if 6 < ((Y5 9 0 0 2) + 1) then 6 else ((Y5 9 0 0 2) + 1)))) <| fun Y7 => some Y7
noncomputable def X11_contains (Y : Mem) (a0 : Int32) (a1 : Int32) : Option (Int32) :=
  if ((a0 >>> (a1 &&& 31)) &&& 1) = 0 then (some 0) else (some 1)
noncomputable def X3_dishTaste_b50 (Y : Mem) (g0 : Nat) (k10 : Int32 → Int32 → Option (Int32)) (l2 : Int32) (l1 : Int32) : Option (Int32) :=
  k10 (l2 + 1) l1
noncomputable def X3_dishTaste_b10 (Y : Mem) (g0 : Nat) : Nat → Int32 → Int32 → Option (Int32)
  | 0, _, _ => none
  | n+1, l2, l1 =>
  gd (decide ((Y 1 g0 0 0).toNatClampNeg < 2)) <| gd (decide (((Y 1 g0 0 0).toNatClampNeg) < 2)) <| if (Y 4 (2*((Y 1 g0 0 0).toNatClampNeg)+1) 0 2) ≤ l2 then (some l1) else (bd1 (X11_contains Y (Y 2 g0 0 7) l2) <| fun r6 => if r6 = 0 then (X3_dishTaste_b50 Y g0 (X3_dishTaste_b10 Y g0 n) l2 l1) else (gd (inb l2 14) <| lt_ (l1 + (Y 3 (((Y 1 g0 0 0).toNatClampNeg)) 4 (ix l2))) <| fun v10 => X3_dishTaste_b50 Y g0 (X3_dishTaste_b10 Y g0 n) l2 v10))
noncomputable def X3_dishTaste (Y : Mem) (g0 : Nat) : Option (Int32) :=
  lt_ (Y 2 g0 0 2) <| fun v1 => X3_dishTaste_b10 Y g0 FU 0 v1
noncomputable def X11_addSalt (Y : Mem) (a1 : Int32) : Option (Int32 × Mem) :=
  bd1 (X11_isSaltAmount Y a1) <| fun r1 => if r1 = 0 then (none) else (if (Y 2 0 0 5) = 0 then (bd1 (X2_push Y 0) <| fun Y7 => lt_ (up Y7 2 0 0 2 ((Y7 2 0 0 2) + a1)) <| fun Y8 => bd1 (X3_dishTaste Y8 0) <| fun r10 => some (r10, Y8)) else (none))
noncomputable def X11_requireStep (Y : Mem) (a1 : Int32) : Option (Unit) :=
  gd (decide ((Y 1 0 0 0).toNatClampNeg < 2)) <| gd (decide (((Y 1 0 0 0).toNatClampNeg) < 2)) <| bd1 (X11_isWithin Y a1 0 ((Y 4 (2*((Y 1 0 0 0).toNatClampNeg)+1) 0 2) - 1)) <| fun r3 => if r3 = 0 then (none) else (some ())
noncomputable def X11_age (Y : Mem) (a1 : Int32) : Option (Int32) :=
  bd1 (X11_requireStep Y a1) <| fun _ => gd (inb a1 14) <| some (Y 2 0 3 (ix a1))
noncomputable def X9_addByte (Y : Mem) (g0 : Nat) (a1 : Int32) : Option (Mem) :=
  if ((Int32.ofNat (tcap (g0)))) ≤ (Y 5 g0 0 1) then (some Y) else (gd (inb (Y 5 g0 0 1) (tcap (g0))) <| lt_ (up Y 5 g0 1 (ix (Y 5 g0 0 1)) (vp_nar .byte ((a1).toInt8.toInt32))) <| fun Y3 => lt_ (up Y3 5 g0 0 1 ((Y3 5 g0 0 1) + 1)) <| fun Y5 => some Y5)
noncomputable def X9_addFourBytes (Y : Mem) (g0 : Nat) (a1 : Int32) : Option (Mem) :=
  bd1 (X9_addByte Y g0 (us a1 24)) <| fun Y3 => bd1 (X9_addByte Y3 g0 (us a1 16)) <| fun Y6 => bd1 (X9_addByte Y6 g0 (us a1 8)) <| fun Y9 => bd1 (X9_addByte Y9 g0 a1) <| fun Y12 => some Y12
noncomputable def X11_append (Y : Mem) (a1 : Int32) (a2 : Int32) (a3 : Int32) (a4 : Int32) (a5 : Int32) : Option (Int32 × Mem) :=
  if (Y 5 0 0 1) ≤ 680 then (bd1 (X9_addFourBytes Y 0 a1) <| fun Y4 => bd1 (X9_addFourBytes Y4 0 a2) <| fun Y7 => bd1 (X9_addFourBytes Y7 0 a3) <| fun Y10 => bd1 (X9_addFourBytes Y10 0 a4) <| fun Y13 => bd1 (X9_addFourBytes Y13 0 a5) <| fun Y16 => some (Y16 5 0 0 1, Y16)) else (none)
noncomputable def X11_sum_b4 (Y : Mem) (k0 : Nat) (g0 : Nat) (o0 : Nat) (n0 : Nat) (a1 : Int32) : Nat → Int32 → Int32 → Option (Int32)
  | 0, _, _ => none
  | n+1, l3, l2 =>
  if a1 ≤ l3 then (some l2) else (if ((Int32.ofNat n0)) ≤ l3 then (some l2) else (gd (inb l3 n0) <| lt_ (l2 + (Y k0 g0 o0 (ix l3))) <| fun v4 => X11_sum_b4 Y k0 g0 o0 n0 a1 n (l3 + 1) v4))
noncomputable def X11_sum (Y : Mem) (k0 : Nat) (g0 : Nat) (o0 : Nat) (n0 : Nat) (a1 : Int32) : Option (Int32) :=
  X11_sum_b4 Y k0 g0 o0 n0 a1 FU 0 0
noncomputable def X11_burns (Y : Mem) : Option (Int32) :=
  gd (decide ((Y 1 0 0 0).toNatClampNeg < 2)) <| gd (decide (((Y 1 0 0 0).toNatClampNeg) < 2)) <| bd1 (X11_sum Y 2 0 6 14 (Y 4 (2*((Y 1 0 0 0).toNatClampNeg)+1) 0 2)) <| fun r3 => some r3
noncomputable def X11_completions (Y : Mem) : Option (Int32) :=
  gd (decide ((Y 1 0 0 0).toNatClampNeg < 2)) <| gd (decide (((Y 1 0 0 0).toNatClampNeg) < 2)) <| bd1 (X11_sum Y 2 0 5 14 (Y 4 (2*((Y 1 0 0 0).toNatClampNeg)+1) 0 2)) <| fun r3 => some r3
noncomputable def X11_cookMinutes (Y : Mem) : Option (Int32) :=
  some (Y 2 0 0 3)
noncomputable def X11_cooks (Y : Mem) : Option (Int32) :=
  some (Y 2 0 0 0)
noncomputable def X11_duration (Y : Mem) (a1 : Int32) : Option (Int32) :=
  bd1 (X11_requireStep Y a1) <| fun _ => gd (inb a1 14) <| some (Y 2 0 1 (ix a1))
noncomputable def X11_fitsClock (Y : Mem) (a1 : Int32) : Option (Int32) :=
  if 9999 < ((Y 2 0 0 1) + a1) then (some 0) else (some 1)
noncomputable def J6_bitCount_0f7a4 (Y : Mem) (a0 : Int32) : Option (Int32) :=
  lt_ (a0 - ((us a0 1) &&& 1431655765)) <| fun v1 => lt_ ((v1 &&& 858993459) + ((us v1 2) &&& 858993459)) <| fun v3 => lt_ ((v3 + (us v3 4)) &&& 252645135) <| fun v5 => lt_ (v5 + (us v5 8)) <| fun v7 => lt_ (v7 + (us v7 16)) <| fun v9 => some (v9 &&& 63)
noncomputable def X3_prematureSteps_b93 (Y : Mem) (g0 : Nat) (k46 : Int32 → Int32 → Int32 → Option (Int32)) (l3 : Int32) (l2 : Int32) (l1 : Int32) : Option (Int32) :=
  k46 (l3 + 1) l2 l1
noncomputable def X3_prematureSteps_b46 (Y : Mem) (g0 : Nat) : Nat → Int32 → Int32 → Int32 → Option (Int32)
  | 0, _, _, _ => none
  | n+1, l3, l2, l1 =>
  gd (decide ((Y 1 g0 0 0).toNatClampNeg < 2)) <| gd (decide (((Y 1 g0 0 0).toNatClampNeg) < 2)) <| if (Y 4 (2*((Y 1 g0 0 0).toNatClampNeg)+1) 0 2) ≤ l3 then (some l2) else (bd1 (X11_contains Y (Y 2 g0 0 6) l3) <| fun r7 => if r7 = 0 then (X3_prematureSteps_b93 Y g0 (X3_prematureSteps_b46 Y g0 n) l3 l2 l1) else (gd (inb l3 14) <| if ((Y 3 (((Y 1 g0 0 0).toNatClampNeg)) 8 (ix l3)) &&& (l1 ^^^ ((-1)))) = 0 then (X3_prematureSteps_b93 Y g0 (X3_prematureSteps_b46 Y g0 n) l3 l2 l1) else (X3_prematureSteps_b93 Y g0 (X3_prematureSteps_b46 Y g0 n) l3 (l2 + 1) l1)))
noncomputable def X3_prematureSteps_b36 (Y : Mem) (g0 : Nat) (k4 : Int32 → Int32 → Option (Int32)) (l2 : Int32) (l1 : Int32) : Option (Int32) :=
  k4 (l2 + 1) l1
noncomputable def X3_prematureSteps_b4 (Y : Mem) (g0 : Nat) : Nat → Int32 → Int32 → Option (Int32)
  | 0, _, _ => none
  | n+1, l2, l1 =>
  gd (decide ((Y 1 g0 0 0).toNatClampNeg < 2)) <| gd (decide (((Y 1 g0 0 0).toNatClampNeg) < 2)) <| if (Y 4 (2*((Y 1 g0 0 0).toNatClampNeg)+1) 0 2) ≤ l2 then (X3_prematureSteps_b46 Y g0 FU 0 0 l1) else (gd (inb l2 14) <| if (Y 2 g0 5 (ix l2)) ≤ 0 then (X3_prematureSteps_b36 Y g0 (X3_prematureSteps_b4 Y g0 n) l2 l1) else (lt_ (l1 ||| (1 <<< (l2 &&& 31))) <| fun v14 => X3_prematureSteps_b36 Y g0 (X3_prematureSteps_b4 Y g0 n) l2 v14))
noncomputable def X3_prematureSteps (Y : Mem) (g0 : Nat) : Option (Int32) :=
  X3_prematureSteps_b4 Y g0 FU 0 0
noncomputable def X11_inconsistencies (Y : Mem) : Option (Int32) :=
  gd (decide ((Y 1 0 0 0).toNatClampNeg < 2)) <| gd (decide (((Y 1 0 0 0).toNatClampNeg) < 2)) <| lt_ (Y 4 (2*((Y 1 0 0 0).toNatClampNeg)+1) 0 2) <| fun v3 => bd1 (X11_sum Y 2 0 4 14 v3) <| fun r5 => bd1 (X11_sum Y 2 0 5 14 v3) <| fun r7 => bd1 (J6_bitCount_0f7a4 Y (Y 2 0 0 6)) <| fun r9 => bd1 (X3_prematureSteps Y 0) <| fun r11 => some ((((r5 - r7) - r9) - (Y 2 0 0 4)) + r11)
noncomputable def X11_isCookCount (Y : Mem) (a1 : Int32) : Option (Int32) :=
  bd1 (X11_isWithin Y a1 1 4) <| fun r1 => gd (decide (r1 = 0 ∨ r1 = 1)) <| some r1
noncomputable def X11_isDuration (Y : Mem) (a1 : Int32) : Option (Int32) :=
  bd1 (X11_isWithin Y a1 1 60) <| fun r1 => gd (decide (r1 = 0 ∨ r1 = 1)) <| some r1
noncomputable def X11_isHot (Y : Mem) (a1 : Int32) : Option (Int32) :=
  bd1 (X11_requireStep Y a1) <| fun _ => gd (decide ((Y 1 0 0 0).toNatClampNeg < 2)) <| bd1 (X11_contains Y (Y 3 ((Y 1 0 0 0).toNatClampNeg) 0 15) a1) <| fun r4 => gd (decide (r4 = 0 ∨ r4 = 1)) <| some r4
noncomputable def X11_isPassLength (Y : Mem) (a1 : Int32) : Option (Int32) :=
  bd1 (X11_isWithin Y a1 1 200) <| fun r1 => gd (decide (r1 = 0 ∨ r1 = 1)) <| some r1
noncomputable def X3_isContinued (Y : Mem) (g0 : Nat) (a1 : Int32) : Option (Int32) :=
  gd (decide ((Y 1 g0 0 0).toNatClampNeg < 2)) <| gd (inb a1 14) <| if ((Y 3 (((Y 1 g0 0 0).toNatClampNeg)) 9 (ix a1)) &&& ((Y 2 g0 0 6) ||| (Y 2 g0 0 7))) = 0 then (some 0) else (some 1)
noncomputable def X11_isTakenUp (Y : Mem) (a1 : Int32) : Option (Int32) :=
  bd1 (X11_requireStep Y a1) <| fun _ => bd1 (X11_contains Y (Y 2 0 0 7) a1) <| fun r3 => if r3 = 0 then (some 0) else (bd1 (X3_isContinued Y 0 a1) <| fun r6 => if r6 = 0 then (some 0) else (some 1))
noncomputable def X11_isUnattended (Y : Mem) (a1 : Int32) : Option (Int32) :=
  bd1 (X11_requireStep Y a1) <| fun _ => gd (decide ((Y 1 0 0 0).toNatClampNeg < 2)) <| bd1 (X11_contains Y (Y 3 ((Y 1 0 0 0).toNatClampNeg) 0 16) a1) <| fun r4 => gd (decide (r4 = 0 ∨ r4 = 1)) <| some r4
noncomputable def J7_fill_53178_b5 (k0 : Nat) (g0 : Nat) (o0 : Nat) (n0 : Nat) (a1 : Int32) : Nat → Mem → Int32 → Int32 → Option (Mem)
  | 0, _, _, _ => none
  | n+1, Y, l3, l2 =>
  if l3 ≤ l2 then (some Y) else (gd (inb l2 n0) <| lt_ (up Y k0 g0 o0 (ix l2) a1) <| fun Y5 => J7_fill_53178_b5 k0 g0 o0 n0 a1 n Y5 l3 (l2 + 1))
noncomputable def J7_fill_53178 (Y : Mem) (k0 : Nat) (g0 : Nat) (o0 : Nat) (n0 : Nat) (a1 : Int32) : Option (Mem) :=
  lt_ ((Int32.ofNat n0)) <| fun v1 => J7_fill_53178_b5 k0 g0 o0 n0 a1 FU Y v1 0
noncomputable def X5_clear (Y : Mem) (g0 : Nat) : Option (Mem) :=
  lt_ (up Y 4 (2*g0) 0 2 0) <| fun Y1 => lt_ (up Y1 4 (2*g0+1) 0 2 0) <| fun Y3 => lt_ (up Y3 3 g0 0 15 0) <| fun Y5 => lt_ (up Y5 3 g0 0 16 0) <| fun Y7 => bd1 (J7_fill_53178 Y7 3 g0 2 4 0) <| fun Y11 => bd1 (J7_fill_53178 Y11 3 g0 7 14 0) <| fun Y14 => bd1 (J7_fill_53178 Y14 3 g0 8 14 0) <| fun Y17 => bd1 (J7_fill_53178 Y17 3 g0 9 14 0) <| fun Y20 => some Y20
noncomputable def X7_readHead_b20 (g1 : Nat) (Y : Mem) : Option (Mem) :=
  bd2 (X10_expectNumber Y 1 4) <| fun r5 Y7 => lt_ (up Y7 3 g1 0 0 r5) <| fun Y8 => bd2 (X10_expectNumber Y8 0 30) <| fun r10 Y12 => lt_ (up Y12 3 g1 0 1 r10) <| fun Y13 => bd2 (X10_expectNumber Y13 0 99) <| fun r15 Y17 => lt_ (up Y17 3 g1 0 2 r15) <| fun Y18 => bd2 (X10_expectNumber Y18 (Y18 3 g1 0 2) 99) <| fun r20 Y22 => lt_ (up Y22 3 g1 0 3 r20) <| fun Y23 => bd1 (X10_expectSemicolon Y23) <| fun Y27 => some Y27
noncomputable def X7_readHead (Y : Mem) (g1 : Nat) : Option (Mem) :=
  bd2 (X10_accept Y 1) <| fun r1 Y3 => if r1 = 0 then (bd1 (X10_fail Y3 1) <| fun Y30 => X7_readHead_b20 g1 Y30) else (X7_readHead_b20 g1 Y3)
noncomputable def X7_readPan (Y : Mem) (g1 : Nat) : Option (Mem) :=
  lt_ (Y 4 (2*g1) 0 2) <| fun v1 => bd1 (X4_isFull Y (2*g1)) <| fun r3 => if r3 = 0 then (bd1 (X10_advance Y) <| fun Y8 => bd1 (X10_expectNewName Y8 (2*g1)) <| fun Y11 => bd2 (X10_expectNumber Y11 1 5) <| fun r12 Y14 => gd (inb v1 4) <| lt_ (up Y14 3 g1 1 (ix v1) r12) <| fun Y16 => bd1 (X10_expectSemicolon Y16) <| fun Y20 => lt_ (up Y20 4 (2*g1) 0 2 ((Y20 4 (2*g1) 0 2) + 1)) <| fun Y21 => some Y21) else (bd1 (X10_fail Y 5) <| fun Y25 => some Y25)
noncomputable def X7_readPanOf (Y : Mem) (g1 : Nat) (a2 : Int32) : Option (Mem) :=
  gd (inb a2 14) <| lt_ (up Y 3 g1 5 (ix a2) ((-1))) <| fun Y2 => bd2 (X10_accept Y2 4) <| fun r4 Y6 => if r4 = 0 then (some Y6) else (bd2 (X10_findName Y6 (2*g1)) <| fun r8 Y10 => if r8 = ((-1)) then (some Y10) else (lt_ (up Y10 3 g1 5 (ix a2) r8) <| fun Y12 => gd (inb r8 4) <| lt_ (up Y12 3 g1 2 (ix r8) ((Y12 3 g1 2 (ix r8)) ||| (1 <<< (a2 &&& 31)))) <| fun Y15 => bd1 (X10_advance Y15) <| fun Y19 => some Y19))
noncomputable def X5_addPredecessor (Y : Mem) (g0 : Nat) (a1 : Int32) (a2 : Int32) : Option (Mem) :=
  gd (inb a1 14) <| gd (inb (Y 3 g0 7 (ix a1)) 4) <| lt_ (up Y 3 g0 (20+ix a1) (ix (Y 3 g0 7 (ix a1))) a2) <| fun Y3 => lt_ (up Y3 3 g0 7 (ix a1) ((Y3 3 g0 7 (ix a1)) + 1)) <| fun Y5 => lt_ (up Y5 3 g0 8 (ix a1) ((Y5 3 g0 8 (ix a1)) ||| (1 <<< (a2 &&& 31)))) <| fun Y7 => gd (inb a2 14) <| lt_ (up Y7 3 g0 9 (ix a2) ((Y7 3 g0 9 (ix a2)) ||| (1 <<< (a1 &&& 31)))) <| fun Y10 => some Y10
noncomputable def X7_readPredecessors_b101 (g1 : Nat) (a2 : Int32) (k2 : Mem → Int32 → Option (Mem)) (Y : Mem) (l3 : Int32) : Option (Mem) :=
  k2 Y (l3 + 1)
noncomputable def X7_readPredecessors_b21 (g1 : Nat) (a2 : Int32) (k2 : Mem → Int32 → Option (Mem)) (Y : Mem) (l3 : Int32) : Option (Mem) :=
  bd2 (X10_findName Y (2*g1+1)) <| fun r3 Y5 => if r3 = ((-1)) then (some Y5) else (gd (inb a2 14) <| bd1 (X11_contains Y5 (Y5 3 g1 8 (ix a2)) r3) <| fun r8 => if r8 = 0 then (if (Y5 3 g1 7 (ix a2)) < 4 then (bd1 (X5_addPredecessor Y5 g1 a2 r3) <| fun Y14 => bd1 (X10_advance Y14) <| fun Y17 => X7_readPredecessors_b101 g1 a2 k2 Y17 l3) else (bd1 (X10_fail Y5 5) <| fun Y20 => X7_readPredecessors_b101 g1 a2 k2 Y20 l3)) else (bd1 (X10_fail Y5 4) <| fun Y23 => X7_readPredecessors_b101 g1 a2 k2 Y23 l3))
noncomputable def X7_readPredecessors_b2 (g1 : Nat) (a2 : Int32) : Nat → Mem → Int32 → Option (Mem)
  | 0, _, _ => none
  | n+1, Y, l3 =>
  if 4 < l3 then (some Y) else (if l3 = 0 then (X7_readPredecessors_b21 g1 a2 (X7_readPredecessors_b2 g1 a2 n) Y l3) else (bd1 (X10_isAnyWord Y) <| fun r24 => if r24 = 0 then (some Y) else (X7_readPredecessors_b21 g1 a2 (X7_readPredecessors_b2 g1 a2 n) Y l3)))
noncomputable def X7_readPredecessors (Y : Mem) (g1 : Nat) (a2 : Int32) : Option (Mem) :=
  X7_readPredecessors_b2 g1 a2 FU Y 0
noncomputable def X7_readStep_b170 (g1 : Nat) (Y : Mem) : Option (Mem) :=
  bd1 (X10_expectSemicolon Y) <| fun Y43 => lt_ (up Y43 4 (2*g1+1) 0 2 ((Y43 4 (2*g1+1) 0 2) + 1)) <| fun Y44 => some Y44
noncomputable def X7_readStep_b152 (g1 : Nat) (Y : Mem) (l2 : Int32) : Option (Mem) :=
  bd2 (X10_accept Y 7) <| fun r37 Y39 => if r37 = 0 then (X7_readStep_b170 g1 Y39) else (bd1 (X7_readPredecessors Y39 g1 l2) <| fun Y48 => X7_readStep_b170 g1 Y48)
noncomputable def X7_readStep_b128 (g1 : Nat) (Y : Mem) (l2 : Int32) : Option (Mem) :=
  bd2 (X10_accept Y 6) <| fun r33 Y35 => if r33 = 0 then (X7_readStep_b152 g1 Y35 l2) else (lt_ (up Y35 3 g1 0 16 ((Y35 3 g1 0 16) ||| (1 <<< (l2 &&& 31)))) <| fun Y49 => X7_readStep_b152 g1 Y49 l2)
noncomputable def X7_readStep (Y : Mem) (g1 : Nat) : Option (Mem) :=
  lt_ (Y 4 (2*g1+1) 0 2) <| fun v1 => bd1 (X10_isWord Y 3) <| fun r3 => if r3 = 0 then (bd1 (X10_fail Y 1) <| fun Y58 => some Y58) else (bd1 (X4_isFull Y (2*g1+1)) <| fun r6 => if r6 = 0 then (bd1 (X10_advance Y) <| fun Y11 => bd1 (X10_expectNewName Y11 (2*g1+1)) <| fun Y14 => bd2 (X10_expectNumber Y14 1 60) <| fun r15 Y17 => gd (inb v1 14) <| lt_ (up Y17 3 g1 3 (ix v1) r15) <| fun Y19 => bd2 (X10_expectNumber Y19 0 9) <| fun r21 Y23 => lt_ (up Y23 3 g1 4 (ix v1) r21) <| fun Y24 => bd1 (X7_readPanOf Y24 g1 v1) <| fun Y28 => bd2 (X10_accept Y28 5) <| fun r29 Y31 => if r29 = 0 then (X7_readStep_b128 g1 Y31 v1) else (lt_ (up Y31 3 g1 0 15 ((Y31 3 g1 0 15) ||| (1 <<< (v1 &&& 31)))) <| fun Y51 => X7_readStep_b128 g1 Y51 v1)) else (bd1 (X10_fail Y 5) <| fun Y55 => some Y55))
noncomputable def X7_readInto_b53 (g1 : Nat) : Nat → Mem → Int32 → Option (Mem)
  | 0, _, _ => none
  | n+1, Y, l2 =>
  if 14 < l2 then (some Y) else (bd1 (X10_mayGoOn Y) <| fun r15 => if r15 = 0 then (some Y) else (bd1 (X7_readStep Y g1) <| fun Y20 => X7_readInto_b53 g1 n Y20 (l2 + 1)))
noncomputable def X7_readInto_b46 (g1 : Nat) (Y : Mem) : Option (Mem) :=
  bd1 (X7_readStep Y g1) <| fun Y13 => X7_readInto_b53 g1 FU Y13 1
noncomputable def X7_readInto_b18 (g1 : Nat) : Nat → Mem → Int32 → Option (Mem)
  | 0, _, _ => none
  | n+1, Y, l2 =>
  if 4 < l2 then (X7_readInto_b46 g1 Y) else (bd1 (X10_isWord Y 2) <| fun r21 => if r21 = 0 then (X7_readInto_b46 g1 Y) else (bd1 (X7_readPan Y g1) <| fun Y26 => X7_readInto_b18 g1 n Y26 (l2 + 1)))
noncomputable def X7_readInto (Y : Mem) (g1 : Nat) : Option (Mem) :=
  bd1 (X5_clear Y g1) <| fun Y3 => bd1 (X10_begin Y3) <| fun Y6 => bd1 (X7_readHead Y6 g1) <| fun Y9 => X7_readInto_b18 g1 FU Y9 0
noncomputable def X11_requireNoError (Y : Mem) : Option (Unit) :=
  if (Y 6 0 0 4) = 0 then (some ()) else (none)
noncomputable def X8_begin (Y : Mem) (g0 : Nat) (g1 : Nat) : Option (Mem) :=
  lt_ (up Y 2 g0 0 0 (Y 3 g1 0 0)) <| fun Y1 => lt_ (up Y1 2 g0 0 1 0) <| fun Y3 => lt_ (up Y3 2 g0 0 2 0) <| fun Y5 => lt_ (up Y5 2 g0 0 3 0) <| fun Y7 => lt_ (up Y7 2 g0 0 4 0) <| fun Y9 => lt_ (up Y9 2 g0 0 5 0) <| fun Y11 => lt_ (up Y11 2 g0 0 6 0) <| fun Y13 => lt_ (up Y13 2 g0 0 7 0) <| fun Y15 => lt_ (up Y15 2 g0 0 8 0) <| fun Y17 => lt_ (upR Y17 2 g0 1 (va_cpy (Y17 3 g1 3) (Y17 2 g0 1) 0 0 14)) <| fun Y19 => bd1 (J7_fill_53178 Y19 2 g0 2 14 0) <| fun Y23 => bd1 (J7_fill_53178 Y23 2 g0 3 14 0) <| fun Y26 => bd1 (J7_fill_53178 Y26 2 g0 4 14 0) <| fun Y29 => bd1 (J7_fill_53178 Y29 2 g0 5 14 0) <| fun Y32 => bd1 (J7_fill_53178 Y32 2 g0 6 14 0) <| fun Y35 => some Y35
noncomputable def X3_open (Y : Mem) (g0 : Nat) (g1 : Nat) : Option (Mem) :=
  gd (decide (g1 < 2)) <| lt_ (up Y 1 g0 0 0 (Int32.ofNat g1)) <| fun Y1 => bd1 (X8_begin Y1 g0 g1) <| fun Y6 => some Y6
noncomputable def X11_load_b49  : Nat → Mem → Int32 → Option (Int32 × Mem)
  | 0, _, _ => none
  | n+1, Y, l2 =>
  if 2 ≤ l2 then (lt_ (up Y 9 0 0 2 0) <| fun Y18 => gd (decide ((Y18 1 0 0 0).toNatClampNeg < 2)) <| gd (decide (((Y18 1 0 0 0).toNatClampNeg) < 2)) <| some (Y18 4 (2*((Y18 1 0 0 0).toNatClampNeg)+1) 0 2, Y18)) else (gd (inb l2 2) <| lt_ (up Y 0 0 2 (ix l2) (vp_nar .boolean 0)) <| fun Y23 => X11_load_b49 n Y23 (l2 + 1))
noncomputable def X11_load (Y : Mem) : Option (Int32 × Mem) :=
  gd (decide ((Y 0 0 0 10).toNatClampNeg < 2)) <| gd (decide (((Y 0 0 0 10).toNatClampNeg) < 2)) <| bd1 (X7_readInto Y ((Y 0 0 0 10).toNatClampNeg)) <| fun Y5 => lt_ (up Y5 5 0 0 1 0) <| fun Y6 => bd1 (X11_requireNoError Y6) <| fun _ => gd (decide ((Y6 0 0 0 10).toNatClampNeg < 2)) <| bd1 (X3_open Y6 0 ((Y6 0 0 0 10).toNatClampNeg)) <| fun Y13 => gd (decide ((Y6 1 0 0 0).toNatClampNeg < 2)) <| lt_ (up Y13 0 0 0 10 (Int32.ofNat ((Y6 1 0 0 0).toNatClampNeg))) <| fun Y14 => X11_load_b49 FU Y14 0
noncomputable def X11_minute (Y : Mem) : Option (Int32) :=
  some (Y 2 0 0 1)
noncomputable def X11_requirePan (Y : Mem) (a1 : Int32) : Option (Unit) :=
  gd (decide ((Y 1 0 0 0).toNatClampNeg < 2)) <| gd (decide (((Y 1 0 0 0).toNatClampNeg) < 2)) <| bd1 (X11_isWithin Y a1 0 ((Y 4 (2*((Y 1 0 0 0).toNatClampNeg)) 0 2) - 1)) <| fun r3 => if r3 = 0 then (none) else (some ())
noncomputable def X11_panCapacity (Y : Mem) (a1 : Int32) : Option (Int32) :=
  bd1 (X11_requirePan Y a1) <| fun _ => gd (decide ((Y 1 0 0 0).toNatClampNeg < 2)) <| gd (inb a1 4) <| some (Y 3 (((Y 1 0 0 0).toNatClampNeg)) 1 (ix a1))
noncomputable def X11_panType (Y : Mem) (a1 : Int32) : Option (Int32) :=
  bd1 (X11_requireStep Y a1) <| fun _ => gd (decide ((Y 1 0 0 0).toNatClampNeg < 2)) <| gd (inb a1 14) <| some (Y 3 (((Y 1 0 0 0).toNatClampNeg)) 5 (ix a1))
noncomputable def X3_longestOf_b48 (Y : Mem) (g0 : Nat) (a1 : Int32) (k4 : Int32 → Int32 → Option (Int32)) (l3 : Int32) (l2 : Int32) : Option (Int32) :=
  k4 (l3 + 1) l2
noncomputable def X3_longestOf_b46 (Y : Mem) (g0 : Nat) (a1 : Int32) (k4 : Int32 → Int32 → Option (Int32)) (l3 : Int32) : Option (Int32) :=
  X3_longestOf_b48 Y g0 a1 k4 l3 l3
noncomputable def X3_longestOf_b4 (Y : Mem) (g0 : Nat) (a1 : Int32) : Nat → Int32 → Int32 → Option (Int32)
  | 0, _, _ => none
  | n+1, l3, l2 =>
  gd (decide ((Y 1 g0 0 0).toNatClampNeg < 2)) <| gd (decide (((Y 1 g0 0 0).toNatClampNeg) < 2)) <| if (Y 4 (2*((Y 1 g0 0 0).toNatClampNeg)+1) 0 2) ≤ l3 then (some l2) else (bd1 (X11_contains Y a1 l3) <| fun r4 => if r4 = 0 then (X3_longestOf_b48 Y g0 a1 (X3_longestOf_b4 Y g0 a1 n) l3 l2) else (if l2 = ((-1)) then (X3_longestOf_b46 Y g0 a1 (X3_longestOf_b4 Y g0 a1 n) l3) else (gd (inb l3 14) <| gd (inb l2 14) <| if (Y 1 g0 1 (ix l3)) ≤ (Y 1 g0 1 (ix l2)) then (X3_longestOf_b48 Y g0 a1 (X3_longestOf_b4 Y g0 a1 n) l3 l2) else (X3_longestOf_b46 Y g0 a1 (X3_longestOf_b4 Y g0 a1 n) l3))))
noncomputable def X3_longestOf (Y : Mem) (g0 : Nat) (a1 : Int32) : Option (Int32) :=
  X3_longestOf_b4 Y g0 a1 FU 0 ((-1))
noncomputable def X3_rank_b132 (g0 : Nat) (k70 : Mem → Int32 → Option (Mem)) (Y : Mem) (l2 : Int32) (l1 : Int32) : Option (Mem) :=
  gd (inb l2 14) <| lt_ (up Y 1 g0 2 (ix l2) l1) <| fun Y11 => k70 Y11 (l1 + 1)
noncomputable def X3_rank_b86 (g0 : Nat) (k70 : Mem → Int32 → Option (Mem)) : Nat → Mem → Int32 → Int32 → Option (Mem)
  | 0, _, _, _ => none
  | n+1, Y, l2, l1 =>
  if l2 ≤ 0 then (X3_rank_b132 g0 k70 Y l2 l1) else (gd (inb (l2 - 1) 14) <| gd (inb (Y 1 g0 2 (ix (l2 - 1))) 14) <| gd (inb l1 14) <| if (Y 1 g0 1 (ix l1)) ≤ (Y 1 g0 1 (ix (Y 1 g0 2 (ix (l2 - 1))))) then (X3_rank_b132 g0 k70 Y l2 l1) else (gd (inb l2 14) <| lt_ (up Y 1 g0 2 (ix l2) (Y 1 g0 2 (ix (l2 - 1)))) <| fun Y18 => X3_rank_b86 g0 k70 n Y18 (l2 + (-1)) l1))
noncomputable def X3_rank_b70 (g0 : Nat) : Nat → Mem → Int32 → Option (Mem)
  | 0, _, _ => none
  | n+1, Y, l1 =>
  gd (decide ((Y 1 g0 0 0).toNatClampNeg < 2)) <| gd (decide (((Y 1 g0 0 0).toNatClampNeg) < 2)) <| if (Y 4 (2*((Y 1 g0 0 0).toNatClampNeg)+1) 0 2) ≤ l1 then (some Y) else (X3_rank_b86 g0 (X3_rank_b70 g0 n) FU Y l1 l1)
noncomputable def X3_rank_b60 (g0 : Nat) (k13 : Mem → Int32 → Option (Mem)) (Y : Mem) (l1 : Int32) (s0 : Int32) (s1 : Int32) (s2 : Int32) : Option (Mem) :=
  gd (inb s2 14) <| lt_ (up Y 1 g0 1 (ix s2) (s1 + s0)) <| fun Y27 => k13 Y27 (l1 + (-1))
noncomputable def X3_rank_b13 (g0 : Nat) : Nat → Mem → Int32 → Option (Mem)
  | 0, _, _ => none
  | n+1, Y, l1 =>
  if l1 < 0 then (X3_rank_b70 g0 FU Y 0) else (gd (decide ((Y 1 g0 0 0).toNatClampNeg < 2)) <| gd (inb l1 14) <| bd1 (X3_longestOf Y g0 (Y 3 (((Y 1 g0 0 0).toNatClampNeg)) 9 (ix l1))) <| fun r22 => if r22 = ((-1)) then (X3_rank_b60 g0 (X3_rank_b13 g0 n) Y l1 0 (Y 2 g0 1 (ix l1)) l1) else (gd (inb r22 14) <| X3_rank_b60 g0 (X3_rank_b13 g0 n) Y l1 (Y 1 g0 1 (ix r22)) (Y 2 g0 1 (ix l1)) l1))
noncomputable def X3_rank (Y : Mem) (g0 : Nat) : Option (Mem) :=
  gd (decide ((Y 1 g0 0 0).toNatClampNeg < 2)) <| gd (decide (((Y 1 g0 0 0).toNatClampNeg) < 2)) <| lt_ ((Y 4 (2*((Y 1 g0 0 0).toNatClampNeg)+1) 0 2) - 1) <| fun v3 => X3_rank_b13 g0 FU Y v3
noncomputable def X8_complete (Y : Mem) (g0 : Nat) (a1 : Int32) : Option (Mem) :=
  lt_ (up Y 2 g0 0 6 ((Y 2 g0 0 6) &&& ((1 <<< (a1 &&& 31)) ^^^ ((-1))))) <| fun Y1 => lt_ (up Y1 2 g0 0 7 ((Y1 2 g0 0 7) ||| (1 <<< (a1 &&& 31)))) <| fun Y3 => gd (inb a1 14) <| lt_ (up Y3 2 g0 5 (ix a1) ((Y3 2 g0 5 (ix a1)) + 1)) <| fun Y6 => some Y6
noncomputable def X3_work_b99 (g0 : Nat) (k38 : Mem → Int32 → Int32 → Int32 → Option (Int32 × Mem)) (Y : Mem) (l3 : Int32) (l2 : Int32) (l1 : Int32) : Option (Int32 × Mem) :=
  k38 Y (l3 + 1) l2 l1
noncomputable def X3_work_b38 (g0 : Nat) : Nat → Mem → Int32 → Int32 → Int32 → Option (Int32 × Mem)
  | 0, _, _, _, _ => none
  | n+1, Y, l3, l2, l1 =>
  gd (decide ((Y 1 g0 0 0).toNatClampNeg < 2)) <| gd (decide (((Y 1 g0 0 0).toNatClampNeg) < 2)) <| if (Y 4 (2*((Y 1 g0 0 0).toNatClampNeg)+1) 0 2) ≤ l3 then (some (l1, Y)) else (bd1 (X11_contains Y l2 l3) <| fun r11 => if r11 = 0 then (X3_work_b99 g0 (X3_work_b38 g0 n) Y l3 l2 l1) else (gd (inb l3 14) <| lt_ (up Y 2 g0 2 (ix l3) ((Y 2 g0 2 (ix l3)) - 1)) <| fun Y15 => if (Y15 2 g0 2 (ix l3)) = 0 then (bd1 (X8_complete Y15 g0 l3) <| fun Y20 => lt_ (l1 ||| (1 <<< (l3 &&& 31))) <| fun v21 => X3_work_b99 g0 (X3_work_b38 g0 n) Y20 l3 l2 v21) else (X3_work_b99 g0 (X3_work_b38 g0 n) Y15 l3 l2 l1)))
noncomputable def X3_work (Y : Mem) (g0 : Nat) : Option (Int32 × Mem) :=
  lt_ (Y 2 g0 0 6) <| fun v1 => gd (decide ((Y 1 g0 0 0).toNatClampNeg < 2)) <| bd1 (J6_bitCount_0f7a4 Y (v1 &&& ((Y 3 ((Y 1 g0 0 0).toNatClampNeg) 0 16) ^^^ ((-1))))) <| fun r4 => lt_ (up Y 2 g0 0 3 ((Y 2 g0 0 3) + r4)) <| fun Y6 => X3_work_b38 g0 FU Y6 0 v1 0
noncomputable def X8_burn (Y : Mem) (g0 : Nat) (a1 : Int32) : Option (Mem) :=
  lt_ (up Y 2 g0 0 7 ((Y 2 g0 0 7) &&& ((1 <<< (a1 &&& 31)) ^^^ ((-1))))) <| fun Y1 => lt_ (up Y1 2 g0 0 8 ((Y1 2 g0 0 8) ||| (1 <<< (a1 &&& 31)))) <| fun Y3 => gd (inb a1 14) <| lt_ (up Y3 2 g0 3 (ix a1) 0) <| fun Y6 => lt_ (up Y6 2 g0 6 (ix a1) ((Y6 2 g0 6 (ix a1)) + 1)) <| fun Y8 => some Y8
noncomputable def X3_growOld_b92 (g0 : Nat) (a1 : Int32) (k22 : Mem → Int32 → Int32 → Option (Mem)) (Y : Mem) (l3 : Int32) (l2 : Int32) : Option (Mem) :=
  k22 Y (l3 + 1) l2
noncomputable def X3_growOld_b22 (g0 : Nat) (a1 : Int32) : Nat → Mem → Int32 → Int32 → Option (Mem)
  | 0, _, _, _ => none
  | n+1, Y, l3, l2 =>
  gd (decide ((Y 1 g0 0 0).toNatClampNeg < 2)) <| gd (decide (((Y 1 g0 0 0).toNatClampNeg) < 2)) <| if (Y 4 (2*((Y 1 g0 0 0).toNatClampNeg)+1) 0 2) ≤ l3 then (some Y) else (bd1 (X11_contains Y l2 l3) <| fun r7 => if r7 = 0 then (X3_growOld_b92 g0 a1 (X3_growOld_b22 g0 a1 n) Y l3 l2) else (bd1 (X3_isContinued Y g0 l3) <| fun r10 => if r10 = 0 then (gd (inb l3 14) <| lt_ (up Y 2 g0 3 (ix l3) ((Y 2 g0 3 (ix l3)) + 1)) <| fun Y14 => gd (decide ((Y14 1 g0 0 0).toNatClampNeg < 2)) <| if (Y14 2 g0 3 (ix l3)) ≤ (Y14 3 ((Y14 1 g0 0 0).toNatClampNeg) 0 1) then (X3_growOld_b92 g0 a1 (X3_growOld_b22 g0 a1 n) Y14 l3 l2) else (bd1 (X8_burn Y14 g0 l3) <| fun Y20 => X3_growOld_b92 g0 a1 (X3_growOld_b22 g0 a1 n) Y20 l3 l2)) else (X3_growOld_b92 g0 a1 (X3_growOld_b22 g0 a1 n) Y l3 l2)))
noncomputable def X3_growOld (Y : Mem) (g0 : Nat) (a1 : Int32) : Option (Mem) :=
  gd (decide ((Y 1 g0 0 0).toNatClampNeg < 2)) <| lt_ (((Y 2 g0 0 7) &&& (Y 3 ((Y 1 g0 0 0).toNatClampNeg) 0 15)) &&& (a1 ^^^ ((-1)))) <| fun v2 => X3_growOld_b22 g0 a1 FU Y 0 v2
noncomputable def X5_allSteps (Y : Mem) (g0 : Nat) : Option (Int32) :=
  some ((1 <<< ((Y 4 (2*g0+1) 0 2) &&& 31)) - 1)
noncomputable def X3_readySteps_b80 (Y : Mem) (g0 : Nat) (k30 : Int32 → Int32 → Int32 → Option (Int32)) (l3 : Int32) (l2 : Int32) (l1 : Int32) : Option (Int32) :=
  k30 (l3 + 1) l2 l1
noncomputable def X3_readySteps_b30 (Y : Mem) (g0 : Nat) : Nat → Int32 → Int32 → Int32 → Option (Int32)
  | 0, _, _, _ => none
  | n+1, l3, l2, l1 =>
  gd (decide ((Y 1 g0 0 0).toNatClampNeg < 2)) <| gd (decide (((Y 1 g0 0 0).toNatClampNeg) < 2)) <| if (Y 4 (2*((Y 1 g0 0 0).toNatClampNeg)+1) 0 2) ≤ l3 then (some l1) else (bd1 (X11_contains Y l2 l3) <| fun r10 => if r10 = 0 then (X3_readySteps_b80 Y g0 (X3_readySteps_b30 Y g0 n) l3 l2 l1) else (gd (inb l3 14) <| if ((Y 3 (((Y 1 g0 0 0).toNatClampNeg)) 8 (ix l3)) &&& ((Y 2 g0 0 7) ^^^ ((-1)))) = 0 then (lt_ (l1 ||| (1 <<< (l3 &&& 31))) <| fun v15 => X3_readySteps_b80 Y g0 (X3_readySteps_b30 Y g0 n) l3 l2 v15) else (X3_readySteps_b80 Y g0 (X3_readySteps_b30 Y g0 n) l3 l2 l1)))
noncomputable def X3_readySteps (Y : Mem) (g0 : Nat) : Option (Int32) :=
  gd (decide (((Y 1 g0 0 0).toNatClampNeg) < 2)) <| gd (decide ((Y 1 g0 0 0).toNatClampNeg < 2)) <| bd1 (X5_allSteps Y ((Y 1 g0 0 0).toNatClampNeg)) <| fun r3 => lt_ (r3 &&& (((Y 2 g0 0 6) ||| (Y 2 g0 0 7)) ^^^ ((-1)))) <| fun v5 => X3_readySteps_b30 Y g0 FU 0 v5 0
noncomputable def X3_hasFreeCook_b44 (Y : Mem) (g0 : Nat) (a1 : Int32)  : Option (Int32) :=
  some 1
noncomputable def X3_hasFreeCook (Y : Mem) (g0 : Nat) (a1 : Int32) : Option (Int32) :=
  gd (decide ((Y 1 g0 0 0).toNatClampNeg < 2)) <| bd1 (X11_contains Y (Y 3 ((Y 1 g0 0 0).toNatClampNeg) 0 16) a1) <| fun r2 => if r2 = 0 then (bd1 (J6_bitCount_0f7a4 Y ((Y 2 g0 0 6) &&& ((Y 3 ((Y 1 g0 0 0).toNatClampNeg) 0 16) ^^^ ((-1))))) <| fun r5 => if (Y 2 g0 0 0) ≤ r5 then (some 0) else (X3_hasFreeCook_b44 Y g0 a1)) else (X3_hasFreeCook_b44 Y g0 a1)
noncomputable def X3_occupants_b99 (Y : Mem) (g0 : Nat) (a1 : Int32) (k40 : Int32 → Int32 → Int32 → Int32 → Option (Int32)) (l5 : Int32) (l4 : Int32) (l3 : Int32) (l2 : Int32) : Option (Int32) :=
  k40 (l5 + 1) l4 l3 l2
noncomputable def X3_occupants_b40 (Y : Mem) (g0 : Nat) (a1 : Int32) : Nat → Int32 → Int32 → Int32 → Int32 → Option (Int32)
  | 0, _, _, _, _ => none
  | n+1, l5, l4, l3, l2 =>
  gd (decide ((Y 1 g0 0 0).toNatClampNeg < 2)) <| gd (decide (((Y 1 g0 0 0).toNatClampNeg) < 2)) <| if (Y 4 (2*((Y 1 g0 0 0).toNatClampNeg)+1) 0 2) ≤ l5 then (some l3) else (lt_ (1 <<< (l5 &&& 31)) <| fun v12 => if ((l2 &&& (Y 2 g0 0 7)) &&& v12) = 0 then (X3_occupants_b99 Y g0 a1 (X3_occupants_b40 Y g0 a1 n) l5 l4 l3 l2) else (gd (inb l5 14) <| if ((Y 3 (((Y 1 g0 0 0).toNatClampNeg)) 9 (ix l5)) &&& (l4 ^^^ ((-1)))) = 0 then (X3_occupants_b99 Y g0 a1 (X3_occupants_b40 Y g0 a1 n) l5 l4 l3 l2) else (lt_ (l3 ||| v12) <| fun v17 => X3_occupants_b99 Y g0 a1 (X3_occupants_b40 Y g0 a1 n) l5 l4 v17 l2)))
noncomputable def X3_occupants (Y : Mem) (g0 : Nat) (a1 : Int32) : Option (Int32) :=
  gd (decide ((Y 1 g0 0 0).toNatClampNeg < 2)) <| gd (inb a1 4) <| lt_ (Y 3 (((Y 1 g0 0 0).toNatClampNeg)) 2 (ix a1)) <| fun v3 => lt_ (v3 &&& (Y 2 g0 0 6)) <| fun v5 => lt_ ((Y 2 g0 0 6) ||| (Y 2 g0 0 7)) <| fun v7 => X3_occupants_b40 Y g0 a1 FU 0 v7 v5 v3
noncomputable def X3_hasFreePan_b35 (Y : Mem) (g0 : Nat) (a1 : Int32)  : Option (Int32) :=
  some 1
noncomputable def X3_hasFreePan (Y : Mem) (g0 : Nat) (a1 : Int32) : Option (Int32) :=
  gd (decide ((Y 1 g0 0 0).toNatClampNeg < 2)) <| gd (inb a1 14) <| lt_ (Y 3 (((Y 1 g0 0 0).toNatClampNeg)) 5 (ix a1)) <| fun v3 => if v3 = ((-1)) then (X3_hasFreePan_b35 Y g0 a1) else (bd1 (X3_occupants Y g0 v3) <| fun r6 => bd1 (J6_bitCount_0f7a4 Y r6) <| fun r8 => gd (inb v3 4) <| if (Y 3 (((Y 1 g0 0 0).toNatClampNeg)) 1 (ix v3)) ≤ r8 then (some 0) else (X3_hasFreePan_b35 Y g0 a1))
noncomputable def X8_start (Y : Mem) (g0 : Nat) (a1 : Int32) : Option (Mem) :=
  lt_ (up Y 2 g0 0 8 ((Y 2 g0 0 8) &&& ((1 <<< (a1 &&& 31)) ^^^ ((-1))))) <| fun Y1 => lt_ (up Y1 2 g0 0 6 ((Y1 2 g0 0 6) ||| (1 <<< (a1 &&& 31)))) <| fun Y3 => gd (inb a1 14) <| lt_ (up Y3 2 g0 2 (ix a1) (Y3 2 g0 1 (ix a1))) <| fun Y6 => lt_ (up Y6 2 g0 4 (ix a1) ((Y6 2 g0 4 (ix a1)) + 1)) <| fun Y8 => some Y8
noncomputable def X3_startSteps_b60 (g0 : Nat) (k7 : Mem → Int32 → Int32 → Option (Mem)) (Y : Mem) (l2 : Int32) (l1 : Int32) : Option (Mem) :=
  k7 Y (l2 + 1) l1
noncomputable def X3_startSteps_b7 (g0 : Nat) : Nat → Mem → Int32 → Int32 → Option (Mem)
  | 0, _, _, _ => none
  | n+1, Y, l2, l1 =>
  gd (decide ((Y 1 g0 0 0).toNatClampNeg < 2)) <| gd (decide (((Y 1 g0 0 0).toNatClampNeg) < 2)) <| if (Y 4 (2*((Y 1 g0 0 0).toNatClampNeg)+1) 0 2) ≤ l2 then (some Y) else (gd (inb l2 14) <| lt_ (Y 1 g0 2 (ix l2)) <| fun v7 => bd1 (X11_contains Y l1 v7) <| fun r9 => if r9 = 0 then (X3_startSteps_b60 g0 (X3_startSteps_b7 g0 n) Y l2 l1) else (bd1 (X3_hasFreeCook Y g0 v7) <| fun r12 => if r12 = 0 then (X3_startSteps_b60 g0 (X3_startSteps_b7 g0 n) Y l2 l1) else (bd1 (X3_hasFreePan Y g0 v7) <| fun r15 => if r15 = 0 then (X3_startSteps_b60 g0 (X3_startSteps_b7 g0 n) Y l2 l1) else (bd1 (X8_start Y g0 v7) <| fun Y20 => X3_startSteps_b60 g0 (X3_startSteps_b7 g0 n) Y20 l2 l1))))
noncomputable def X3_startSteps (Y : Mem) (g0 : Nat) : Option (Mem) :=
  bd1 (X3_readySteps Y g0) <| fun r1 => X3_startSteps_b7 g0 FU Y 0 r1
noncomputable def X3_runMinute_b26 (g0 : Nat) (Y : Mem) (l1 : Int32) : Option (Int32 × Mem) :=
  lt_ (up Y 2 g0 0 1 ((Y 2 g0 0 1) + 1)) <| fun Y2 => bd1 (J6_bitCount_0f7a4 Y2 l1) <| fun r4 => some (r4, Y2)
noncomputable def X3_runMinute (Y : Mem) (g0 : Nat) : Option (Int32 × Mem) :=
  if (Y 2 g0 0 5) = 0 then (bd2 (X3_work Y g0) <| fun r6 Y8 => bd1 (X3_growOld Y8 g0 r6) <| fun Y11 => bd1 (X3_startSteps Y11 g0) <| fun Y14 => X3_runMinute_b26 g0 Y14 r6) else (X3_runMinute_b26 g0 Y 0)
noncomputable def X3_runMinutes_b8 (g0 : Nat) (a1 : Int32) : Nat → Mem → Int32 → Int32 → Option (Int32 × Mem)
  | 0, _, _, _ => none
  | n+1, Y, l3, l2 =>
  if a1 ≤ l3 then (some (l2, Y)) else (bd2 (X3_runMinute Y g0) <| fun r5 Y7 => lt_ (l2 + r5) <| fun v8 => X3_runMinutes_b8 g0 a1 n Y7 (l3 + 1) v8)
noncomputable def X3_runMinutes (Y : Mem) (g0 : Nat) (a1 : Int32) : Option (Int32 × Mem) :=
  bd1 (X3_rank Y g0) <| fun Y3 => X3_runMinutes_b8 g0 a1 FU Y3 0 0
noncomputable def X11_pass (Y : Mem) (a1 : Int32) : Option (Int32 × Mem) :=
  bd1 (X11_isPassLength Y a1) <| fun r1 => if r1 = 0 then (none) else (bd1 (X11_fitsClock Y a1) <| fun r4 => if r4 = 0 then (none) else (bd1 (X2_push Y 0) <| fun Y9 => bd2 (X3_runMinutes Y9 0 a1) <| fun r10 Y12 => some (r10, Y12)))
noncomputable def X11_predecessor (Y : Mem) (a1 : Int32) (a2 : Int32) : Option (Int32) :=
  bd1 (X11_requireStep Y a1) <| fun _ => gd (decide ((Y 1 0 0 0).toNatClampNeg < 2)) <| gd (inb a1 14) <| bd1 (X11_isWithin Y a2 0 ((Y 3 (((Y 1 0 0 0).toNatClampNeg)) 7 (ix a1)) - 1)) <| fun r5 => if r5 = 0 then (some ((-1))) else (gd (inb a2 4) <| some (Y 3 (((Y 1 0 0 0).toNatClampNeg)) (20+ix a1) (ix a2)))
noncomputable def X3_isRedoable (Y : Mem) (g0 : Nat) (a1 : Int32) : Option (Int32) :=
  bd1 (X11_contains Y (Y 2 g0 0 7) a1) <| fun r1 => if r1 = 0 then (some 0) else (bd1 (X3_isContinued Y g0 a1) <| fun r4 => if r4 = 0 then (if (Y 2 g0 0 5) = 0 then (some 1) else (some 0)) else (some 0))
noncomputable def X8_discard (Y : Mem) (g0 : Nat) (a1 : Int32) : Option (Int32 × Mem) :=
  gd (inb a1 14) <| lt_ (Y 2 g0 3 (ix a1)) <| fun v2 => lt_ (up Y 2 g0 0 7 ((Y 2 g0 0 7) &&& ((1 <<< (a1 &&& 31)) ^^^ ((-1))))) <| fun Y4 => lt_ (up Y4 2 g0 3 (ix a1) 0) <| fun Y6 => some (v2, Y6)
noncomputable def X11_redo (Y : Mem) (a1 : Int32) : Option (Int32 × Mem) :=
  bd1 (X11_requireStep Y a1) <| fun _ => bd1 (X3_isRedoable Y 0 a1) <| fun r3 => if r3 = 0 then (none) else (bd1 (X2_push Y 0) <| fun Y8 => bd2 (X8_discard Y8 0 a1) <| fun r9 Y11 => some (r9, Y11))
noncomputable def X11_remaining (Y : Mem) (a1 : Int32) : Option (Int32) :=
  bd1 (X11_requireStep Y a1) <| fun _ => gd (inb a1 14) <| some (Y 2 0 2 (ix a1))
noncomputable def X11_requireCooks (Y : Mem) (a1 : Int32) : Option (Unit) :=
  bd1 (X11_isCookCount Y a1) <| fun r1 => if r1 = 0 then (none) else (some ())
noncomputable def X11_salt (Y : Mem) : Option (Int32) :=
  some (Y 2 0 0 2)
noncomputable def X3_servingObstacle (Y : Mem) (g0 : Nat) : Option (Int32) :=
  if (Y 2 g0 0 5) = 0 then (if (Y 2 g0 0 8) = 0 then (gd (decide (((Y 1 g0 0 0).toNatClampNeg) < 2)) <| gd (decide ((Y 1 g0 0 0).toNatClampNeg < 2)) <| bd1 (X5_allSteps Y ((Y 1 g0 0 0).toNatClampNeg)) <| fun r5 => if (Y 2 g0 0 7) = r5 then (bd1 (X3_dishTaste Y g0) <| fun r8 => if (Y 3 ((Y 1 g0 0 0).toNatClampNeg) 0 2) ≤ r8 then (bd1 (X3_dishTaste Y g0) <| fun r11 => if r11 ≤ (Y 3 ((Y 1 g0 0 0).toNatClampNeg) 0 3) then (some 0) else (some 5)) else (some 4)) else (some 3)) else (some 2)) else (some 1)
noncomputable def X11_serve (Y : Mem) : Option (Int32 × Mem) :=
  bd1 (X3_servingObstacle Y 0) <| fun r1 => if r1 = 0 then (bd1 (X2_push Y 0) <| fun Y6 => lt_ (up Y6 2 0 0 5 1) <| fun Y7 => bd1 (X3_dishTaste Y7 0) <| fun r9 => some (r9, Y7)) else (none)
noncomputable def X11_setCooks (Y : Mem) (a1 : Int32) : Option (Int32 × Mem) :=
  bd1 (X11_requireCooks Y a1) <| fun _ => bd1 (X2_push Y 0) <| fun Y5 => lt_ (Y5 2 0 0 0) <| fun v6 => lt_ (up Y5 2 0 0 0 a1) <| fun Y8 => some (v6, Y8)
noncomputable def X11_setDuration (Y : Mem) (a1 : Int32) (a2 : Int32) : Option (Int32 × Mem) :=
  bd1 (X11_requireStep Y a1) <| fun _ => bd1 (X11_isDuration Y a2) <| fun r3 => if r3 = 0 then (none) else (bd1 (X2_push Y 0) <| fun Y8 => gd (inb a1 14) <| lt_ (Y8 2 0 1 (ix a1)) <| fun v10 => lt_ (up Y8 2 0 1 (ix a1) a2) <| fun Y12 => some (v10, Y12))
noncomputable def X11_starts (Y : Mem) : Option (Int32) :=
  gd (decide ((Y 1 0 0 0).toNatClampNeg < 2)) <| gd (decide (((Y 1 0 0 0).toNatClampNeg) < 2)) <| bd1 (X11_sum Y 2 0 4 14 (Y 4 (2*((Y 1 0 0 0).toNatClampNeg)+1) 0 2)) <| fun r3 => some r3
noncomputable def X8_statusOf (Y : Mem) (g0 : Nat) (a1 : Int32) : Option (Int32) :=
  bd1 (X11_contains Y (Y 2 g0 0 6) a1) <| fun r1 => if r1 = 0 then (bd1 (X11_contains Y (Y 2 g0 0 7) a1) <| fun r4 => if r4 = 0 then (bd1 (X11_contains Y (Y 2 g0 0 8) a1) <| fun r7 => if r7 = 0 then (some 0) else (some 3)) else (some 2)) else (some 1)
noncomputable def X11_status (Y : Mem) (a1 : Int32) : Option (Int32) :=
  bd1 (X11_requireStep Y a1) <| fun _ => bd1 (X8_statusOf Y 0 a1) <| fun r3 => some r3
noncomputable def X11_stepCount (Y : Mem) : Option (Int32) :=
  gd (decide ((Y 1 0 0 0).toNatClampNeg < 2)) <| gd (decide (((Y 1 0 0 0).toNatClampNeg) < 2)) <| some (Y 4 (2*((Y 1 0 0 0).toNatClampNeg)+1) 0 2)
noncomputable def X11_stepTaste (Y : Mem) (a1 : Int32) : Option (Int32) :=
  bd1 (X11_requireStep Y a1) <| fun _ => gd (decide ((Y 1 0 0 0).toNatClampNeg < 2)) <| gd (inb a1 14) <| some (Y 3 (((Y 1 0 0 0).toNatClampNeg)) 4 (ix a1))
noncomputable def X8_halt (Y : Mem) (g0 : Nat) (a1 : Int32) : Option (Int32 × Mem) :=
  gd (inb a1 14) <| lt_ (Y 2 g0 2 (ix a1)) <| fun v2 => lt_ (up Y 2 g0 0 6 ((Y 2 g0 0 6) &&& ((1 <<< (a1 &&& 31)) ^^^ ((-1))))) <| fun Y4 => lt_ (up Y4 2 g0 2 (ix a1) 0) <| fun Y6 => lt_ (up Y6 2 g0 0 4 ((Y6 2 g0 0 4) + 1)) <| fun Y8 => some (v2, Y8)
noncomputable def X11_stop (Y : Mem) (a1 : Int32) : Option (Int32 × Mem) :=
  bd1 (X11_requireStep Y a1) <| fun _ => bd1 (X11_contains Y (Y 2 0 0 6) a1) <| fun r3 => if r3 = 0 then (none) else (bd1 (X2_push Y 0) <| fun Y8 => bd2 (X8_halt Y8 0 a1) <| fun r9 Y11 => some (r9, Y11))
noncomputable def X11_taste (Y : Mem) : Option (Int32) :=
  bd1 (X3_dishTaste Y 0) <| fun r1 => some r1
noncomputable def X11_truncate (Y : Mem) (a1 : Int32) : Option (Int32 × Mem) :=
  bd1 (X11_isWithin Y a1 0 (Y 5 0 0 1)) <| fun r1 => if r1 = 0 then (none) else (lt_ (up Y 5 0 0 1 a1) <| fun Y4 => some (a1, Y4))
noncomputable def X11_whyNotServed (Y : Mem) : Option (Int32) :=
  bd1 (X3_servingObstacle Y 0) <| fun r1 => some r1
noncomputable def X9_addString_b2 (g0 : Nat) (w1 : Nat) : Nat → Mem → Int32 → Option (Mem)
  | 0, _, _ => none
  | n+1, Y, l2 =>
  gd (decide (w1 < 16)) <| bd1 (J0_length_8abf5 Y w1) <| fun r2 => if r2 ≤ l2 then (some Y) else (bd1 (J0_charAt_5068e Y w1 l2) <| fun r5 => bd1 (X9_addByte Y g0 r5) <| fun Y9 => X9_addString_b2 g0 w1 n Y9 (l2 + 1))
noncomputable def X9_addString (Y : Mem) (g0 : Nat) (w1 : Nat) : Option (Mem) :=
  X9_addString_b2 g0 w1 FU Y 0
noncomputable def X12_isReady_b55 (Y : Mem) (a1 : Int32) (k24 : Int32 → Option (Int32)) (l2 : Int32) : Option (Int32) :=
  k24 (l2 + 1)
noncomputable def X12_isReady_b24 (Y : Mem) (a1 : Int32) : Nat → Int32 → Option (Int32)
  | 0, _ => none
  | n+1, l2 =>
  if 4 ≤ l2 then (some 1) else (bd1 (X11_predecessor Y a1 l2) <| fun r5 => if r5 < 0 then (X12_isReady_b55 Y a1 (X12_isReady_b24 Y a1 n) l2) else (gd (inb r5 14) <| if (Y 12 0 1 (ix r5)) = 2 then (X12_isReady_b55 Y a1 (X12_isReady_b24 Y a1 n) l2) else (some 0)))
noncomputable def X12_isReady (Y : Mem) (a1 : Int32) : Option (Int32) :=
  gd (inb a1 14) <| if (Y 12 0 1 (ix a1)) = 1 then (some 0) else (if (Y 12 0 1 (ix a1)) = 2 then (some 0) else (X12_isReady_b24 Y a1 FU 0))
noncomputable def X12_agrees_b200 (Y : Mem) (k82 : Int32 → Int32 → Option (Int32)) (l2 : Int32) (s0 : Int32) (s1 : Int32) : Option (Int32) :=
  lt_ (s1 + s0) <| fun v40 => k82 (l2 + 1) v40
noncomputable def X12_agrees_b177 (Y : Mem) (k82 : Int32 → Int32 → Option (Int32)) (l2 : Int32) (l1 : Int32) : Option (Int32) :=
  gd (inb l2 14) <| if (Y 12 0 1 (ix l2)) = 2 then (bd1 (X11_stepTaste Y l2) <| fun r42 => X12_agrees_b200 Y k82 l2 r42 l1) else (X12_agrees_b200 Y k82 l2 0 l1)
noncomputable def X12_agrees_b135 (Y : Mem) (k82 : Int32 → Int32 → Option (Int32)) (l2 : Int32) (l1 : Int32) (s0 : Int32) (s1 : Int32) : Option (Int32) :=
  if s1 = s0 then (bd1 (X11_age Y l2) <| fun r33 => gd (inb l2 14) <| if r33 = (Y 12 0 3 (ix l2)) then (if (Y 12 0 1 (ix l2)) = 1 then (bd1 (X12_isReady Y l2) <| fun r44 => if r44 = 0 then (X12_agrees_b177 Y k82 l2 l1) else (some 0)) else (X12_agrees_b177 Y k82 l2 l1)) else (some 0)) else (some 0)
noncomputable def X12_agrees_b82 (Y : Mem) : Nat → Int32 → Int32 → Option (Int32)
  | 0, _, _ => none
  | n+1, l2, l1 =>
  if (Y 12 0 0 1) ≤ l2 then (bd1 (X11_taste Y) <| fun r19 => if r19 = l1 then (bd1 (X11_inconsistencies Y) <| fun r22 => if r22 = 0 then (some 1) else (some 0)) else (some 0)) else (bd1 (X11_status Y l2) <| fun r25 => gd (inb l2 14) <| if r25 = (Y 12 0 1 (ix l2)) then (bd1 (X11_remaining Y l2) <| fun r29 => if (Y 12 0 1 (ix l2)) = 1 then (X12_agrees_b135 Y (X12_agrees_b82 Y n) l2 l1 (Y 12 0 2 (ix l2)) r29) else (X12_agrees_b135 Y (X12_agrees_b82 Y n) l2 l1 0 r29)) else (some 0))
noncomputable def X12_agrees (Y : Mem) : Option (Int32) :=
  bd1 (X11_minute Y) <| fun r1 => if r1 = (Y 12 0 0 7) then (bd1 (X11_starts Y) <| fun r4 => if r4 = (Y 12 0 0 8) then (bd1 (X11_completions Y) <| fun r7 => if r7 = (Y 12 0 0 9) then (bd1 (X11_burns Y) <| fun r10 => if r10 = (Y 12 0 0 10) then (bd1 (X11_cookMinutes Y) <| fun r13 => if r13 = (Y 12 0 0 11) then (bd1 (X11_salt Y) <| fun r16 => X12_agrees_b82 Y FU 0 r16) else (some 0)) else (some 0)) else (some 0)) else (some 0)) else (some 0)
noncomputable def X12_isAfter_b34 (Y : Mem) (a1 : Int32) (a2 : Int32) (k5 : Int32 → Int32 → Option (Int32)) (l4 : Int32) (s0 : Int32) : Option (Int32) :=
  k5 (l4 + 1) s0
noncomputable def X12_isAfter_b29 (Y : Mem) (a1 : Int32) (a2 : Int32) (k5 : Int32 → Int32 → Option (Int32)) (l4 : Int32) : Option (Int32) :=
  X12_isAfter_b34 Y a1 a2 k5 l4 1
noncomputable def X12_isAfter_b5 (Y : Mem) (a1 : Int32) (a2 : Int32) : Nat → Int32 → Int32 → Option (Int32)
  | 0, _, _ => none
  | n+1, l4, l3 =>
  if 4 ≤ l4 then (gd (decide (l3 = 0 ∨ l3 = 1)) <| some l3) else (if l3 = 0 then (bd1 (X11_predecessor Y a1 l4) <| fun r4 => if r4 = a2 then (X12_isAfter_b29 Y a1 a2 (X12_isAfter_b5 Y a1 a2 n) l4) else (X12_isAfter_b34 Y a1 a2 (X12_isAfter_b5 Y a1 a2 n) l4 0)) else (X12_isAfter_b29 Y a1 a2 (X12_isAfter_b5 Y a1 a2 n) l4))
noncomputable def X12_isAfter (Y : Mem) (a1 : Int32) (a2 : Int32) : Option (Int32) :=
  X12_isAfter_b5 Y a1 a2 FU 0 0
noncomputable def X12_follows_b59 (Y : Mem) (a1 : Int32) (a2 : Int32) (a3 : Int32) (k8 : Int32 → Int32 → Option (Int32)) (l5 : Int32) (s0 : Int32) : Option (Int32) :=
  k8 (l5 + 1) s0
noncomputable def X12_follows_b54 (Y : Mem) (a1 : Int32) (a2 : Int32) (a3 : Int32) (k8 : Int32 → Int32 → Option (Int32)) (l5 : Int32) : Option (Int32) :=
  X12_follows_b59 Y a1 a2 a3 k8 l5 1
noncomputable def X12_follows_b58 (Y : Mem) (a1 : Int32) (a2 : Int32) (a3 : Int32) (k8 : Int32 → Int32 → Option (Int32)) (l5 : Int32) : Option (Int32) :=
  X12_follows_b59 Y a1 a2 a3 k8 l5 0
noncomputable def X12_follows_b8 (Y : Mem) (a1 : Int32) (a2 : Int32) (a3 : Int32) : Nat → Int32 → Int32 → Option (Int32)
  | 0, _, _ => none
  | n+1, l5, l4 =>
  if (Y 12 0 0 1) ≤ l5 then (gd (decide (l4 = 0 ∨ l4 = 1)) <| some l4) else (if l4 = 0 then (bd1 (X12_isAfter Y l5 a1) <| fun r6 => if r6 = 0 then (X12_follows_b58 Y a1 a2 a3 (X12_follows_b8 Y a1 a2 a3 n) l5) else (gd (inb l5 14) <| if (Y 12 0 1 (ix l5)) = a2 then (X12_follows_b54 Y a1 a2 a3 (X12_follows_b8 Y a1 a2 a3 n) l5) else (if (Y 12 0 1 (ix l5)) = a3 then (X12_follows_b54 Y a1 a2 a3 (X12_follows_b8 Y a1 a2 a3 n) l5) else (X12_follows_b58 Y a1 a2 a3 (X12_follows_b8 Y a1 a2 a3 n) l5)))) else (X12_follows_b54 Y a1 a2 a3 (X12_follows_b8 Y a1 a2 a3 n) l5))
noncomputable def X12_follows (Y : Mem) (a1 : Int32) (a2 : Int32) (a3 : Int32) : Option (Int32) :=
  lt_ (a1 + 1) <| fun v1 => X12_follows_b8 Y a1 a2 a3 FU v1 0
noncomputable def X12_canStart_b153 (Y : Mem) (a1 : Int32)  : Option (Int32) :=
  some 1
noncomputable def X12_canStart_b135 (Y : Mem) (a1 : Int32) (l4 : Int32) (l3 : Int32) : Option (Int32) :=
  if l4 < 0 then (X12_canStart_b153 Y a1) else (bd1 (X11_panCapacity Y l4) <| fun r8 => if r8 ≤ l3 then (some 0) else (X12_canStart_b153 Y a1))
noncomputable def X12_canStart_b107 (Y : Mem) (a1 : Int32) (k17 : Int32 → Int32 → Int32 → Int32 → Option (Int32)) (l5 : Int32) (l4 : Int32) (l3 : Int32) (l2 : Int32) : Option (Int32) :=
  k17 (l5 + 1) l4 l3 l2
noncomputable def X12_canStart_b104 (Y : Mem) (a1 : Int32) (k17 : Int32 → Int32 → Int32 → Int32 → Option (Int32)) (l5 : Int32) (l4 : Int32) (l3 : Int32) (l2 : Int32) : Option (Int32) :=
  X12_canStart_b107 Y a1 k17 l5 l4 (l3 + 1) l2
noncomputable def X12_canStart_b52 (Y : Mem) (a1 : Int32) (k17 : Int32 → Int32 → Int32 → Int32 → Option (Int32)) (l5 : Int32) (l4 : Int32) (l3 : Int32) (l2 : Int32) : Option (Int32) :=
  if l4 < 0 then (X12_canStart_b107 Y a1 k17 l5 l4 l3 l2) else (bd1 (X11_panType Y l5) <| fun r17 => if r17 = l4 then (gd (inb l5 14) <| if (Y 12 0 1 (ix l5)) = 1 then (X12_canStart_b104 Y a1 k17 l5 l4 l3 l2) else (if (Y 12 0 1 (ix l5)) = 2 then (bd1 (X12_follows Y l5 0 3) <| fun r23 => if r23 = 0 then (X12_canStart_b107 Y a1 k17 l5 l4 l3 l2) else (X12_canStart_b104 Y a1 k17 l5 l4 l3 l2)) else (X12_canStart_b107 Y a1 k17 l5 l4 l3 l2))) else (X12_canStart_b107 Y a1 k17 l5 l4 l3 l2))
noncomputable def X12_canStart_b17 (Y : Mem) (a1 : Int32) : Nat → Int32 → Int32 → Int32 → Int32 → Option (Int32)
  | 0, _, _, _, _ => none
  | n+1, l5, l4, l3, l2 =>
  if (Y 12 0 0 1) ≤ l5 then (bd1 (X11_isUnattended Y a1) <| fun r4 => if r4 = 0 then (bd1 (X11_cooks Y) <| fun r11 => if r11 ≤ l2 then (some 0) else (X12_canStart_b135 Y a1 l4 l3)) else (X12_canStart_b135 Y a1 l4 l3)) else (gd (inb l5 14) <| if (Y 12 0 1 (ix l5)) = 1 then (bd1 (X11_isUnattended Y l5) <| fun r26 => if r26 = 0 then (X12_canStart_b52 Y a1 (X12_canStart_b17 Y a1 n) l5 l4 l3 (l2 + 1)) else (X12_canStart_b52 Y a1 (X12_canStart_b17 Y a1 n) l5 l4 l3 l2)) else (X12_canStart_b52 Y a1 (X12_canStart_b17 Y a1 n) l5 l4 l3 l2))
noncomputable def X12_canStart (Y : Mem) (a1 : Int32) : Option (Int32) :=
  bd1 (X11_panType Y a1) <| fun r1 => X12_canStart_b17 Y a1 FU 0 r1 0 0
noncomputable def X12_next_b39 (Y : Mem) (k4 : Int32 → Int32 → Option (Int32)) (l3 : Int32) (l2 : Int32) : Option (Int32) :=
  k4 (l3 + 1) l2
noncomputable def X12_next_b37 (Y : Mem) (k4 : Int32 → Int32 → Option (Int32)) (l3 : Int32) : Option (Int32) :=
  X12_next_b39 Y k4 l3 l3
noncomputable def X12_next_b4 (Y : Mem) : Nat → Int32 → Int32 → Option (Int32)
  | 0, _, _ => none
  | n+1, l3, l2 =>
  if (Y 12 0 0 1) ≤ l3 then (some l2) else (gd (inb l3 14) <| if (Y 14 0 0 (ix l3)) = 0 then (X12_next_b39 Y (X12_next_b4 Y n) l3 l2) else (if l2 < 0 then (X12_next_b37 Y (X12_next_b4 Y n) l3) else (gd (inb l2 14) <| if (Y 12 0 4 (ix l3)) ≤ (Y 12 0 4 (ix l2)) then (X12_next_b39 Y (X12_next_b4 Y n) l3 l2) else (X12_next_b37 Y (X12_next_b4 Y n) l3))))
noncomputable def X12_next (Y : Mem) : Option (Int32) :=
  X12_next_b4 Y FU 0 ((-1))
noncomputable def X12_pass_b297  (k247 : Mem → Int32 → Option (Mem)) (Y : Mem) : Option (Mem) :=
  bd1 (X12_next Y) <| fun r27 => k247 Y r27
noncomputable def X12_pass_b247  : Nat → Mem → Int32 → Option (Mem)
  | 0, _, _ => none
  | n+1, Y, l3 =>
  if l3 < 0 then (lt_ (up Y 12 0 0 7 ((Y 12 0 0 7) + 1)) <| fun Y11 => some Y11) else (gd (inb l3 14) <| lt_ (up Y 14 0 0 (ix l3) (vp_nar .boolean 0)) <| fun Y14 => bd1 (X12_canStart Y14 l3) <| fun r16 => if r16 = 0 then (X12_pass_b297 (X12_pass_b247 n) Y14) else (lt_ (up Y14 12 0 1 (ix l3) 1) <| fun Y19 => bd1 (X11_duration Y19 l3) <| fun r21 => lt_ (up Y19 12 0 2 (ix l3) r21) <| fun Y23 => lt_ (up Y23 12 0 0 8 ((Y23 12 0 0 8) + 1)) <| fun Y25 => X12_pass_b297 (X12_pass_b247 n) Y25))
noncomputable def X12_pass_b219  : Nat → Mem → Int32 → Option (Mem)
  | 0, _, _ => none
  | n+1, Y, l3 =>
  if (Y 12 0 0 1) ≤ l3 then (bd1 (X12_next Y) <| fun r8 => X12_pass_b247 FU Y r8) else (bd1 (X12_isReady Y l3) <| fun r29 => gd (inb l3 14) <| lt_ (up Y 14 0 0 (ix l3) (vp_nar .boolean r29)) <| fun Y32 => X12_pass_b219 n Y32 (l3 + 1))
noncomputable def X12_pass_b206  (k111 : Mem → Int32 → Option (Mem)) (Y : Mem) (l2 : Int32) : Option (Mem) :=
  k111 Y (l2 + 1)
noncomputable def X12_pass_b111  : Nat → Mem → Int32 → Option (Mem)
  | 0, _, _ => none
  | n+1, Y, l2 =>
  if (Y 12 0 0 1) ≤ l2 then (lt_ (upR Y 14 0 0 (fun _ => 0)) <| fun Y5 => X12_pass_b219 FU Y5 0) else (bd1 (X11_isHot Y l2) <| fun r34 => if r34 = 0 then (X12_pass_b206 (X12_pass_b111 n) Y l2) else (gd (inb l2 14) <| if (Y 12 0 1 (ix l2)) = 2 then (if (Y 13 0 0 (ix l2)) = 0 then (bd1 (X12_follows Y l2 1 2) <| fun r40 => if r40 = 0 then (lt_ (up Y 12 0 3 (ix l2) ((Y 12 0 3 (ix l2)) + 1)) <| fun Y43 => if (Y43 12 0 3 (ix l2)) ≤ (Y43 12 0 0 2) then (X12_pass_b206 (X12_pass_b111 n) Y43 l2) else (lt_ (up Y43 12 0 1 (ix l2) 3) <| fun Y46 => lt_ (up Y46 12 0 3 (ix l2) 0) <| fun Y48 => lt_ (up Y48 12 0 0 10 ((Y48 12 0 0 10) + 1)) <| fun Y50 => X12_pass_b206 (X12_pass_b111 n) Y50 l2)) else (X12_pass_b206 (X12_pass_b111 n) Y l2)) else (X12_pass_b206 (X12_pass_b111 n) Y l2)) else (X12_pass_b206 (X12_pass_b111 n) Y l2)))
noncomputable def X12_pass_b103  (k7 : Mem → Int32 → Option (Mem)) (Y : Mem) (l2 : Int32) : Option (Mem) :=
  k7 Y (l2 + 1)
noncomputable def X12_pass_b49  (k7 : Mem → Int32 → Option (Mem)) (Y : Mem) (l2 : Int32) (s0 : Int32) (s1 : Int32) : Option (Mem) :=
  lt_ (up Y 12 0 0 11 (s1 + s0)) <| fun Y57 => gd (inb l2 14) <| lt_ (up Y57 12 0 2 (ix l2) ((Y57 12 0 2 (ix l2)) - 1)) <| fun Y60 => if (Y60 12 0 2 (ix l2)) ≤ 0 then (lt_ (up Y60 12 0 1 (ix l2) 2) <| fun Y63 => lt_ (up Y63 12 0 3 (ix l2) 0) <| fun Y65 => lt_ (up Y65 13 0 0 (ix l2) (vp_nar .boolean 1)) <| fun Y67 => lt_ (up Y67 12 0 0 9 ((Y67 12 0 0 9) + 1)) <| fun Y69 => X12_pass_b103 k7 Y69 l2) else (X12_pass_b103 k7 Y60 l2)
noncomputable def X12_pass_b7  : Nat → Mem → Int32 → Option (Mem)
  | 0, _, _ => none
  | n+1, Y, l2 =>
  if (Y 12 0 0 1) ≤ l2 then (X12_pass_b111 FU Y 0) else (gd (inb l2 14) <| if (Y 12 0 1 (ix l2)) = 1 then (bd1 (X11_isUnattended Y l2) <| fun r54 => if r54 = 0 then (X12_pass_b49 (X12_pass_b7 n) Y l2 1 (Y 12 0 0 11)) else (X12_pass_b49 (X12_pass_b7 n) Y l2 0 (Y 12 0 0 11))) else (X12_pass_b103 (X12_pass_b7 n) Y l2))
noncomputable def X12_pass (Y : Mem) : Option (Mem) :=
  lt_ (upR Y 13 0 0 (fun _ => 0)) <| fun Y1 => X12_pass_b7 FU Y1 0
noncomputable def X12_read_b164  (k130 : Mem → Int32 → Int32 → Int32 → Option (Mem)) (Y : Mem) (l3 : Int32) (l2 : Int32) (l1 : Int32) : Option (Mem) :=
  k130 Y (l3 + 1) l2 l1
noncomputable def X12_read_b130  (k120 : Mem → Int32 → Option (Mem)) : Nat → Mem → Int32 → Int32 → Int32 → Option (Mem)
  | 0, _, _, _, _ => none
  | n+1, Y, l3, l2, l1 =>
  if (Y 12 0 0 1) ≤ l3 then (bd1 (X11_duration Y l1) <| fun r28 => gd (inb l1 14) <| lt_ (up Y 12 0 4 (ix l1) (r28 + l2)) <| fun Y31 => k120 Y31 (l1 + (-1))) else (bd1 (X12_isAfter Y l3 l1) <| fun r33 => if r33 = 0 then (X12_read_b164 (X12_read_b130 k120 n) Y l3 l2 l1) else (gd (inb l3 14) <| if (Y 12 0 4 (ix l3)) ≤ l2 then (X12_read_b164 (X12_read_b130 k120 n) Y l3 l2 l1) else (lt_ (Y 12 0 4 (ix l3)) <| fun v38 => X12_read_b164 (X12_read_b130 k120 n) Y l3 v38 l1)))
noncomputable def X12_read_b120  : Nat → Mem → Int32 → Option (Mem)
  | 0, _, _ => none
  | n+1, Y, l1 =>
  if l1 < 0 then (some Y) else (lt_ (l1 + 1) <| fun v25 => X12_read_b130 (X12_read_b120 n) FU Y v25 0 l1)
noncomputable def X12_read_b57  : Nat → Mem → Int32 → Option (Mem)
  | 0, _, _ => none
  | n+1, Y, l1 =>
  if (Y 12 0 0 1) ≤ l1 then (lt_ ((Y 12 0 0 1) - 1) <| fun v22 => X12_read_b120 FU Y v22) else (bd1 (X11_status Y l1) <| fun r40 => gd (inb l1 14) <| lt_ (up Y 12 0 1 (ix l1) r40) <| fun Y43 => bd1 (X11_remaining Y43 l1) <| fun r45 => lt_ (up Y43 12 0 2 (ix l1) r45) <| fun Y47 => bd1 (X11_age Y47 l1) <| fun r49 => lt_ (up Y47 12 0 3 (ix l1) r49) <| fun Y51 => X12_read_b57 n Y51 (l1 + 1))
noncomputable def X12_read (Y : Mem) : Option (Mem) :=
  bd1 (X11_minute Y) <| fun r1 => lt_ (up Y 12 0 0 7 r1) <| fun Y3 => bd1 (X11_starts Y3) <| fun r5 => lt_ (up Y3 12 0 0 8 r5) <| fun Y7 => bd1 (X11_completions Y7) <| fun r9 => lt_ (up Y7 12 0 0 9 r9) <| fun Y11 => bd1 (X11_burns Y11) <| fun r13 => lt_ (up Y11 12 0 0 10 r13) <| fun Y15 => bd1 (X11_cookMinutes Y15) <| fun r17 => lt_ (up Y15 12 0 0 11 r17) <| fun Y19 => X12_read_b57 FU Y19 0
noncomputable def L_pick (Y : Mem) (k0 : Nat) (g0 : Nat) (o0 : Nat) (n0 : Nat) (a1 : Int32) (a2 : Int32) : Option (Int32) :=
  if ((Int32.ofNat n0)) ≤ a1 then (some 0) else (gd (inb a1 n0) <| gd (decide (a2 ≠ 0)) <| some (((Y k0 g0 o0 (ix a1)) &&& 2147483647) - ((Y k0 g0 o0 (ix a1)) &&& 2147483647) / a2 * a2))
noncomputable def L_act_b180 (a1 : Int32) (Y : Mem) (s0 : Int32) : Option (Mem) :=
  bd2 (X11_addSalt Y s0) <| fun r39 Y41 => some Y41
noncomputable def L_act (Y : Mem) (a1 : Int32) : Option (Mem) :=
  bd1 (X11_stepCount Y) <| fun r1 => gd (decide (r1 ≠ 0)) <| lt_ ((a1 / 16) - (a1 / 16) / r1 * r1) <| fun v4 => if (a1 - a1 / 8 * 8) = 0 then (bd1 (X11_status Y v4) <| fun r7 => if r7 = 1 then (bd2 (X11_stop Y v4) <| fun r10 Y12 => some Y12) else (some Y)) else (if (a1 - a1 / 8 * 8) = 1 then (bd1 (X11_status Y v4) <| fun r14 => if r14 = 2 then (bd1 (X11_isTakenUp Y v4) <| fun r17 => if r17 = 0 then (bd1 (X11_whyNotServed Y) <| fun r20 => if r20 = 1 then (some Y) else (bd2 (X11_redo Y v4) <| fun r23 Y25 => some Y25)) else (some Y)) else (some Y)) else (if (a1 - a1 / 8 * 8) = 2 then (bd2 (X11_setCooks Y (1 + ((a1 / 256) - (a1 / 256) / 4 * 4))) <| fun r27 Y29 => some Y29) else (if (a1 - a1 / 8 * 8) = 3 then (bd2 (X11_setDuration Y v4 (1 + ((a1 / 256) - (a1 / 256) / 8 * 8))) <| fun r31 Y33 => some Y33) else (if (a1 - a1 / 8 * 8) = 4 then (bd1 (X11_whyNotServed Y) <| fun r35 => if r35 = 1 then (some Y) else (if ((a1 / 256) - (a1 / 256) / 2 * 2) = 0 then (L_act_b180 a1 Y (1 + ((a1 / 512) - (a1 / 512) / 5 * 5))) else (L_act_b180 a1 Y (((-1)) - ((a1 / 512) - (a1 / 512) / 5 * 5))))) else (if (a1 - a1 / 8 * 8) = 5 then (bd1 (X11_whyNotServed Y) <| fun r43 => if r43 = 0 then (bd2 (X11_serve Y) <| fun r46 Y48 => some Y48) else (some Y)) else (some Y))))))
